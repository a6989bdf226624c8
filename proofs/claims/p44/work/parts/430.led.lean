/-- what a throw of NoSuchElementException rests on beside the tables' good words -/
def ax_EL (A : Nat → Prop) (sa : Nat) (U : State) : Prop :=
  va_Nw (.declares (Bundle.initS "java/lang/RuntimeException")) U ∧ va_Nw (.declares (Bundle.initS "java/lang/Exception")) U ∧ va_Nw (.declares (Bundle.initS Bundle.tN)) U ∧ va_Nw (.castable "java/util/NoSuchElementException" "java/util/NoSuchElementException") U ∧ vk_R RX7 350 "no such figure is led away" sa U ∧ vx_Zq Bundle.tN "UNASSIGNED_STACK" Bundle.steD A U U.heap ∧ vx_Zq Bundle.tN "SUPPRESSED_SENTINEL" Bundle.listD A U U.heap
theorem ax_EL_same {A : Nat → Prop} {sa : Nat} (a : Array Value) (U : State) (g : JFrame) (mk : MethodId) (h : ax_EL A sa U) : ax_EL A sa (U.calling g mk a) :=
  ⟨va_Nw.same rfl rfl h.1, va_Nw.same rfl rfl h.2.1, va_Nw.same rfl rfl h.2.2.1, va_Nw.same rfl rfl h.2.2.2.1, vk_R.same rfl h.2.2.2.2.1, vx_Zq.moved (u := U) (U := U.calling g mk a) (Vm.Alike.refl U.vm) h.2.2.2.2.2.1, vx_Zq.moved (u := U) (U := U.calling g mk a) (Vm.Alike.refl U.vm) h.2.2.2.2.2.2⟩
theorem ax_EL_to {A B : Nat → Prop} {sa : Nat} {s U : State} {H : Heap} (h : ax_EL A sa s) (hq : ∀ a : Nat, a < s.heap.size → ¬ A a → H[a]? = s.heap[a]?) (hAB : ∀ q, B q → A q) (hU : U.heap = H) (hW : s.WarmedH U.vm) : ax_EL B sa U := by
  subst hU
  exact ⟨va_Nw.warmD hW h.1, va_Nw.warmD hW h.2.1, va_Nw.warmD hW h.2.2.1, va_Nw.warmC hW h.2.2.2.1, vk_R.warm hW h.2.2.2.2.1, ((h.2.2.2.2.2.1.kept hq).moved hW.alike).narrow hAB, ((h.2.2.2.2.2.2.kept hq).moved hW.alike).narrow hAB⟩
theorem ax_vxat : ∀ w ∈ Cond.classLink RX7 348 "java/util/NoSuchElementException" :: Cond.initialized "java/util/NoSuchElementException" :: ax_atX RX7 352 "java/util/NoSuchElementException" 13 ax_rx13 "java/lang/RuntimeException" ["java/lang/Exception"], vx_ot w = true := by decide +kernel
theorem ax_vxno : ∀ w ∈ (ax_atX RX7 352 "java/util/NoSuchElementException" 13 ax_rx13 "java/lang/RuntimeException" ["java/lang/Exception"]).filter (fun w => !goodWord w), w ∈ [Cond.declares (Bundle.initS "java/lang/RuntimeException"), Cond.declares (Bundle.initS "java/lang/Exception"), Cond.declares (Bundle.initS Bundle.tN), Cond.castable "java/util/NoSuchElementException" "java/util/NoSuchElementException"] := by decide +kernel
set_option maxHeartbeats 4000000 in
set_option maxRecDepth 100000 in
theorem c_X7_led (l : Launch) (hl0 : l.stackTraces = false) (sa : Nat) (dC : Nat → ClassId) (dI : Nat → Nat → Nat) (sz : Nat) (a0 : Nat) (a1 : Int32) (a0g : Nat → Value) (a0_1 : Nat) (a0_7 : Nat) (a0_7_0 : Int32) (a0_7g : Nat → Value) (a0_1g : Nat → Value) (a0_1_5 : Nat) (ka0_1_5 : ClassId) (fa0_1_5 : Nat → Int32) (ba0_7_0_l : (0 : Int) ≤ a0_7_0.toInt) (ba0_7_0_u : a0_7_0.toInt ≤ (9 : Int)) : vx_Met l yX7_led wsX7_led ({ frames := 6, cells := 1, slots := 6, locals := 82 }) (va_Pc [.ref a0, .int a1] (ax_C dC dI sz [(a0, .inr (7, [a0g 0, .ref a0_1, a0g 2, a0g 3, a0g 4, a0g 5, a0g 6, .ref a0_7, a0g 8, a0g 9, a0g 10])), (a0_7, .inr (0, [.int a0_7_0, a0_7g 1, a0_7g 2, a0_7g 3, a0_7g 4, a0_7g 5, a0_7g 6, a0_7g 7, a0_7g 8, a0_7g 9, a0_7g 10, a0_7g 11, a0_7g 12, a0_7g 13, a0_7g 14])), (a0_1, .inr (5, [a0_1g 0, a0_1g 1, a0_1g 2, a0_1g 3, a0_1g 4, .ref a0_1_5, a0_1g 6])), (a0_1_5, .inl (ka0_1_5, 9, .inl (fa0_1_5)))] [(ka0_1_5, .int)] (ax_EL (va_A [(a0, .inr (7, [a0g 0, .ref a0_1, a0g 2, a0g 3, a0g 4, a0g 5, a0g 6, .ref a0_7, a0g 8, a0g 9, a0g 10])), (a0_7, .inr (0, [.int a0_7_0, a0_7g 1, a0_7g 2, a0_7g 3, a0_7g 4, a0_7g 5, a0_7g 6, a0_7g 7, a0_7g 8, a0_7g 9, a0_7g 10, a0_7g 11, a0_7g 12, a0_7g 13, a0_7g 14])), (a0_1, .inr (5, [a0_1g 0, a0_1g 1, a0_1g 2, a0_1g 3, a0_1g 4, .ref a0_1_5, a0_1g 6])), (a0_1_5, .inl (ka0_1_5, 9, .inl (fa0_1_5)))] sz) sa))) (va_Qi (fun (_ : Int32) (_ : Unit) => True) (fun (_ : Unit) (t : State) => ax_B dC dI (va_A [(a0, .inr (7, [a0g 0, .ref a0_1, a0g 2, a0g 3, a0g 4, a0g 5, a0g 6, .ref a0_7, a0g 8, a0g 9, a0g 10])), (a0_7, .inr (0, [.int a0_7_0, a0_7g 1, a0_7g 2, a0_7g 3, a0_7g 4, a0_7g 5, a0_7g 6, a0_7g 7, a0_7g 8, a0_7g 9, a0_7g 10, a0_7g 11, a0_7g 12, a0_7g 13, a0_7g 14])), (a0_1, .inr (5, [a0_1g 0, a0_1g 1, a0_1g 2, a0_1g 3, a0_1g 4, .ref a0_1_5, a0_1g 6])), (a0_1_5, .inl (ka0_1_5, 9, .inl (fa0_1_5)))] sz) [(a0, .inr (7, [a0g 0, .ref a0_1, a0g 2, a0g 3, a0g 4, a0g 5, a0g 6, .ref a0_7, a0g 8, a0g 9, a0g 10])), (a0_7, .inr (0, [.int a0_7_0, a0_7g 1, a0_7g 2, a0_7g 3, a0_7g 4, a0_7g 5, a0_7g 6, a0_7g 7, a0_7g 8, a0_7g 9, a0_7g 10, a0_7g 11, a0_7g 12, a0_7g 13, a0_7g 14])), (a0_1, .inr (5, [a0_1g 0, a0_1g 1, a0_1g 2, a0_1g 3, a0_1g 4, .ref a0_1_5, a0_1g 6])), (a0_1_5, .inl (ka0_1_5, 9, .inl (fa0_1_5)))] [(ka0_1_5, .int)] t) (va_A [(a0, .inr (7, [a0g 0, .ref a0_1, a0g 2, a0g 3, a0g 4, a0g 5, a0g 6, .ref a0_7, a0g 8, a0g 9, a0g 10])), (a0_7, .inr (0, [.int a0_7_0, a0_7g 1, a0_7g 2, a0_7g 3, a0_7g 4, a0_7g 5, a0_7g 6, a0_7g 7, a0_7g 8, a0_7g 9, a0_7g 10, a0_7g 11, a0_7g 12, a0_7g 13, a0_7g 14])), (a0_1, .inr (5, [a0_1g 0, a0_1g 1, a0_1g 2, a0_1g 3, a0_1g 4, .ref a0_1_5, a0_1g 6])), (a0_1_5, .inl (ka0_1_5, 9, .inl (fa0_1_5)))] sz)) (vx_X (fun (_ : Unit) => True) (fun (E : String) (_ : Unit) (t : State) => E = "java/util/NoSuchElementException" ∧ ax_B dC dI (va_A [(a0, .inr (7, [a0g 0, .ref a0_1, a0g 2, a0g 3, a0g 4, a0g 5, a0g 6, .ref a0_7, a0g 8, a0g 9, a0g 10])), (a0_7, .inr (0, [.int a0_7_0, a0_7g 1, a0_7g 2, a0_7g 3, a0_7g 4, a0_7g 5, a0_7g 6, a0_7g 7, a0_7g 8, a0_7g 9, a0_7g 10, a0_7g 11, a0_7g 12, a0_7g 13, a0_7g 14])), (a0_1, .inr (5, [a0_1g 0, a0_1g 1, a0_1g 2, a0_1g 3, a0_1g 4, .ref a0_1_5, a0_1g 6])), (a0_1_5, .inl (ka0_1_5, 9, .inl (fa0_1_5)))] sz) [(a0, .inr (7, [a0g 0, .ref a0_1, a0g 2, a0g 3, a0g 4, a0g 5, a0g 6, .ref a0_7, a0g 8, a0g 9, a0g 10])), (a0_7, .inr (0, [.int a0_7_0, a0_7g 1, a0_7g 2, a0_7g 3, a0_7g 4, a0_7g 5, a0_7g 6, a0_7g 7, a0_7g 8, a0_7g 9, a0_7g 10, a0_7g 11, a0_7g 12, a0_7g 13, a0_7g 14])), (a0_1, .inr (5, [a0_1g 0, a0_1g 1, a0_1g 2, a0_1g 3, a0_1g 4, .ref a0_1_5, a0_1g 6])), (a0_1_5, .inl (ka0_1_5, 9, .inl (fa0_1_5)))] [(ka0_1_5, .int)] t) (va_A [(a0, .inr (7, [a0g 0, .ref a0_1, a0g 2, a0g 3, a0g 4, a0g 5, a0g 6, .ref a0_7, a0g 8, a0g 9, a0g 10])), (a0_7, .inr (0, [.int a0_7_0, a0_7g 1, a0_7g 2, a0_7g 3, a0_7g 4, a0_7g 5, a0_7g 6, a0_7g 7, a0_7g 8, a0_7g 9, a0_7g 10, a0_7g 11, a0_7g 12, a0_7g 13, a0_7g 14])), (a0_1, .inr (5, [a0_1g 0, a0_1g 1, a0_1g 2, a0_1g 3, a0_1g 4, .ref a0_1_5, a0_1g 6])), (a0_1_5, .inl (ka0_1_5, 9, .inl (fa0_1_5)))] sz)) 1 6 (va_A [(a0, .inr (7, [a0g 0, .ref a0_1, a0g 2, a0g 3, a0g 4, a0g 5, a0g 6, .ref a0_7, a0g 8, a0g 9, a0g 10])), (a0_7, .inr (0, [.int a0_7_0, a0_7g 1, a0_7g 2, a0_7g 3, a0_7g 4, a0_7g 5, a0_7g 6, a0_7g 7, a0_7g 8, a0_7g 9, a0_7g 10, a0_7g 11, a0_7g 12, a0_7g 13, a0_7g 14])), (a0_1, .inr (5, [a0_1g 0, a0_1g 1, a0_1g 2, a0_1g 3, a0_1g 4, .ref a0_1_5, a0_1g 6])), (a0_1_5, .inl (ka0_1_5, 9, .inl (fa0_1_5)))] sz) := by
  refine vx_ofW (cc := cX7_led) (maxL := 4) (ret := some .int) (by decide) rfl ?_
  intro p e s m args below meth c s₁ B hml hex hv
  obtain ⟨rfl, hsz, hP, hK, hD0, hE⟩ := hv
  have hx := B.exec
  have hb := B.bytes
  have hr := B.returns
  have hts := atoms_spec (ws := wsX7_led) B.pre
  have hown : s.vm.findClass RX7 = some m.cls := findClass_of_methodNamed B.named
  have hlocks := B.notSynchronized
  subst hsz
  have hD := hD0.self (sz := s.heap.size)
  generalize hAe : va_A [(a0, .inr (7, [a0g 0, .ref a0_1, a0g 2, a0g 3, a0g 4, a0g 5, a0g 6, .ref a0_7, a0g 8, a0g 9, a0g 10])), (a0_7, .inr (0, [.int a0_7_0, a0_7g 1, a0_7g 2, a0_7g 3, a0_7g 4, a0_7g 5, a0_7g 6, a0_7g 7, a0_7g 8, a0_7g 9, a0_7g 10, a0_7g 11, a0_7g 12, a0_7g 13, a0_7g 14])), (a0_1, .inr (5, [a0_1g 0, a0_1g 1, a0_1g 2, a0_1g 3, a0_1g 4, .ref a0_1_5, a0_1g 6])), (a0_1_5, .inl (ka0_1_5, 9, .inl (fa0_1_5)))] s.heap.size = A at hD hE ⊢
  have hA : ∀ q : Nat, s.heap.size ≤ q → A q := fun q h => by rw [← hAe]; exact Or.inr h
  have hS : va_S A s.heap s.heap [] := va_S.rf
  have hP : va_P (dC, dI) vwCl [(a0, .inr (7, [a0g 0, .ref a0_1, a0g 2, a0g 3, a0g 4, a0g 5, a0g 6, .ref a0_7, a0g 8, a0g 9, a0g 10])), (a0_7, .inr (0, [.int a0_7_0, a0_7g 1, a0_7g 2, a0_7g 3, a0_7g 4, a0_7g 5, a0_7g 6, a0_7g 7, a0_7g 8, a0_7g 9, a0_7g 10, a0_7g 11, a0_7g 12, a0_7g 13, a0_7g 14])), (a0_1, .inr (5, [a0_1g 0, a0_1g 1, a0_1g 2, a0_1g 3, a0_1g 4, .ref a0_1_5, a0_1g 6])), (a0_1_5, .inl (ka0_1_5, 9, .inl (fa0_1_5)))] s.heap := hP
  have hl := lv_entry ([.ref a0, .int a1]) (n := 4) (Nat.le_of_ble_eq_true rfl)
  rw [lg_entry_eq]
  generalize (lg_sl ([.ref a0, .int a1]) ++ List.replicate (4 - (lg_sl ([.ref a0, .int a1])).length) Slot.unset).toArray = ls at hl ⊢
  have hl : lv_has ls 4 [(0, .ref a0), (1, .int a1)] := hl
  refine ai_open (fun K hK0 => ?_)
  refine (hK0 _ _ _).mpr ?_
  refine lv_iconst (v := 0) hx hb dX7_led_0 zk_iconst_0 ?_
  refine lv_istore_n (lv' := [(2, .int 0), (0, .ref a0), (1, .int a1)]) hx hb dX7_led_1 rfl hl (by decide) rfl (fun ls hl => ?_)
  refine lv_iconst (v := 0) hx hb dX7_led_2 zk_iconst_0 ?_
  refine lv_istore_n (lv' := [(3, .int 0), (2, .int 0), (0, .ref a0), (1, .int a1)]) hx hb dX7_led_3 rfl hl (by decide) rfl (fun ls hl => ?_)
  have J4 : ∀ (n : Nat) (j4l3 : Int32) (j4l2 : Int32) (H : Heap) (locs : List Loc) (ls : Array Slot), (10 : Int) - j4l3.toInt ≤ (n : Int) → (0 : Int) ≤ j4l3.toInt → j4l3.toInt ≤ (9 : Int) → va_P (dC, dI) vwCl [(a0, .inr (7, [a0g 0, .ref a0_1, a0g 2, a0g 3, a0g 4, a0g 5, a0g 6, .ref a0_7, a0g 8, a0g 9, a0g 10])), (a0_7, .inr (0, [.int a0_7_0, a0_7g 1, a0_7g 2, a0_7g 3, a0_7g 4, a0_7g 5, a0_7g 6, a0_7g 7, a0_7g 8, a0_7g 9, a0_7g 10, a0_7g 11, a0_7g 12, a0_7g 13, a0_7g 14])), (a0_1, .inr (5, [a0_1g 0, a0_1g 1, a0_1g 2, a0_1g 3, a0_1g 4, .ref a0_1_5, a0_1g 6])), (a0_1_5, .inl (ka0_1_5, 9, .inl (fa0_1_5)))] H → va_D A [(a0, .inr (7, [a0g 0, .ref a0_1, a0g 2, a0g 3, a0g 4, a0g 5, a0g 6, .ref a0_7, a0g 8, a0g 9, a0g 10])), (a0_7, .inr (0, [.int a0_7_0, a0_7g 1, a0_7g 2, a0_7g 3, a0_7g 4, a0_7g 5, a0_7g 6, a0_7g 7, a0_7g 8, a0_7g 9, a0_7g 10, a0_7g 11, a0_7g 12, a0_7g 13, a0_7g 14])), (a0_1, .inr (5, [a0_1g 0, a0_1g 1, a0_1g 2, a0_1g 3, a0_1g 4, .ref a0_1_5, a0_1g 6])), (a0_1_5, .inl (ka0_1_5, 9, .inl (fa0_1_5)))] → va_S A s.heap H locs → lv_has ls 4 [(0, .ref a0), (1, .int a1), (2, .int j4l2), (3, .int j4l3)] → K H locs (F0 m 4 ls []) := by
    intro n
    induction n with
    | zero =>
      intro j4l3 j4l2 H locs ls hm bj4l3_l bj4l3_u hP hD hS hl
      have h8 := ai_min j4l3
      have h9 := ai_max j4l3
      exact absurd hm (by omega)
    | succ n ih4 =>
      intro j4l3 j4l2 H locs ls hm bj4l3_l bj4l3_u hP hD hS hl
      refine (hK0 _ _ _).mpr ?_
      have hm4 := hm
      refine lv_iload_n hx hb dX7_led_4 rfl (lv_at hl 3 rfl) ?_
      refine lv_aload_n hx hb dX7_led_5 rfl (lv_at hl 0 rfl) ?_
      refine va_get (D := (dC, dI)) (ci := 7) (v := .ref a0_7) (C := RX7) (T := TX7) (N := 11) hx hb hts (by decide +kernel) hown hK hP 0 rfl rfl 7 (by decide) (hts (.fieldLink RX7 57 "WaxTurns" "hall" "LWaxTurns$Hall;") (by decide +kernel)) (fun _ h9 => h9) rfl dX7_led_6 ?_
      refine va_get (D := (dC, dI)) (ci := 0) (v := .int a0_7_0) (C := RX0) (T := TX0) (N := 15) hx hb hts (by decide +kernel) hown hK hP 1 rfl rfl 0 (by decide) (hts (.fieldLink RX7 110 "WaxTurns$Hall" "figures" "I") (by decide +kernel)) (fun _ h9 => h9) rfl dX7_led_9 ?_
      refine lv_icmp_ge (tgt := 44) hx hb dX7_led_12 (by decide) (fun c12 => ?_) (fun c12 => ?_)
      · have gc12 := ai_le c12
        have u12t_a0_7_0 : a0_7_0.toInt ≤ (9 : Int) := ba0_7_0_u
        have l12t_j4l3 : (0 : Int) ≤ j4l3.toInt := bj4l3_l
        refine ax_throwSWX (names := ["java/lang/Exception"]) (cls := "java/util/NoSuchElementException") (text := "no such figure is led away") (Y0 := "java/lang/RuntimeException") (ix := 13) (rx := ax_rx13) (sa := sa) (A := A) hx hb hl0 (by decide +kernel) (by decide +kernel) (by decide +kernel) (by decide +kernel) (by decide +kernel) hown (by decide +kernel) (by decide +kernel) (hts (.classLink RX7 348 "java/util/NoSuchElementException") (by decide +kernel)) (hts (.initialized "java/util/NoSuchElementException") (by decide +kernel)) hE.2.2.2.2.1 (vx_hat (fun w hw => hts w (List.mem_cons_of_mem _ (List.mem_append_right _ hw))) ax_vxno (vx_c (va_Nw.use rfl hE.1) (vx_c (va_Nw.use rfl hE.2.1) (vx_c (va_Nw.use rfl hE.2.2.1) (vx_c (va_Nw.use rfl hE.2.2.2.1) vx_n))))) ax_vxat hE.2.2.2.2.2.1 hE.2.2.2.2.2.2 hS (by rw [hml]; exact hl.1) dX7_led_44 dX7_led_47 dX7_led_48 dX7_led_51 dX7_led_54 (fun z hz => (hex z hz).elim) (Nat.le_of_ble_eq_true rfl) (Nat.le_of_ble_eq_true rfl) (Nat.le_of_ble_eq_true rfl) (Nat.le_of_ble_eq_true rfl) hlocks (fun t hvm h1 h2 => ⟨(), trivial, ⟨rfl, hP.kept (fun k q hk => h2 q.1 (vx_lt hP hk)), va_K.moved hvm hK, hD⟩, Nat.le_trans hS.1 h1, fun q a1 b1 => (h2 q (Nat.lt_of_lt_of_le a1 hS.1)).trans (hS.2.1 q a1 b1)⟩) hS.2.2 (Nat.le_of_ble_eq_true rfl) (Nat.le_of_ble_eq_true rfl)
      · have gc12 := ai_nle c12
        have u12f_j4l3 : j4l3.toInt ≤ (8 : Int) := ai_lthi gc12 ba0_7_0_u
        have l12f_a0_7_0 : (1 : Int) ≤ a0_7_0.toInt := ai_ltlo gc12 bj4l3_l
        refine lv_aload_n hx hb dX7_led_15 rfl (lv_at hl 0 rfl) ?_
        refine va_get (D := (dC, dI)) (ci := 7) (v := .ref a0_1) (C := RX7) (T := TX7) (N := 11) hx hb hts (by decide +kernel) hown hK hP 0 rfl rfl 1 (by decide) (hts (.fieldLink RX7 19 "WaxTurns" "now" "LWaxTurns$Scene;") (by decide +kernel)) (fun _ h9 => h9) rfl dX7_led_16 ?_
        refine va_get (D := (dC, dI)) (ci := 5) (v := .ref a0_1_5) (C := RX5) (T := TX5) (N := 7) hx hb hts (by decide +kernel) hown hK hP 2 rfl rfl 5 (by decide) (hts (.fieldLink RX7 126 "WaxTurns$Scene" "places" "[I") (by decide +kernel)) (fun _ h9 => h9) rfl dX7_led_19 ?_
        refine lv_iload_n hx hb dX7_led_22 rfl (lv_at hl 3 rfl) ?_
        refine va_iald hx hb hK hP 3 0 rfl rfl (ai_in bj4l3_l u12f_j4l3 (by decide) (by decide)) dX7_led_23 ?_
        refine lv_topi (fun x23 ex23 => ?_)
        refine lv_iload_n hx hb dX7_led_24 rfl (lv_at hl 3 rfl) ?_
        have J38 : ∀ (j38l2 : Int32) (H : Heap) (locs : List Loc) (ls : Array Slot), va_P (dC, dI) vwCl [(a0, .inr (7, [a0g 0, .ref a0_1, a0g 2, a0g 3, a0g 4, a0g 5, a0g 6, .ref a0_7, a0g 8, a0g 9, a0g 10])), (a0_7, .inr (0, [.int a0_7_0, a0_7g 1, a0_7g 2, a0_7g 3, a0_7g 4, a0_7g 5, a0_7g 6, a0_7g 7, a0_7g 8, a0_7g 9, a0_7g 10, a0_7g 11, a0_7g 12, a0_7g 13, a0_7g 14])), (a0_1, .inr (5, [a0_1g 0, a0_1g 1, a0_1g 2, a0_1g 3, a0_1g 4, .ref a0_1_5, a0_1g 6])), (a0_1_5, .inl (ka0_1_5, 9, .inl (fa0_1_5)))] H → va_D A [(a0, .inr (7, [a0g 0, .ref a0_1, a0g 2, a0g 3, a0g 4, a0g 5, a0g 6, .ref a0_7, a0g 8, a0g 9, a0g 10])), (a0_7, .inr (0, [.int a0_7_0, a0_7g 1, a0_7g 2, a0_7g 3, a0_7g 4, a0_7g 5, a0_7g 6, a0_7g 7, a0_7g 8, a0_7g 9, a0_7g 10, a0_7g 11, a0_7g 12, a0_7g 13, a0_7g 14])), (a0_1, .inr (5, [a0_1g 0, a0_1g 1, a0_1g 2, a0_1g 3, a0_1g 4, .ref a0_1_5, a0_1g 6])), (a0_1_5, .inl (ka0_1_5, 9, .inl (fa0_1_5)))] → va_S A s.heap H locs → lv_has ls 4 [(0, .ref a0), (1, .int a1), (2, .int j38l2), (3, .int j4l3)] → K H locs (F0 m 38 ls []) := by
          intro j38l2 H locs ls   hP hD hS hl
          refine (hK0 _ _ _).mpr ?_
          obtain ⟨x38, ex38⟩ : ∃ y : Int32, y = j4l3 + Int32.ofInt 1 := ⟨_, rfl⟩
          have qx38 : x38.toInt = j4l3.toInt + 1 := ai_inc ex38 (by decide) (by decide) u12f_j4l3 (by decide)
          have bx38 : (1 : Int) ≤ x38.toInt ∧ x38.toInt ≤ 9 := ⟨by rw [qx38]; exact Int.add_le_add bj4l3_l (Int.le_refl _), by rw [qx38]; exact Int.add_le_add u12f_j4l3 (Int.le_refl _)⟩
          refine lv_iinc (v := x38) (lv' := [(3, .int x38), (0, .ref a0), (1, .int a1), (2, .int j38l2)]) hx hb dX7_led_38 hl (k := 3) rfl ex38.symm (by decide) rfl (fun ls hl => ?_)
          refine lv_goto (tgt := 4) hx hb dX7_led_41 (by decide) ?_
          exact (hK0 _ _ _).mp (ih4 x38 j38l2 _ _ _ (by have h0 := qx38; omega) (Int.le_trans zq4 bx38.1) bx38.2 hP hD hS (lv_sub hl [1, 2, 3, 0] rfl))
        refine lv_icmp_eq (tgt := 38) hx hb dX7_led_25 (by decide) (fun c25 => ?_) (fun c25 => ?_)
        · have gc25 := ai_eq c25
          have u25t_x23 : x23.toInt ≤ (8 : Int) := Int.le_trans (Int.le_of_eq gc25) u12f_j4l3
          have l25t_x23 : (0 : Int) ≤ x23.toInt := Int.le_trans bj4l3_l (Int.le_of_eq gc25.symm)
          exact (hK0 _ _ _).mp (J38 j4l2 _ _ _   hP hD hS (lv_sub hl [0, 1, 2, 3] rfl))
        · have gc25 := ai_ne c25
          refine lv_iload_n hx hb dX7_led_28 rfl (lv_at hl 2 rfl) ?_
          refine lv_iload_n hx hb dX7_led_29 rfl (lv_at hl 1 rfl) ?_
          refine lv_icmp_ne (tgt := 35) hx hb dX7_led_30 (by decide) (fun c30 => ?_) (fun c30 => ?_)
          · have gc30 := ai_ne c30
            obtain ⟨x35, ex35⟩ : ∃ y : Int32, y = j4l2 + Int32.ofInt 1 := ⟨_, rfl⟩
            refine lv_iinc (v := x35) (lv' := [(2, .int x35), (0, .ref a0), (1, .int a1), (3, .int j4l3)]) hx hb dX7_led_35 hl (k := 2) rfl ex35.symm (by decide) rfl (fun ls hl => ?_)
            exact (hK0 _ _ _).mp (J38 x35 _ _ _   hP hD hS (lv_sub hl [1, 2, 0, 3] rfl))
          · have gc30 := ai_eq c30
            refine lv_iload_n hx hb dX7_led_33 rfl (lv_at hl 3 rfl) ?_
            refine W.widen (k := 1) (n := 6) (Nat.le_of_ble_eq_true rfl) (Nat.le_of_ble_eq_true rfl) ?_
            refine vx_ret ?_
            exact W.iret (v := j4l3) hx hb hr (fun t ht hW => ⟨⟨j4l3, (), rfl, trivial, by rw [ht]; exact hP, va_K.moved hW.alike hK, hD⟩, hS.F ht⟩) hS.2.2 dX7_led_34
  exact (hK0 _ _ _).mp (J4 10 0 0 _ _ _ (by have h1 : (0 : Int) ≤ (0 : Int32).toInt := zq5; have h2 : (0 : Int32).toInt ≤ (0 : Int) := zq6; omega) zq5 (Int.le_trans zq6 zq7) hP hD hS (lv_sub hl [2, 3, 1, 0] rfl))
set_option maxHeartbeats 4000000 in
set_option maxRecDepth 100000 in
theorem c_L_led (l : Launch) (hl0 : l.stackTraces = false) (sa oa : Nat) (ko : ClassId) (fo : Nat → Int64) (dC : Nat → ClassId) (dI : Nat → Nat → Nat) (sz : Nat) (a0 : Nat) (a1 : Int32) (a0g : Nat → Value) (a0_1 : Nat) (a0_7 : Nat) (a0_7_0 : Int32) (a0_7g : Nat → Value) (a0_1g : Nat → Value) (a0_1_5 : Nat) (ka0_1_5 : ClassId) (fa0_1_5 : Nat → Int32) (ba0_7_0_l : (0 : Int) ≤ a0_7_0.toInt) (ba0_7_0_u : a0_7_0.toInt ≤ (9 : Int)) : vx_Met l yL_led wsL_led ({ frames := 7, cells := 1, slots := 6, locals := 105 }) (va_Pc [.ref a0, .int a1, .ref oa] (ax_C dC dI sz [(a0, .inr (7, [a0g 0, .ref a0_1, a0g 2, a0g 3, a0g 4, a0g 5, a0g 6, .ref a0_7, a0g 8, a0g 9, a0g 10])), (a0_7, .inr (0, [.int a0_7_0, a0_7g 1, a0_7g 2, a0_7g 3, a0_7g 4, a0_7g 5, a0_7g 6, a0_7g 7, a0_7g 8, a0_7g 9, a0_7g 10, a0_7g 11, a0_7g 12, a0_7g 13, a0_7g 14])), (a0_1, .inr (5, [a0_1g 0, a0_1g 1, a0_1g 2, a0_1g 3, a0_1g 4, .ref a0_1_5, a0_1g 6])), (a0_1_5, .inl (ka0_1_5, 9, .inl (fa0_1_5))), (oa, .inl (ko, 1, .inr (.inl (fo))))] [(ka0_1_5, .int), (ko, .long)] (ax_EL (va_A [(a0, .inr (7, [a0g 0, .ref a0_1, a0g 2, a0g 3, a0g 4, a0g 5, a0g 6, .ref a0_7, a0g 8, a0g 9, a0g 10])), (a0_7, .inr (0, [.int a0_7_0, a0_7g 1, a0_7g 2, a0_7g 3, a0_7g 4, a0_7g 5, a0_7g 6, a0_7g 7, a0_7g 8, a0_7g 9, a0_7g 10, a0_7g 11, a0_7g 12, a0_7g 13, a0_7g 14])), (a0_1, .inr (5, [a0_1g 0, a0_1g 1, a0_1g 2, a0_1g 3, a0_1g 4, .ref a0_1_5, a0_1g 6])), (a0_1_5, .inl (ka0_1_5, 9, .inl (fa0_1_5))), (oa, .inl (ko, 1, .inr (.inl (fo))))] sz) sa))) (va_Qi (fun (_ : Int32) (_ : Unit) => True) (fun (_ : Unit) (t : State) => ∃ f9 : Nat → Int64, ax_B dC dI (va_A [(a0, .inr (7, [a0g 0, .ref a0_1, a0g 2, a0g 3, a0g 4, a0g 5, a0g 6, .ref a0_7, a0g 8, a0g 9, a0g 10])), (a0_7, .inr (0, [.int a0_7_0, a0_7g 1, a0_7g 2, a0_7g 3, a0_7g 4, a0_7g 5, a0_7g 6, a0_7g 7, a0_7g 8, a0_7g 9, a0_7g 10, a0_7g 11, a0_7g 12, a0_7g 13, a0_7g 14])), (a0_1, .inr (5, [a0_1g 0, a0_1g 1, a0_1g 2, a0_1g 3, a0_1g 4, .ref a0_1_5, a0_1g 6])), (a0_1_5, .inl (ka0_1_5, 9, .inl (fa0_1_5))), (oa, .inl (ko, 1, .inr (.inl (fo))))] sz) [(a0, .inr (7, [a0g 0, .ref a0_1, a0g 2, a0g 3, a0g 4, a0g 5, a0g 6, .ref a0_7, a0g 8, a0g 9, a0g 10])), (a0_7, .inr (0, [.int a0_7_0, a0_7g 1, a0_7g 2, a0_7g 3, a0_7g 4, a0_7g 5, a0_7g 6, a0_7g 7, a0_7g 8, a0_7g 9, a0_7g 10, a0_7g 11, a0_7g 12, a0_7g 13, a0_7g 14])), (a0_1, .inr (5, [a0_1g 0, a0_1g 1, a0_1g 2, a0_1g 3, a0_1g 4, .ref a0_1_5, a0_1g 6])), (a0_1_5, .inl (ka0_1_5, 9, .inl (fa0_1_5))), (oa, .inl (ko, 1, .inr (.inl (f9))))] [(ka0_1_5, .int), (ko, .long)] t) (va_A [(a0, .inr (7, [a0g 0, .ref a0_1, a0g 2, a0g 3, a0g 4, a0g 5, a0g 6, .ref a0_7, a0g 8, a0g 9, a0g 10])), (a0_7, .inr (0, [.int a0_7_0, a0_7g 1, a0_7g 2, a0_7g 3, a0_7g 4, a0_7g 5, a0_7g 6, a0_7g 7, a0_7g 8, a0_7g 9, a0_7g 10, a0_7g 11, a0_7g 12, a0_7g 13, a0_7g 14])), (a0_1, .inr (5, [a0_1g 0, a0_1g 1, a0_1g 2, a0_1g 3, a0_1g 4, .ref a0_1_5, a0_1g 6])), (a0_1_5, .inl (ka0_1_5, 9, .inl (fa0_1_5))), (oa, .inl (ko, 1, .inr (.inl (fo))))] sz)) (vx_X (fun (_ : Unit) => False) (fun (_ : String) (_ : Unit) (_ : State) => True) (fun _ => False)) 1 6 (va_A [(a0, .inr (7, [a0g 0, .ref a0_1, a0g 2, a0g 3, a0g 4, a0g 5, a0g 6, .ref a0_7, a0g 8, a0g 9, a0g 10])), (a0_7, .inr (0, [.int a0_7_0, a0_7g 1, a0_7g 2, a0_7g 3, a0_7g 4, a0_7g 5, a0_7g 6, a0_7g 7, a0_7g 8, a0_7g 9, a0_7g 10, a0_7g 11, a0_7g 12, a0_7g 13, a0_7g 14])), (a0_1, .inr (5, [a0_1g 0, a0_1g 1, a0_1g 2, a0_1g 3, a0_1g 4, .ref a0_1_5, a0_1g 6])), (a0_1_5, .inl (ka0_1_5, 9, .inl (fa0_1_5))), (oa, .inl (ko, 1, .inr (.inl (fo))))] sz) := by
  refine vx_ofWH (hh := [(0, 9, 12, 13)]) (cc := cL_led) (maxL := 4) (ret := some .int) (by decide) rfl ?_
  intro p e s m args below meth c s₁ B hml hv
  have htab : c.exceptionTable.toList = tableOf [(0, 9, 12, 13)] := vx_table (x := yL_led) B (atoms_spec (ws := wsL_led) B.pre _ List.mem_cons_self)
  obtain ⟨rfl, hsz, hP, hK, hD0, hE⟩ := hv
  have hx := B.exec
  have hb := B.bytes
  have hr := B.returns
  have hts := atoms_spec (ws := wsL_led) B.pre
  have hown : s.vm.findClass RL = some m.cls := findClass_of_methodNamed B.named
  have hlocks := B.notSynchronized
  subst hsz
  have hD := hD0.self (sz := s.heap.size)
  generalize hAe : va_A [(a0, .inr (7, [a0g 0, .ref a0_1, a0g 2, a0g 3, a0g 4, a0g 5, a0g 6, .ref a0_7, a0g 8, a0g 9, a0g 10])), (a0_7, .inr (0, [.int a0_7_0, a0_7g 1, a0_7g 2, a0_7g 3, a0_7g 4, a0_7g 5, a0_7g 6, a0_7g 7, a0_7g 8, a0_7g 9, a0_7g 10, a0_7g 11, a0_7g 12, a0_7g 13, a0_7g 14])), (a0_1, .inr (5, [a0_1g 0, a0_1g 1, a0_1g 2, a0_1g 3, a0_1g 4, .ref a0_1_5, a0_1g 6])), (a0_1_5, .inl (ka0_1_5, 9, .inl (fa0_1_5))), (oa, .inl (ko, 1, .inr (.inl (fo))))] s.heap.size = A at hD hE ⊢
  have hA : ∀ q : Nat, s.heap.size ≤ q → A q := fun q h => by rw [← hAe]; exact Or.inr h
  have hS : va_S A s.heap s.heap [] := va_S.rf
  have hP : va_P (dC, dI) vwCl [(a0, .inr (7, [a0g 0, .ref a0_1, a0g 2, a0g 3, a0g 4, a0g 5, a0g 6, .ref a0_7, a0g 8, a0g 9, a0g 10])), (a0_7, .inr (0, [.int a0_7_0, a0_7g 1, a0_7g 2, a0_7g 3, a0_7g 4, a0_7g 5, a0_7g 6, a0_7g 7, a0_7g 8, a0_7g 9, a0_7g 10, a0_7g 11, a0_7g 12, a0_7g 13, a0_7g 14])), (a0_1, .inr (5, [a0_1g 0, a0_1g 1, a0_1g 2, a0_1g 3, a0_1g 4, .ref a0_1_5, a0_1g 6])), (a0_1_5, .inl (ka0_1_5, 9, .inl (fa0_1_5))), (oa, .inl (ko, 1, .inr (.inl (fo))))] s.heap := hP
  have hl := lv_entry ([.ref a0, .int a1, .ref oa]) (n := 4) (Nat.le_of_ble_eq_true rfl)
  rw [lg_entry_eq]
  generalize (lg_sl ([.ref a0, .int a1, .ref oa]) ++ List.replicate (4 - (lg_sl ([.ref a0, .int a1, .ref oa])).length) Slot.unset).toArray = ls at hl ⊢
  have hl : lv_has ls 4 [(0, .ref a0), (1, .int a1), (2, .ref oa)] := hl
  refine lv_aload_n hx hb dL_led_0 rfl (lv_at hl 2 rfl) ?_
  refine lv_iconst (v := 0) hx hb dL_led_1 zk_iconst_0 ?_
  refine lv_aload_n hx hb dL_led_2 rfl (lv_at hl 0 rfl) ?_
  refine lv_iload_n hx hb dL_led_3 rfl (lv_at hl 1 rfl) ?_
  obtain ⟨hPc, hDc, hFc, hCc⟩ := zc_cut (wc := [(a0, .inr (7, [a0g 0, .ref a0_1, a0g 2, a0g 3, a0g 4, a0g 5, a0g 6, .ref a0_7, a0g 8, a0g 9, a0g 10])), (a0_7, .inr (0, [.int a0_7_0, a0_7g 1, a0_7g 2, a0_7g 3, a0_7g 4, a0_7g 5, a0_7g 6, a0_7g 7, a0_7g 8, a0_7g 9, a0_7g 10, a0_7g 11, a0_7g 12, a0_7g 13, a0_7g 14])), (a0_1, .inr (5, [a0_1g 0, a0_1g 1, a0_1g 2, a0_1g 3, a0_1g 4, .ref a0_1_5, a0_1g 6])), (a0_1_5, .inl (ka0_1_5, 9, .inl (fa0_1_5)))]) hP hD hS hA [0, 1, 2, 3] (by decide +kernel) rfl
  have hKc := hK.sub (tys' := [(ka0_1_5, .int)]) [0] rfl
  refine vx_calli (vx_runV (As := [.int a1]) (rest := [.int 0, .ref oa]) ⟨hx, hb, hml, hown, hts⟩ (c_X7_led l hl0 sa dC dI s.heap.size a0 a1 a0g a0_1 a0_7 a0_7_0 a0_7g a0_1g a0_1_5 ka0_1_5 fa0_1_5 ba0_7_0_l ba0_7_0_u) (cwV 1 hts gL_led_X7_led rfl rfl rfl (by decide +kernel) ⟨Nat.le_of_ble_eq_true rfl, Nat.le_of_ble_eq_true rfl⟩) ⟨ax_blind ax_EL_same, va_recv hKc hPc (ci := 7) (q0 := 0) rfl rfl, ax_preE hPc hKc hDc (fun U hU hW => ax_EL_to hE (fun _ _ _ => rfl) hFc hU hW)⟩ rfl rfl hl.1 rfl (lv_room (Nat.le_of_ble_eq_true rfl)) dL_led_4 ⟨Nat.le_of_ble_eq_true rfl, Nat.le_of_ble_eq_true rfl⟩) hS (fun q _ h => hFc q h) hFc (fun q _ h => hFc q h) (fun E ce q9 u t H1 locs ht hvm _ hB hz1 hk1 hS hce hcv hcl => ?_) (fun r u t H1 locs ht hvm hw hB hz1 hk1 hS => ?_)
  · obtain ⟨hEn, hP1, hK1, hD1⟩ := hB
    subst hEn
    rw [ht] at hP1
    refine vx_catch (name := "java/util/NoSuchElementException") hown [] ⟨0, 9, 12, 13⟩ [] (by rw [htab]; rfl) (fun _ h => nomatch h) (by decide +kernel) (by decide +kernel) (hts (.classLink RL 13 "java/util/NoSuchElementException") (by decide +kernel)) (va_Nw.use rfl hE.2.2.2.1) hce hcv hcl ?_
    refine lv_astore_n (lv' := [(3, .ref q9), (0, .ref a0), (1, .int a1), (2, .ref oa)]) hx hb dL_led_12 rfl hl (by decide) rfl (fun ls hl => ?_)
    refine lv_iconst (v := 1) hx hb dL_led_13 zk_iconst_1 ?_
    refine vx_ret ?_
    obtain ⟨hP, hD⟩ := va_join (wr := [(oa, .inl (ko, 1, .inr (.inl (fo))))]) (w1 := [(a0, .inr (7, [a0g 0, .ref a0_1, a0g 2, a0g 3, a0g 4, a0g 5, a0g 6, .ref a0_7, a0g 8, a0g 9, a0g 10])), (a0_7, .inr (0, [.int a0_7_0, a0_7g 1, a0_7g 2, a0_7g 3, a0_7g 4, a0_7g 5, a0_7g 6, a0_7g 7, a0_7g 8, a0_7g 9, a0_7g 10, a0_7g 11, a0_7g 12, a0_7g 13, a0_7g 14])), (a0_1, .inr (5, [a0_1g 0, a0_1g 1, a0_1g 2, a0_1g 3, a0_1g 4, .ref a0_1_5, a0_1g 6])), (a0_1_5, .inl (ka0_1_5, 9, .inl (fa0_1_5)))]) hP hD [0, 1, 2, 3] [4] rfl rfl (by decide) (by decide) hk1 hFc hP1 hD1
    have hP : va_P (dC, dI) vwCl [(a0, .inr (7, [a0g 0, .ref a0_1, a0g 2, a0g 3, a0g 4, a0g 5, a0g 6, .ref a0_7, a0g 8, a0g 9, a0g 10])), (a0_7, .inr (0, [.int a0_7_0, a0_7g 1, a0_7g 2, a0_7g 3, a0_7g 4, a0_7g 5, a0_7g 6, a0_7g 7, a0_7g 8, a0_7g 9, a0_7g 10, a0_7g 11, a0_7g 12, a0_7g 13, a0_7g 14])), (a0_1, .inr (5, [a0_1g 0, a0_1g 1, a0_1g 2, a0_1g 3, a0_1g 4, .ref a0_1_5, a0_1g 6])), (a0_1_5, .inl (ka0_1_5, 9, .inl (fa0_1_5))), (oa, .inl (ko, 1, .inr (.inl (fo))))] H1 := hP.sub [1, 2, 3, 4, 0] rfl
    have hD : va_D A [(a0, .inr (7, [a0g 0, .ref a0_1, a0g 2, a0g 3, a0g 4, a0g 5, a0g 6, .ref a0_7, a0g 8, a0g 9, a0g 10])), (a0_7, .inr (0, [.int a0_7_0, a0_7g 1, a0_7g 2, a0_7g 3, a0_7g 4, a0_7g 5, a0_7g 6, a0_7g 7, a0_7g 8, a0_7g 9, a0_7g 10, a0_7g 11, a0_7g 12, a0_7g 13, a0_7g 14])), (a0_1, .inr (5, [a0_1g 0, a0_1g 1, a0_1g 2, a0_1g 3, a0_1g 4, .ref a0_1_5, a0_1g 6])), (a0_1_5, .inl (ka0_1_5, 9, .inl (fa0_1_5))), (oa, .inl (ko, 1, .inr (.inl (fo))))] := hD.sub [1, 2, 3, 4, 0] (by decide) rfl
    exact W.iret (v := 1) hx hb hr (fun t ht hW => ⟨⟨1, (), rfl, trivial, fo, by rw [ht]; exact hP, va_K.moved hW.alike hK, hD⟩, hS.F ht⟩) hS.2.2 dL_led_14
  · obtain ⟨hP1, hK1, hD1⟩ := hB
    rw [ht] at hP1
    obtain ⟨hP, hD⟩ := va_join (wr := [(oa, .inl (ko, 1, .inr (.inl (fo))))]) (w1 := [(a0, .inr (7, [a0g 0, .ref a0_1, a0g 2, a0g 3, a0g 4, a0g 5, a0g 6, .ref a0_7, a0g 8, a0g 9, a0g 10])), (a0_7, .inr (0, [.int a0_7_0, a0_7g 1, a0_7g 2, a0_7g 3, a0_7g 4, a0_7g 5, a0_7g 6, a0_7g 7, a0_7g 8, a0_7g 9, a0_7g 10, a0_7g 11, a0_7g 12, a0_7g 13, a0_7g 14])), (a0_1, .inr (5, [a0_1g 0, a0_1g 1, a0_1g 2, a0_1g 3, a0_1g 4, .ref a0_1_5, a0_1g 6])), (a0_1_5, .inl (ka0_1_5, 9, .inl (fa0_1_5)))]) hP hD [0, 1, 2, 3] [4] rfl rfl (by decide) (by decide) hk1 hFc hP1 hD1
    have hP : va_P (dC, dI) vwCl [(a0, .inr (7, [a0g 0, .ref a0_1, a0g 2, a0g 3, a0g 4, a0g 5, a0g 6, .ref a0_7, a0g 8, a0g 9, a0g 10])), (a0_7, .inr (0, [.int a0_7_0, a0_7g 1, a0_7g 2, a0_7g 3, a0_7g 4, a0_7g 5, a0_7g 6, a0_7g 7, a0_7g 8, a0_7g 9, a0_7g 10, a0_7g 11, a0_7g 12, a0_7g 13, a0_7g 14])), (a0_1, .inr (5, [a0_1g 0, a0_1g 1, a0_1g 2, a0_1g 3, a0_1g 4, .ref a0_1_5, a0_1g 6])), (a0_1_5, .inl (ka0_1_5, 9, .inl (fa0_1_5))), (oa, .inl (ko, 1, .inr (.inl (fo))))] H1 := hP.sub [1, 2, 3, 4, 0] rfl
    have hD : va_D A [(a0, .inr (7, [a0g 0, .ref a0_1, a0g 2, a0g 3, a0g 4, a0g 5, a0g 6, .ref a0_7, a0g 8, a0g 9, a0g 10])), (a0_7, .inr (0, [.int a0_7_0, a0_7g 1, a0_7g 2, a0_7g 3, a0_7g 4, a0_7g 5, a0_7g 6, a0_7g 7, a0_7g 8, a0_7g 9, a0_7g 10, a0_7g 11, a0_7g 12, a0_7g 13, a0_7g 14])), (a0_1, .inr (5, [a0_1g 0, a0_1g 1, a0_1g 2, a0_1g 3, a0_1g 4, .ref a0_1_5, a0_1g 6])), (a0_1_5, .inl (ka0_1_5, 9, .inl (fa0_1_5))), (oa, .inl (ko, 1, .inr (.inl (fo))))] := hD.sub [1, 2, 3, 4, 0] (by decide) rfl
    obtain ⟨y9, ey9⟩ : ∃ y : Int64, y = (r : Int32).toInt64 := ⟨_, rfl⟩
    refine lv_i2l (v := y9) hx hb dL_led_7 ey9.symm ?_
    refine va_last hx hb hK hP hD hS 4 1 rfl rfl (by unfold vp_in; decide +kernel) dL_led_8 (fun H locs hP hD hS => ?_)
    obtain ⟨f9, hP, hD⟩ : ∃ f9 : Nat → Int64, va_P (dC, dI) vwCl [(a0, .inr (7, [a0g 0, .ref a0_1, a0g 2, a0g 3, a0g 4, a0g 5, a0g 6, .ref a0_7, a0g 8, a0g 9, a0g 10])), (a0_7, .inr (0, [.int a0_7_0, a0_7g 1, a0_7g 2, a0_7g 3, a0_7g 4, a0_7g 5, a0_7g 6, a0_7g 7, a0_7g 8, a0_7g 9, a0_7g 10, a0_7g 11, a0_7g 12, a0_7g 13, a0_7g 14])), (a0_1, .inr (5, [a0_1g 0, a0_1g 1, a0_1g 2, a0_1g 3, a0_1g 4, .ref a0_1_5, a0_1g 6])), (a0_1_5, .inl (ka0_1_5, 9, .inl (fa0_1_5))), (oa, .inl (ko, 1, .inr (.inl (f9))))] H ∧ va_D A [(a0, .inr (7, [a0g 0, .ref a0_1, a0g 2, a0g 3, a0g 4, a0g 5, a0g 6, .ref a0_7, a0g 8, a0g 9, a0g 10])), (a0_7, .inr (0, [.int a0_7_0, a0_7g 1, a0_7g 2, a0_7g 3, a0_7g 4, a0_7g 5, a0_7g 6, a0_7g 7, a0_7g 8, a0_7g 9, a0_7g 10, a0_7g 11, a0_7g 12, a0_7g 13, a0_7g 14])), (a0_1, .inr (5, [a0_1g 0, a0_1g 1, a0_1g 2, a0_1g 3, a0_1g 4, .ref a0_1_5, a0_1g 6])), (a0_1_5, .inl (ka0_1_5, 9, .inl (fa0_1_5))), (oa, .inl (ko, 1, .inr (.inl (f9))))] := ⟨_, hP, hD⟩
    refine lv_goto (tgt := 15) hx hb dL_led_9 (by decide) ?_
    refine lv_iconst (v := 0) hx hb dL_led_15 zk_iconst_0 ?_
    refine vx_ret ?_
    exact W.iret (v := 0) hx hb hr (fun t ht hW => ⟨⟨0, (), rfl, trivial, f9, by rw [ht]; exact hP, va_K.moved hW.alike hK, hD⟩, hS.F ht⟩) hS.2.2 dL_led_16
