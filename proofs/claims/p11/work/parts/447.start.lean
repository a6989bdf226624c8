set_option maxHeartbeats 4000000 in
set_option maxRecDepth 100000 in
theorem whole_start {p : Program} {e : Env} {s : State} {m : MethodId} {below : List Frame} {meth : Method} {c : Code} (l : Launch) (hflags : l.flags = flags0) {b L : Nat} {xs : Nat → Int32} (hL : L ≤ 3072) (C0 : lw_At p s m meth c b L xs) : W p l e room_1 s m #[Value.ref b] below meth c s.heap [] 0 0 (lw_Z below #[Value.ref b] s) (entryFrame m ([Value.ref b] : List Value).toArray 7) := by
  obtain ⟨hx, hb, hr, hml, hown0, htl, hX, hbl, hlocks, hgv⟩ := id C0
  have hown : s.vm.findClass RL = some m.cls := hown0
  have hts : ∀ w ∈ wlT, w.before #[Value.ref b] s = true := fun w h => htl w (wlT_in w h)
  have hl0 : l.stackTraces = false := by unfold Launch.stackTraces; rw [hflags]; decide +kernel
  obtain ⟨A, hA, hA2⟩ : ∃ A : Nat → Prop, (∀ q, s.heap.size ≤ q → A q) ∧ (∀ q, A q → s.heap.size ≤ q) := ⟨fun q => s.heap.size ≤ q, fun _ h => h, fun _ h => h⟩
  have hbA : ¬ A b := fun h => absurd (hA2 b h) (Nat.not_le.mpr hbl)
  obtain ⟨k0, iS0, hKn0⟩ := u_known (C := RX0) (T := TX0) (N := 15) (n := 15) htl inX0 (htl (.instantiable RX0 15) (lc_tb (i := 35) (by decide +kernel)))
  obtain ⟨k1, iS1, hKn1⟩ := u_known (C := RX1) (T := TX1) (N := 5) (n := 5) htl inX1 (htl (.instantiable RX1 5) (lc_tb (i := 233) (by decide +kernel)))
  obtain ⟨k2, iS2, hKn2⟩ := u_known (C := RX2) (T := TX2) (N := 7) (n := 7) htl inX2 (htl (.instantiable RX2 7) (lc_tb (i := 260) (by decide +kernel)))
  obtain ⟨k3, iS3, hKn3⟩ := u_known (C := RX3) (T := TX3) (N := 14) (n := 14) htl inX3 (htl (.instantiable RX3 14) (lc_tb (i := 29) (by decide +kernel)))
  obtain ⟨k4, iS4, hKn4⟩ := u_known (C := RX4) (T := TX4) (N := 3) (n := 3) htl inX4 (htl (.instantiable RX4 3) (lc_tb (i := 292) (by decide +kernel)))
  obtain ⟨k5, iS5, hKn5⟩ := u_known (C := RX5) (T := TX5) (N := 7) (n := 7) htl inX5 (htl (.instantiable RX5 7) (lc_tb (i := 189) (by decide +kernel)))
  obtain ⟨k6, iS6, hKn6⟩ := u_known (C := RX6) (T := TX6) (N := 4) (n := 4) htl inX6 (htl (.instantiable RX6 4) (lc_tb (i := 41) (by decide +kernel)))
  obtain ⟨k7, iS7, hKn7⟩ := u_known (C := RX7) (T := TX7) (N := 11) (n := 11) htl inX7 (htl (.instantiable RX7 11) (lc_tb (i := 21) (by decide +kernel)))
  obtain ⟨k8, iS8, hKn8⟩ := u_known (C := RX8) (T := TX8) (N := 40) (n := 40) htl inX8 (htl (.instantiable RX8 40) (lc_tb (i := 1083) (by decide +kernel)))
  obtain ⟨dC, dI, hKc⟩ : ∃ (dC : Nat → ClassId) (dI : Nat → Nat → Nat), ∀ (k : Nat) (q : vw_C), vwCl[k]? = some q → u_Kn s q.1 q.2.1 q.2.2 (dC k) (dI k) := by
    refine ⟨fun k => match k with | 0 => k0 | 1 => k1 | 2 => k2 | 3 => k3 | 4 => k4 | 5 => k5 | 6 => k6 | 7 => k7 | _ => k8, fun k => match k with | 0 => iS0 | 1 => iS1 | 2 => iS2 | 3 => iS3 | 4 => iS4 | 5 => iS5 | 6 => iS6 | 7 => iS7 | _ => iS8, ?_⟩
    intro k q hq
    match k, hq with
    | 0, hq => cases hq; exact hKn0
    | 1, hq => cases hq; exact hKn1
    | 2, hq => cases hq; exact hKn2
    | 3, hq => cases hq; exact hKn3
    | 4, hq => cases hq; exact hKn4
    | 5, hq => cases hq; exact hKn5
    | 6, hq => cases hq; exact hKn6
    | 7, hq => cases hq; exact hKn7
    | 8, hq => cases hq; exact hKn8
    | k + 9, hq => simp [vwCl] at hq
  have hS : va_S A s.heap s.heap [] := va_S.rf
  have hK0 : va_K (dC, dI) vwCl [] s := ⟨hKc, fun k q h => by simp at h⟩
  have hP : va_P (dC, dI) vwCl [] s.heap := fun k q h => by simp at h
  have hD : va_D A [] := ⟨fun i j p q h => by simp at h, fun k q h => by simp at h⟩
  have hsn := flat_of_before _ hgv
  obtain ⟨sd, hST⟩ := lg_strs hA2 C0
  have hAO : va_AO RX5 s := va_AO.of (htl (.arrayOver (.object RX5)) (lc_tb (i := 239) (by decide +kernel)))
  obtain ⟨sa, -, -, -, hsa, -⟩ := Cond.exactly_spec (hsn (.exactly (.string RX7 350) "java/lang/String") (by decide +kernel))
  have hEL : ax_EL A sa s := ⟨va_Nw.of rfl (htl (.declares (Bundle.initS "java/lang/RuntimeException")) (lc_tb (i := 1021) (by decide +kernel))), va_Nw.of rfl (htl (.declares (Bundle.initS "java/lang/Exception")) (lc_tb (i := 1023) (by decide +kernel))), va_Nw.of rfl (htl (.declares (Bundle.initS Bundle.tN)) (lc_tb (i := 1025) (by decide +kernel))), va_Nw.of rfl (htl (.castable "java/util/NoSuchElementException" "java/util/NoSuchElementException") (lc_tb (i := 1019) (by decide +kernel))), vk_R.of (htl (.stringRef RX7 350 "no such figure is led away") (lc_tb (i := 1056) (by decide +kernel))) hsa, vx_Zqof (htl (.laysStatic Bundle.tN "UNASSIGNED_STACK" Bundle.steD) (lc_tb (i := 1044) (by decide +kernel))) (htl (.initialized Bundle.tN) (lc_tb (i := 16) (by decide +kernel))) (hsn (.isRef (.static Bundle.tN "UNASSIGNED_STACK" Bundle.steD)) (by decide +kernel)) (fun a h9 h8 => absurd (hA2 a h8) (Nat.not_le.mpr h9)), vx_Zqof (htl (.laysStatic Bundle.tN "SUPPRESSED_SENTINEL" Bundle.listD) (lc_tb (i := 1046) (by decide +kernel))) (htl (.initialized Bundle.tN) (lc_tb (i := 16) (by decide +kernel))) (hsn (.isRef (.static Bundle.tN "SUPPRESSED_SENTINEL" Bundle.listD)) (by decide +kernel)) (fun a h9 h8 => absurd (hA2 a h8) (Nat.not_le.mpr h9))⟩
  have hE : lg_E A sd sa s := ⟨hST, hEL, va_Nw.of rfl (htl (.methodLinkNest RX5 38 yX7_hasBit RX7) (lc_tb (i := 569) (by decide +kernel))), va_Nw.of rfl (htl (.methodLinkNest RX0 118 yX7_within RX7) (lc_tb (i := 666) (by decide +kernel))), va_Nw.of rfl (htl (.methodLinkNest RX0 129 yX7_hasBit RX7) (lc_tb (i := 681) (by decide +kernel))), va_Nw.of rfl (htl (.methodLinkNest RX4 18 yX7_within RX7) (lc_tb (i := 773) (by decide +kernel))), va_Nw.of rfl (htl (.methodLinkNest RX0 72 yX7_laterTurn RX7) (lc_tb (i := 845) (by decide +kernel))), va_Nw.of rfl (htl (.methodLinkNest RX1 41 yX7_within RX7) (lc_tb (i := 995) (by decide +kernel))), va_Nw.of rfl (htl (.methodLinkNest RX3 223 yX7_within RX7) (lc_tb (i := 459) (by decide +kernel))), va_Nw.of rfl (htl (.methodLinkNest RX3 196 yX7_hasBit RX7) (lc_tb (i := 493) (by decide +kernel)))⟩
  have hl := lv_entry ([.ref b]) (n := 7) (Nat.le_of_ble_eq_true rfl)
  rw [lg_entry_eq]
  generalize (lg_sl ([.ref b]) ++ List.replicate (7 - (lg_sl ([.ref b])).length) Slot.unset).toArray = ls at hl ⊢
  have hl : lv_has ls 7 [(0, .ref b)] := hl
  refine va_new (ci := 7) (fs := [Value.null, Value.null, Value.null, Value.null, Value.null, Value.null, Value.null, Value.null, Value.int 0, Value.int 0, Value.int 0]) (C := RX7) (T := TX7) (N := 11) hx hb hts inlX7 tyX7 tyX7_ok hown (hts (.classLink RL 8 RX7) (wl_at (i := 0) (j := 0) (by decide +kernel))) (hts (.instantiable RX7 11) (wl_at (i := 0) (j := 1) (by decide +kernel))) (hts (.initialized RX7) (wl_at (i := 0) (j := 2) (by decide +kernel))) hK0 hP hD hS hA rfl (dfX7) (Nat.le_of_ble_eq_true rfl) (Nat.le_of_ble_eq_true rfl) dL_law_0 (fun x H hP hD hS => ?_)
  have hPq : va_P (dC, dI) vwCl [(x, .inr (7, [Value.null, Value.null, Value.null, Value.null, Value.null, Value.null, Value.null, Value.null, Value.int 0, Value.int 0, Value.int 0]))] H := hP; have hDq : va_D A [(x, .inr (7, [Value.null, Value.null, Value.null, Value.null, Value.null, Value.null, Value.null, Value.null, Value.int 0, Value.int 0, Value.int 0]))] := hD
  refine W.widen (k := 1) (n := 11) (Nat.le_of_ble_eq_true rfl) (Nat.le_of_ble_eq_true rfl) ?_
  refine lv_dup hx hb dL_law_3 rfl ?_
  have hFc := lg_free hDq hS hA
  refine va_callv (va_runI (As := []) (rest := [.ref x]) ⟨hx, hb, hml, hown, hts⟩ (c_X7_init l dC dI H.size x) (cwI 0 hts gd_X7_init rfl rfl rfl (hts (.initialized RX7) (wl_at (i := 0) (j := 2) (by decide +kernel))) (hts (.methodLink RL 15 yX7_init) (wl_at (i := 0) (j := 7) (by decide +kernel))) (hts (.instanceMethod yX7_init) (wl_at (i := 0) (j := 8) (by decide +kernel))) rfl (by decide +kernel) ⟨Nat.le_of_ble_eq_true rfl, Nat.le_of_ble_eq_true rfl⟩) ⟨ax_blind (fun _ _ _ _ hq => va_AO.moved (Vm.Alike.refl _) hq), ax_pre hPq hK0 hDq (fun _ hW => va_AO.moved hW.alike hAO)⟩ rfl rfl hl.1 rfl (lv_room (Nat.le_of_ble_eq_true rfl)) dL_law_4 ⟨Nat.le_of_ble_eq_true rfl, Nat.le_of_ble_eq_true rfl⟩) hS (fun q _ h => hFc q h) hFc (fun u t H1 locs ht hvm hw hB hz1 hk1 hS => ?_)
  obtain ⟨ad7, kc7, hP1, hK1, hD1⟩ := hB
  rw [ht] at hP1
  have hK1 := va_K.moved hvm.symm hK1
  have hIX := ix_newv x ad7 kc7
  have hDx := hD1.weaken (fun _ _ _ h9 => hFc _ h9)
  have hPx := hP1; have hKx := hK1
  generalize ixW x 0 ad7 kc7 (ux (fun _ => 0) [(2, -1)]) (fun _ _ => 0) 0 (fun _ => 0) = wx at hIX hDx hPx
  generalize ixT kc7 = tx at hIX hKx
  clear ht hP1 hD1 hK1 hFc hk1 hz1 hP hD hPq hDq
  generalize H1 = H at hPx hS ⊢
  refine W.widen (k := 95) (n := 3855) (Nat.le_of_ble_eq_true rfl) (Nat.le_of_ble_eq_true rfl) ?_
  refine lv_astore_n (lv' := [(1, .ref x), (0, .ref b)]) hx hb dL_law_7 rfl hl (by decide) rfl (fun ls hl => ?_)
  refine va_new (ci := 8) (fs := [Value.int 0, Value.null, Value.int 0, Value.int 0, Value.int 0, Value.int 0, Value.int 0, Value.int 0, Value.int 0, Value.int 0, Value.int 0, Value.int 0, Value.null, Value.int 0, Value.int 0, Value.null, Value.null, Value.null, Value.null, Value.null, Value.null, Value.int 0, Value.int 0, Value.null, Value.null, Value.int 0, Value.int 0, Value.int 0, Value.int 0, Value.null, Value.int 0, Value.int 0, Value.null, Value.null, Value.null, Value.null, Value.int 0, Value.int 0, Value.int 0, Value.int 0]) (C := RX8) (T := TX8) (N := 40) hx hb hts inlX8 tyX8 tyX8_ok hown (hts (.classLink RL 16 RX8) (wl_at (i := 0) (j := 3) (by decide +kernel))) (hts (.instantiable RX8 40) (wl_at (i := 0) (j := 4) (by decide +kernel))) (hts (.initialized RX8) (wl_at (i := 0) (j := 5) (by decide +kernel))) hK0 hPx hDx hS hA rfl (dfX8) (Nat.le_of_ble_eq_true rfl) (Nat.le_of_ble_eq_true rfl) dL_law_8 (fun mo H hP hD hS => ?_)
  have hPx := va_P_l hP; have hPq : va_P (dC, dI) vwCl [(mo, .inr (8, [Value.int 0, Value.null, Value.int 0, Value.int 0, Value.int 0, Value.int 0, Value.int 0, Value.int 0, Value.int 0, Value.int 0, Value.int 0, Value.int 0, Value.null, Value.int 0, Value.int 0, Value.null, Value.null, Value.null, Value.null, Value.null, Value.null, Value.int 0, Value.int 0, Value.null, Value.null, Value.int 0, Value.int 0, Value.int 0, Value.int 0, Value.null, Value.int 0, Value.int 0, Value.null, Value.null, Value.null, Value.null, Value.int 0, Value.int 0, Value.int 0, Value.int 0]))] H := va_P_r hP; have hDx := va_D_l hD; have hDq : va_D A [(mo, .inr (8, [Value.int 0, Value.null, Value.int 0, Value.int 0, Value.int 0, Value.int 0, Value.int 0, Value.int 0, Value.int 0, Value.int 0, Value.int 0, Value.int 0, Value.null, Value.int 0, Value.int 0, Value.null, Value.null, Value.null, Value.null, Value.null, Value.null, Value.int 0, Value.int 0, Value.null, Value.null, Value.int 0, Value.int 0, Value.int 0, Value.int 0, Value.null, Value.int 0, Value.int 0, Value.null, Value.null, Value.null, Value.null, Value.int 0, Value.int 0, Value.int 0, Value.int 0]))] := va_D_r hD; have jxq := va_D_j hD
  refine W.widen (k := 96) (n := 3895) (Nat.le_of_ble_eq_true rfl) (Nat.le_of_ble_eq_true rfl) ?_
  refine lv_dup hx hb dL_law_11 rfl ?_
  have hFc := lg_free hDq hS hA
  refine va_callv (va_runI (As := []) (rest := [.ref mo]) ⟨hx, hb, hml, hown, hts⟩ (c_X8_init l dC dI H.size mo) (cwI 0 hts gd_X8_init rfl rfl rfl (hts (.initialized RX8) (wl_at (i := 0) (j := 5) (by decide +kernel))) (hts (.methodLink RL 18 yX8_init) (wl_at (i := 4) (j := 3) (by decide +kernel))) (hts (.instanceMethod yX8_init) (wl_at (i := 4) (j := 4) (by decide +kernel))) rfl (by decide +kernel) ⟨Nat.le_of_ble_eq_true rfl, Nat.le_of_ble_eq_true rfl⟩) ⟨ax_blind (fun _ _ _ _ _ => trivial), ax_pre hPq hK0 hDq (fun _ _ => trivial)⟩ rfl rfl hl.1 rfl (lv_room (Nat.le_of_ble_eq_true rfl)) dL_law_12 ⟨Nat.le_of_ble_eq_true rfl, Nat.le_of_ble_eq_true rfl⟩) hS (fun q _ h => hFc q h) hFc (fun u t H1 locs ht hvm hw hB hz1 hk1 hS => ?_)
  obtain ⟨ad8, kc8, hP1, hK1, hD1⟩ := hB
  rw [ht] at hP1
  have hK1 := va_K.moved hvm.symm hK1
  obtain ⟨hPx, jmx⟩ := lg_step hPx (dj_symm jxq) hk1 hD1
  have hIM := im_newv mo ad8 kc8
  have hDm := hD1.weaken (fun _ _ _ h9 => hFc _ h9)
  have hPm := hP1; have hKm := hK1
  generalize imW mo 0 ad8 kc8 (ux (fun _ => 0) [(8, -1)]) (fun _ _ => 0) = wm at hIM hDm hPm jmx
  generalize imT kc8 = tm at hIM hKm
  clear ht hP1 hD1 hK1 hFc hk1 hz1 hP hD hPq hDq jxq
  generalize H1 = H at hPx hPm hS ⊢
  refine W.widen (k := 111) (n := 6313) (Nat.le_of_ble_eq_true rfl) (Nat.le_of_ble_eq_true rfl) ?_
  refine lv_astore_n (lv' := [(2, .ref mo), (1, .ref x), (0, .ref b)]) hx hb dL_law_15 rfl hl (by decide) rfl (fun ls hl => ?_)
  refine lv_iconst (v := 1) hx hb dL_law_16 (by decide) ?_
  have hPa := va_P.app hPx hPm; have hDa := va_D.app hDx hDm (dj_symm jmx)
  refine va_newa (atype := .long) (ty := .long) (N' := 1) (a0 := (1, .inr (.inl (fun _ => 0)))) hx hb (hts (.arrayClass .long) (wl_at (i := 0) (j := 6) (by decide +kernel))) rfl hK0 hPa hDa hS hA (fun _ => rfl) (by decide +kernel) (by decide +kernel) (Nat.le_of_ble_eq_true rfl) (Nat.le_of_ble_eq_true rfl) (Nat.le_of_ble_eq_true rfl) dL_law_17 (fun oa ko H hK hP hD hS => ?_)
  have hKo : va_K (dC, dI) vwCl [(ko, .long)] s := hK
  have hPx := va_P_l (va_P_l hP); have hPm := va_P_r (va_P_l hP); have hPo := va_P_r hP; have hDo := va_D_r hD; have jo := va_D_j hD
  have jxm := dj_symm jmx; have jxo : dj wx [(oa, .inl (ko, 1, .inr (.inl (fun _ => 0))))] := fun i j p q a b9 => jo i j p q (by rw [List.getElem?_append_left (List.getElem?_eq_some_iff.mp a).1]; exact a) b9; have jmo : dj wm [(oa, .inl (ko, 1, .inr (.inl (fun _ => 0))))] := fun i j p q a b9 => jo (wx.length + i) j p q (by rw [List.getElem?_append_right (by omega), Nat.add_sub_cancel_left]; exact a) b9
  refine W.widen (k := 112) (n := 6314) (Nat.le_of_ble_eq_true rfl) (Nat.le_of_ble_eq_true rfl) ?_
  refine lv_astore_n (lv' := [(3, .ref oa), (2, .ref mo), (1, .ref x), (0, .ref b)]) hx hb dL_law_19 rfl hl (by decide) rfl (fun ls hl => ?_)
  refine lv_iconst (v := 0) hx hb dL_law_20 (by decide) ?_
  refine lv_istore (lv' := [(4, .int 0), (3, .ref oa), (2, .ref mo), (1, .ref x), (0, .ref b)]) hx hb dL_law_21 hl (by decide) rfl (fun ls hl => ?_)
  exact lg_loop hl0 hL hA hA2 C0 sd sa hE x mo oa ko hKo 512 0 _ _ _ _ _ (by decide) (by decide) (by have h9 : (0 : Int32).toInt = 0 := (by decide); omega) (Nat.le_of_ble_eq_true rfl) (Nat.le_of_ble_eq_true rfl) ⟨0, wx, wm, tx, tm, _, _, _, _, _, hIX, hIM, lr_init, hKx, hKm, hPx, hPm, hPo, hDx, hDm, hDo, jxm, jxo, jmo⟩ hS hl
