set_option maxHeartbeats 4000000 in
set_option maxRecDepth 100000 in
theorem whole_start {p : Program} {e : Env} {s : State} {m : MethodId} {below : List Frame} {meth : Method} {c : Code} (l : Launch) (hflags : l.flags = flags0) {b L : Nat} {xs : Nat → Int32} (hL : L ≤ 6) (C0 : lw_At p s m meth c b L xs) : W p l e room_1 s m #[Value.ref b] below meth c s.heap [] 0 0 (lw_Z below #[Value.ref b] s) (entryFrame m ([Value.ref b] : List Value).toArray 7) := by
  obtain ⟨hx, hb, hr, hml, hown0, htl, hX, hbl, hlocks, hgv⟩ := id C0
  have hown : s.vm.findClass RL = some m.cls := hown0
  have hts : ∀ w ∈ wlT, w.before #[Value.ref b] s = true := fun w h => htl w (wlT_in w h)
  have hl0 : l.stackTraces = false := by unfold Launch.stackTraces; rw [hflags]; decide +kernel
  obtain ⟨A, hA, hA2⟩ : ∃ A : Nat → Prop, (∀ q, s.heap.size ≤ q → A q) ∧ (∀ q, A q → s.heap.size ≤ q) := ⟨fun q => s.heap.size ≤ q, fun _ h => h, fun _ h => h⟩
  have hbA : ¬ A b := fun h => absurd (hA2 b h) (Nat.not_le.mpr hbl)
  obtain ⟨k0, iS0, hKn0⟩ := u_known (C := RX0) (T := TX0) (N := 15) (n := 15) htl inX0 (htl (.instantiable RX0 15) (lc_tb (i := 35) (by decide +kernel)))
  obtain ⟨k1, iS1, hKn1⟩ := u_known (C := RX1) (T := TX1) (N := 5) (n := 5) htl inX1 (htl (.instantiable RX1 5) (lc_tb (i := 233) (by decide +kernel)))
  obtain ⟨k2, iS2, hKn2⟩ := u_known (C := RX2) (T := TX2) (N := 7) (n := 7) htl inX2 (htl (.instantiable RX2 7) (lc_tb (i := 260) (by decide +kernel)))
  obtain ⟨k3, iS3, hKn3⟩ := u_known (C := RX3) (T := TX3) (N := 14) (n := 14) htl inX3 (htl (.instantiable RX3 14) (lc_tb (i := 29) (by decide +kernel)))
  obtain ⟨k4, iS4, hKn4⟩ := u_known (C := RX4) (T := TX4) (N := 3) (n := 3) htl inX4 (htl (.instantiable RX4 3) (lc_tb (i := 292) (by decide +kernel)))
  obtain ⟨k5, iS5, hKn5⟩ := u_known (C := RX5) (T := TX5) (N := 7) (n := 7) htl inX5 (htl (.instantiable RX5 7) (lc_tb (i := 189) (by decide +kernel)))
  obtain ⟨k6, iS6, hKn6⟩ := u_known (C := RX6) (T := TX6) (N := 4) (n := 4) htl inX6 (htl (.instantiable RX6 4) (lc_tb (i := 41) (by decide +kernel)))
  obtain ⟨k7, iS7, hKn7⟩ := u_known (C := RX7) (T := TX7) (N := 11) (n := 11) htl inX7 (htl (.instantiable RX7 11) (lc_tb (i := 21) (by decide +kernel)))
  obtain ⟨k8, iS8, hKn8⟩ := u_known (C := RX8) (T := TX8) (N := 40) (n := 40) htl inX8 (htl (.instantiable RX8 40) (lc_tb (i := 1083) (by decide +kernel)))
  obtain ⟨dC, dI, hKc⟩ : ∃ (dC : Nat → ClassId) (dI : Nat → Nat → Nat), ∀ (k : Nat) (q : vw_C), vwCl[k]? = some q → u_Kn s q.1 q.2.1 q.2.2 (dC k) (dI k) := by
    refine ⟨fun k => match k with | 0 => k0 | 1 => k1 | 2 => k2 | 3 => k3 | 4 => k4 | 5 => k5 | 6 => k6 | 7 => k7 | _ => k8, fun k => match k with | 0 => iS0 | 1 => iS1 | 2 => iS2 | 3 => iS3 | 4 => iS4 | 5 => iS5 | 6 => iS6 | 7 => iS7 | _ => iS8, ?_⟩
    intro k q hq
    match k, hq with
    | 0, hq => cases hq; exact hKn0
    | 1, hq => cases hq; exact hKn1
    | 2, hq => cases hq; exact hKn2
    | 3, hq => cases hq; exact hKn3
    | 4, hq => cases hq; exact hKn4
    | 5, hq => cases hq; exact hKn5
    | 6, hq => cases hq; exact hKn6
    | 7, hq => cases hq; exact hKn7
    | 8, hq => cases hq; exact hKn8
    | k + 9, hq => simp [vwCl] at hq
  have hS : va_S A s.heap s.heap [] := va_S.rf
  have hK : va_K (dC, dI) vwCl [] s := ⟨hKc, fun k q h => by simp at h⟩
  have hP : va_P (dC, dI) vwCl [] s.heap := fun k q h => by simp at h
  have hD : va_D A [] := ⟨fun i j p q h => by simp at h, fun k q h => by simp at h⟩
  have hsn := flat_of_before _ hgv
  have hE0 : va_Nw (.methodLinkNest RX1 41 yX7_within RX7) s := va_Nw.of rfl (htl (.methodLinkNest RX1 41 yX7_within RX7) (lc_tb (i := 995) (by decide +kernel)))
  have hE1 : va_AO RX5 s := va_AO.of (htl (.arrayOver (.object RX5)) (lc_tb (i := 239) (by decide +kernel)))
  obtain ⟨s98, -, -, -, hs98, -⟩ := Cond.exactly_spec (hsn (.exactly (.string RX3 98) "java/lang/String") (by decide +kernel))
  have hE2 : vk_R RX3 98 "gallery" s98 s := vk_R.of (htl (.stringRef RX3 98 "gallery") (lc_tb (i := 389) (by decide +kernel))) hs98
  obtain ⟨s110, -, -, -, hs110, -⟩ := Cond.exactly_spec (hsn (.exactly (.string RX3 110) "java/lang/String") (by decide +kernel))
  have hE3 : vk_R RX3 110 "law" s110 s := vk_R.of (htl (.stringRef RX3 110 "law") (lc_tb (i := 463) (by decide +kernel))) hs110
  obtain ⟨s112, -, -, -, hs112, -⟩ := Cond.exactly_spec (hsn (.exactly (.string RX3 112) "java/lang/String") (by decide +kernel))
  have hE4 : vk_R RX3 112 "figure" s112 s := vk_R.of (htl (.stringRef RX3 112 "figure") (lc_tb (i := 464) (by decide +kernel))) hs112
  obtain ⟨s114, -, -, -, hs114, -⟩ := Cond.exactly_spec (hsn (.exactly (.string RX3 114) "java/lang/String") (by decide +kernel))
  have hE5 : vk_R RX3 114 "watche\x72" s114 s := vk_R.of (htl (.stringRef RX3 114 "watche\x72") (lc_tb (i := 465) (by decide +kernel))) hs114
  obtain ⟨s116, -, -, -, hs116, -⟩ := Cond.exactly_spec (hsn (.exactly (.string RX3 116) "java/lang/String") (by decide +kernel))
  have hE6 : vk_R RX3 116 "seen" s116 s := vk_R.of (htl (.stringRef RX3 116 "seen") (lc_tb (i := 466) (by decide +kernel))) hs116
  obtain ⟨s128, -, -, -, hs128, -⟩ := Cond.exactly_spec (hsn (.exactly (.string RX8 128) "java/lang/String") (by decide +kernel))
  have hE7 : vk_R RX8 128 "gallery" s128 s := vk_R.of (htl (.stringRef RX8 128 "gallery") (lc_tb (i := 1250) (by decide +kernel))) hs128
  obtain ⟨s130, -, -, -, hs130, -⟩ := Cond.exactly_spec (hsn (.exactly (.string RX8 130) "java/lang/String") (by decide +kernel))
  have hE8 : vk_R RX8 130 "law" s130 s := vk_R.of (htl (.stringRef RX8 130 "law") (lc_tb (i := 1293) (by decide +kernel))) hs130
  obtain ⟨s132, -, -, -, hs132, -⟩ := Cond.exactly_spec (hsn (.exactly (.string RX8 132) "java/lang/String") (by decide +kernel))
  have hE9 : vk_R RX8 132 "figure" s132 s := vk_R.of (htl (.stringRef RX8 132 "figure") (lc_tb (i := 1305) (by decide +kernel))) hs132
  obtain ⟨s134, -, -, -, hs134, -⟩ := Cond.exactly_spec (hsn (.exactly (.string RX8 134) "java/lang/String") (by decide +kernel))
  have hE10 : vk_R RX8 134 "watche\x72" s134 s := vk_R.of (htl (.stringRef RX8 134 "watche\x72") (lc_tb (i := 1318) (by decide +kernel))) hs134
  obtain ⟨s136, -, -, -, hs136, -⟩ := Cond.exactly_spec (hsn (.exactly (.string RX8 136) "java/lang/String") (by decide +kernel))
  have hE11 : vk_R RX8 136 "seen" s136 s := vk_R.of (htl (.stringRef RX8 136 "seen") (lc_tb (i := 1319) (by decide +kernel))) hs136
  obtain ⟨sa, -, -, -, hsa, -⟩ := Cond.exactly_spec (hsn (.exactly (.string RX7 350) "java/lang/String") (by decide +kernel))
  have hEL : ax_EL A sa s := ⟨va_Nw.of rfl (htl (.declares (Bundle.initS "java/lang/RuntimeException")) (lc_tb (i := 1021) (by decide +kernel))), va_Nw.of rfl (htl (.declares (Bundle.initS "java/lang/Exception")) (lc_tb (i := 1023) (by decide +kernel))), va_Nw.of rfl (htl (.declares (Bundle.initS Bundle.tN)) (lc_tb (i := 1025) (by decide +kernel))), va_Nw.of rfl (htl (.castable "java/util/NoSuchElementException" "java/util/NoSuchElementException") (lc_tb (i := 1019) (by decide +kernel))), vk_R.of (htl (.stringRef RX7 350 "no such figure is led away") (lc_tb (i := 1056) (by decide +kernel))) hsa, vx_Zqof (htl (.laysStatic Bundle.tN "UNASSIGNED_STACK" Bundle.steD) (lc_tb (i := 1044) (by decide +kernel))) (htl (.initialized Bundle.tN) (lc_tb (i := 16) (by decide +kernel))) (hsn (.isRef (.static Bundle.tN "UNASSIGNED_STACK" Bundle.steD)) (by decide +kernel)) (fun a h9 h8 => absurd (hA2 a h8) (Nat.not_le.mpr h9)), vx_Zqof (htl (.laysStatic Bundle.tN "SUPPRESSED_SENTINEL" Bundle.listD) (lc_tb (i := 1046) (by decide +kernel))) (htl (.initialized Bundle.tN) (lc_tb (i := 16) (by decide +kernel))) (hsn (.isRef (.static Bundle.tN "SUPPRESSED_SENTINEL" Bundle.listD)) (by decide +kernel)) (fun a h9 h8 => absurd (hA2 a h8) (Nat.not_le.mpr h9))⟩
  have hl := lv_entry ([.ref b]) (n := 7) (Nat.le_of_ble_eq_true rfl)
  rw [lg_entry_eq]
  generalize (lg_sl ([.ref b]) ++ List.replicate (7 - (lg_sl ([.ref b])).length) Slot.unset).toArray = ls at hl ⊢
  have hl : lv_has ls 7 [(0, .ref b)] := hl
  refine va_new (ci := 7) (fs := [.null, .null, .null, .null, .null, .null, .null, .null, .int 0, .int 0, .int 0]) (C := RX7) (T := TX7) (N := 11) hx hb hts inlX7 tyX7 tyX7_ok hown (hts (.classLink RL 8 RX7) (wl_at (i := 0) (j := 0) (by decide +kernel))) (hts (.instantiable RX7 11) (wl_at (i := 0) (j := 1) (by decide +kernel))) (hts (.initialized RX7) (wl_at (i := 0) (j := 2) (by decide +kernel))) hK hP hD hS hA rfl (dfX7) (Nat.le_of_ble_eq_true rfl) (Nat.le_of_ble_eq_true rfl) dL_law_0 (fun q_1 H hP hD hS => ?_)
  have hP : va_P (dC, dI) vwCl [(q_1, .inr (7, [Value.null, Value.null, Value.null, Value.null, Value.null, Value.null, Value.null, Value.null, Value.int 0, Value.int 0, Value.int 0]))] H := hP
  have hD : va_D A [(q_1, .inr (7, [Value.null, Value.null, Value.null, Value.null, Value.null, Value.null, Value.null, Value.null, Value.int 0, Value.int 0, Value.int 0]))] := hD
  refine W.widen (k := 1) (n := 11) (Nat.le_of_ble_eq_true rfl) (Nat.le_of_ble_eq_true rfl) ?_
  refine lv_dup hx hb dL_law_3 rfl ?_
  have hPc := hP.sub (ws' := [(q_1, .inr (7, [Value.null, Value.null, Value.null, Value.null, Value.null, Value.null, Value.null, Value.null, Value.int 0, Value.int 0, Value.int 0]))]) [0] rfl
  have hDc := hD.sub (ws' := [(q_1, .inr (7, [Value.null, Value.null, Value.null, Value.null, Value.null, Value.null, Value.null, Value.null, Value.int 0, Value.int 0, Value.int 0]))]) [0] (by decide) rfl
  have hKc := hK.sub (tys' := []) [] rfl
  have hFc := va_free (wc := [(q_1, .inr (7, [Value.null, Value.null, Value.null, Value.null, Value.null, Value.null, Value.null, Value.null, Value.int 0, Value.int 0, Value.int 0]))]) hD hS hA [0] rfl
  refine va_callv (va_runI (As := []) (rest := [.ref q_1]) ⟨hx, hb, hml, hown, hts⟩ (c_X7_init l dC dI H.size q_1 ) (cwI 0 hts gd_X7_init rfl rfl rfl (hts (.initialized RX7) (wl_at (i := 0) (j := 2) (by decide +kernel))) (hts (.methodLink RL 15 yX7_init) (wl_at (i := 0) (j := 7) (by decide +kernel))) (hts (.instanceMethod yX7_init) (wl_at (i := 0) (j := 8) (by decide +kernel))) rfl (by decide +kernel) ⟨Nat.le_of_ble_eq_true rfl, Nat.le_of_ble_eq_true rfl⟩) ⟨ax_blind (fun _ _ _ _ hq => va_AO.moved (Vm.Alike.refl _) (hq)), ax_pre hPc hKc hDc (fun _ hW => va_AO.moved hW.alike hE1)⟩ rfl rfl hl.1 rfl (lv_room (Nat.le_of_ble_eq_true rfl)) dL_law_4 ⟨Nat.le_of_ble_eq_true rfl, Nat.le_of_ble_eq_true rfl⟩) hS (fun q _ h => hFc q h) hFc (fun u t H1 locs ht hvm hw hB hz1 hk1 hS => ?_)
  obtain ⟨rd_3, z_4, ah_5, tr_6, y_7, la_8, ro_9, h_10, ha_11, hb_12, hc_13, hd_14, w_15, he_16, hf_17, za_18, zb_19, ya_20, yb_21, tp_22, nm_23, dr_24, da_25, db_26, dc_27, dd_28, dw_29, de_30, df_31, kt_32, ka_33, kb_34, hP1, hK1, hD1⟩ := hB
  rw [ht] at hP1
  have hK1 := va_K.moved hvm.symm hK1
  obtain ⟨hP, hD⟩ := va_join (wr := []) (w1 := [(q_1, .inr (7, [Value.ref rd_3, Value.ref z_4, Value.ref ah_5, Value.ref tr_6, Value.ref y_7, Value.ref la_8, Value.ref ro_9, Value.ref h_10, Value.int 0, Value.int 0, Value.int (-1)])), (h_10, .inr (0, [Value.int 0, Value.int 0, Value.int 0, Value.int 0, Value.int 0, Value.int 0, Value.int 0, Value.int 0, Value.int 0, Value.int 0, Value.ref ha_11, Value.ref hb_12, Value.ref hc_13, Value.ref hd_14, Value.ref w_15])), (w_15, .inr (6, [Value.int 0, Value.int 0, Value.ref he_16, Value.ref hf_17])), (rd_3, .inr (3, [Value.int 0, Value.int 0, Value.int 0, Value.ref tp_22, Value.ref nm_23, Value.ref dr_24, Value.int 0, Value.int 0, Value.int 0, Value.int 0, Value.int 0, Value.long 0, Value.int 0, Value.int 0])), (tp_22, .inl (kt_32, 900, .inl (fun _ => 0))), (dr_24, .inr (0, [Value.int 0, Value.int 0, Value.int 0, Value.int 0, Value.int 0, Value.int 0, Value.int 0, Value.int 0, Value.int 0, Value.int 0, Value.ref da_25, Value.ref db_26, Value.ref dc_27, Value.ref dd_28, Value.ref dw_29])), (dw_29, .inr (6, [Value.int 0, Value.int 0, Value.ref de_30, Value.ref df_31])), (da_25, .inl (ka_33, 9, .inl (fun _ => 0))), (db_26, .inl (kb_34, 9, .inl (fun _ => 0))), (z_4, .inr (5, [Value.int 0, Value.int 0, Value.int 0, Value.int 0, Value.int 0, Value.ref za_18, Value.ref zb_19])), (y_7, .inr (1, [Value.int 0, Value.int 0, Value.int 0, Value.ref ya_20, Value.ref yb_21]))]) hP hD [0] [] rfl rfl (by decide) (by decide) hk1 hFc hP1 hD1
  have hK := (hK.sub (tys' := []) [] rfl).app hK1
  generalize H1 = H at hP hS ⊢
  have hP : va_P (dC, dI) vwCl [(q_1, .inr (7, [Value.ref rd_3, Value.ref z_4, Value.ref ah_5, Value.ref tr_6, Value.ref y_7, Value.ref la_8, Value.ref ro_9, Value.ref h_10, Value.int 0, Value.int 0, Value.int (-1)])), (h_10, .inr (0, [Value.int 0, Value.int 0, Value.int 0, Value.int 0, Value.int 0, Value.int 0, Value.int 0, Value.int 0, Value.int 0, Value.int 0, Value.ref ha_11, Value.ref hb_12, Value.ref hc_13, Value.ref hd_14, Value.ref w_15])), (w_15, .inr (6, [Value.int 0, Value.int 0, Value.ref he_16, Value.ref hf_17])), (rd_3, .inr (3, [Value.int 0, Value.int 0, Value.int 0, Value.ref tp_22, Value.ref nm_23, Value.ref dr_24, Value.int 0, Value.int 0, Value.int 0, Value.int 0, Value.int 0, Value.long 0, Value.int 0, Value.int 0])), (tp_22, .inl (kt_32, 900, .inl (fun _ => 0))), (dr_24, .inr (0, [Value.int 0, Value.int 0, Value.int 0, Value.int 0, Value.int 0, Value.int 0, Value.int 0, Value.int 0, Value.int 0, Value.int 0, Value.ref da_25, Value.ref db_26, Value.ref dc_27, Value.ref dd_28, Value.ref dw_29])), (dw_29, .inr (6, [Value.int 0, Value.int 0, Value.ref de_30, Value.ref df_31])), (da_25, .inl (ka_33, 9, .inl (fun _ => 0))), (db_26, .inl (kb_34, 9, .inl (fun _ => 0))), (z_4, .inr (5, [Value.int 0, Value.int 0, Value.int 0, Value.int 0, Value.int 0, Value.ref za_18, Value.ref zb_19])), (y_7, .inr (1, [Value.int 0, Value.int 0, Value.int 0, Value.ref ya_20, Value.ref yb_21]))] H := hP
  have hD : va_D A [(q_1, .inr (7, [Value.ref rd_3, Value.ref z_4, Value.ref ah_5, Value.ref tr_6, Value.ref y_7, Value.ref la_8, Value.ref ro_9, Value.ref h_10, Value.int 0, Value.int 0, Value.int (-1)])), (h_10, .inr (0, [Value.int 0, Value.int 0, Value.int 0, Value.int 0, Value.int 0, Value.int 0, Value.int 0, Value.int 0, Value.int 0, Value.int 0, Value.ref ha_11, Value.ref hb_12, Value.ref hc_13, Value.ref hd_14, Value.ref w_15])), (w_15, .inr (6, [Value.int 0, Value.int 0, Value.ref he_16, Value.ref hf_17])), (rd_3, .inr (3, [Value.int 0, Value.int 0, Value.int 0, Value.ref tp_22, Value.ref nm_23, Value.ref dr_24, Value.int 0, Value.int 0, Value.int 0, Value.int 0, Value.int 0, Value.long 0, Value.int 0, Value.int 0])), (tp_22, .inl (kt_32, 900, .inl (fun _ => 0))), (dr_24, .inr (0, [Value.int 0, Value.int 0, Value.int 0, Value.int 0, Value.int 0, Value.int 0, Value.int 0, Value.int 0, Value.int 0, Value.int 0, Value.ref da_25, Value.ref db_26, Value.ref dc_27, Value.ref dd_28, Value.ref dw_29])), (dw_29, .inr (6, [Value.int 0, Value.int 0, Value.ref de_30, Value.ref df_31])), (da_25, .inl (ka_33, 9, .inl (fun _ => 0))), (db_26, .inl (kb_34, 9, .inl (fun _ => 0))), (z_4, .inr (5, [Value.int 0, Value.int 0, Value.int 0, Value.int 0, Value.int 0, Value.ref za_18, Value.ref zb_19])), (y_7, .inr (1, [Value.int 0, Value.int 0, Value.int 0, Value.ref ya_20, Value.ref yb_21]))] := hD
  have hK : va_K (dC, dI) vwCl [(kt_32, .byte), (ka_33, .int), (kb_34, .int)] s := hK
  refine W.widen (k := 95) (n := 3855) (Nat.le_of_ble_eq_true rfl) (Nat.le_of_ble_eq_true rfl) ?_
  refine lv_astore_n (lv' := [(1, .ref q_1), (0, .ref b)]) hx hb dL_law_7 rfl hl (by decide) rfl (fun ls hl => ?_)
  refine va_new (ci := 8) (fs := [.int 0, .null, .int 0, .int 0, .int 0, .int 0, .int 0, .int 0, .int 0, .int 0, .int 0, .int 0, .null, .int 0, .int 0, .null, .null, .null, .null, .null, .null, .int 0, .int 0, .null, .null, .int 0, .int 0, .int 0, .int 0, .null, .int 0, .int 0, .null, .null, .null, .null, .int 0, .int 0, .int 0, .int 0]) (C := RX8) (T := TX8) (N := 40) hx hb hts inlX8 tyX8 tyX8_ok hown (hts (.classLink RL 16 RX8) (wl_at (i := 0) (j := 3) (by decide +kernel))) (hts (.instantiable RX8 40) (wl_at (i := 0) (j := 4) (by decide +kernel))) (hts (.initialized RX8) (wl_at (i := 0) (j := 5) (by decide +kernel))) hK hP hD hS hA rfl (dfX8) (Nat.le_of_ble_eq_true rfl) (Nat.le_of_ble_eq_true rfl) dL_law_8 (fun q_35 H hP hD hS => ?_)
  have hP : va_P (dC, dI) vwCl [(q_1, .inr (7, [Value.ref rd_3, Value.ref z_4, Value.ref ah_5, Value.ref tr_6, Value.ref y_7, Value.ref la_8, Value.ref ro_9, Value.ref h_10, Value.int 0, Value.int 0, Value.int (-1)])), (h_10, .inr (0, [Value.int 0, Value.int 0, Value.int 0, Value.int 0, Value.int 0, Value.int 0, Value.int 0, Value.int 0, Value.int 0, Value.int 0, Value.ref ha_11, Value.ref hb_12, Value.ref hc_13, Value.ref hd_14, Value.ref w_15])), (w_15, .inr (6, [Value.int 0, Value.int 0, Value.ref he_16, Value.ref hf_17])), (rd_3, .inr (3, [Value.int 0, Value.int 0, Value.int 0, Value.ref tp_22, Value.ref nm_23, Value.ref dr_24, Value.int 0, Value.int 0, Value.int 0, Value.int 0, Value.int 0, Value.long 0, Value.int 0, Value.int 0])), (tp_22, .inl (kt_32, 900, .inl (fun _ => 0))), (dr_24, .inr (0, [Value.int 0, Value.int 0, Value.int 0, Value.int 0, Value.int 0, Value.int 0, Value.int 0, Value.int 0, Value.int 0, Value.int 0, Value.ref da_25, Value.ref db_26, Value.ref dc_27, Value.ref dd_28, Value.ref dw_29])), (dw_29, .inr (6, [Value.int 0, Value.int 0, Value.ref de_30, Value.ref df_31])), (da_25, .inl (ka_33, 9, .inl (fun _ => 0))), (db_26, .inl (kb_34, 9, .inl (fun _ => 0))), (z_4, .inr (5, [Value.int 0, Value.int 0, Value.int 0, Value.int 0, Value.int 0, Value.ref za_18, Value.ref zb_19])), (y_7, .inr (1, [Value.int 0, Value.int 0, Value.int 0, Value.ref ya_20, Value.ref yb_21])), (q_35, .inr (8, [Value.int 0, Value.null, Value.int 0, Value.int 0, Value.int 0, Value.int 0, Value.int 0, Value.int 0, Value.int 0, Value.int 0, Value.int 0, Value.int 0, Value.null, Value.int 0, Value.int 0, Value.null, Value.null, Value.null, Value.null, Value.null, Value.null, Value.int 0, Value.int 0, Value.null, Value.null, Value.int 0, Value.int 0, Value.int 0, Value.int 0, Value.null, Value.int 0, Value.int 0, Value.null, Value.null, Value.null, Value.null, Value.int 0, Value.int 0, Value.int 0, Value.int 0]))] H := hP
  have hD : va_D A [(q_1, .inr (7, [Value.ref rd_3, Value.ref z_4, Value.ref ah_5, Value.ref tr_6, Value.ref y_7, Value.ref la_8, Value.ref ro_9, Value.ref h_10, Value.int 0, Value.int 0, Value.int (-1)])), (h_10, .inr (0, [Value.int 0, Value.int 0, Value.int 0, Value.int 0, Value.int 0, Value.int 0, Value.int 0, Value.int 0, Value.int 0, Value.int 0, Value.ref ha_11, Value.ref hb_12, Value.ref hc_13, Value.ref hd_14, Value.ref w_15])), (w_15, .inr (6, [Value.int 0, Value.int 0, Value.ref he_16, Value.ref hf_17])), (rd_3, .inr (3, [Value.int 0, Value.int 0, Value.int 0, Value.ref tp_22, Value.ref nm_23, Value.ref dr_24, Value.int 0, Value.int 0, Value.int 0, Value.int 0, Value.int 0, Value.long 0, Value.int 0, Value.int 0])), (tp_22, .inl (kt_32, 900, .inl (fun _ => 0))), (dr_24, .inr (0, [Value.int 0, Value.int 0, Value.int 0, Value.int 0, Value.int 0, Value.int 0, Value.int 0, Value.int 0, Value.int 0, Value.int 0, Value.ref da_25, Value.ref db_26, Value.ref dc_27, Value.ref dd_28, Value.ref dw_29])), (dw_29, .inr (6, [Value.int 0, Value.int 0, Value.ref de_30, Value.ref df_31])), (da_25, .inl (ka_33, 9, .inl (fun _ => 0))), (db_26, .inl (kb_34, 9, .inl (fun _ => 0))), (z_4, .inr (5, [Value.int 0, Value.int 0, Value.int 0, Value.int 0, Value.int 0, Value.ref za_18, Value.ref zb_19])), (y_7, .inr (1, [Value.int 0, Value.int 0, Value.int 0, Value.ref ya_20, Value.ref yb_21])), (q_35, .inr (8, [Value.int 0, Value.null, Value.int 0, Value.int 0, Value.int 0, Value.int 0, Value.int 0, Value.int 0, Value.int 0, Value.int 0, Value.int 0, Value.int 0, Value.null, Value.int 0, Value.int 0, Value.null, Value.null, Value.null, Value.null, Value.null, Value.null, Value.int 0, Value.int 0, Value.null, Value.null, Value.int 0, Value.int 0, Value.int 0, Value.int 0, Value.null, Value.int 0, Value.int 0, Value.null, Value.null, Value.null, Value.null, Value.int 0, Value.int 0, Value.int 0, Value.int 0]))] := hD
  refine W.widen (k := 96) (n := 3895) (Nat.le_of_ble_eq_true rfl) (Nat.le_of_ble_eq_true rfl) ?_
  refine lv_dup hx hb dL_law_11 rfl ?_
  have hPc := hP.sub (ws' := [(q_35, .inr (8, [Value.int 0, Value.null, Value.int 0, Value.int 0, Value.int 0, Value.int 0, Value.int 0, Value.int 0, Value.int 0, Value.int 0, Value.int 0, Value.int 0, Value.null, Value.int 0, Value.int 0, Value.null, Value.null, Value.null, Value.null, Value.null, Value.null, Value.int 0, Value.int 0, Value.null, Value.null, Value.int 0, Value.int 0, Value.int 0, Value.int 0, Value.null, Value.int 0, Value.int 0, Value.null, Value.null, Value.null, Value.null, Value.int 0, Value.int 0, Value.int 0, Value.int 0]))]) [11] rfl
  have hDc := hD.sub (ws' := [(q_35, .inr (8, [Value.int 0, Value.null, Value.int 0, Value.int 0, Value.int 0, Value.int 0, Value.int 0, Value.int 0, Value.int 0, Value.int 0, Value.int 0, Value.int 0, Value.null, Value.int 0, Value.int 0, Value.null, Value.null, Value.null, Value.null, Value.null, Value.null, Value.int 0, Value.int 0, Value.null, Value.null, Value.int 0, Value.int 0, Value.int 0, Value.int 0, Value.null, Value.int 0, Value.int 0, Value.null, Value.null, Value.null, Value.null, Value.int 0, Value.int 0, Value.int 0, Value.int 0]))]) [11] (by decide) rfl
  have hKc := hK.sub (tys' := []) [] rfl
  have hFc := va_free (wc := [(q_35, .inr (8, [Value.int 0, Value.null, Value.int 0, Value.int 0, Value.int 0, Value.int 0, Value.int 0, Value.int 0, Value.int 0, Value.int 0, Value.int 0, Value.int 0, Value.null, Value.int 0, Value.int 0, Value.null, Value.null, Value.null, Value.null, Value.null, Value.null, Value.int 0, Value.int 0, Value.null, Value.null, Value.int 0, Value.int 0, Value.int 0, Value.int 0, Value.null, Value.int 0, Value.int 0, Value.null, Value.null, Value.null, Value.null, Value.int 0, Value.int 0, Value.int 0, Value.int 0]))]) hD hS hA [11] rfl
  refine va_callv (va_runI (As := []) (rest := [.ref q_35]) ⟨hx, hb, hml, hown, hts⟩ (c_X8_init l dC dI H.size q_35 ) (cwI 0 hts gd_X8_init rfl rfl rfl (hts (.initialized RX8) (wl_at (i := 0) (j := 5) (by decide +kernel))) (hts (.methodLink RL 18 yX8_init) (wl_at (i := 4) (j := 3) (by decide +kernel))) (hts (.instanceMethod yX8_init) (wl_at (i := 4) (j := 4) (by decide +kernel))) rfl (by decide +kernel) ⟨Nat.le_of_ble_eq_true rfl, Nat.le_of_ble_eq_true rfl⟩) ⟨ax_blind (fun _ _ _ _ _ => trivial), ax_pre hPc hKc hDc (fun _ _ => trivial)⟩ rfl rfl hl.1 rfl (lv_room (Nat.le_of_ble_eq_true rfl)) dL_law_12 ⟨Nat.le_of_ble_eq_true rfl, Nat.le_of_ble_eq_true rfl⟩) hS (fun q _ h => hFc q h) hFc (fun u t H1 locs ht hvm hw hB hz1 hk1 hS => ?_)
  obtain ⟨m1_37, m12_38, m15_39, m16_40, m17_41, m18_42, m19_43, m20_44, m23_45, m24_46, m29_47, m32_48, m33_49, m34_50, m35_51, kt_52, kf_53, hP1, hK1, hD1⟩ := hB
  rw [ht] at hP1
  have hK1 := va_K.moved hvm.symm hK1
  obtain ⟨hP, hD⟩ := va_join (wr := [(q_1, .inr (7, [Value.ref rd_3, Value.ref z_4, Value.ref ah_5, Value.ref tr_6, Value.ref y_7, Value.ref la_8, Value.ref ro_9, Value.ref h_10, Value.int 0, Value.int 0, Value.int (-1)])), (h_10, .inr (0, [Value.int 0, Value.int 0, Value.int 0, Value.int 0, Value.int 0, Value.int 0, Value.int 0, Value.int 0, Value.int 0, Value.int 0, Value.ref ha_11, Value.ref hb_12, Value.ref hc_13, Value.ref hd_14, Value.ref w_15])), (w_15, .inr (6, [Value.int 0, Value.int 0, Value.ref he_16, Value.ref hf_17])), (rd_3, .inr (3, [Value.int 0, Value.int 0, Value.int 0, Value.ref tp_22, Value.ref nm_23, Value.ref dr_24, Value.int 0, Value.int 0, Value.int 0, Value.int 0, Value.int 0, Value.long 0, Value.int 0, Value.int 0])), (tp_22, .inl (kt_32, 900, .inl (fun _ => 0))), (dr_24, .inr (0, [Value.int 0, Value.int 0, Value.int 0, Value.int 0, Value.int 0, Value.int 0, Value.int 0, Value.int 0, Value.int 0, Value.int 0, Value.ref da_25, Value.ref db_26, Value.ref dc_27, Value.ref dd_28, Value.ref dw_29])), (dw_29, .inr (6, [Value.int 0, Value.int 0, Value.ref de_30, Value.ref df_31])), (da_25, .inl (ka_33, 9, .inl (fun _ => 0))), (db_26, .inl (kb_34, 9, .inl (fun _ => 0))), (z_4, .inr (5, [Value.int 0, Value.int 0, Value.int 0, Value.int 0, Value.int 0, Value.ref za_18, Value.ref zb_19])), (y_7, .inr (1, [Value.int 0, Value.int 0, Value.int 0, Value.ref ya_20, Value.ref yb_21]))]) (w1 := [(q_35, .inr (8, [Value.int 0, Value.ref m1_37, Value.int 0, Value.int 0, Value.int 0, Value.int 0, Value.int 0, Value.int 0, Value.int 0, Value.int 0, Value.int (-1), Value.int 0, Value.ref m12_38, Value.int 0, Value.int 0, Value.ref m15_39, Value.ref m16_40, Value.ref m17_41, Value.ref m18_42, Value.ref m19_43, Value.ref m20_44, Value.int 0, Value.int 0, Value.ref m23_45, Value.ref m24_46, Value.int 0, Value.int 0, Value.int 0, Value.int 0, Value.ref m29_47, Value.int 0, Value.int 0, Value.ref m32_48, Value.ref m33_49, Value.ref m34_50, Value.ref m35_51, Value.int 0, Value.int 0, Value.int 0, Value.int 0])), (m1_37, .inl (kt_52, 900, .inl (fun _ => 0))), (m16_40, .inl (kf_53, 156, .inl (fun _ => 0)))]) hP hD [11] [0, 1, 2, 3, 4, 5, 6, 7, 8, 9, 10] rfl rfl (by decide) (by decide) hk1 hFc hP1 hD1
  have hK := (hK.sub (tys' := [(kt_32, .byte), (ka_33, .int), (kb_34, .int)]) [0, 1, 2] rfl).app hK1
  generalize H1 = H at hP hS ⊢
  have hP : va_P (dC, dI) vwCl [(q_1, .inr (7, [Value.ref rd_3, Value.ref z_4, Value.ref ah_5, Value.ref tr_6, Value.ref y_7, Value.ref la_8, Value.ref ro_9, Value.ref h_10, Value.int 0, Value.int 0, Value.int (-1)])), (h_10, .inr (0, [Value.int 0, Value.int 0, Value.int 0, Value.int 0, Value.int 0, Value.int 0, Value.int 0, Value.int 0, Value.int 0, Value.int 0, Value.ref ha_11, Value.ref hb_12, Value.ref hc_13, Value.ref hd_14, Value.ref w_15])), (w_15, .inr (6, [Value.int 0, Value.int 0, Value.ref he_16, Value.ref hf_17])), (rd_3, .inr (3, [Value.int 0, Value.int 0, Value.int 0, Value.ref tp_22, Value.ref nm_23, Value.ref dr_24, Value.int 0, Value.int 0, Value.int 0, Value.int 0, Value.int 0, Value.long 0, Value.int 0, Value.int 0])), (tp_22, .inl (kt_32, 900, .inl (fun _ => 0))), (dr_24, .inr (0, [Value.int 0, Value.int 0, Value.int 0, Value.int 0, Value.int 0, Value.int 0, Value.int 0, Value.int 0, Value.int 0, Value.int 0, Value.ref da_25, Value.ref db_26, Value.ref dc_27, Value.ref dd_28, Value.ref dw_29])), (dw_29, .inr (6, [Value.int 0, Value.int 0, Value.ref de_30, Value.ref df_31])), (da_25, .inl (ka_33, 9, .inl (fun _ => 0))), (db_26, .inl (kb_34, 9, .inl (fun _ => 0))), (z_4, .inr (5, [Value.int 0, Value.int 0, Value.int 0, Value.int 0, Value.int 0, Value.ref za_18, Value.ref zb_19])), (y_7, .inr (1, [Value.int 0, Value.int 0, Value.int 0, Value.ref ya_20, Value.ref yb_21])), (q_35, .inr (8, [Value.int 0, Value.ref m1_37, Value.int 0, Value.int 0, Value.int 0, Value.int 0, Value.int 0, Value.int 0, Value.int 0, Value.int 0, Value.int (-1), Value.int 0, Value.ref m12_38, Value.int 0, Value.int 0, Value.ref m15_39, Value.ref m16_40, Value.ref m17_41, Value.ref m18_42, Value.ref m19_43, Value.ref m20_44, Value.int 0, Value.int 0, Value.ref m23_45, Value.ref m24_46, Value.int 0, Value.int 0, Value.int 0, Value.int 0, Value.ref m29_47, Value.int 0, Value.int 0, Value.ref m32_48, Value.ref m33_49, Value.ref m34_50, Value.ref m35_51, Value.int 0, Value.int 0, Value.int 0, Value.int 0])), (m1_37, .inl (kt_52, 900, .inl (fun _ => 0))), (m16_40, .inl (kf_53, 156, .inl (fun _ => 0)))] H := hP
  have hD : va_D A [(q_1, .inr (7, [Value.ref rd_3, Value.ref z_4, Value.ref ah_5, Value.ref tr_6, Value.ref y_7, Value.ref la_8, Value.ref ro_9, Value.ref h_10, Value.int 0, Value.int 0, Value.int (-1)])), (h_10, .inr (0, [Value.int 0, Value.int 0, Value.int 0, Value.int 0, Value.int 0, Value.int 0, Value.int 0, Value.int 0, Value.int 0, Value.int 0, Value.ref ha_11, Value.ref hb_12, Value.ref hc_13, Value.ref hd_14, Value.ref w_15])), (w_15, .inr (6, [Value.int 0, Value.int 0, Value.ref he_16, Value.ref hf_17])), (rd_3, .inr (3, [Value.int 0, Value.int 0, Value.int 0, Value.ref tp_22, Value.ref nm_23, Value.ref dr_24, Value.int 0, Value.int 0, Value.int 0, Value.int 0, Value.int 0, Value.long 0, Value.int 0, Value.int 0])), (tp_22, .inl (kt_32, 900, .inl (fun _ => 0))), (dr_24, .inr (0, [Value.int 0, Value.int 0, Value.int 0, Value.int 0, Value.int 0, Value.int 0, Value.int 0, Value.int 0, Value.int 0, Value.int 0, Value.ref da_25, Value.ref db_26, Value.ref dc_27, Value.ref dd_28, Value.ref dw_29])), (dw_29, .inr (6, [Value.int 0, Value.int 0, Value.ref de_30, Value.ref df_31])), (da_25, .inl (ka_33, 9, .inl (fun _ => 0))), (db_26, .inl (kb_34, 9, .inl (fun _ => 0))), (z_4, .inr (5, [Value.int 0, Value.int 0, Value.int 0, Value.int 0, Value.int 0, Value.ref za_18, Value.ref zb_19])), (y_7, .inr (1, [Value.int 0, Value.int 0, Value.int 0, Value.ref ya_20, Value.ref yb_21])), (q_35, .inr (8, [Value.int 0, Value.ref m1_37, Value.int 0, Value.int 0, Value.int 0, Value.int 0, Value.int 0, Value.int 0, Value.int 0, Value.int 0, Value.int (-1), Value.int 0, Value.ref m12_38, Value.int 0, Value.int 0, Value.ref m15_39, Value.ref m16_40, Value.ref m17_41, Value.ref m18_42, Value.ref m19_43, Value.ref m20_44, Value.int 0, Value.int 0, Value.ref m23_45, Value.ref m24_46, Value.int 0, Value.int 0, Value.int 0, Value.int 0, Value.ref m29_47, Value.int 0, Value.int 0, Value.ref m32_48, Value.ref m33_49, Value.ref m34_50, Value.ref m35_51, Value.int 0, Value.int 0, Value.int 0, Value.int 0])), (m1_37, .inl (kt_52, 900, .inl (fun _ => 0))), (m16_40, .inl (kf_53, 156, .inl (fun _ => 0)))] := hD
  have hK : va_K (dC, dI) vwCl [(kt_32, .byte), (ka_33, .int), (kb_34, .int), (kt_52, .int), (kf_53, .int)] s := hK
  refine W.widen (k := 111) (n := 6313) (Nat.le_of_ble_eq_true rfl) (Nat.le_of_ble_eq_true rfl) ?_
  refine lv_astore_n (lv' := [(2, .ref q_35), (1, .ref q_1), (0, .ref b)]) hx hb dL_law_15 rfl hl (by decide) rfl (fun ls hl => ?_)
  refine lv_iconst (v := 1) hx hb dL_law_16 (by decide) ?_
  refine va_newa (atype := .long) (ty := .long) (N' := 1) (a0 := (1, .inr (.inl (fun _ => 0)))) hx hb (hts (.arrayClass .long) (wl_at (i := 0) (j := 6) (by decide +kernel))) rfl hK hP hD hS hA (fun _ => rfl) (by decide +kernel) (by decide +kernel) (Nat.le_of_ble_eq_true rfl) (Nat.le_of_ble_eq_true rfl) (Nat.le_of_ble_eq_true rfl) dL_law_17 (fun q_54 k_55 H hK hP hD hS => ?_)
  have hP : va_P (dC, dI) vwCl [(q_1, .inr (7, [Value.ref rd_3, Value.ref z_4, Value.ref ah_5, Value.ref tr_6, Value.ref y_7, Value.ref la_8, Value.ref ro_9, Value.ref h_10, Value.int 0, Value.int 0, Value.int (-1)])), (h_10, .inr (0, [Value.int 0, Value.int 0, Value.int 0, Value.int 0, Value.int 0, Value.int 0, Value.int 0, Value.int 0, Value.int 0, Value.int 0, Value.ref ha_11, Value.ref hb_12, Value.ref hc_13, Value.ref hd_14, Value.ref w_15])), (w_15, .inr (6, [Value.int 0, Value.int 0, Value.ref he_16, Value.ref hf_17])), (rd_3, .inr (3, [Value.int 0, Value.int 0, Value.int 0, Value.ref tp_22, Value.ref nm_23, Value.ref dr_24, Value.int 0, Value.int 0, Value.int 0, Value.int 0, Value.int 0, Value.long 0, Value.int 0, Value.int 0])), (tp_22, .inl (kt_32, 900, .inl (fun _ => 0))), (dr_24, .inr (0, [Value.int 0, Value.int 0, Value.int 0, Value.int 0, Value.int 0, Value.int 0, Value.int 0, Value.int 0, Value.int 0, Value.int 0, Value.ref da_25, Value.ref db_26, Value.ref dc_27, Value.ref dd_28, Value.ref dw_29])), (dw_29, .inr (6, [Value.int 0, Value.int 0, Value.ref de_30, Value.ref df_31])), (da_25, .inl (ka_33, 9, .inl (fun _ => 0))), (db_26, .inl (kb_34, 9, .inl (fun _ => 0))), (z_4, .inr (5, [Value.int 0, Value.int 0, Value.int 0, Value.int 0, Value.int 0, Value.ref za_18, Value.ref zb_19])), (y_7, .inr (1, [Value.int 0, Value.int 0, Value.int 0, Value.ref ya_20, Value.ref yb_21])), (q_35, .inr (8, [Value.int 0, Value.ref m1_37, Value.int 0, Value.int 0, Value.int 0, Value.int 0, Value.int 0, Value.int 0, Value.int 0, Value.int 0, Value.int (-1), Value.int 0, Value.ref m12_38, Value.int 0, Value.int 0, Value.ref m15_39, Value.ref m16_40, Value.ref m17_41, Value.ref m18_42, Value.ref m19_43, Value.ref m20_44, Value.int 0, Value.int 0, Value.ref m23_45, Value.ref m24_46, Value.int 0, Value.int 0, Value.int 0, Value.int 0, Value.ref m29_47, Value.int 0, Value.int 0, Value.ref m32_48, Value.ref m33_49, Value.ref m34_50, Value.ref m35_51, Value.int 0, Value.int 0, Value.int 0, Value.int 0])), (m1_37, .inl (kt_52, 900, .inl (fun _ => 0))), (m16_40, .inl (kf_53, 156, .inl (fun _ => 0))), (q_54, .inl (k_55, 1, .inr (.inl (fun _ => 0))))] H := hP
  have hD : va_D A [(q_1, .inr (7, [Value.ref rd_3, Value.ref z_4, Value.ref ah_5, Value.ref tr_6, Value.ref y_7, Value.ref la_8, Value.ref ro_9, Value.ref h_10, Value.int 0, Value.int 0, Value.int (-1)])), (h_10, .inr (0, [Value.int 0, Value.int 0, Value.int 0, Value.int 0, Value.int 0, Value.int 0, Value.int 0, Value.int 0, Value.int 0, Value.int 0, Value.ref ha_11, Value.ref hb_12, Value.ref hc_13, Value.ref hd_14, Value.ref w_15])), (w_15, .inr (6, [Value.int 0, Value.int 0, Value.ref he_16, Value.ref hf_17])), (rd_3, .inr (3, [Value.int 0, Value.int 0, Value.int 0, Value.ref tp_22, Value.ref nm_23, Value.ref dr_24, Value.int 0, Value.int 0, Value.int 0, Value.int 0, Value.int 0, Value.long 0, Value.int 0, Value.int 0])), (tp_22, .inl (kt_32, 900, .inl (fun _ => 0))), (dr_24, .inr (0, [Value.int 0, Value.int 0, Value.int 0, Value.int 0, Value.int 0, Value.int 0, Value.int 0, Value.int 0, Value.int 0, Value.int 0, Value.ref da_25, Value.ref db_26, Value.ref dc_27, Value.ref dd_28, Value.ref dw_29])), (dw_29, .inr (6, [Value.int 0, Value.int 0, Value.ref de_30, Value.ref df_31])), (da_25, .inl (ka_33, 9, .inl (fun _ => 0))), (db_26, .inl (kb_34, 9, .inl (fun _ => 0))), (z_4, .inr (5, [Value.int 0, Value.int 0, Value.int 0, Value.int 0, Value.int 0, Value.ref za_18, Value.ref zb_19])), (y_7, .inr (1, [Value.int 0, Value.int 0, Value.int 0, Value.ref ya_20, Value.ref yb_21])), (q_35, .inr (8, [Value.int 0, Value.ref m1_37, Value.int 0, Value.int 0, Value.int 0, Value.int 0, Value.int 0, Value.int 0, Value.int 0, Value.int 0, Value.int (-1), Value.int 0, Value.ref m12_38, Value.int 0, Value.int 0, Value.ref m15_39, Value.ref m16_40, Value.ref m17_41, Value.ref m18_42, Value.ref m19_43, Value.ref m20_44, Value.int 0, Value.int 0, Value.ref m23_45, Value.ref m24_46, Value.int 0, Value.int 0, Value.int 0, Value.int 0, Value.ref m29_47, Value.int 0, Value.int 0, Value.ref m32_48, Value.ref m33_49, Value.ref m34_50, Value.ref m35_51, Value.int 0, Value.int 0, Value.int 0, Value.int 0])), (m1_37, .inl (kt_52, 900, .inl (fun _ => 0))), (m16_40, .inl (kf_53, 156, .inl (fun _ => 0))), (q_54, .inl (k_55, 1, .inr (.inl (fun _ => 0))))] := hD
  have hK : va_K (dC, dI) vwCl [(kt_32, .byte), (ka_33, .int), (kb_34, .int), (kt_52, .int), (kf_53, .int), (k_55, .long)] s := hK
  refine W.widen (k := 112) (n := 6314) (Nat.le_of_ble_eq_true rfl) (Nat.le_of_ble_eq_true rfl) ?_
  refine lv_astore_n (lv' := [(3, .ref q_54), (2, .ref q_35), (1, .ref q_1), (0, .ref b)]) hx hb dL_law_19 rfl hl (by decide) rfl (fun ls hl => ?_)
  refine lv_iconst (v := 0) hx hb dL_law_20 (by decide) ?_
  refine lv_istore (lv' := [(4, .int 0), (3, .ref q_54), (2, .ref q_35), (1, .ref q_1), (0, .ref b)]) hx hb dL_law_21 hl (by decide) rfl (fun ls hl => ?_)
  rcases (show L = 0 ∨ L = 1 ∨ L = 2 ∨ L = 3 ∨ L = 4 ∨ L = 5 ∨ L = 6 by omega) with rfl | rfl | rfl | rfl | rfl | rfl | rfl
  · refine lv_iload hx hb dL_law_23 (lv_at hl 0 rfl) ?_
    refine lv_aload_n hx hb dL_law_25 rfl (lv_at hl 4 rfl) ?_
    refine va_slen hx hb hX hbl hbA hS dL_law_26 ?_
    refine ax_ti 0 (by decide +kernel) ?_
    refine lv_bipush (v := 6) hx hb dL_law_27 (by decide) ?_
    refine lv_isub hx hb dL_law_29 ?_
    refine ax_ti (-6) (by decide +kernel) ?_
    refine lv_icmp_gt (tgt := 1977) hx hb dL_law_30 (by decide) (fun _ => ?_) (fun c_56 => absurd (by decide +kernel) c_56)
    refine lv_iconst (v := 1) hx hb dL_law_1977 (by decide) ?_
    refine va_forget (fun q hq => hA2 _ (hS.2.2 q hq)) ?_
    refine W.widen (k := 600002) (n := 7302232) (Nat.le_of_ble_eq_true rfl) (Nat.le_of_ble_eq_true rfl) ?_
    exact lw_ret hx hb hr hlocks dL_law_1978
  · refine lv_iload hx hb dL_law_23 (lv_at hl 0 rfl) ?_
    refine lv_aload_n hx hb dL_law_25 rfl (lv_at hl 4 rfl) ?_
    refine va_slen hx hb hX hbl hbA hS dL_law_26 ?_
    refine ax_ti 1 (by decide +kernel) ?_
    refine lv_bipush (v := 6) hx hb dL_law_27 (by decide) ?_
    refine lv_isub hx hb dL_law_29 ?_
    refine ax_ti (-5) (by decide +kernel) ?_
    refine lv_icmp_gt (tgt := 1977) hx hb dL_law_30 (by decide) (fun _ => ?_) (fun c_57 => absurd (by decide +kernel) c_57)
    refine lv_iconst (v := 1) hx hb dL_law_1977 (by decide) ?_
    refine va_forget (fun q hq => hA2 _ (hS.2.2 q hq)) ?_
    refine W.widen (k := 600002) (n := 7302232) (Nat.le_of_ble_eq_true rfl) (Nat.le_of_ble_eq_true rfl) ?_
    exact lw_ret hx hb hr hlocks dL_law_1978
  · refine lv_iload hx hb dL_law_23 (lv_at hl 0 rfl) ?_
    refine lv_aload_n hx hb dL_law_25 rfl (lv_at hl 4 rfl) ?_
    refine va_slen hx hb hX hbl hbA hS dL_law_26 ?_
    refine ax_ti 2 (by decide +kernel) ?_
    refine lv_bipush (v := 6) hx hb dL_law_27 (by decide) ?_
    refine lv_isub hx hb dL_law_29 ?_
    refine ax_ti (-4) (by decide +kernel) ?_
    refine lv_icmp_gt (tgt := 1977) hx hb dL_law_30 (by decide) (fun _ => ?_) (fun c_58 => absurd (by decide +kernel) c_58)
    refine lv_iconst (v := 1) hx hb dL_law_1977 (by decide) ?_
    refine va_forget (fun q hq => hA2 _ (hS.2.2 q hq)) ?_
    refine W.widen (k := 600002) (n := 7302232) (Nat.le_of_ble_eq_true rfl) (Nat.le_of_ble_eq_true rfl) ?_
    exact lw_ret hx hb hr hlocks dL_law_1978
  · refine lv_iload hx hb dL_law_23 (lv_at hl 0 rfl) ?_
    refine lv_aload_n hx hb dL_law_25 rfl (lv_at hl 4 rfl) ?_
    refine va_slen hx hb hX hbl hbA hS dL_law_26 ?_
    refine ax_ti 3 (by decide +kernel) ?_
    refine lv_bipush (v := 6) hx hb dL_law_27 (by decide) ?_
    refine lv_isub hx hb dL_law_29 ?_
    refine ax_ti (-3) (by decide +kernel) ?_
    refine lv_icmp_gt (tgt := 1977) hx hb dL_law_30 (by decide) (fun _ => ?_) (fun c_59 => absurd (by decide +kernel) c_59)
    refine lv_iconst (v := 1) hx hb dL_law_1977 (by decide) ?_
    refine va_forget (fun q hq => hA2 _ (hS.2.2 q hq)) ?_
    refine W.widen (k := 600002) (n := 7302232) (Nat.le_of_ble_eq_true rfl) (Nat.le_of_ble_eq_true rfl) ?_
    exact lw_ret hx hb hr hlocks dL_law_1978
  · refine lv_iload hx hb dL_law_23 (lv_at hl 0 rfl) ?_
    refine lv_aload_n hx hb dL_law_25 rfl (lv_at hl 4 rfl) ?_
    refine va_slen hx hb hX hbl hbA hS dL_law_26 ?_
    refine ax_ti 4 (by decide +kernel) ?_
    refine lv_bipush (v := 6) hx hb dL_law_27 (by decide) ?_
    refine lv_isub hx hb dL_law_29 ?_
    refine ax_ti (-2) (by decide +kernel) ?_
    refine lv_icmp_gt (tgt := 1977) hx hb dL_law_30 (by decide) (fun _ => ?_) (fun c_60 => absurd (by decide +kernel) c_60)
    refine lv_iconst (v := 1) hx hb dL_law_1977 (by decide) ?_
    refine va_forget (fun q hq => hA2 _ (hS.2.2 q hq)) ?_
    refine W.widen (k := 600002) (n := 7302232) (Nat.le_of_ble_eq_true rfl) (Nat.le_of_ble_eq_true rfl) ?_
    exact lw_ret hx hb hr hlocks dL_law_1978
  · refine lv_iload hx hb dL_law_23 (lv_at hl 0 rfl) ?_
    refine lv_aload_n hx hb dL_law_25 rfl (lv_at hl 4 rfl) ?_
    refine va_slen hx hb hX hbl hbA hS dL_law_26 ?_
    refine ax_ti 5 (by decide +kernel) ?_
    refine lv_bipush (v := 6) hx hb dL_law_27 (by decide) ?_
    refine lv_isub hx hb dL_law_29 ?_
    refine ax_ti (-1) (by decide +kernel) ?_
    refine lv_icmp_gt (tgt := 1977) hx hb dL_law_30 (by decide) (fun _ => ?_) (fun c_61 => absurd (by decide +kernel) c_61)
    refine lv_iconst (v := 1) hx hb dL_law_1977 (by decide) ?_
    refine va_forget (fun q hq => hA2 _ (hS.2.2 q hq)) ?_
    refine W.widen (k := 600002) (n := 7302232) (Nat.le_of_ble_eq_true rfl) (Nat.le_of_ble_eq_true rfl) ?_
    exact lw_ret hx hb hr hlocks dL_law_1978
  · refine lv_iload hx hb dL_law_23 (lv_at hl 0 rfl) ?_
    refine lv_aload_n hx hb dL_law_25 rfl (lv_at hl 4 rfl) ?_
    refine va_slen hx hb hX hbl hbA hS dL_law_26 ?_
    refine ax_ti 6 (by decide +kernel) ?_
    refine lv_bipush (v := 6) hx hb dL_law_27 (by decide) ?_
    refine lv_isub hx hb dL_law_29 ?_
    refine ax_ti 0 (by decide +kernel) ?_
    refine lv_icmp_gt (tgt := 1977) hx hb dL_law_30 (by decide) (fun c_62 => absurd c_62 (by decide +kernel)) (fun _ => ?_)
    refine lv_aload_n hx hb dL_law_33 rfl (lv_at hl 4 rfl) ?_
    refine lv_iload hx hb dL_law_34 (lv_at hl 0 rfl) ?_
    refine va_sld (L := 6) (i := 0) hx hb hX hbl hbA hS (by unfold vp_in; decide +kernel) dL_law_36 ?_
    refine ax_ti (xs 0) (congrArg xs (by decide +kernel : (0 : Int32).toNatClampNeg = 0)) ?_
    refine lv_bipush (v := 63) hx hb dL_law_37 (by decide) ?_
    refine lv_iand hx hb dL_law_39 ?_
    refine lv_topi (fun x_63 ex_63 => ?_)
    by_cases n_64 : x_63 = 0
    · subst n_64
      refine lv_tableIn (off := 248) (tgt := 288) hx hb dL_law_40 (by decide) (by decide) (by decide +kernel) (by decide) ?_
      exact lc_0 (below := below) (e := e) (l := l) hl0 hA hA2 C0 q_1 h_10 w_15 rd_3 tp_22 dr_24 dw_29 da_25 db_26 z_4 y_7 q_35 m1_37 m16_40 q_54 ah_5 tr_6 la_8 ro_9 ha_11 hb_12 hc_13 hd_14 he_16 hf_17 nm_23 dc_27 dd_28 de_30 df_31 za_18 zb_19 ya_20 yb_21 m12_38 m15_39 m17_41 m18_42 m19_43 m20_44 m23_45 m24_46 m29_47 m32_48 m33_49 m34_50 m35_51 dC dI kt_32 ka_33 kb_34 kt_52 kf_53 k_55 s98 s110 s112 s114 s116 s128 s130 s132 s134 s136 sa hE0 hE1 hE2 hE3 hE4 hE5 hE6 hE7 hE8 hE9 hE10 hE11 hEL hK hP hD hS (lv_sub hl [0, 1, 2, 3, 4] rfl)
    by_cases n_65 : x_63 = 1
    · subst n_65
      refine lv_tableIn (off := 321) (tgt := 361) hx hb dL_law_40 (by decide) (by decide) (by decide +kernel) (by decide) ?_
      exact lc_1 (below := below) (e := e) (l := l) hl0 hA hA2 C0 q_1 h_10 w_15 rd_3 tp_22 dr_24 dw_29 da_25 db_26 z_4 y_7 q_35 m1_37 m16_40 q_54 ah_5 tr_6 la_8 ro_9 ha_11 hb_12 hc_13 hd_14 he_16 hf_17 nm_23 dc_27 dd_28 de_30 df_31 za_18 zb_19 ya_20 yb_21 m12_38 m15_39 m17_41 m18_42 m19_43 m20_44 m23_45 m24_46 m29_47 m32_48 m33_49 m34_50 m35_51 dC dI kt_32 ka_33 kb_34 kt_52 kf_53 k_55 s98 s110 s112 s114 s116 s128 s130 s132 s134 s136 sa hE0 hE1 hE2 hE3 hE4 hE5 hE6 hE7 hE8 hE9 hE10 hE11 hEL hK hP hD hS (lv_sub hl [0, 1, 2, 3, 4] rfl)
    by_cases n_66 : x_63 = 2
    · subst n_66
      refine lv_tableIn (off := 346) (tgt := 386) hx hb dL_law_40 (by decide) (by decide) (by decide +kernel) (by decide) ?_
      exact lc_2 (below := below) (e := e) (l := l) hl0 hA hA2 C0 q_1 h_10 w_15 rd_3 tp_22 dr_24 dw_29 da_25 db_26 z_4 y_7 q_35 m1_37 m16_40 q_54 ah_5 tr_6 la_8 ro_9 ha_11 hb_12 hc_13 hd_14 he_16 hf_17 nm_23 dc_27 dd_28 de_30 df_31 za_18 zb_19 ya_20 yb_21 m12_38 m15_39 m17_41 m18_42 m19_43 m20_44 m23_45 m24_46 m29_47 m32_48 m33_49 m34_50 m35_51 dC dI kt_32 ka_33 kb_34 kt_52 kf_53 k_55 s98 s110 s112 s114 s116 s128 s130 s132 s134 s136 sa hE0 hE1 hE2 hE3 hE4 hE5 hE6 hE7 hE8 hE9 hE10 hE11 hEL hK hP hD hS (lv_sub hl [0, 1, 2, 3, 4] rfl)
    by_cases n_67 : x_63 = 3
    · subst n_67
      refine lv_tableIn (off := 359) (tgt := 399) hx hb dL_law_40 (by decide) (by decide) (by decide +kernel) (by decide) ?_
      exact lc_3 (below := below) (e := e) (l := l) hl0 hA hA2 C0 q_1 h_10 w_15 rd_3 tp_22 dr_24 dw_29 da_25 db_26 z_4 y_7 q_35 m1_37 m16_40 q_54 ah_5 tr_6 la_8 ro_9 ha_11 hb_12 hc_13 hd_14 he_16 hf_17 nm_23 dc_27 dd_28 de_30 df_31 za_18 zb_19 ya_20 yb_21 m12_38 m15_39 m17_41 m18_42 m19_43 m20_44 m23_45 m24_46 m29_47 m32_48 m33_49 m34_50 m35_51 dC dI kt_32 ka_33 kb_34 kt_52 kf_53 k_55 s98 s110 s112 s114 s116 s128 s130 s132 s134 s136 sa hE0 hE1 hE2 hE3 hE4 hE5 hE6 hE7 hE8 hE9 hE10 hE11 hEL hK hP hD hS (lv_sub hl [0, 1, 2, 3, 4] rfl)
    by_cases n_68 : x_63 = 4
    · subst n_68
      refine lv_tableIn (off := 372) (tgt := 412) hx hb dL_law_40 (by decide) (by decide) (by decide +kernel) (by decide) ?_
      exact lc_4 (below := below) (e := e) (l := l) hl0 hA hA2 C0 q_1 h_10 w_15 rd_3 tp_22 dr_24 dw_29 da_25 db_26 z_4 y_7 q_35 m1_37 m16_40 q_54 ah_5 tr_6 la_8 ro_9 ha_11 hb_12 hc_13 hd_14 he_16 hf_17 nm_23 dc_27 dd_28 de_30 df_31 za_18 zb_19 ya_20 yb_21 m12_38 m15_39 m17_41 m18_42 m19_43 m20_44 m23_45 m24_46 m29_47 m32_48 m33_49 m34_50 m35_51 dC dI kt_32 ka_33 kb_34 kt_52 kf_53 k_55 s98 s110 s112 s114 s116 s128 s130 s132 s134 s136 sa hE0 hE1 hE2 hE3 hE4 hE5 hE6 hE7 hE8 hE9 hE10 hE11 hEL hK hP hD hS (lv_sub hl [0, 1, 2, 3, 4] rfl)
    by_cases n_69 : x_63 = 5
    · subst n_69
      refine lv_tableIn (off := 409) (tgt := 449) hx hb dL_law_40 (by decide) (by decide) (by decide +kernel) (by decide) ?_
      exact lc_5 (below := below) (e := e) (l := l) hl0 hA hA2 C0 q_1 h_10 w_15 rd_3 tp_22 dr_24 dw_29 da_25 db_26 z_4 y_7 q_35 m1_37 m16_40 q_54 ah_5 tr_6 la_8 ro_9 ha_11 hb_12 hc_13 hd_14 he_16 hf_17 nm_23 dc_27 dd_28 de_30 df_31 za_18 zb_19 ya_20 yb_21 m12_38 m15_39 m17_41 m18_42 m19_43 m20_44 m23_45 m24_46 m29_47 m32_48 m33_49 m34_50 m35_51 dC dI kt_32 ka_33 kb_34 kt_52 kf_53 k_55 s98 s110 s112 s114 s116 s128 s130 s132 s134 s136 sa hE0 hE1 hE2 hE3 hE4 hE5 hE6 hE7 hE8 hE9 hE10 hE11 hEL hK hP hD hS (lv_sub hl [0, 1, 2, 3, 4] rfl)
    by_cases n_70 : x_63 = 6
    · subst n_70
      refine lv_tableIn (off := 446) (tgt := 486) hx hb dL_law_40 (by decide) (by decide) (by decide +kernel) (by decide) ?_
      exact lc_6 (below := below) (e := e) (l := l) hl0 hA hA2 C0 q_1 h_10 w_15 rd_3 tp_22 dr_24 dw_29 da_25 db_26 z_4 y_7 q_35 m1_37 m16_40 q_54 ah_5 tr_6 la_8 ro_9 ha_11 hb_12 hc_13 hd_14 he_16 hf_17 nm_23 dc_27 dd_28 de_30 df_31 za_18 zb_19 ya_20 yb_21 m12_38 m15_39 m17_41 m18_42 m19_43 m20_44 m23_45 m24_46 m29_47 m32_48 m33_49 m34_50 m35_51 dC dI kt_32 ka_33 kb_34 kt_52 kf_53 k_55 s98 s110 s112 s114 s116 s128 s130 s132 s134 s136 sa hE0 hE1 hE2 hE3 hE4 hE5 hE6 hE7 hE8 hE9 hE10 hE11 hEL hK hP hD hS (lv_sub hl [0, 1, 2, 3, 4] rfl)
    by_cases n_71 : x_63 = 7
    · subst n_71
      refine lv_tableIn (off := 459) (tgt := 499) hx hb dL_law_40 (by decide) (by decide) (by decide +kernel) (by decide) ?_
      exact lc_7 (below := below) (e := e) (l := l) hl0 hA hA2 C0 q_1 h_10 w_15 rd_3 tp_22 dr_24 dw_29 da_25 db_26 z_4 y_7 q_35 m1_37 m16_40 q_54 ah_5 tr_6 la_8 ro_9 ha_11 hb_12 hc_13 hd_14 he_16 hf_17 nm_23 dc_27 dd_28 de_30 df_31 za_18 zb_19 ya_20 yb_21 m12_38 m15_39 m17_41 m18_42 m19_43 m20_44 m23_45 m24_46 m29_47 m32_48 m33_49 m34_50 m35_51 dC dI kt_32 ka_33 kb_34 kt_52 kf_53 k_55 s98 s110 s112 s114 s116 s128 s130 s132 s134 s136 sa hE0 hE1 hE2 hE3 hE4 hE5 hE6 hE7 hE8 hE9 hE10 hE11 hEL hK hP hD hS (lv_sub hl [0, 1, 2, 3, 4] rfl)
    by_cases n_72 : x_63 = 8
    · subst n_72
      refine lv_tableIn (off := 472) (tgt := 512) hx hb dL_law_40 (by decide) (by decide) (by decide +kernel) (by decide) ?_
      exact lc_8 (below := below) (e := e) (l := l) hl0 hA hA2 C0 q_1 h_10 w_15 rd_3 tp_22 dr_24 dw_29 da_25 db_26 z_4 y_7 q_35 m1_37 m16_40 q_54 ah_5 tr_6 la_8 ro_9 ha_11 hb_12 hc_13 hd_14 he_16 hf_17 nm_23 dc_27 dd_28 de_30 df_31 za_18 zb_19 ya_20 yb_21 m12_38 m15_39 m17_41 m18_42 m19_43 m20_44 m23_45 m24_46 m29_47 m32_48 m33_49 m34_50 m35_51 dC dI kt_32 ka_33 kb_34 kt_52 kf_53 k_55 s98 s110 s112 s114 s116 s128 s130 s132 s134 s136 sa hE0 hE1 hE2 hE3 hE4 hE5 hE6 hE7 hE8 hE9 hE10 hE11 hEL hK hP hD hS (lv_sub hl [0, 1, 2, 3, 4] rfl)
    by_cases n_73 : x_63 = 9
    · subst n_73
      refine lv_tableIn (off := 485) (tgt := 525) hx hb dL_law_40 (by decide) (by decide) (by decide +kernel) (by decide) ?_
      exact lc_9 (below := below) (e := e) (l := l) hl0 hA hA2 C0 q_1 h_10 w_15 rd_3 tp_22 dr_24 dw_29 da_25 db_26 z_4 y_7 q_35 m1_37 m16_40 q_54 ah_5 tr_6 la_8 ro_9 ha_11 hb_12 hc_13 hd_14 he_16 hf_17 nm_23 dc_27 dd_28 de_30 df_31 za_18 zb_19 ya_20 yb_21 m12_38 m15_39 m17_41 m18_42 m19_43 m20_44 m23_45 m24_46 m29_47 m32_48 m33_49 m34_50 m35_51 dC dI kt_32 ka_33 kb_34 kt_52 kf_53 k_55 s98 s110 s112 s114 s116 s128 s130 s132 s134 s136 sa hE0 hE1 hE2 hE3 hE4 hE5 hE6 hE7 hE8 hE9 hE10 hE11 hEL hK hP hD hS (lv_sub hl [0, 1, 2, 3, 4] rfl)
    by_cases n_74 : x_63 = 10
    · subst n_74
      refine lv_tableIn (off := 510) (tgt := 550) hx hb dL_law_40 (by decide) (by decide) (by decide +kernel) (by decide) ?_
      exact lc_10 (below := below) (e := e) (l := l) hl0 hA hA2 C0 q_1 h_10 w_15 rd_3 tp_22 dr_24 dw_29 da_25 db_26 z_4 y_7 q_35 m1_37 m16_40 q_54 ah_5 tr_6 la_8 ro_9 ha_11 hb_12 hc_13 hd_14 he_16 hf_17 nm_23 dc_27 dd_28 de_30 df_31 za_18 zb_19 ya_20 yb_21 m12_38 m15_39 m17_41 m18_42 m19_43 m20_44 m23_45 m24_46 m29_47 m32_48 m33_49 m34_50 m35_51 dC dI kt_32 ka_33 kb_34 kt_52 kf_53 k_55 s98 s110 s112 s114 s116 s128 s130 s132 s134 s136 sa hE0 hE1 hE2 hE3 hE4 hE5 hE6 hE7 hE8 hE9 hE10 hE11 hEL hK hP hD hS (lv_sub hl [0, 1, 2, 3, 4] rfl)
    by_cases n_75 : x_63 = 11
    · subst n_75
      refine lv_tableIn (off := 535) (tgt := 575) hx hb dL_law_40 (by decide) (by decide) (by decide +kernel) (by decide) ?_
      exact lc_11 (below := below) (e := e) (l := l) hl0 hA hA2 C0 q_1 h_10 w_15 rd_3 tp_22 dr_24 dw_29 da_25 db_26 z_4 y_7 q_35 m1_37 m16_40 q_54 ah_5 tr_6 la_8 ro_9 ha_11 hb_12 hc_13 hd_14 he_16 hf_17 nm_23 dc_27 dd_28 de_30 df_31 za_18 zb_19 ya_20 yb_21 m12_38 m15_39 m17_41 m18_42 m19_43 m20_44 m23_45 m24_46 m29_47 m32_48 m33_49 m34_50 m35_51 dC dI kt_32 ka_33 kb_34 kt_52 kf_53 k_55 s98 s110 s112 s114 s116 s128 s130 s132 s134 s136 sa hE0 hE1 hE2 hE3 hE4 hE5 hE6 hE7 hE8 hE9 hE10 hE11 hEL hK hP hD hS (lv_sub hl [0, 1, 2, 3, 4] rfl)
    by_cases n_76 : x_63 = 12
    · subst n_76
      refine lv_tableIn (off := 548) (tgt := 588) hx hb dL_law_40 (by decide) (by decide) (by decide +kernel) (by decide) ?_
      exact lc_12 (below := below) (e := e) (l := l) hl0 hA hA2 C0 q_1 h_10 w_15 rd_3 tp_22 dr_24 dw_29 da_25 db_26 z_4 y_7 q_35 m1_37 m16_40 q_54 ah_5 tr_6 la_8 ro_9 ha_11 hb_12 hc_13 hd_14 he_16 hf_17 nm_23 dc_27 dd_28 de_30 df_31 za_18 zb_19 ya_20 yb_21 m12_38 m15_39 m17_41 m18_42 m19_43 m20_44 m23_45 m24_46 m29_47 m32_48 m33_49 m34_50 m35_51 dC dI kt_32 ka_33 kb_34 kt_52 kf_53 k_55 s98 s110 s112 s114 s116 s128 s130 s132 s134 s136 sa hE0 hE1 hE2 hE3 hE4 hE5 hE6 hE7 hE8 hE9 hE10 hE11 hEL hK hP hD hS (lv_sub hl [0, 1, 2, 3, 4] rfl)
    by_cases n_77 : x_63 = 13
    · subst n_77
      refine lv_tableIn (off := 561) (tgt := 601) hx hb dL_law_40 (by decide) (by decide) (by decide +kernel) (by decide) ?_
      exact lc_13 (below := below) (e := e) (l := l) hl0 hA hA2 C0 q_1 h_10 w_15 rd_3 tp_22 dr_24 dw_29 da_25 db_26 z_4 y_7 q_35 m1_37 m16_40 q_54 ah_5 tr_6 la_8 ro_9 ha_11 hb_12 hc_13 hd_14 he_16 hf_17 nm_23 dc_27 dd_28 de_30 df_31 za_18 zb_19 ya_20 yb_21 m12_38 m15_39 m17_41 m18_42 m19_43 m20_44 m23_45 m24_46 m29_47 m32_48 m33_49 m34_50 m35_51 dC dI kt_32 ka_33 kb_34 kt_52 kf_53 k_55 s98 s110 s112 s114 s116 s128 s130 s132 s134 s136 sa hE0 hE1 hE2 hE3 hE4 hE5 hE6 hE7 hE8 hE9 hE10 hE11 hEL hK hP hD hS (lv_sub hl [0, 1, 2, 3, 4] rfl)
    by_cases n_78 : x_63 = 14
    · subst n_78
      refine lv_tableIn (off := 574) (tgt := 614) hx hb dL_law_40 (by decide) (by decide) (by decide +kernel) (by decide) ?_
      exact lc_14 (below := below) (e := e) (l := l) hl0 hA hA2 C0 q_1 h_10 w_15 rd_3 tp_22 dr_24 dw_29 da_25 db_26 z_4 y_7 q_35 m1_37 m16_40 q_54 ah_5 tr_6 la_8 ro_9 ha_11 hb_12 hc_13 hd_14 he_16 hf_17 nm_23 dc_27 dd_28 de_30 df_31 za_18 zb_19 ya_20 yb_21 m12_38 m15_39 m17_41 m18_42 m19_43 m20_44 m23_45 m24_46 m29_47 m32_48 m33_49 m34_50 m35_51 dC dI kt_32 ka_33 kb_34 kt_52 kf_53 k_55 s98 s110 s112 s114 s116 s128 s130 s132 s134 s136 sa hE0 hE1 hE2 hE3 hE4 hE5 hE6 hE7 hE8 hE9 hE10 hE11 hEL hK hP hD hS (lv_sub hl [0, 1, 2, 3, 4] rfl)
    by_cases n_79 : x_63 = 15
    · subst n_79
      refine lv_tableIn (off := 611) (tgt := 651) hx hb dL_law_40 (by decide) (by decide) (by decide +kernel) (by decide) ?_
      exact lc_15 (below := below) (e := e) (l := l) hl0 hA hA2 C0 q_1 h_10 w_15 rd_3 tp_22 dr_24 dw_29 da_25 db_26 z_4 y_7 q_35 m1_37 m16_40 q_54 ah_5 tr_6 la_8 ro_9 ha_11 hb_12 hc_13 hd_14 he_16 hf_17 nm_23 dc_27 dd_28 de_30 df_31 za_18 zb_19 ya_20 yb_21 m12_38 m15_39 m17_41 m18_42 m19_43 m20_44 m23_45 m24_46 m29_47 m32_48 m33_49 m34_50 m35_51 dC dI kt_32 ka_33 kb_34 kt_52 kf_53 k_55 s98 s110 s112 s114 s116 s128 s130 s132 s134 s136 sa hE0 hE1 hE2 hE3 hE4 hE5 hE6 hE7 hE8 hE9 hE10 hE11 hEL hK hP hD hS (lv_sub hl [0, 1, 2, 3, 4] rfl)
    by_cases n_80 : x_63 = 16
    · subst n_80
      refine lv_tableIn (off := 648) (tgt := 688) hx hb dL_law_40 (by decide) (by decide) (by decide +kernel) (by decide) ?_
      exact lc_16 (below := below) (e := e) (l := l) hl0 hA hA2 C0 q_1 h_10 w_15 rd_3 tp_22 dr_24 dw_29 da_25 db_26 z_4 y_7 q_35 m1_37 m16_40 q_54 ah_5 tr_6 la_8 ro_9 ha_11 hb_12 hc_13 hd_14 he_16 hf_17 nm_23 dc_27 dd_28 de_30 df_31 za_18 zb_19 ya_20 yb_21 m12_38 m15_39 m17_41 m18_42 m19_43 m20_44 m23_45 m24_46 m29_47 m32_48 m33_49 m34_50 m35_51 dC dI kt_32 ka_33 kb_34 kt_52 kf_53 k_55 s98 s110 s112 s114 s116 s128 s130 s132 s134 s136 sa hE0 hE1 hE2 hE3 hE4 hE5 hE6 hE7 hE8 hE9 hE10 hE11 hEL hK hP hD hS (lv_sub hl [0, 1, 2, 3, 4] rfl)
    by_cases n_81 : x_63 = 17
    · subst n_81
      refine lv_tableIn (off := 685) (tgt := 725) hx hb dL_law_40 (by decide) (by decide) (by decide +kernel) (by decide) ?_
      exact lc_17 (below := below) (e := e) (l := l) hl0 hA hA2 C0 q_1 h_10 w_15 rd_3 tp_22 dr_24 dw_29 da_25 db_26 z_4 y_7 q_35 m1_37 m16_40 q_54 ah_5 tr_6 la_8 ro_9 ha_11 hb_12 hc_13 hd_14 he_16 hf_17 nm_23 dc_27 dd_28 de_30 df_31 za_18 zb_19 ya_20 yb_21 m12_38 m15_39 m17_41 m18_42 m19_43 m20_44 m23_45 m24_46 m29_47 m32_48 m33_49 m34_50 m35_51 dC dI kt_32 ka_33 kb_34 kt_52 kf_53 k_55 s98 s110 s112 s114 s116 s128 s130 s132 s134 s136 sa hE0 hE1 hE2 hE3 hE4 hE5 hE6 hE7 hE8 hE9 hE10 hE11 hEL hK hP hD hS (lv_sub hl [0, 1, 2, 3, 4] rfl)
    by_cases n_82 : x_63 = 18
    · subst n_82
      refine lv_tableIn (off := 710) (tgt := 750) hx hb dL_law_40 (by decide) (by decide) (by decide +kernel) (by decide) ?_
      exact lc_18 (below := below) (e := e) (l := l) hl0 hA hA2 C0 q_1 h_10 w_15 rd_3 tp_22 dr_24 dw_29 da_25 db_26 z_4 y_7 q_35 m1_37 m16_40 q_54 ah_5 tr_6 la_8 ro_9 ha_11 hb_12 hc_13 hd_14 he_16 hf_17 nm_23 dc_27 dd_28 de_30 df_31 za_18 zb_19 ya_20 yb_21 m12_38 m15_39 m17_41 m18_42 m19_43 m20_44 m23_45 m24_46 m29_47 m32_48 m33_49 m34_50 m35_51 dC dI kt_32 ka_33 kb_34 kt_52 kf_53 k_55 s98 s110 s112 s114 s116 s128 s130 s132 s134 s136 sa hE0 hE1 hE2 hE3 hE4 hE5 hE6 hE7 hE8 hE9 hE10 hE11 hEL hK hP hD hS (lv_sub hl [0, 1, 2, 3, 4] rfl)
    by_cases n_83 : x_63 = 19
    · subst n_83
      refine lv_tableIn (off := 723) (tgt := 763) hx hb dL_law_40 (by decide) (by decide) (by decide +kernel) (by decide) ?_
      exact lc_19 (below := below) (e := e) (l := l) hl0 hA hA2 C0 q_1 h_10 w_15 rd_3 tp_22 dr_24 dw_29 da_25 db_26 z_4 y_7 q_35 m1_37 m16_40 q_54 ah_5 tr_6 la_8 ro_9 ha_11 hb_12 hc_13 hd_14 he_16 hf_17 nm_23 dc_27 dd_28 de_30 df_31 za_18 zb_19 ya_20 yb_21 m12_38 m15_39 m17_41 m18_42 m19_43 m20_44 m23_45 m24_46 m29_47 m32_48 m33_49 m34_50 m35_51 dC dI kt_32 ka_33 kb_34 kt_52 kf_53 k_55 s98 s110 s112 s114 s116 s128 s130 s132 s134 s136 sa hE0 hE1 hE2 hE3 hE4 hE5 hE6 hE7 hE8 hE9 hE10 hE11 hEL hK hP hD hS (lv_sub hl [0, 1, 2, 3, 4] rfl)
    by_cases n_84 : x_63 = 20
    · subst n_84
      refine lv_tableIn (off := 748) (tgt := 788) hx hb dL_law_40 (by decide) (by decide) (by decide +kernel) (by decide) ?_
      exact lc_20 (below := below) (e := e) (l := l) hl0 hA hA2 C0 q_1 h_10 w_15 rd_3 tp_22 dr_24 dw_29 da_25 db_26 z_4 y_7 q_35 m1_37 m16_40 q_54 ah_5 tr_6 la_8 ro_9 ha_11 hb_12 hc_13 hd_14 he_16 hf_17 nm_23 dc_27 dd_28 de_30 df_31 za_18 zb_19 ya_20 yb_21 m12_38 m15_39 m17_41 m18_42 m19_43 m20_44 m23_45 m24_46 m29_47 m32_48 m33_49 m34_50 m35_51 dC dI kt_32 ka_33 kb_34 kt_52 kf_53 k_55 s98 s110 s112 s114 s116 s128 s130 s132 s134 s136 sa hE0 hE1 hE2 hE3 hE4 hE5 hE6 hE7 hE8 hE9 hE10 hE11 hEL hK hP hD hS (lv_sub hl [0, 1, 2, 3, 4] rfl)
    by_cases n_85 : x_63 = 21
    · subst n_85
      refine lv_tableIn (off := 785) (tgt := 825) hx hb dL_law_40 (by decide) (by decide) (by decide +kernel) (by decide) ?_
      exact lc_21 (below := below) (e := e) (l := l) hl0 hA hA2 C0 q_1 h_10 w_15 rd_3 tp_22 dr_24 dw_29 da_25 db_26 z_4 y_7 q_35 m1_37 m16_40 q_54 ah_5 tr_6 la_8 ro_9 ha_11 hb_12 hc_13 hd_14 he_16 hf_17 nm_23 dc_27 dd_28 de_30 df_31 za_18 zb_19 ya_20 yb_21 m12_38 m15_39 m17_41 m18_42 m19_43 m20_44 m23_45 m24_46 m29_47 m32_48 m33_49 m34_50 m35_51 dC dI kt_32 ka_33 kb_34 kt_52 kf_53 k_55 s98 s110 s112 s114 s116 s128 s130 s132 s134 s136 sa hE0 hE1 hE2 hE3 hE4 hE5 hE6 hE7 hE8 hE9 hE10 hE11 hEL hK hP hD hS (lv_sub hl [0, 1, 2, 3, 4] rfl)
    by_cases n_86 : x_63 = 22
    · subst n_86
      refine lv_tableIn (off := 810) (tgt := 850) hx hb dL_law_40 (by decide) (by decide) (by decide +kernel) (by decide) ?_
      exact lc_22 (below := below) (e := e) (l := l) hl0 hA hA2 C0 q_1 h_10 w_15 rd_3 tp_22 dr_24 dw_29 da_25 db_26 z_4 y_7 q_35 m1_37 m16_40 q_54 ah_5 tr_6 la_8 ro_9 ha_11 hb_12 hc_13 hd_14 he_16 hf_17 nm_23 dc_27 dd_28 de_30 df_31 za_18 zb_19 ya_20 yb_21 m12_38 m15_39 m17_41 m18_42 m19_43 m20_44 m23_45 m24_46 m29_47 m32_48 m33_49 m34_50 m35_51 dC dI kt_32 ka_33 kb_34 kt_52 kf_53 k_55 s98 s110 s112 s114 s116 s128 s130 s132 s134 s136 sa hE0 hE1 hE2 hE3 hE4 hE5 hE6 hE7 hE8 hE9 hE10 hE11 hEL hK hP hD hS (lv_sub hl [0, 1, 2, 3, 4] rfl)
    by_cases n_87 : x_63 = 23
    · subst n_87
      refine lv_tableIn (off := 835) (tgt := 875) hx hb dL_law_40 (by decide) (by decide) (by decide +kernel) (by decide) ?_
      exact lc_23 (below := below) (e := e) (l := l) hl0 hA hA2 C0 q_1 h_10 w_15 rd_3 tp_22 dr_24 dw_29 da_25 db_26 z_4 y_7 q_35 m1_37 m16_40 q_54 ah_5 tr_6 la_8 ro_9 ha_11 hb_12 hc_13 hd_14 he_16 hf_17 nm_23 dc_27 dd_28 de_30 df_31 za_18 zb_19 ya_20 yb_21 m12_38 m15_39 m17_41 m18_42 m19_43 m20_44 m23_45 m24_46 m29_47 m32_48 m33_49 m34_50 m35_51 dC dI kt_32 ka_33 kb_34 kt_52 kf_53 k_55 s98 s110 s112 s114 s116 s128 s130 s132 s134 s136 sa hE0 hE1 hE2 hE3 hE4 hE5 hE6 hE7 hE8 hE9 hE10 hE11 hEL hK hP hD hS (lv_sub hl [0, 1, 2, 3, 4] rfl)
    by_cases n_88 : x_63 = 24
    · subst n_88
      refine lv_tableIn (off := 860) (tgt := 900) hx hb dL_law_40 (by decide) (by decide) (by decide +kernel) (by decide) ?_
      exact lc_24 (below := below) (e := e) (l := l) hl0 hA hA2 C0 q_1 h_10 w_15 rd_3 tp_22 dr_24 dw_29 da_25 db_26 z_4 y_7 q_35 m1_37 m16_40 q_54 ah_5 tr_6 la_8 ro_9 ha_11 hb_12 hc_13 hd_14 he_16 hf_17 nm_23 dc_27 dd_28 de_30 df_31 za_18 zb_19 ya_20 yb_21 m12_38 m15_39 m17_41 m18_42 m19_43 m20_44 m23_45 m24_46 m29_47 m32_48 m33_49 m34_50 m35_51 dC dI kt_32 ka_33 kb_34 kt_52 kf_53 k_55 s98 s110 s112 s114 s116 s128 s130 s132 s134 s136 sa hE0 hE1 hE2 hE3 hE4 hE5 hE6 hE7 hE8 hE9 hE10 hE11 hEL hK hP hD hS (lv_sub hl [0, 1, 2, 3, 4] rfl)
    by_cases n_89 : x_63 = 25
    · subst n_89
      refine lv_tableIn (off := 885) (tgt := 925) hx hb dL_law_40 (by decide) (by decide) (by decide +kernel) (by decide) ?_
      exact lc_25 (below := below) (e := e) (l := l) hl0 hA hA2 C0 q_1 h_10 w_15 rd_3 tp_22 dr_24 dw_29 da_25 db_26 z_4 y_7 q_35 m1_37 m16_40 q_54 ah_5 tr_6 la_8 ro_9 ha_11 hb_12 hc_13 hd_14 he_16 hf_17 nm_23 dc_27 dd_28 de_30 df_31 za_18 zb_19 ya_20 yb_21 m12_38 m15_39 m17_41 m18_42 m19_43 m20_44 m23_45 m24_46 m29_47 m32_48 m33_49 m34_50 m35_51 dC dI kt_32 ka_33 kb_34 kt_52 kf_53 k_55 s98 s110 s112 s114 s116 s128 s130 s132 s134 s136 sa hE0 hE1 hE2 hE3 hE4 hE5 hE6 hE7 hE8 hE9 hE10 hE11 hEL hK hP hD hS (lv_sub hl [0, 1, 2, 3, 4] rfl)
    by_cases n_90 : x_63 = 26
    · subst n_90
      refine lv_tableIn (off := 922) (tgt := 962) hx hb dL_law_40 (by decide) (by decide) (by decide +kernel) (by decide) ?_
      exact lc_26 (below := below) (e := e) (l := l) hl0 hA hA2 C0 q_1 h_10 w_15 rd_3 tp_22 dr_24 dw_29 da_25 db_26 z_4 y_7 q_35 m1_37 m16_40 q_54 ah_5 tr_6 la_8 ro_9 ha_11 hb_12 hc_13 hd_14 he_16 hf_17 nm_23 dc_27 dd_28 de_30 df_31 za_18 zb_19 ya_20 yb_21 m12_38 m15_39 m17_41 m18_42 m19_43 m20_44 m23_45 m24_46 m29_47 m32_48 m33_49 m34_50 m35_51 dC dI kt_32 ka_33 kb_34 kt_52 kf_53 k_55 s98 s110 s112 s114 s116 s128 s130 s132 s134 s136 sa hE0 hE1 hE2 hE3 hE4 hE5 hE6 hE7 hE8 hE9 hE10 hE11 hEL hK hP hD hS (lv_sub hl [0, 1, 2, 3, 4] rfl)
    by_cases n_91 : x_63 = 27
    · subst n_91
      refine lv_tableIn (off := 959) (tgt := 999) hx hb dL_law_40 (by decide) (by decide) (by decide +kernel) (by decide) ?_
      exact lc_27 (below := below) (e := e) (l := l) hl0 hA hA2 C0 q_1 h_10 w_15 rd_3 tp_22 dr_24 dw_29 da_25 db_26 z_4 y_7 q_35 m1_37 m16_40 q_54 ah_5 tr_6 la_8 ro_9 ha_11 hb_12 hc_13 hd_14 he_16 hf_17 nm_23 dc_27 dd_28 de_30 df_31 za_18 zb_19 ya_20 yb_21 m12_38 m15_39 m17_41 m18_42 m19_43 m20_44 m23_45 m24_46 m29_47 m32_48 m33_49 m34_50 m35_51 dC dI kt_32 ka_33 kb_34 kt_52 kf_53 k_55 s98 s110 s112 s114 s116 s128 s130 s132 s134 s136 sa hE0 hE1 hE2 hE3 hE4 hE5 hE6 hE7 hE8 hE9 hE10 hE11 hEL hK hP hD hS (lv_sub hl [0, 1, 2, 3, 4] rfl)
    by_cases n_92 : x_63 = 28
    · subst n_92
      refine lv_tableIn (off := 996) (tgt := 1036) hx hb dL_law_40 (by decide) (by decide) (by decide +kernel) (by decide) ?_
      exact lc_28 (below := below) (e := e) (l := l) hl0 hA hA2 C0 q_1 h_10 w_15 rd_3 tp_22 dr_24 dw_29 da_25 db_26 z_4 y_7 q_35 m1_37 m16_40 q_54 ah_5 tr_6 la_8 ro_9 ha_11 hb_12 hc_13 hd_14 he_16 hf_17 nm_23 dc_27 dd_28 de_30 df_31 za_18 zb_19 ya_20 yb_21 m12_38 m15_39 m17_41 m18_42 m19_43 m20_44 m23_45 m24_46 m29_47 m32_48 m33_49 m34_50 m35_51 dC dI kt_32 ka_33 kb_34 kt_52 kf_53 k_55 s98 s110 s112 s114 s116 s128 s130 s132 s134 s136 sa hE0 hE1 hE2 hE3 hE4 hE5 hE6 hE7 hE8 hE9 hE10 hE11 hEL hK hP hD hS (lv_sub hl [0, 1, 2, 3, 4] rfl)
    by_cases n_93 : x_63 = 29
    · subst n_93
      refine lv_tableIn (off := 1045) (tgt := 1085) hx hb dL_law_40 (by decide) (by decide) (by decide +kernel) (by decide) ?_
      exact lc_29 (below := below) (e := e) (l := l) hl0 hA hA2 C0 q_1 h_10 w_15 rd_3 tp_22 dr_24 dw_29 da_25 db_26 z_4 y_7 q_35 m1_37 m16_40 q_54 ah_5 tr_6 la_8 ro_9 ha_11 hb_12 hc_13 hd_14 he_16 hf_17 nm_23 dc_27 dd_28 de_30 df_31 za_18 zb_19 ya_20 yb_21 m12_38 m15_39 m17_41 m18_42 m19_43 m20_44 m23_45 m24_46 m29_47 m32_48 m33_49 m34_50 m35_51 dC dI kt_32 ka_33 kb_34 kt_52 kf_53 k_55 s98 s110 s112 s114 s116 s128 s130 s132 s134 s136 sa hE0 hE1 hE2 hE3 hE4 hE5 hE6 hE7 hE8 hE9 hE10 hE11 hEL hK hP hD hS (lv_sub hl [0, 1, 2, 3, 4] rfl)
    by_cases n_94 : x_63 = 30
    · subst n_94
      refine lv_tableIn (off := 1070) (tgt := 1110) hx hb dL_law_40 (by decide) (by decide) (by decide +kernel) (by decide) ?_
      exact lc_30 (below := below) (e := e) (l := l) hl0 hA hA2 C0 q_1 h_10 w_15 rd_3 tp_22 dr_24 dw_29 da_25 db_26 z_4 y_7 q_35 m1_37 m16_40 q_54 ah_5 tr_6 la_8 ro_9 ha_11 hb_12 hc_13 hd_14 he_16 hf_17 nm_23 dc_27 dd_28 de_30 df_31 za_18 zb_19 ya_20 yb_21 m12_38 m15_39 m17_41 m18_42 m19_43 m20_44 m23_45 m24_46 m29_47 m32_48 m33_49 m34_50 m35_51 dC dI kt_32 ka_33 kb_34 kt_52 kf_53 k_55 s98 s110 s112 s114 s116 s128 s130 s132 s134 s136 sa hE0 hE1 hE2 hE3 hE4 hE5 hE6 hE7 hE8 hE9 hE10 hE11 hEL hK hP hD hS (lv_sub hl [0, 1, 2, 3, 4] rfl)
    by_cases n_95 : x_63 = 31
    · subst n_95
      refine lv_tableIn (off := 1095) (tgt := 1135) hx hb dL_law_40 (by decide) (by decide) (by decide +kernel) (by decide) ?_
      exact lc_31 (below := below) (e := e) (l := l) hl0 hA hA2 C0 q_1 h_10 w_15 rd_3 tp_22 dr_24 dw_29 da_25 db_26 z_4 y_7 q_35 m1_37 m16_40 q_54 ah_5 tr_6 la_8 ro_9 ha_11 hb_12 hc_13 hd_14 he_16 hf_17 nm_23 dc_27 dd_28 de_30 df_31 za_18 zb_19 ya_20 yb_21 m12_38 m15_39 m17_41 m18_42 m19_43 m20_44 m23_45 m24_46 m29_47 m32_48 m33_49 m34_50 m35_51 dC dI kt_32 ka_33 kb_34 kt_52 kf_53 k_55 s98 s110 s112 s114 s116 s128 s130 s132 s134 s136 sa hE0 hE1 hE2 hE3 hE4 hE5 hE6 hE7 hE8 hE9 hE10 hE11 hEL hK hP hD hS (lv_sub hl [0, 1, 2, 3, 4] rfl)
    by_cases n_96 : x_63 = 32
    · subst n_96
      refine lv_tableIn (off := 1108) (tgt := 1148) hx hb dL_law_40 (by decide) (by decide) (by decide +kernel) (by decide) ?_
      exact lc_32 (below := below) (e := e) (l := l) hl0 hA hA2 C0 q_1 h_10 w_15 rd_3 tp_22 dr_24 dw_29 da_25 db_26 z_4 y_7 q_35 m1_37 m16_40 q_54 ah_5 tr_6 la_8 ro_9 ha_11 hb_12 hc_13 hd_14 he_16 hf_17 nm_23 dc_27 dd_28 de_30 df_31 za_18 zb_19 ya_20 yb_21 m12_38 m15_39 m17_41 m18_42 m19_43 m20_44 m23_45 m24_46 m29_47 m32_48 m33_49 m34_50 m35_51 dC dI kt_32 ka_33 kb_34 kt_52 kf_53 k_55 s98 s110 s112 s114 s116 s128 s130 s132 s134 s136 sa hE0 hE1 hE2 hE3 hE4 hE5 hE6 hE7 hE8 hE9 hE10 hE11 hEL hK hP hD hS (lv_sub hl [0, 1, 2, 3, 4] rfl)
    by_cases n_97 : x_63 = 33
    · subst n_97
      refine lv_tableIn (off := 1145) (tgt := 1185) hx hb dL_law_40 (by decide) (by decide) (by decide +kernel) (by decide) ?_
      exact lc_33 (below := below) (e := e) (l := l) hl0 hA hA2 C0 q_1 h_10 w_15 rd_3 tp_22 dr_24 dw_29 da_25 db_26 z_4 y_7 q_35 m1_37 m16_40 q_54 ah_5 tr_6 la_8 ro_9 ha_11 hb_12 hc_13 hd_14 he_16 hf_17 nm_23 dc_27 dd_28 de_30 df_31 za_18 zb_19 ya_20 yb_21 m12_38 m15_39 m17_41 m18_42 m19_43 m20_44 m23_45 m24_46 m29_47 m32_48 m33_49 m34_50 m35_51 dC dI kt_32 ka_33 kb_34 kt_52 kf_53 k_55 s98 s110 s112 s114 s116 s128 s130 s132 s134 s136 sa hE0 hE1 hE2 hE3 hE4 hE5 hE6 hE7 hE8 hE9 hE10 hE11 hEL hK hP hD hS (lv_sub hl [0, 1, 2, 3, 4] rfl)
    by_cases n_98 : x_63 = 34
    · subst n_98
      refine lv_tableIn (off := 1158) (tgt := 1198) hx hb dL_law_40 (by decide) (by decide) (by decide +kernel) (by decide) ?_
      exact lc_34 (below := below) (e := e) (l := l) hl0 hA hA2 C0 q_1 h_10 w_15 rd_3 tp_22 dr_24 dw_29 da_25 db_26 z_4 y_7 q_35 m1_37 m16_40 q_54 ah_5 tr_6 la_8 ro_9 ha_11 hb_12 hc_13 hd_14 he_16 hf_17 nm_23 dc_27 dd_28 de_30 df_31 za_18 zb_19 ya_20 yb_21 m12_38 m15_39 m17_41 m18_42 m19_43 m20_44 m23_45 m24_46 m29_47 m32_48 m33_49 m34_50 m35_51 dC dI kt_32 ka_33 kb_34 kt_52 kf_53 k_55 s98 s110 s112 s114 s116 s128 s130 s132 s134 s136 sa hE0 hE1 hE2 hE3 hE4 hE5 hE6 hE7 hE8 hE9 hE10 hE11 hEL hK hP hD hS (lv_sub hl [0, 1, 2, 3, 4] rfl)
    by_cases n_99 : x_63 = 35
    · subst n_99
      refine lv_tableIn (off := 1183) (tgt := 1223) hx hb dL_law_40 (by decide) (by decide) (by decide +kernel) (by decide) ?_
      exact lc_35 (below := below) (e := e) (l := l) hl0 hA hA2 C0 q_1 h_10 w_15 rd_3 tp_22 dr_24 dw_29 da_25 db_26 z_4 y_7 q_35 m1_37 m16_40 q_54 ah_5 tr_6 la_8 ro_9 ha_11 hb_12 hc_13 hd_14 he_16 hf_17 nm_23 dc_27 dd_28 de_30 df_31 za_18 zb_19 ya_20 yb_21 m12_38 m15_39 m17_41 m18_42 m19_43 m20_44 m23_45 m24_46 m29_47 m32_48 m33_49 m34_50 m35_51 dC dI kt_32 ka_33 kb_34 kt_52 kf_53 k_55 s98 s110 s112 s114 s116 s128 s130 s132 s134 s136 sa hE0 hE1 hE2 hE3 hE4 hE5 hE6 hE7 hE8 hE9 hE10 hE11 hEL hK hP hD hS (lv_sub hl [0, 1, 2, 3, 4] rfl)
    by_cases n_100 : x_63 = 36
    · subst n_100
      refine lv_tableIn (off := 1208) (tgt := 1248) hx hb dL_law_40 (by decide) (by decide) (by decide +kernel) (by decide) ?_
      exact lc_36 (below := below) (e := e) (l := l) hl0 hA hA2 C0 q_1 h_10 w_15 rd_3 tp_22 dr_24 dw_29 da_25 db_26 z_4 y_7 q_35 m1_37 m16_40 q_54 ah_5 tr_6 la_8 ro_9 ha_11 hb_12 hc_13 hd_14 he_16 hf_17 nm_23 dc_27 dd_28 de_30 df_31 za_18 zb_19 ya_20 yb_21 m12_38 m15_39 m17_41 m18_42 m19_43 m20_44 m23_45 m24_46 m29_47 m32_48 m33_49 m34_50 m35_51 dC dI kt_32 ka_33 kb_34 kt_52 kf_53 k_55 s98 s110 s112 s114 s116 s128 s130 s132 s134 s136 sa hE0 hE1 hE2 hE3 hE4 hE5 hE6 hE7 hE8 hE9 hE10 hE11 hEL hK hP hD hS (lv_sub hl [0, 1, 2, 3, 4] rfl)
    by_cases n_101 : x_63 = 37
    · subst n_101
      refine lv_tableIn (off := 1245) (tgt := 1285) hx hb dL_law_40 (by decide) (by decide) (by decide +kernel) (by decide) ?_
      exact lc_37 (below := below) (e := e) (l := l) hl0 hA hA2 C0 q_1 h_10 w_15 rd_3 tp_22 dr_24 dw_29 da_25 db_26 z_4 y_7 q_35 m1_37 m16_40 q_54 ah_5 tr_6 la_8 ro_9 ha_11 hb_12 hc_13 hd_14 he_16 hf_17 nm_23 dc_27 dd_28 de_30 df_31 za_18 zb_19 ya_20 yb_21 m12_38 m15_39 m17_41 m18_42 m19_43 m20_44 m23_45 m24_46 m29_47 m32_48 m33_49 m34_50 m35_51 dC dI kt_32 ka_33 kb_34 kt_52 kf_53 k_55 s98 s110 s112 s114 s116 s128 s130 s132 s134 s136 sa hE0 hE1 hE2 hE3 hE4 hE5 hE6 hE7 hE8 hE9 hE10 hE11 hEL hK hP hD hS (lv_sub hl [0, 1, 2, 3, 4] rfl)
    by_cases n_102 : x_63 = 38
    · subst n_102
      refine lv_tableIn (off := 1258) (tgt := 1298) hx hb dL_law_40 (by decide) (by decide) (by decide +kernel) (by decide) ?_
      exact lc_38 (below := below) (e := e) (l := l) hl0 hA hA2 C0 q_1 h_10 w_15 rd_3 tp_22 dr_24 dw_29 da_25 db_26 z_4 y_7 q_35 m1_37 m16_40 q_54 ah_5 tr_6 la_8 ro_9 ha_11 hb_12 hc_13 hd_14 he_16 hf_17 nm_23 dc_27 dd_28 de_30 df_31 za_18 zb_19 ya_20 yb_21 m12_38 m15_39 m17_41 m18_42 m19_43 m20_44 m23_45 m24_46 m29_47 m32_48 m33_49 m34_50 m35_51 dC dI kt_32 ka_33 kb_34 kt_52 kf_53 k_55 s98 s110 s112 s114 s116 s128 s130 s132 s134 s136 sa hE0 hE1 hE2 hE3 hE4 hE5 hE6 hE7 hE8 hE9 hE10 hE11 hEL hK hP hD hS (lv_sub hl [0, 1, 2, 3, 4] rfl)
    by_cases n_103 : x_63 = 39
    · subst n_103
      refine lv_tableIn (off := 1271) (tgt := 1311) hx hb dL_law_40 (by decide) (by decide) (by decide +kernel) (by decide) ?_
      exact lc_39 (below := below) (e := e) (l := l) hl0 hA hA2 C0 q_1 h_10 w_15 rd_3 tp_22 dr_24 dw_29 da_25 db_26 z_4 y_7 q_35 m1_37 m16_40 q_54 ah_5 tr_6 la_8 ro_9 ha_11 hb_12 hc_13 hd_14 he_16 hf_17 nm_23 dc_27 dd_28 de_30 df_31 za_18 zb_19 ya_20 yb_21 m12_38 m15_39 m17_41 m18_42 m19_43 m20_44 m23_45 m24_46 m29_47 m32_48 m33_49 m34_50 m35_51 dC dI kt_32 ka_33 kb_34 kt_52 kf_53 k_55 s98 s110 s112 s114 s116 s128 s130 s132 s134 s136 sa hE0 hE1 hE2 hE3 hE4 hE5 hE6 hE7 hE8 hE9 hE10 hE11 hEL hK hP hD hS (lv_sub hl [0, 1, 2, 3, 4] rfl)
    by_cases n_104 : x_63 = 40
    · subst n_104
      refine lv_tableIn (off := 1284) (tgt := 1324) hx hb dL_law_40 (by decide) (by decide) (by decide +kernel) (by decide) ?_
      exact lc_40 (below := below) (e := e) (l := l) hl0 hA hA2 C0 q_1 h_10 w_15 rd_3 tp_22 dr_24 dw_29 da_25 db_26 z_4 y_7 q_35 m1_37 m16_40 q_54 ah_5 tr_6 la_8 ro_9 ha_11 hb_12 hc_13 hd_14 he_16 hf_17 nm_23 dc_27 dd_28 de_30 df_31 za_18 zb_19 ya_20 yb_21 m12_38 m15_39 m17_41 m18_42 m19_43 m20_44 m23_45 m24_46 m29_47 m32_48 m33_49 m34_50 m35_51 dC dI kt_32 ka_33 kb_34 kt_52 kf_53 k_55 s98 s110 s112 s114 s116 s128 s130 s132 s134 s136 sa hE0 hE1 hE2 hE3 hE4 hE5 hE6 hE7 hE8 hE9 hE10 hE11 hEL hK hP hD hS (lv_sub hl [0, 1, 2, 3, 4] rfl)
    by_cases n_105 : x_63 = 41
    · subst n_105
      refine lv_tableIn (off := 1321) (tgt := 1361) hx hb dL_law_40 (by decide) (by decide) (by decide +kernel) (by decide) ?_
      exact lc_41 (below := below) (e := e) (l := l) hl0 hA hA2 C0 q_1 h_10 w_15 rd_3 tp_22 dr_24 dw_29 da_25 db_26 z_4 y_7 q_35 m1_37 m16_40 q_54 ah_5 tr_6 la_8 ro_9 ha_11 hb_12 hc_13 hd_14 he_16 hf_17 nm_23 dc_27 dd_28 de_30 df_31 za_18 zb_19 ya_20 yb_21 m12_38 m15_39 m17_41 m18_42 m19_43 m20_44 m23_45 m24_46 m29_47 m32_48 m33_49 m34_50 m35_51 dC dI kt_32 ka_33 kb_34 kt_52 kf_53 k_55 s98 s110 s112 s114 s116 s128 s130 s132 s134 s136 sa hE0 hE1 hE2 hE3 hE4 hE5 hE6 hE7 hE8 hE9 hE10 hE11 hEL hK hP hD hS (lv_sub hl [0, 1, 2, 3, 4] rfl)
    by_cases n_106 : x_63 = 42
    · subst n_106
      refine lv_tableIn (off := 1334) (tgt := 1374) hx hb dL_law_40 (by decide) (by decide) (by decide +kernel) (by decide) ?_
      exact lc_42 (below := below) (e := e) (l := l) hl0 hA hA2 C0 q_1 h_10 w_15 rd_3 tp_22 dr_24 dw_29 da_25 db_26 z_4 y_7 q_35 m1_37 m16_40 q_54 ah_5 tr_6 la_8 ro_9 ha_11 hb_12 hc_13 hd_14 he_16 hf_17 nm_23 dc_27 dd_28 de_30 df_31 za_18 zb_19 ya_20 yb_21 m12_38 m15_39 m17_41 m18_42 m19_43 m20_44 m23_45 m24_46 m29_47 m32_48 m33_49 m34_50 m35_51 dC dI kt_32 ka_33 kb_34 kt_52 kf_53 k_55 s98 s110 s112 s114 s116 s128 s130 s132 s134 s136 sa hE0 hE1 hE2 hE3 hE4 hE5 hE6 hE7 hE8 hE9 hE10 hE11 hEL hK hP hD hS (lv_sub hl [0, 1, 2, 3, 4] rfl)
    by_cases n_107 : x_63 = 43
    · subst n_107
      refine lv_tableIn (off := 1443) (tgt := 1483) hx hb dL_law_40 (by decide) (by decide) (by decide +kernel) (by decide) ?_
      exact lc_43 (below := below) (e := e) (l := l) hl0 hA hA2 C0 q_1 h_10 w_15 rd_3 tp_22 dr_24 dw_29 da_25 db_26 z_4 y_7 q_35 m1_37 m16_40 q_54 ah_5 tr_6 la_8 ro_9 ha_11 hb_12 hc_13 hd_14 he_16 hf_17 nm_23 dc_27 dd_28 de_30 df_31 za_18 zb_19 ya_20 yb_21 m12_38 m15_39 m17_41 m18_42 m19_43 m20_44 m23_45 m24_46 m29_47 m32_48 m33_49 m34_50 m35_51 dC dI kt_32 ka_33 kb_34 kt_52 kf_53 k_55 s98 s110 s112 s114 s116 s128 s130 s132 s134 s136 sa hE0 hE1 hE2 hE3 hE4 hE5 hE6 hE7 hE8 hE9 hE10 hE11 hEL hK hP hD hS (lv_sub hl [0, 1, 2, 3, 4] rfl)
    by_cases n_108 : x_63 = 44
    · subst n_108
      refine lv_tableIn (off := 1468) (tgt := 1508) hx hb dL_law_40 (by decide) (by decide) (by decide +kernel) (by decide) ?_
      exact lc_44 (below := below) (e := e) (l := l) hl0 hA hA2 C0 q_1 h_10 w_15 rd_3 tp_22 dr_24 dw_29 da_25 db_26 z_4 y_7 q_35 m1_37 m16_40 q_54 ah_5 tr_6 la_8 ro_9 ha_11 hb_12 hc_13 hd_14 he_16 hf_17 nm_23 dc_27 dd_28 de_30 df_31 za_18 zb_19 ya_20 yb_21 m12_38 m15_39 m17_41 m18_42 m19_43 m20_44 m23_45 m24_46 m29_47 m32_48 m33_49 m34_50 m35_51 dC dI kt_32 ka_33 kb_34 kt_52 kf_53 k_55 s98 s110 s112 s114 s116 s128 s130 s132 s134 s136 sa hE0 hE1 hE2 hE3 hE4 hE5 hE6 hE7 hE8 hE9 hE10 hE11 hEL hK hP hD hS (lv_sub hl [0, 1, 2, 3, 4] rfl)
    by_cases n_109 : x_63 = 45
    · subst n_109
      refine lv_tableIn (off := 1493) (tgt := 1533) hx hb dL_law_40 (by decide) (by decide) (by decide +kernel) (by decide) ?_
      exact lc_45 (below := below) (e := e) (l := l) hl0 hA hA2 C0 q_1 h_10 w_15 rd_3 tp_22 dr_24 dw_29 da_25 db_26 z_4 y_7 q_35 m1_37 m16_40 q_54 ah_5 tr_6 la_8 ro_9 ha_11 hb_12 hc_13 hd_14 he_16 hf_17 nm_23 dc_27 dd_28 de_30 df_31 za_18 zb_19 ya_20 yb_21 m12_38 m15_39 m17_41 m18_42 m19_43 m20_44 m23_45 m24_46 m29_47 m32_48 m33_49 m34_50 m35_51 dC dI kt_32 ka_33 kb_34 kt_52 kf_53 k_55 s98 s110 s112 s114 s116 s128 s130 s132 s134 s136 sa hE0 hE1 hE2 hE3 hE4 hE5 hE6 hE7 hE8 hE9 hE10 hE11 hEL hK hP hD hS (lv_sub hl [0, 1, 2, 3, 4] rfl)
    by_cases n_110 : x_63 = 46
    · subst n_110
      refine lv_tableIn (off := 1559) (tgt := 1599) hx hb dL_law_40 (by decide) (by decide) (by decide +kernel) (by decide) ?_
      exact lc_46 (below := below) (e := e) (l := l) hl0 hA hA2 C0 q_1 h_10 w_15 rd_3 tp_22 dr_24 dw_29 da_25 db_26 z_4 y_7 q_35 m1_37 m16_40 q_54 ah_5 tr_6 la_8 ro_9 ha_11 hb_12 hc_13 hd_14 he_16 hf_17 nm_23 dc_27 dd_28 de_30 df_31 za_18 zb_19 ya_20 yb_21 m12_38 m15_39 m17_41 m18_42 m19_43 m20_44 m23_45 m24_46 m29_47 m32_48 m33_49 m34_50 m35_51 dC dI kt_32 ka_33 kb_34 kt_52 kf_53 k_55 s98 s110 s112 s114 s116 s128 s130 s132 s134 s136 sa hE0 hE1 hE2 hE3 hE4 hE5 hE6 hE7 hE8 hE9 hE10 hE11 hEL hK hP hD hS (lv_sub hl [0, 1, 2, 3, 4] rfl)
    by_cases n_111 : x_63 = 47
    · subst n_111
      refine lv_tableIn (off := 1625) (tgt := 1665) hx hb dL_law_40 (by decide) (by decide) (by decide +kernel) (by decide) ?_
      exact lc_47 (below := below) (e := e) (l := l) hl0 hA hA2 C0 q_1 h_10 w_15 rd_3 tp_22 dr_24 dw_29 da_25 db_26 z_4 y_7 q_35 m1_37 m16_40 q_54 ah_5 tr_6 la_8 ro_9 ha_11 hb_12 hc_13 hd_14 he_16 hf_17 nm_23 dc_27 dd_28 de_30 df_31 za_18 zb_19 ya_20 yb_21 m12_38 m15_39 m17_41 m18_42 m19_43 m20_44 m23_45 m24_46 m29_47 m32_48 m33_49 m34_50 m35_51 dC dI kt_32 ka_33 kb_34 kt_52 kf_53 k_55 s98 s110 s112 s114 s116 s128 s130 s132 s134 s136 sa hE0 hE1 hE2 hE3 hE4 hE5 hE6 hE7 hE8 hE9 hE10 hE11 hEL hK hP hD hS (lv_sub hl [0, 1, 2, 3, 4] rfl)
    by_cases n_112 : x_63 = 48
    · subst n_112
      refine lv_tableIn (off := 1674) (tgt := 1714) hx hb dL_law_40 (by decide) (by decide) (by decide +kernel) (by decide) ?_
      exact lc_48 (below := below) (e := e) (l := l) hl0 hA hA2 C0 q_1 h_10 w_15 rd_3 tp_22 dr_24 dw_29 da_25 db_26 z_4 y_7 q_35 m1_37 m16_40 q_54 ah_5 tr_6 la_8 ro_9 ha_11 hb_12 hc_13 hd_14 he_16 hf_17 nm_23 dc_27 dd_28 de_30 df_31 za_18 zb_19 ya_20 yb_21 m12_38 m15_39 m17_41 m18_42 m19_43 m20_44 m23_45 m24_46 m29_47 m32_48 m33_49 m34_50 m35_51 dC dI kt_32 ka_33 kb_34 kt_52 kf_53 k_55 s98 s110 s112 s114 s116 s128 s130 s132 s134 s136 sa hE0 hE1 hE2 hE3 hE4 hE5 hE6 hE7 hE8 hE9 hE10 hE11 hEL hK hP hD hS (lv_sub hl [0, 1, 2, 3, 4] rfl)
    by_cases n_113 : x_63 = 49
    · subst n_113
      refine lv_tableIn (off := 1711) (tgt := 1751) hx hb dL_law_40 (by decide) (by decide) (by decide +kernel) (by decide) ?_
      exact lc_49 (below := below) (e := e) (l := l) hl0 hA hA2 C0 q_1 h_10 w_15 rd_3 tp_22 dr_24 dw_29 da_25 db_26 z_4 y_7 q_35 m1_37 m16_40 q_54 ah_5 tr_6 la_8 ro_9 ha_11 hb_12 hc_13 hd_14 he_16 hf_17 nm_23 dc_27 dd_28 de_30 df_31 za_18 zb_19 ya_20 yb_21 m12_38 m15_39 m17_41 m18_42 m19_43 m20_44 m23_45 m24_46 m29_47 m32_48 m33_49 m34_50 m35_51 dC dI kt_32 ka_33 kb_34 kt_52 kf_53 k_55 s98 s110 s112 s114 s116 s128 s130 s132 s134 s136 sa hE0 hE1 hE2 hE3 hE4 hE5 hE6 hE7 hE8 hE9 hE10 hE11 hEL hK hP hD hS (lv_sub hl [0, 1, 2, 3, 4] rfl)
    by_cases n_114 : x_63 = 50
    · subst n_114
      refine lv_tableIn (off := 1736) (tgt := 1776) hx hb dL_law_40 (by decide) (by decide) (by decide +kernel) (by decide) ?_
      exact lc_50 (below := below) (e := e) (l := l) hl0 hA hA2 C0 q_1 h_10 w_15 rd_3 tp_22 dr_24 dw_29 da_25 db_26 z_4 y_7 q_35 m1_37 m16_40 q_54 ah_5 tr_6 la_8 ro_9 ha_11 hb_12 hc_13 hd_14 he_16 hf_17 nm_23 dc_27 dd_28 de_30 df_31 za_18 zb_19 ya_20 yb_21 m12_38 m15_39 m17_41 m18_42 m19_43 m20_44 m23_45 m24_46 m29_47 m32_48 m33_49 m34_50 m35_51 dC dI kt_32 ka_33 kb_34 kt_52 kf_53 k_55 s98 s110 s112 s114 s116 s128 s130 s132 s134 s136 sa hE0 hE1 hE2 hE3 hE4 hE5 hE6 hE7 hE8 hE9 hE10 hE11 hEL hK hP hD hS (lv_sub hl [0, 1, 2, 3, 4] rfl)
    by_cases n_115 : x_63 = 51
    · subst n_115
      refine lv_tableIn (off := 1761) (tgt := 1801) hx hb dL_law_40 (by decide) (by decide) (by decide +kernel) (by decide) ?_
      exact lc_51 (below := below) (e := e) (l := l) hl0 hA hA2 C0 q_1 h_10 w_15 rd_3 tp_22 dr_24 dw_29 da_25 db_26 z_4 y_7 q_35 m1_37 m16_40 q_54 ah_5 tr_6 la_8 ro_9 ha_11 hb_12 hc_13 hd_14 he_16 hf_17 nm_23 dc_27 dd_28 de_30 df_31 za_18 zb_19 ya_20 yb_21 m12_38 m15_39 m17_41 m18_42 m19_43 m20_44 m23_45 m24_46 m29_47 m32_48 m33_49 m34_50 m35_51 dC dI kt_32 ka_33 kb_34 kt_52 kf_53 k_55 s98 s110 s112 s114 s116 s128 s130 s132 s134 s136 sa hE0 hE1 hE2 hE3 hE4 hE5 hE6 hE7 hE8 hE9 hE10 hE11 hEL hK hP hD hS (lv_sub hl [0, 1, 2, 3, 4] rfl)
    by_cases n_116 : x_63 = 52
    · subst n_116
      refine lv_tableIn (off := 1786) (tgt := 1826) hx hb dL_law_40 (by decide) (by decide) (by decide +kernel) (by decide) ?_
      exact lc_52 (below := below) (e := e) (l := l) hl0 hA hA2 C0 q_1 h_10 w_15 rd_3 tp_22 dr_24 dw_29 da_25 db_26 z_4 y_7 q_35 m1_37 m16_40 q_54 ah_5 tr_6 la_8 ro_9 ha_11 hb_12 hc_13 hd_14 he_16 hf_17 nm_23 dc_27 dd_28 de_30 df_31 za_18 zb_19 ya_20 yb_21 m12_38 m15_39 m17_41 m18_42 m19_43 m20_44 m23_45 m24_46 m29_47 m32_48 m33_49 m34_50 m35_51 dC dI kt_32 ka_33 kb_34 kt_52 kf_53 k_55 s98 s110 s112 s114 s116 s128 s130 s132 s134 s136 sa hE0 hE1 hE2 hE3 hE4 hE5 hE6 hE7 hE8 hE9 hE10 hE11 hEL hK hP hD hS (lv_sub hl [0, 1, 2, 3, 4] rfl)
    by_cases n_117 : x_63 = 53
    · subst n_117
      refine lv_tableIn (off := 1799) (tgt := 1839) hx hb dL_law_40 (by decide) (by decide) (by decide +kernel) (by decide) ?_
      exact lc_53 (below := below) (e := e) (l := l) hl0 hA hA2 C0 q_1 h_10 w_15 rd_3 tp_22 dr_24 dw_29 da_25 db_26 z_4 y_7 q_35 m1_37 m16_40 q_54 ah_5 tr_6 la_8 ro_9 ha_11 hb_12 hc_13 hd_14 he_16 hf_17 nm_23 dc_27 dd_28 de_30 df_31 za_18 zb_19 ya_20 yb_21 m12_38 m15_39 m17_41 m18_42 m19_43 m20_44 m23_45 m24_46 m29_47 m32_48 m33_49 m34_50 m35_51 dC dI kt_32 ka_33 kb_34 kt_52 kf_53 k_55 s98 s110 s112 s114 s116 s128 s130 s132 s134 s136 sa hE0 hE1 hE2 hE3 hE4 hE5 hE6 hE7 hE8 hE9 hE10 hE11 hEL hK hP hD hS (lv_sub hl [0, 1, 2, 3, 4] rfl)
    by_cases n_118 : x_63 = 54
    · subst n_118
      refine lv_tableIn (off := 1812) (tgt := 1852) hx hb dL_law_40 (by decide) (by decide) (by decide +kernel) (by decide) ?_
      exact lc_54 (below := below) (e := e) (l := l) hl0 hA hA2 C0 q_1 h_10 w_15 rd_3 tp_22 dr_24 dw_29 da_25 db_26 z_4 y_7 q_35 m1_37 m16_40 q_54 ah_5 tr_6 la_8 ro_9 ha_11 hb_12 hc_13 hd_14 he_16 hf_17 nm_23 dc_27 dd_28 de_30 df_31 za_18 zb_19 ya_20 yb_21 m12_38 m15_39 m17_41 m18_42 m19_43 m20_44 m23_45 m24_46 m29_47 m32_48 m33_49 m34_50 m35_51 dC dI kt_32 ka_33 kb_34 kt_52 kf_53 k_55 s98 s110 s112 s114 s116 s128 s130 s132 s134 s136 sa hE0 hE1 hE2 hE3 hE4 hE5 hE6 hE7 hE8 hE9 hE10 hE11 hEL hK hP hD hS (lv_sub hl [0, 1, 2, 3, 4] rfl)
    by_cases n_119 : x_63 = 55
    · subst n_119
      refine lv_tableIn (off := 1837) (tgt := 1877) hx hb dL_law_40 (by decide) (by decide) (by decide +kernel) (by decide) ?_
      exact lc_55 (below := below) (e := e) (l := l) hl0 hA hA2 C0 q_1 h_10 w_15 rd_3 tp_22 dr_24 dw_29 da_25 db_26 z_4 y_7 q_35 m1_37 m16_40 q_54 ah_5 tr_6 la_8 ro_9 ha_11 hb_12 hc_13 hd_14 he_16 hf_17 nm_23 dc_27 dd_28 de_30 df_31 za_18 zb_19 ya_20 yb_21 m12_38 m15_39 m17_41 m18_42 m19_43 m20_44 m23_45 m24_46 m29_47 m32_48 m33_49 m34_50 m35_51 dC dI kt_32 ka_33 kb_34 kt_52 kf_53 k_55 s98 s110 s112 s114 s116 s128 s130 s132 s134 s136 sa hE0 hE1 hE2 hE3 hE4 hE5 hE6 hE7 hE8 hE9 hE10 hE11 hEL hK hP hD hS (lv_sub hl [0, 1, 2, 3, 4] rfl)
    by_cases n_120 : x_63 = 56
    · subst n_120
      refine lv_tableIn (off := 1893) (tgt := 1933) hx hb dL_law_40 (by decide) (by decide) (by decide +kernel) (by decide) ?_
      exact lc_56 (below := below) (e := e) (l := l) hl0 hA hA2 C0 q_1 h_10 w_15 rd_3 tp_22 dr_24 dw_29 da_25 db_26 z_4 y_7 q_35 m1_37 m16_40 q_54 ah_5 tr_6 la_8 ro_9 ha_11 hb_12 hc_13 hd_14 he_16 hf_17 nm_23 dc_27 dd_28 de_30 df_31 za_18 zb_19 ya_20 yb_21 m12_38 m15_39 m17_41 m18_42 m19_43 m20_44 m23_45 m24_46 m29_47 m32_48 m33_49 m34_50 m35_51 dC dI kt_32 ka_33 kb_34 kt_52 kf_53 k_55 s98 s110 s112 s114 s116 s128 s130 s132 s134 s136 sa hE0 hE1 hE2 hE3 hE4 hE5 hE6 hE7 hE8 hE9 hE10 hE11 hEL hK hP hD hS (lv_sub hl [0, 1, 2, 3, 4] rfl)
    by_cases n_121 : x_63 = 57
    · subst n_121
      refine lv_tableIn (off := 1918) (tgt := 1958) hx hb dL_law_40 (by decide) (by decide) (by decide +kernel) (by decide) ?_
      exact lc_57 (below := below) (e := e) (l := l) hl0 hA hA2 C0 q_1 h_10 w_15 rd_3 tp_22 dr_24 dw_29 da_25 db_26 z_4 y_7 q_35 m1_37 m16_40 q_54 ah_5 tr_6 la_8 ro_9 ha_11 hb_12 hc_13 hd_14 he_16 hf_17 nm_23 dc_27 dd_28 de_30 df_31 za_18 zb_19 ya_20 yb_21 m12_38 m15_39 m17_41 m18_42 m19_43 m20_44 m23_45 m24_46 m29_47 m32_48 m33_49 m34_50 m35_51 dC dI kt_32 ka_33 kb_34 kt_52 kf_53 k_55 s98 s110 s112 s114 s116 s128 s130 s132 s134 s136 sa hE0 hE1 hE2 hE3 hE4 hE5 hE6 hE7 hE8 hE9 hE10 hE11 hEL hK hP hD hS (lv_sub hl [0, 1, 2, 3, 4] rfl)
    have o_122 : x_63.toInt < 0 ∨ 57 < x_63.toInt := by
      have en_64 : x_63.toInt ≠ 0 := fun h9 => n_64 (Int32.toInt_inj.mp (h9.trans (by decide)))
      have en_65 : x_63.toInt ≠ 1 := fun h9 => n_65 (Int32.toInt_inj.mp (h9.trans (by decide)))
      have en_66 : x_63.toInt ≠ 2 := fun h9 => n_66 (Int32.toInt_inj.mp (h9.trans (by decide)))
      have en_67 : x_63.toInt ≠ 3 := fun h9 => n_67 (Int32.toInt_inj.mp (h9.trans (by decide)))
      have en_68 : x_63.toInt ≠ 4 := fun h9 => n_68 (Int32.toInt_inj.mp (h9.trans (by decide)))
      have en_69 : x_63.toInt ≠ 5 := fun h9 => n_69 (Int32.toInt_inj.mp (h9.trans (by decide)))
      have en_70 : x_63.toInt ≠ 6 := fun h9 => n_70 (Int32.toInt_inj.mp (h9.trans (by decide)))
      have en_71 : x_63.toInt ≠ 7 := fun h9 => n_71 (Int32.toInt_inj.mp (h9.trans (by decide)))
      have en_72 : x_63.toInt ≠ 8 := fun h9 => n_72 (Int32.toInt_inj.mp (h9.trans (by decide)))
      have en_73 : x_63.toInt ≠ 9 := fun h9 => n_73 (Int32.toInt_inj.mp (h9.trans (by decide)))
      have en_74 : x_63.toInt ≠ 10 := fun h9 => n_74 (Int32.toInt_inj.mp (h9.trans (by decide)))
      have en_75 : x_63.toInt ≠ 11 := fun h9 => n_75 (Int32.toInt_inj.mp (h9.trans (by decide)))
      have en_76 : x_63.toInt ≠ 12 := fun h9 => n_76 (Int32.toInt_inj.mp (h9.trans (by decide)))
      have en_77 : x_63.toInt ≠ 13 := fun h9 => n_77 (Int32.toInt_inj.mp (h9.trans (by decide)))
      have en_78 : x_63.toInt ≠ 14 := fun h9 => n_78 (Int32.toInt_inj.mp (h9.trans (by decide)))
      have en_79 : x_63.toInt ≠ 15 := fun h9 => n_79 (Int32.toInt_inj.mp (h9.trans (by decide)))
      have en_80 : x_63.toInt ≠ 16 := fun h9 => n_80 (Int32.toInt_inj.mp (h9.trans (by decide)))
      have en_81 : x_63.toInt ≠ 17 := fun h9 => n_81 (Int32.toInt_inj.mp (h9.trans (by decide)))
      have en_82 : x_63.toInt ≠ 18 := fun h9 => n_82 (Int32.toInt_inj.mp (h9.trans (by decide)))
      have en_83 : x_63.toInt ≠ 19 := fun h9 => n_83 (Int32.toInt_inj.mp (h9.trans (by decide)))
      have en_84 : x_63.toInt ≠ 20 := fun h9 => n_84 (Int32.toInt_inj.mp (h9.trans (by decide)))
      have en_85 : x_63.toInt ≠ 21 := fun h9 => n_85 (Int32.toInt_inj.mp (h9.trans (by decide)))
      have en_86 : x_63.toInt ≠ 22 := fun h9 => n_86 (Int32.toInt_inj.mp (h9.trans (by decide)))
      have en_87 : x_63.toInt ≠ 23 := fun h9 => n_87 (Int32.toInt_inj.mp (h9.trans (by decide)))
      have en_88 : x_63.toInt ≠ 24 := fun h9 => n_88 (Int32.toInt_inj.mp (h9.trans (by decide)))
      have en_89 : x_63.toInt ≠ 25 := fun h9 => n_89 (Int32.toInt_inj.mp (h9.trans (by decide)))
      have en_90 : x_63.toInt ≠ 26 := fun h9 => n_90 (Int32.toInt_inj.mp (h9.trans (by decide)))
      have en_91 : x_63.toInt ≠ 27 := fun h9 => n_91 (Int32.toInt_inj.mp (h9.trans (by decide)))
      have en_92 : x_63.toInt ≠ 28 := fun h9 => n_92 (Int32.toInt_inj.mp (h9.trans (by decide)))
      have en_93 : x_63.toInt ≠ 29 := fun h9 => n_93 (Int32.toInt_inj.mp (h9.trans (by decide)))
      have en_94 : x_63.toInt ≠ 30 := fun h9 => n_94 (Int32.toInt_inj.mp (h9.trans (by decide)))
      have en_95 : x_63.toInt ≠ 31 := fun h9 => n_95 (Int32.toInt_inj.mp (h9.trans (by decide)))
      have en_96 : x_63.toInt ≠ 32 := fun h9 => n_96 (Int32.toInt_inj.mp (h9.trans (by decide)))
      have en_97 : x_63.toInt ≠ 33 := fun h9 => n_97 (Int32.toInt_inj.mp (h9.trans (by decide)))
      have en_98 : x_63.toInt ≠ 34 := fun h9 => n_98 (Int32.toInt_inj.mp (h9.trans (by decide)))
      have en_99 : x_63.toInt ≠ 35 := fun h9 => n_99 (Int32.toInt_inj.mp (h9.trans (by decide)))
      have en_100 : x_63.toInt ≠ 36 := fun h9 => n_100 (Int32.toInt_inj.mp (h9.trans (by decide)))
      have en_101 : x_63.toInt ≠ 37 := fun h9 => n_101 (Int32.toInt_inj.mp (h9.trans (by decide)))
      have en_102 : x_63.toInt ≠ 38 := fun h9 => n_102 (Int32.toInt_inj.mp (h9.trans (by decide)))
      have en_103 : x_63.toInt ≠ 39 := fun h9 => n_103 (Int32.toInt_inj.mp (h9.trans (by decide)))
      have en_104 : x_63.toInt ≠ 40 := fun h9 => n_104 (Int32.toInt_inj.mp (h9.trans (by decide)))
      have en_105 : x_63.toInt ≠ 41 := fun h9 => n_105 (Int32.toInt_inj.mp (h9.trans (by decide)))
      have en_106 : x_63.toInt ≠ 42 := fun h9 => n_106 (Int32.toInt_inj.mp (h9.trans (by decide)))
      have en_107 : x_63.toInt ≠ 43 := fun h9 => n_107 (Int32.toInt_inj.mp (h9.trans (by decide)))
      have en_108 : x_63.toInt ≠ 44 := fun h9 => n_108 (Int32.toInt_inj.mp (h9.trans (by decide)))
      have en_109 : x_63.toInt ≠ 45 := fun h9 => n_109 (Int32.toInt_inj.mp (h9.trans (by decide)))
      have en_110 : x_63.toInt ≠ 46 := fun h9 => n_110 (Int32.toInt_inj.mp (h9.trans (by decide)))
      have en_111 : x_63.toInt ≠ 47 := fun h9 => n_111 (Int32.toInt_inj.mp (h9.trans (by decide)))
      have en_112 : x_63.toInt ≠ 48 := fun h9 => n_112 (Int32.toInt_inj.mp (h9.trans (by decide)))
      have en_113 : x_63.toInt ≠ 49 := fun h9 => n_113 (Int32.toInt_inj.mp (h9.trans (by decide)))
      have en_114 : x_63.toInt ≠ 50 := fun h9 => n_114 (Int32.toInt_inj.mp (h9.trans (by decide)))
      have en_115 : x_63.toInt ≠ 51 := fun h9 => n_115 (Int32.toInt_inj.mp (h9.trans (by decide)))
      have en_116 : x_63.toInt ≠ 52 := fun h9 => n_116 (Int32.toInt_inj.mp (h9.trans (by decide)))
      have en_117 : x_63.toInt ≠ 53 := fun h9 => n_117 (Int32.toInt_inj.mp (h9.trans (by decide)))
      have en_118 : x_63.toInt ≠ 54 := fun h9 => n_118 (Int32.toInt_inj.mp (h9.trans (by decide)))
      have en_119 : x_63.toInt ≠ 55 := fun h9 => n_119 (Int32.toInt_inj.mp (h9.trans (by decide)))
      have en_120 : x_63.toInt ≠ 56 := fun h9 => n_120 (Int32.toInt_inj.mp (h9.trans (by decide)))
      have en_121 : x_63.toInt ≠ 57 := fun h9 => n_121 (Int32.toInt_inj.mp (h9.trans (by decide)))
      omega
    refine lv_tableOut (tgt := 1971) hx hb dL_law_40 o_122 (by decide) ?_
    exact lc_end (Nat.le_of_ble_eq_true rfl) (Nat.le_of_ble_eq_true rfl) hA2 C0 hS (lv_sub hl [0, 4] rfl)
