section P443_cases_0
set_option maxHeartbeats 4000000 in
set_option maxRecDepth 100000 in
theorem lc_0 {p : Program} {l : Launch} {e : Env} {s : State} {m : MethodId} {below : List Frame} {meth : Method} {c : Code} {b L : Nat} {xs : Nat → Int32} {A : Nat → Prop} {dC : Nat → ClassId} {dI : Nat → Nat → Nat} (hl0 : l.stackTraces = false) (hL : L ≤ 3072) (hA : ∀ q, s.heap.size ≤ q → A q) (hA2 : ∀ q, A q → s.heap.size ≤ q) (C0 : lw_At p s m meth c b L xs) (sd : Nat → Nat) (sa : Nat) (hE : lg_E A sd sa s) (x mo oa : Nat) (ko : ClassId) (hKo : va_K (dC, dI) vwCl [(ko, .long)] s) (i : Int32) (hi0 : (0 : Int) ≤ i.toInt) (hi6 : i.toInt + 6 ≤ (L : Int)) {H : Heap} {locs : List Loc} {cells slots : Nat} (hc9 : cells + 1 ≤ 601024) (hs9 : slots + 6 ≤ 7293034) (hG : lg_S dC dI A s x mo oa ko H) (hS : va_S A s.heap H locs) {ls : Array Slot} (hl : lv_has ls 7 [(4, .int i), (3, .ref oa), (2, .ref mo), (1, .ref x), (0, .ref b)])
    (kk : ∀ (H : Heap) (locs : List Loc) (ls : Array Slot) (k9 n9 : Nat), k9 ≤ cells + 1 → n9 ≤ slots + 6 → lg_S dC dI A s x mo oa ko H → va_S A s.heap H locs → lv_has ls 7 [(4, .int i), (3, .ref oa), (2, .ref mo), (1, .ref x), (0, .ref b)] → W p l e room_1 s m #[Value.ref b] below meth c H locs k9 n9 (lw_Z below #[Value.ref b] s) (F0 m 1941 ls [])) : W p l e room_1 s m #[Value.ref b] below meth c H locs cells slots (lw_Z below #[Value.ref b] s) (F0 m 288 ls []) := by
  obtain ⟨hx, hb, hr, hml, hown0, htl, hX, hbl, hlocks, hgv⟩ := id C0
  have hown : s.vm.findClass RL = some m.cls := hown0
  have hts : ∀ w ∈ wlT, w.before #[Value.ref b] s = true := fun w h => htl w (wlT_in w h)
  have hbA : ¬ A b := fun h => absurd (hA2 b h) (Nat.not_le.mpr hbl)
  obtain ⟨tp, wx, wm, tx, tm, fo, vi, vf, vm, vn, hIX, hIM, hR, hKx, hKm, hPx, hPm, hPo, hDx, hDm, hDo, jxm, jxo, jmo⟩ := hG
  have hiM : i.toInt ≤ (3066 : Int) := by omega
  have hcc : cells ≤ 601024 := by omega
  have hss : slots ≤ 7293034 := by omega
  have htpb := ix_tp hIX
  have hMo := im_mo hIM
  refine lv_aload_n hx hb dL_law_288 rfl (lv_at hl 3 rfl) ?_
  refine lv_aload_n hx hb dL_law_289 rfl (lv_at hl 4 rfl) ?_
  refine lv_iload hx hb dL_law_290 (lv_at hl 0 rfl) ?_
  refine lv_iconst (v := 1) hx hb dL_law_292 zk_iconst_1 ?_
  refine lv_iadd hx hb dL_law_293 ?_
  refine lv_topi (fun ix1 eix1 => ?_)
  have qix1 : ix1.toInt = i.toInt + 1 := ai_add eix1 ⟨hi0, hiM⟩ ⟨zq1, zq0⟩ (by decide) (by decide)
  refine va_sld (L := L) (i := ix1) hx hb hX hbl hbA hS (vp_in_iff.mpr ⟨by omega, by omega⟩) dL_law_294 ?_
  refine lv_topi (fun vix1 evix1 => ?_)
  refine lv_aload_n hx hb dL_law_295 rfl (lv_at hl 4 rfl) ?_
  refine lv_iload hx hb dL_law_296 (lv_at hl 0 rfl) ?_
  refine lv_iconst (v := 2) hx hb dL_law_298 zk_iconst_2 ?_
  refine lv_iadd hx hb dL_law_299 ?_
  refine lv_topi (fun ix2 eix2 => ?_)
  have qix2 : ix2.toInt = i.toInt + 2 := ai_add eix2 ⟨hi0, hiM⟩ ⟨zq12, zq13⟩ (by decide) (by decide)
  refine va_sld (L := L) (i := ix2) hx hb hX hbl hbA hS (vp_in_iff.mpr ⟨by omega, by omega⟩) dL_law_300 ?_
  refine lv_topi (fun vix2 evix2 => ?_)
  refine lv_aload_n hx hb dL_law_301 rfl (lv_at hl 4 rfl) ?_
  refine lv_iload hx hb dL_law_302 (lv_at hl 0 rfl) ?_
  refine lv_iconst (v := 3) hx hb dL_law_304 zk_iconst_3 ?_
  refine lv_iadd hx hb dL_law_305 ?_
  refine lv_topi (fun ix3 eix3 => ?_)
  have qix3 : ix3.toInt = i.toInt + 3 := ai_add eix3 ⟨hi0, hiM⟩ ⟨zq8, zq9⟩ (by decide) (by decide)
  refine va_sld (L := L) (i := ix3) hx hb hX hbl hbA hS (vp_in_iff.mpr ⟨by omega, by omega⟩) dL_law_306 ?_
  refine lv_topi (fun vix3 evix3 => ?_)
  refine lv_aload_n hx hb dL_law_307 rfl (lv_at hl 4 rfl) ?_
  refine lv_iload hx hb dL_law_308 (lv_at hl 0 rfl) ?_
  refine lv_iconst (v := 4) hx hb dL_law_310 zk_iconst_4 ?_
  refine lv_iadd hx hb dL_law_311 ?_
  refine lv_topi (fun ix4 eix4 => ?_)
  have qix4 : ix4.toInt = i.toInt + 4 := ai_add eix4 ⟨hi0, hiM⟩ ⟨zq68, zq67⟩ (by decide) (by decide)
  refine va_sld (L := L) (i := ix4) hx hb hX hbl hbA hS (vp_in_iff.mpr ⟨by omega, by omega⟩) dL_law_312 ?_
  refine lv_topi (fun vix4 evix4 => ?_)
  refine lv_aload_n hx hb dL_law_313 rfl (lv_at hl 4 rfl) ?_
  refine lv_iload hx hb dL_law_314 (lv_at hl 0 rfl) ?_
  refine lv_iconst (v := 5) hx hb dL_law_316 zk_iconst_5 ?_
  refine lv_iadd hx hb dL_law_317 ?_
  refine lv_topi (fun ix5 eix5 => ?_)
  have qix5 : ix5.toInt = i.toInt + 5 := ai_add eix5 ⟨hi0, hiM⟩ ⟨zq112, zq113⟩ (by decide) (by decide)
  refine va_sld (L := L) (i := ix5) hx hb hX hbl hbA hS (vp_in_iff.mpr ⟨by omega, by omega⟩) dL_law_318 ?_
  refine lv_topi (fun vix5 evix5 => ?_)
  have hFc := lg_free hDx hS hA
  obtain ⟨fs319, hfs319⟩ := ix_recv hIX
  refine va_calli (va_runV (As := [.int vix1, .int vix2, .int vix3, .int vix4, .int vix5]) (rest := []) ⟨hx, hb, hml, hown, hts⟩ (k_X7_feed l dC dI H.size x tp vi vf wx tx hIX vix1 vix2 vix3 vix4 vix5) (cwV 5 hts gd_X7_feed rfl rfl rfl (by decide +kernel) ⟨Nat.le_of_ble_eq_true rfl, Nat.le_of_ble_eq_true rfl⟩) ⟨ax_blind (fun _ _ _ _ _ => trivial), va_recv hKx hPx (ci := 7) (q0 := 0) rfl hfs319, ax_preE hPx hKx hDx (fun _ _ _ => trivial)⟩ rfl rfl hl.1 rfl (lv_room (Nat.le_of_ble_eq_true rfl)) dL_law_319 ⟨hcc, hss⟩) hS (fun q _ h => hFc q h) hFc (fun r319 u t H1 locs ht hvm hw319 hB hz1 hk1 hS => ?_)
  obtain ⟨wxn, txn, ⟨tpx, vi1, vf1, kx1, kx2, ⟨ftx, ffx⟩, hI1⟩, hP1, hK1, hD1⟩ := hB
  rw [ht] at hP1
  have hK1 := va_K.moved hvm.symm hK1
  obtain ⟨hPm, jxm⟩ := lg_step hPm jxm hk1 hD1
  obtain ⟨hPo, jxo⟩ := lg_step hPo jxo hk1 hD1
  have hD1 := hD1.weaken (fun _ _ _ h9 => hFc _ h9)
  clear hPx hDx hKx hFc hk1 hz1 hfs319
  have hIX := hI1; have hPx := hP1; have hDx := hD1; have hKx := hK1; clear hI1 hP1 hD1 hK1
  clear ht; generalize H1 = H at hPx hPm hPo hS ⊢
  refine lv_pop hx hb dL_law_322 rfl ?_
  refine lv_aload_n hx hb dL_law_323 rfl (lv_at hl 2 rfl) ?_
  refine lv_aload_n hx hb dL_law_324 rfl (lv_at hl 4 rfl) ?_
  refine lv_iload hx hb dL_law_325 (lv_at hl 0 rfl) ?_
  refine lv_iconst (v := 1) hx hb dL_law_327 zk_iconst_1 ?_
  refine lv_iadd hx hb dL_law_328 ?_
  refine ax_ti ix1 eix1.symm ?_
  refine va_sld (L := L) (i := ix1) hx hb hX hbl hbA hS (vp_in_iff.mpr ⟨by omega, by omega⟩) dL_law_329 ?_
  refine ax_ti vix1 evix1.symm ?_
  refine lv_aload_n hx hb dL_law_330 rfl (lv_at hl 4 rfl) ?_
  refine lv_iload hx hb dL_law_331 (lv_at hl 0 rfl) ?_
  refine lv_iconst (v := 2) hx hb dL_law_333 zk_iconst_2 ?_
  refine lv_iadd hx hb dL_law_334 ?_
  refine ax_ti ix2 eix2.symm ?_
  refine va_sld (L := L) (i := ix2) hx hb hX hbl hbA hS (vp_in_iff.mpr ⟨by omega, by omega⟩) dL_law_335 ?_
  refine ax_ti vix2 evix2.symm ?_
  refine lv_aload_n hx hb dL_law_336 rfl (lv_at hl 4 rfl) ?_
  refine lv_iload hx hb dL_law_337 (lv_at hl 0 rfl) ?_
  refine lv_iconst (v := 3) hx hb dL_law_339 zk_iconst_3 ?_
  refine lv_iadd hx hb dL_law_340 ?_
  refine ax_ti ix3 eix3.symm ?_
  refine va_sld (L := L) (i := ix3) hx hb hX hbl hbA hS (vp_in_iff.mpr ⟨by omega, by omega⟩) dL_law_341 ?_
  refine ax_ti vix3 evix3.symm ?_
  refine lv_aload_n hx hb dL_law_342 rfl (lv_at hl 4 rfl) ?_
  refine lv_iload hx hb dL_law_343 (lv_at hl 0 rfl) ?_
  refine lv_iconst (v := 4) hx hb dL_law_345 zk_iconst_4 ?_
  refine lv_iadd hx hb dL_law_346 ?_
  refine ax_ti ix4 eix4.symm ?_
  refine va_sld (L := L) (i := ix4) hx hb hX hbl hbA hS (vp_in_iff.mpr ⟨by omega, by omega⟩) dL_law_347 ?_
  refine ax_ti vix4 evix4.symm ?_
  refine lv_aload_n hx hb dL_law_348 rfl (lv_at hl 4 rfl) ?_
  refine lv_iload hx hb dL_law_349 (lv_at hl 0 rfl) ?_
  refine lv_iconst (v := 5) hx hb dL_law_351 zk_iconst_5 ?_
  refine lv_iadd hx hb dL_law_352 ?_
  refine ax_ti ix5 eix5.symm ?_
  refine va_sld (L := L) (i := ix5) hx hb hX hbl hbA hS (vp_in_iff.mpr ⟨by omega, by omega⟩) dL_law_353 ?_
  refine ax_ti vix5 evix5.symm ?_
  have hFc := lg_free hDm hS hA
  obtain ⟨fs354, hfs354⟩ := im_recv hIM
  refine va_calli (va_runV (As := [.int vix1, .int vix2, .int vix3, .int vix4, .int vix5]) (rest := []) ⟨hx, hb, hml, hown, hts⟩ (k_X8_feed l dC dI H.size mo tp vm vn wm tm hIM vix1 vix2 vix3 vix4 vix5) (cwV 5 hts gd_X8_feed rfl rfl rfl (by decide +kernel) ⟨Nat.le_of_ble_eq_true rfl, Nat.le_of_ble_eq_true rfl⟩) ⟨ax_blind (fun _ _ _ _ _ => trivial), va_recv hKm hPm (ci := 8) (q0 := 0) rfl hfs354, ax_preE hPm hKm hDm (fun _ _ _ => trivial)⟩ rfl rfl hl.1 rfl (lv_room (Nat.le_of_ble_eq_true rfl)) dL_law_354 ⟨hcc, hss⟩) hS (fun q _ h => hFc q h) hFc (fun r354 u t H1 locs ht hvm hw354 hB hz1 hk1 hS => ?_)
  obtain ⟨wmn, tmn, ⟨tpm, vm1, vn1, km1, km2, ⟨ftm, ffm⟩, hI1⟩, hP1, hK1, hD1⟩ := hB
  rw [ht] at hP1
  have hK1 := va_K.moved hvm.symm hK1
  obtain ⟨hPx, jmx⟩ := lg_step hPx (dj_symm jxm) hk1 hD1
  have jxm := dj_symm jmx
  obtain ⟨hPo, jmo⟩ := lg_step hPo jmo hk1 hD1
  have hD1 := hD1.weaken (fun _ _ _ h9 => hFc _ h9)
  clear hPm hDm hKm hFc hk1 hz1 hfs354
  have hIM := hI1; have hPm := hP1; have hDm := hD1; have hKm := hK1; clear hI1 hP1 hD1 hK1
  clear ht; generalize H1 = H at hPx hPm hPo hS ⊢
  refine lv_pop hx hb dL_law_357 rfl ?_
  refine lv_goto (tgt := 1941) hx hb dL_law_358 (by decide) ?_
  obtain ⟨htp, hRt⟩ := rp_feed2 hR.1 htpb.1 vix1.toInt vix2.toInt vix3.toInt vix4.toInt vix5.toInt ftx ffx ftm ffm
  clear ftx ffx ftm ffm
  subst htp
  have hRn : lr_R tpx vi1 vf1 vm1 vn1 := ⟨hRt, lr_keep (fun k9 h9 => kx1 k9 (kp_dis (by decide) h9)) (fun k9 h8 h9 => kx1 k9 (kp_out (a := 57) (b := 152) (by decide) h8 h9)) (fun k9 h9 => kx2 k9 (kp_dis (by decide) h9)) (fun k9 h8 h9 => kx2 k9 (kp_out (a := 23) (b := 61) (by decide) h8 h9)) (fun k9 h9 => km1 k9 (kp_dis (by decide) h9)) (fun k9 h9 => km2 k9 (kp_dis (by decide) h9)) hR.2⟩
  exact kk _ _ _ _ _ (Nat.le_add_right _ _) (Nat.le_add_right _ _) ⟨tpx, _, _, _, _, _, _, _, _, _, hIX, hIM, hRn, hKx, hKm, hPx, hPm, hPo, hDx, hDm, hDo, jxm, jxo, jmo⟩ hS (lv_sub hl [0, 1, 2, 3, 4] rfl)

set_option maxHeartbeats 4000000 in
set_option maxRecDepth 100000 in
theorem lc_1 {p : Program} {l : Launch} {e : Env} {s : State} {m : MethodId} {below : List Frame} {meth : Method} {c : Code} {b L : Nat} {xs : Nat → Int32} {A : Nat → Prop} {dC : Nat → ClassId} {dI : Nat → Nat → Nat} (hl0 : l.stackTraces = false) (hL : L ≤ 3072) (hA : ∀ q, s.heap.size ≤ q → A q) (hA2 : ∀ q, A q → s.heap.size ≤ q) (C0 : lw_At p s m meth c b L xs) (sd : Nat → Nat) (sa : Nat) (hE : lg_E A sd sa s) (x mo oa : Nat) (ko : ClassId) (hKo : va_K (dC, dI) vwCl [(ko, .long)] s) (i : Int32) (hi0 : (0 : Int) ≤ i.toInt) (hi6 : i.toInt + 6 ≤ (L : Int)) {H : Heap} {locs : List Loc} {cells slots : Nat} (hc9 : cells + 1 ≤ 601024) (hs9 : slots + 6 ≤ 7293034) (hG : lg_S dC dI A s x mo oa ko H) (hS : va_S A s.heap H locs) {ls : Array Slot} (hl : lv_has ls 7 [(4, .int i), (3, .ref oa), (2, .ref mo), (1, .ref x), (0, .ref b)])
    (kk : ∀ (H : Heap) (locs : List Loc) (ls : Array Slot) (k9 n9 : Nat), k9 ≤ cells + 1 → n9 ≤ slots + 6 → lg_S dC dI A s x mo oa ko H → va_S A s.heap H locs → lv_has ls 7 [(4, .int i), (3, .ref oa), (2, .ref mo), (1, .ref x), (0, .ref b)] → W p l e room_1 s m #[Value.ref b] below meth c H locs k9 n9 (lw_Z below #[Value.ref b] s) (F0 m 1941 ls [])) : W p l e room_1 s m #[Value.ref b] below meth c H locs cells slots (lw_Z below #[Value.ref b] s) (F0 m 361 ls []) := by
  obtain ⟨hx, hb, hr, hml, hown0, htl, hX, hbl, hlocks, hgv⟩ := id C0
  have hown : s.vm.findClass RL = some m.cls := hown0
  have hts : ∀ w ∈ wlT, w.before #[Value.ref b] s = true := fun w h => htl w (wlT_in w h)
  have hbA : ¬ A b := fun h => absurd (hA2 b h) (Nat.not_le.mpr hbl)
  obtain ⟨tp, wx, wm, tx, tm, fo, vi, vf, vm, vn, hIX, hIM, hR, hKx, hKm, hPx, hPm, hPo, hDx, hDm, hDo, jxm, jxo, jmo⟩ := hG
  have hiM : i.toInt ≤ (3066 : Int) := by omega
  have hcc : cells ≤ 601024 := by omega
  have hss : slots ≤ 7293034 := by omega
  have htpb := ix_tp hIX
  have hMo := im_mo hIM
  refine lv_aload_n hx hb dL_law_361 rfl (lv_at hl 3 rfl) ?_
  refine lv_aload_n hx hb dL_law_362 rfl (lv_at hl 4 rfl) ?_
  refine lv_iload hx hb dL_law_363 (lv_at hl 0 rfl) ?_
  refine lv_iconst (v := 1) hx hb dL_law_365 zk_iconst_1 ?_
  refine lv_iadd hx hb dL_law_366 ?_
  refine lv_topi (fun ix1 eix1 => ?_)
  have qix1 : ix1.toInt = i.toInt + 1 := ai_add eix1 ⟨hi0, hiM⟩ ⟨zq1, zq0⟩ (by decide) (by decide)
  refine va_sld (L := L) (i := ix1) hx hb hX hbl hbA hS (vp_in_iff.mpr ⟨by omega, by omega⟩) dL_law_367 ?_
  refine lv_topi (fun vix1 evix1 => ?_)
  have hFc := lg_free hDx hS hA
  obtain ⟨fs368, hfs368⟩ := ix_recv hIX
  refine va_calli (va_runV (As := [.int vix1]) (rest := []) ⟨hx, hb, hml, hown, hts⟩ (k_X7_gallery l dC dI H.size x tp vi vf wx tx hIX sd vix1) (cwV 1 hts gd_X7_gallery rfl rfl rfl (by decide +kernel) ⟨Nat.le_of_ble_eq_true rfl, Nat.le_of_ble_eq_true rfl⟩) ⟨ax_blind (fun _ _ _ _ hq => ⟨sxc_T_same _ _ _ _ (hq.1), va_Nw.same rfl rfl (hq.2.1), va_Nw.same rfl rfl (hq.2.2)⟩), va_recv hKx hPx (ci := 7) (q0 := 0) rfl hfs368, ax_preE hPx hKx hDx (fun U hU hW => ⟨sxc_T_to hE.1 hS.2.1 hFc hU hW, va_Nw.warmM hW (hE.2.2.2.2.2.2.2.2.1), va_Nw.warmM hW (hE.2.2.2.2.2.2.2.2.2)⟩)⟩ rfl rfl hl.1 rfl (lv_room (Nat.le_of_ble_eq_true rfl)) dL_law_368 ⟨hcc, hss⟩) hS (fun q _ h => hFc q h) hFc (fun r368 u t H1 locs ht hvm hw368 hB hz1 hk1 hS => ?_)
  obtain ⟨wxn, txn, ⟨tpx, vi1, vf1, htpx, kx2, hgx, kgx1, kgx2, hI1⟩, hP1, hK1, hD1⟩ := hB
  rw [ht] at hP1
  have hK1 := va_K.moved hvm.symm hK1
  obtain ⟨hPm, jxm⟩ := lg_step hPm jxm hk1 hD1
  obtain ⟨hPo, jxo⟩ := lg_step hPo jxo hk1 hD1
  have hD1 := hD1.weaken (fun _ _ _ h9 => hFc _ h9)
  clear hPx hDx hKx hFc hk1 hz1 hfs368
  have hIX := hI1; have hPx := hP1; have hDx := hD1; have hKx := hK1; clear hI1 hP1 hD1 hK1
  clear ht; generalize H1 = H at hPx hPm hPo hS ⊢
  refine lv_pop hx hb dL_law_371 rfl ?_
  refine lv_aload_n hx hb dL_law_372 rfl (lv_at hl 2 rfl) ?_
  refine lv_aload_n hx hb dL_law_373 rfl (lv_at hl 4 rfl) ?_
  refine lv_iload hx hb dL_law_374 (lv_at hl 0 rfl) ?_
  refine lv_iconst (v := 1) hx hb dL_law_376 zk_iconst_1 ?_
  refine lv_iadd hx hb dL_law_377 ?_
  refine ax_ti ix1 eix1.symm ?_
  refine va_sld (L := L) (i := ix1) hx hb hX hbl hbA hS (vp_in_iff.mpr ⟨by omega, by omega⟩) dL_law_378 ?_
  refine ax_ti vix1 evix1.symm ?_
  have hFc := lg_free hDm hS hA
  obtain ⟨fs379, hfs379⟩ := im_recv hIM
  refine va_calli (va_runV (As := [.int vix1]) (rest := []) ⟨hx, hb, hml, hown, hts⟩ (k_X8_gallery l dC dI H.size mo tp vm vn wm tm hIM sd vix1) (cwV 1 hts gd_X8_gallery rfl rfl rfl (by decide +kernel) ⟨Nat.le_of_ble_eq_true rfl, Nat.le_of_ble_eq_true rfl⟩) ⟨ax_blind (fun _ _ _ _ hq => sxc_T_same _ _ _ _ (hq)), va_recv hKm hPm (ci := 8) (q0 := 0) rfl hfs379, ax_preE hPm hKm hDm (fun U hU hW => sxc_T_to hE.1 hS.2.1 hFc hU hW)⟩ rfl rfl hl.1 rfl (lv_room (Nat.le_of_ble_eq_true rfl)) dL_law_379 ⟨hcc, hss⟩) hS (fun q _ h => hFc q h) hFc (fun r379 u t H1 locs ht hvm hw379 hB hz1 hk1 hS => ?_)
  obtain ⟨wmn, tmn, ⟨tpm, vm1, vn1, htpm, km2, hgm, kgm1, kgm2, hI1⟩, hP1, hK1, hD1⟩ := hB
  rw [ht] at hP1
  have hK1 := va_K.moved hvm.symm hK1
  obtain ⟨hPx, jmx⟩ := lg_step hPx (dj_symm jxm) hk1 hD1
  have jxm := dj_symm jmx
  obtain ⟨hPo, jmo⟩ := lg_step hPo jmo hk1 hD1
  have hD1 := hD1.weaken (fun _ _ _ h9 => hFc _ h9)
  clear hPm hDm hKm hFc hk1 hz1 hfs379
  have hIM := hI1; have hPm := hP1; have hDm := hD1; have hKm := hK1; clear hI1 hP1 hD1 hK1
  clear ht; generalize H1 = H at hPx hPm hPo hS ⊢
  refine lv_pop hx hb dL_law_382 rfl ?_
  refine lv_goto (tgt := 1941) hx hb dL_law_383 (by decide) ?_
  have htp : tpx = tpm := by
    refine Int32.toInt_inj.mp ?_
    by_cases h9 : (0 : Int) ≤ vix1.toInt ∧ vix1.toInt ≤ tp.toInt
    · rw [htpx.1 h9, htpm.1 h9]
    · rw [htpx.2 (by omega), htpm.2 (by omega)]
  have hRq := lr_gal hR htpb.1 htpb.2 _ kgx1 kgx2 kgm1 kgm2 (im_mo hIM) (ix_L hIX) hgx hgm
  subst htp
  have hRt : rp_T (fl_A (vf1 0)) (fl_A (vn1 0)) tpx.toInt := by
    rw [kx2, km2]
    by_cases h9 : (0 : Int) ≤ vix1.toInt ∧ vix1.toInt ≤ tp.toInt
    · rw [htpx.1 h9]; intro i9 h8; omega
    · rw [htpx.2 (by omega)]; exact hR.1
  have hRn : lr_R tpx vi1 vf1 vm1 vn1 := ⟨hRt, hRq⟩
  exact kk _ _ _ _ _ (Nat.le_add_right _ _) (Nat.le_add_right _ _) ⟨tpx, _, _, _, _, _, _, _, _, _, hIX, hIM, hRn, hKx, hKm, hPx, hPm, hPo, hDx, hDm, hDo, jxm, jxo, jmo⟩ hS (lv_sub hl [0, 1, 2, 3, 4] rfl)

set_option maxHeartbeats 4000000 in
set_option maxRecDepth 100000 in
theorem lc_2 {p : Program} {l : Launch} {e : Env} {s : State} {m : MethodId} {below : List Frame} {meth : Method} {c : Code} {b L : Nat} {xs : Nat → Int32} {A : Nat → Prop} {dC : Nat → ClassId} {dI : Nat → Nat → Nat} (hl0 : l.stackTraces = false) (hL : L ≤ 3072) (hA : ∀ q, s.heap.size ≤ q → A q) (hA2 : ∀ q, A q → s.heap.size ≤ q) (C0 : lw_At p s m meth c b L xs) (sd : Nat → Nat) (sa : Nat) (hE : lg_E A sd sa s) (x mo oa : Nat) (ko : ClassId) (hKo : va_K (dC, dI) vwCl [(ko, .long)] s) (i : Int32) (hi0 : (0 : Int) ≤ i.toInt) (hi6 : i.toInt + 6 ≤ (L : Int)) {H : Heap} {locs : List Loc} {cells slots : Nat} (hc9 : cells + 1 ≤ 601024) (hs9 : slots + 6 ≤ 7293034) (hG : lg_S dC dI A s x mo oa ko H) (hS : va_S A s.heap H locs) {ls : Array Slot} (hl : lv_has ls 7 [(4, .int i), (3, .ref oa), (2, .ref mo), (1, .ref x), (0, .ref b)])
    (kk : ∀ (H : Heap) (locs : List Loc) (ls : Array Slot) (k9 n9 : Nat), k9 ≤ cells + 1 → n9 ≤ slots + 6 → lg_S dC dI A s x mo oa ko H → va_S A s.heap H locs → lv_has ls 7 [(4, .int i), (3, .ref oa), (2, .ref mo), (1, .ref x), (0, .ref b)] → W p l e room_1 s m #[Value.ref b] below meth c H locs k9 n9 (lw_Z below #[Value.ref b] s) (F0 m 1941 ls [])) : W p l e room_1 s m #[Value.ref b] below meth c H locs cells slots (lw_Z below #[Value.ref b] s) (F0 m 386 ls []) := by
  obtain ⟨hx, hb, hr, hml, hown0, htl, hX, hbl, hlocks, hgv⟩ := id C0
  have hown : s.vm.findClass RL = some m.cls := hown0
  have hts : ∀ w ∈ wlT, w.before #[Value.ref b] s = true := fun w h => htl w (wlT_in w h)
  have hbA : ¬ A b := fun h => absurd (hA2 b h) (Nat.not_le.mpr hbl)
  obtain ⟨tp, wx, wm, tx, tm, fo, vi, vf, vm, vn, hIX, hIM, hR, hKx, hKm, hPx, hPm, hPo, hDx, hDm, hDo, jxm, jxo, jmo⟩ := hG
  have hiM : i.toInt ≤ (3066 : Int) := by omega
  have hcc : cells ≤ 601024 := by omega
  have hss : slots ≤ 7293034 := by omega
  have htpb := ix_tp hIX
  have hMo := im_mo hIM
  refine lv_aload_n hx hb dL_law_386 rfl (lv_at hl 3 rfl) ?_
  have hFc := lg_free hDx hS hA
  obtain ⟨fs387, hfs387⟩ := ix_recv hIX
  refine va_calli (va_runV (As := []) (rest := []) ⟨hx, hb, hml, hown, hts⟩ (k_X7_fault l dC dI H.size x tp vi vf wx tx hIX ) (cwV 0 hts gd_X7_fault rfl rfl rfl (by decide +kernel) ⟨Nat.le_of_ble_eq_true rfl, Nat.le_of_ble_eq_true rfl⟩) ⟨ax_blind (fun _ _ _ _ _ => trivial), va_recv hKx hPx (ci := 7) (q0 := 0) rfl hfs387, ax_preE hPx hKx hDx (fun _ _ _ => trivial)⟩ rfl rfl hl.1 rfl (lv_room (Nat.le_of_ble_eq_true rfl)) dL_law_387 ⟨hcc, hss⟩) hS (fun q _ h => hFc q h) hFc (fun r387 u t H1 locs ht hvm hw387 hB hz1 hk1 hS => ?_)
  obtain ⟨wxn, txn, ⟨vi1, vf1, kx1, kx2, hI1⟩, hP1, hK1, hD1⟩ := hB
  rw [ht] at hP1
  have hK1 := va_K.moved hvm.symm hK1
  obtain ⟨hPm, jxm⟩ := lg_step hPm jxm hk1 hD1
  obtain ⟨hPo, jxo⟩ := lg_step hPo jxo hk1 hD1
  have hD1 := hD1.weaken (fun _ _ _ h9 => hFc _ h9)
  clear hPx hDx hKx hFc hk1 hz1 hfs387
  have hIX := hI1; have hPx := hP1; have hDx := hD1; have hKx := hK1; clear hI1 hP1 hD1 hK1
  clear ht; generalize H1 = H at hPx hPm hPo hS ⊢
  refine lv_pop hx hb dL_law_390 rfl ?_
  refine lv_aload_n hx hb dL_law_391 rfl (lv_at hl 2 rfl) ?_
  have hFc := lg_free hDm hS hA
  obtain ⟨fs392, hfs392⟩ := im_recv hIM
  refine va_calli (va_runV (As := []) (rest := []) ⟨hx, hb, hml, hown, hts⟩ (k_X8_fault l dC dI H.size mo tp vm vn wm tm hIM ) (cwV 0 hts gd_X8_fault rfl rfl rfl (by decide +kernel) ⟨Nat.le_of_ble_eq_true rfl, Nat.le_of_ble_eq_true rfl⟩) ⟨ax_blind (fun _ _ _ _ _ => trivial), va_recv hKm hPm (ci := 8) (q0 := 0) rfl hfs392, ax_preE hPm hKm hDm (fun _ _ _ => trivial)⟩ rfl rfl hl.1 rfl (lv_room (Nat.le_of_ble_eq_true rfl)) dL_law_392 ⟨hcc, hss⟩) hS (fun q _ h => hFc q h) hFc (fun r392 u t H1 locs ht hvm hw392 hB hz1 hk1 hS => ?_)
  obtain ⟨wmn, tmn, ⟨vm1, vn1, km1, km2, hI1⟩, hP1, hK1, hD1⟩ := hB
  rw [ht] at hP1
  have hK1 := va_K.moved hvm.symm hK1
  obtain ⟨hPx, jmx⟩ := lg_step hPx (dj_symm jxm) hk1 hD1
  have jxm := dj_symm jmx
  obtain ⟨hPo, jmo⟩ := lg_step hPo jmo hk1 hD1
  have hD1 := hD1.weaken (fun _ _ _ h9 => hFc _ h9)
  clear hPm hDm hKm hFc hk1 hz1 hfs392
  have hIM := hI1; have hPm := hP1; have hDm := hD1; have hKm := hK1; clear hI1 hP1 hD1 hK1
  clear ht; generalize H1 = H at hPx hPm hPo hS ⊢
  refine lv_pop hx hb dL_law_395 rfl ?_
  refine lv_goto (tgt := 1941) hx hb dL_law_396 (by decide) ?_
  have hRn : lr_R tp vi1 vf1 vm1 vn1 := ⟨by rw [kx2 0 (by decide), km2 0 (by decide)]; exact hR.1, lr_keep (fun k9 h9 => kx1 k9 (kp_dis (by decide) h9)) (fun k9 h8 h9 => kx1 k9 (kp_out (a := 57) (b := 152) (by decide) h8 h9)) (fun k9 h9 => kx2 k9 (kp_dis (by decide) h9)) (fun k9 h8 h9 => kx2 k9 (kp_out (a := 23) (b := 61) (by decide) h8 h9)) (fun k9 h9 => km1 k9 (kp_dis (by decide) h9)) (fun k9 h9 => km2 k9 (kp_dis (by decide) h9)) hR.2⟩
  exact kk _ _ _ _ _ (Nat.le_add_right _ _) (Nat.le_add_right _ _) ⟨tp, _, _, _, _, _, _, _, _, _, hIX, hIM, hRn, hKx, hKm, hPx, hPm, hPo, hDx, hDm, hDo, jxm, jxo, jmo⟩ hS (lv_sub hl [0, 1, 2, 3, 4] rfl)

set_option maxHeartbeats 4000000 in
set_option maxRecDepth 100000 in
theorem lc_3 {p : Program} {l : Launch} {e : Env} {s : State} {m : MethodId} {below : List Frame} {meth : Method} {c : Code} {b L : Nat} {xs : Nat → Int32} {A : Nat → Prop} {dC : Nat → ClassId} {dI : Nat → Nat → Nat} (hl0 : l.stackTraces = false) (hL : L ≤ 3072) (hA : ∀ q, s.heap.size ≤ q → A q) (hA2 : ∀ q, A q → s.heap.size ≤ q) (C0 : lw_At p s m meth c b L xs) (sd : Nat → Nat) (sa : Nat) (hE : lg_E A sd sa s) (x mo oa : Nat) (ko : ClassId) (hKo : va_K (dC, dI) vwCl [(ko, .long)] s) (i : Int32) (hi0 : (0 : Int) ≤ i.toInt) (hi6 : i.toInt + 6 ≤ (L : Int)) {H : Heap} {locs : List Loc} {cells slots : Nat} (hc9 : cells + 1 ≤ 601024) (hs9 : slots + 6 ≤ 7293034) (hG : lg_S dC dI A s x mo oa ko H) (hS : va_S A s.heap H locs) {ls : Array Slot} (hl : lv_has ls 7 [(4, .int i), (3, .ref oa), (2, .ref mo), (1, .ref x), (0, .ref b)])
    (kk : ∀ (H : Heap) (locs : List Loc) (ls : Array Slot) (k9 n9 : Nat), k9 ≤ cells + 1 → n9 ≤ slots + 6 → lg_S dC dI A s x mo oa ko H → va_S A s.heap H locs → lv_has ls 7 [(4, .int i), (3, .ref oa), (2, .ref mo), (1, .ref x), (0, .ref b)] → W p l e room_1 s m #[Value.ref b] below meth c H locs k9 n9 (lw_Z below #[Value.ref b] s) (F0 m 1941 ls [])) : W p l e room_1 s m #[Value.ref b] below meth c H locs cells slots (lw_Z below #[Value.ref b] s) (F0 m 399 ls []) := by
  obtain ⟨hx, hb, hr, hml, hown0, htl, hX, hbl, hlocks, hgv⟩ := id C0
  have hown : s.vm.findClass RL = some m.cls := hown0
  have hts : ∀ w ∈ wlT, w.before #[Value.ref b] s = true := fun w h => htl w (wlT_in w h)
  have hbA : ¬ A b := fun h => absurd (hA2 b h) (Nat.not_le.mpr hbl)
  obtain ⟨tp, wx, wm, tx, tm, fo, vi, vf, vm, vn, hIX, hIM, hR, hKx, hKm, hPx, hPm, hPo, hDx, hDm, hDo, jxm, jxo, jmo⟩ := hG
  have hiM : i.toInt ≤ (3066 : Int) := by omega
  have hcc : cells ≤ 601024 := by omega
  have hss : slots ≤ 7293034 := by omega
  have htpb := ix_tp hIX
  have hMo := im_mo hIM
  refine lv_aload_n hx hb dL_law_399 rfl (lv_at hl 3 rfl) ?_
  have hFc := lg_free hDx hS hA
  obtain ⟨fs400, hfs400⟩ := ix_recv hIX
  refine va_calli (va_runV (As := []) (rest := []) ⟨hx, hb, hml, hown, hts⟩ (k_X7_where l dC dI H.size x tp vi vf wx tx hIX ) (cwV 0 hts gd_X7_where rfl rfl rfl (by decide +kernel) ⟨Nat.le_of_ble_eq_true rfl, Nat.le_of_ble_eq_true rfl⟩) ⟨ax_blind (fun _ _ _ _ _ => trivial), va_recv hKx hPx (ci := 7) (q0 := 0) rfl hfs400, ax_preE hPx hKx hDx (fun _ _ _ => trivial)⟩ rfl rfl hl.1 rfl (lv_room (Nat.le_of_ble_eq_true rfl)) dL_law_400 ⟨hcc, hss⟩) hS (fun q _ h => hFc q h) hFc (fun r400 u t H1 locs ht hvm hw400 hB hz1 hk1 hS => ?_)
  obtain ⟨wxn, txn, ⟨vi1, vf1, kx1, kx2, hI1⟩, hP1, hK1, hD1⟩ := hB
  rw [ht] at hP1
  have hK1 := va_K.moved hvm.symm hK1
  obtain ⟨hPm, jxm⟩ := lg_step hPm jxm hk1 hD1
  obtain ⟨hPo, jxo⟩ := lg_step hPo jxo hk1 hD1
  have hD1 := hD1.weaken (fun _ _ _ h9 => hFc _ h9)
  clear hPx hDx hKx hFc hk1 hz1 hfs400
  have hIX := hI1; have hPx := hP1; have hDx := hD1; have hKx := hK1; clear hI1 hP1 hD1 hK1
  clear ht; generalize H1 = H at hPx hPm hPo hS ⊢
  refine lv_pop hx hb dL_law_403 rfl ?_
  refine lv_aload_n hx hb dL_law_404 rfl (lv_at hl 2 rfl) ?_
  have hFc := lg_free hDm hS hA
  obtain ⟨fs405, hfs405⟩ := im_recv hIM
  refine va_calli (va_runV (As := []) (rest := []) ⟨hx, hb, hml, hown, hts⟩ (k_X8_where l dC dI H.size mo tp vm vn wm tm hIM ) (cwV 0 hts gd_X8_where rfl rfl rfl (by decide +kernel) ⟨Nat.le_of_ble_eq_true rfl, Nat.le_of_ble_eq_true rfl⟩) ⟨ax_blind (fun _ _ _ _ _ => trivial), va_recv hKm hPm (ci := 8) (q0 := 0) rfl hfs405, ax_preE hPm hKm hDm (fun _ _ _ => trivial)⟩ rfl rfl hl.1 rfl (lv_room (Nat.le_of_ble_eq_true rfl)) dL_law_405 ⟨hcc, hss⟩) hS (fun q _ h => hFc q h) hFc (fun r405 u t H1 locs ht hvm hw405 hB hz1 hk1 hS => ?_)
  obtain ⟨wmn, tmn, ⟨vm1, vn1, km1, km2, hI1⟩, hP1, hK1, hD1⟩ := hB
  rw [ht] at hP1
  have hK1 := va_K.moved hvm.symm hK1
  obtain ⟨hPx, jmx⟩ := lg_step hPx (dj_symm jxm) hk1 hD1
  have jxm := dj_symm jmx
  obtain ⟨hPo, jmo⟩ := lg_step hPo jmo hk1 hD1
  have hD1 := hD1.weaken (fun _ _ _ h9 => hFc _ h9)
  clear hPm hDm hKm hFc hk1 hz1 hfs405
  have hIM := hI1; have hPm := hP1; have hDm := hD1; have hKm := hK1; clear hI1 hP1 hD1 hK1
  clear ht; generalize H1 = H at hPx hPm hPo hS ⊢
  refine lv_pop hx hb dL_law_408 rfl ?_
  refine lv_goto (tgt := 1941) hx hb dL_law_409 (by decide) ?_
  have hRn : lr_R tp vi1 vf1 vm1 vn1 := ⟨by rw [kx2 0 (by decide), km2 0 (by decide)]; exact hR.1, lr_keep (fun k9 h9 => kx1 k9 (kp_dis (by decide) h9)) (fun k9 h8 h9 => kx1 k9 (kp_out (a := 57) (b := 152) (by decide) h8 h9)) (fun k9 h9 => kx2 k9 (kp_dis (by decide) h9)) (fun k9 h8 h9 => kx2 k9 (kp_out (a := 23) (b := 61) (by decide) h8 h9)) (fun k9 h9 => km1 k9 (kp_dis (by decide) h9)) (fun k9 h9 => km2 k9 (kp_dis (by decide) h9)) hR.2⟩
  exact kk _ _ _ _ _ (Nat.le_add_right _ _) (Nat.le_add_right _ _) ⟨tp, _, _, _, _, _, _, _, _, _, hIX, hIM, hRn, hKx, hKm, hPx, hPm, hPo, hDx, hDm, hDo, jxm, jxo, jmo⟩ hS (lv_sub hl [0, 1, 2, 3, 4] rfl)

set_option maxHeartbeats 4000000 in
set_option maxRecDepth 100000 in
theorem lc_4 {p : Program} {l : Launch} {e : Env} {s : State} {m : MethodId} {below : List Frame} {meth : Method} {c : Code} {b L : Nat} {xs : Nat → Int32} {A : Nat → Prop} {dC : Nat → ClassId} {dI : Nat → Nat → Nat} (hl0 : l.stackTraces = false) (hL : L ≤ 3072) (hA : ∀ q, s.heap.size ≤ q → A q) (hA2 : ∀ q, A q → s.heap.size ≤ q) (C0 : lw_At p s m meth c b L xs) (sd : Nat → Nat) (sa : Nat) (hE : lg_E A sd sa s) (x mo oa : Nat) (ko : ClassId) (hKo : va_K (dC, dI) vwCl [(ko, .long)] s) (i : Int32) (hi0 : (0 : Int) ≤ i.toInt) (hi6 : i.toInt + 6 ≤ (L : Int)) {H : Heap} {locs : List Loc} {cells slots : Nat} (hc9 : cells + 1 ≤ 601024) (hs9 : slots + 6 ≤ 7293034) (hG : lg_S dC dI A s x mo oa ko H) (hS : va_S A s.heap H locs) {ls : Array Slot} (hl : lv_has ls 7 [(4, .int i), (3, .ref oa), (2, .ref mo), (1, .ref x), (0, .ref b)])
    (kk : ∀ (H : Heap) (locs : List Loc) (ls : Array Slot) (k9 n9 : Nat), k9 ≤ cells + 1 → n9 ≤ slots + 6 → lg_S dC dI A s x mo oa ko H → va_S A s.heap H locs → lv_has ls 7 [(4, .int i), (3, .ref oa), (2, .ref mo), (1, .ref x), (0, .ref b)] → W p l e room_1 s m #[Value.ref b] below meth c H locs k9 n9 (lw_Z below #[Value.ref b] s) (F0 m 1941 ls [])) : W p l e room_1 s m #[Value.ref b] below meth c H locs cells slots (lw_Z below #[Value.ref b] s) (F0 m 412 ls []) := by
  obtain ⟨hx, hb, hr, hml, hown0, htl, hX, hbl, hlocks, hgv⟩ := id C0
  have hown : s.vm.findClass RL = some m.cls := hown0
  have hts : ∀ w ∈ wlT, w.before #[Value.ref b] s = true := fun w h => htl w (wlT_in w h)
  have hbA : ¬ A b := fun h => absurd (hA2 b h) (Nat.not_le.mpr hbl)
  obtain ⟨tp, wx, wm, tx, tm, fo, vi, vf, vm, vn, hIX, hIM, hR, hKx, hKm, hPx, hPm, hPo, hDx, hDm, hDo, jxm, jxo, jmo⟩ := hG
  have hiM : i.toInt ≤ (3066 : Int) := by omega
  have hcc : cells ≤ 601024 := by omega
  have hss : slots ≤ 7293034 := by omega
  have htpb := ix_tp hIX
  have hMo := im_mo hIM
  refine lv_aload_n hx hb dL_law_412 rfl (lv_at hl 3 rfl) ?_
  refine lv_aload_n hx hb dL_law_413 rfl (lv_at hl 4 rfl) ?_
  refine lv_iload hx hb dL_law_414 (lv_at hl 0 rfl) ?_
  refine lv_iconst (v := 1) hx hb dL_law_416 zk_iconst_1 ?_
  refine lv_iadd hx hb dL_law_417 ?_
  refine lv_topi (fun ix1 eix1 => ?_)
  have qix1 : ix1.toInt = i.toInt + 1 := ai_add eix1 ⟨hi0, hiM⟩ ⟨zq1, zq0⟩ (by decide) (by decide)
  refine va_sld (L := L) (i := ix1) hx hb hX hbl hbA hS (vp_in_iff.mpr ⟨by omega, by omega⟩) dL_law_418 ?_
  refine lv_topi (fun vix1 evix1 => ?_)
  refine lv_aload_n hx hb dL_law_419 rfl (lv_at hl 4 rfl) ?_
  refine lv_iload hx hb dL_law_420 (lv_at hl 0 rfl) ?_
  refine lv_iconst (v := 2) hx hb dL_law_422 zk_iconst_2 ?_
  refine lv_iadd hx hb dL_law_423 ?_
  refine lv_topi (fun ix2 eix2 => ?_)
  have qix2 : ix2.toInt = i.toInt + 2 := ai_add eix2 ⟨hi0, hiM⟩ ⟨zq12, zq13⟩ (by decide) (by decide)
  refine va_sld (L := L) (i := ix2) hx hb hX hbl hbA hS (vp_in_iff.mpr ⟨by omega, by omega⟩) dL_law_424 ?_
  refine lv_topi (fun vix2 evix2 => ?_)
  have hFc := lg_free hDx hS hA
  obtain ⟨fs425, hfs425⟩ := ix_recv hIX
  refine va_calli (va_runV (As := [.int vix1, .int vix2]) (rest := []) ⟨hx, hb, hml, hown, hts⟩ (k_X7_figure l dC dI H.size x tp vi vf wx tx hIX vix1 vix2) (cwV 2 hts gd_X7_figure rfl rfl rfl (by decide +kernel) ⟨Nat.le_of_ble_eq_true rfl, Nat.le_of_ble_eq_true rfl⟩) ⟨ax_blind (fun _ _ _ _ hq => va_Nw.same rfl rfl (hq)), va_recv hKx hPx (ci := 7) (q0 := 0) rfl hfs425, ax_preE hPx hKx hDx (fun U hU hW => va_Nw.warmM hW (hE.2.2.1))⟩ rfl rfl hl.1 rfl (lv_room (Nat.le_of_ble_eq_true rfl)) dL_law_425 ⟨hcc, hss⟩) hS (fun q _ h => hFc q h) hFc (fun r425 u t H1 locs ht hvm hw425 hB hz1 hk1 hS => ?_)
  obtain ⟨wxn, txn, ⟨vi1, vf1, kx1, kx2, hI1⟩, hP1, hK1, hD1⟩ := hB
  rw [ht] at hP1
  have hK1 := va_K.moved hvm.symm hK1
  obtain ⟨hPm, jxm⟩ := lg_step hPm jxm hk1 hD1
  obtain ⟨hPo, jxo⟩ := lg_step hPo jxo hk1 hD1
  have hD1 := hD1.weaken (fun _ _ _ h9 => hFc _ h9)
  clear hPx hDx hKx hFc hk1 hz1 hfs425
  have hIX := hI1; have hPx := hP1; have hDx := hD1; have hKx := hK1; clear hI1 hP1 hD1 hK1
  clear ht; generalize H1 = H at hPx hPm hPo hS ⊢
  refine lv_pop hx hb dL_law_428 rfl ?_
  refine lv_aload_n hx hb dL_law_429 rfl (lv_at hl 2 rfl) ?_
  refine lv_aload_n hx hb dL_law_430 rfl (lv_at hl 4 rfl) ?_
  refine lv_iload hx hb dL_law_431 (lv_at hl 0 rfl) ?_
  refine lv_iconst (v := 1) hx hb dL_law_433 zk_iconst_1 ?_
  refine lv_iadd hx hb dL_law_434 ?_
  refine ax_ti ix1 eix1.symm ?_
  refine va_sld (L := L) (i := ix1) hx hb hX hbl hbA hS (vp_in_iff.mpr ⟨by omega, by omega⟩) dL_law_435 ?_
  refine ax_ti vix1 evix1.symm ?_
  refine lv_aload_n hx hb dL_law_436 rfl (lv_at hl 4 rfl) ?_
  refine lv_iload hx hb dL_law_437 (lv_at hl 0 rfl) ?_
  refine lv_iconst (v := 2) hx hb dL_law_439 zk_iconst_2 ?_
  refine lv_iadd hx hb dL_law_440 ?_
  refine ax_ti ix2 eix2.symm ?_
  refine va_sld (L := L) (i := ix2) hx hb hX hbl hbA hS (vp_in_iff.mpr ⟨by omega, by omega⟩) dL_law_441 ?_
  refine ax_ti vix2 evix2.symm ?_
  have hFc := lg_free hDm hS hA
  obtain ⟨fs442, hfs442⟩ := im_recv hIM
  refine va_calli (va_runV (As := [.int vix1, .int vix2]) (rest := []) ⟨hx, hb, hml, hown, hts⟩ (k_X8_figure l dC dI H.size mo tp vm vn wm tm hIM vix1 vix2) (cwV 2 hts gd_X8_figure rfl rfl rfl (by decide +kernel) ⟨Nat.le_of_ble_eq_true rfl, Nat.le_of_ble_eq_true rfl⟩) ⟨ax_blind (fun _ _ _ _ _ => trivial), va_recv hKm hPm (ci := 8) (q0 := 0) rfl hfs442, ax_preE hPm hKm hDm (fun _ _ _ => trivial)⟩ rfl rfl hl.1 rfl (lv_room (Nat.le_of_ble_eq_true rfl)) dL_law_442 ⟨hcc, hss⟩) hS (fun q _ h => hFc q h) hFc (fun r442 u t H1 locs ht hvm hw442 hB hz1 hk1 hS => ?_)
  obtain ⟨wmn, tmn, ⟨vm1, vn1, km1, km2, hI1⟩, hP1, hK1, hD1⟩ := hB
  rw [ht] at hP1
  have hK1 := va_K.moved hvm.symm hK1
  obtain ⟨hPx, jmx⟩ := lg_step hPx (dj_symm jxm) hk1 hD1
  have jxm := dj_symm jmx
  obtain ⟨hPo, jmo⟩ := lg_step hPo jmo hk1 hD1
  have hD1 := hD1.weaken (fun _ _ _ h9 => hFc _ h9)
  clear hPm hDm hKm hFc hk1 hz1 hfs442
  have hIM := hI1; have hPm := hP1; have hDm := hD1; have hKm := hK1; clear hI1 hP1 hD1 hK1
  clear ht; generalize H1 = H at hPx hPm hPo hS ⊢
  refine lv_pop hx hb dL_law_445 rfl ?_
  refine lv_goto (tgt := 1941) hx hb dL_law_446 (by decide) ?_
  have hRn : lr_R tp vi1 vf1 vm1 vn1 := ⟨by rw [kx2 0 (by decide), km2 0 (by decide)]; exact hR.1, lr_keep (fun k9 h9 => kx1 k9 (kp_dis (by decide) h9)) (fun k9 h8 h9 => kx1 k9 (kp_out (a := 57) (b := 152) (by decide) h8 h9)) (fun k9 h9 => kx2 k9 (kp_dis (by decide) h9)) (fun k9 h8 h9 => kx2 k9 (kp_out (a := 23) (b := 61) (by decide) h8 h9)) (fun k9 h9 => km1 k9 (kp_dis (by decide) h9)) (fun k9 h9 => km2 k9 (kp_dis (by decide) h9)) hR.2⟩
  exact kk _ _ _ _ _ (Nat.le_add_right _ _) (Nat.le_add_right _ _) ⟨tp, _, _, _, _, _, _, _, _, _, hIX, hIM, hRn, hKx, hKm, hPx, hPm, hPo, hDx, hDm, hDo, jxm, jxo, jmo⟩ hS (lv_sub hl [0, 1, 2, 3, 4] rfl)

set_option maxHeartbeats 4000000 in
set_option maxRecDepth 100000 in
theorem lc_5 {p : Program} {l : Launch} {e : Env} {s : State} {m : MethodId} {below : List Frame} {meth : Method} {c : Code} {b L : Nat} {xs : Nat → Int32} {A : Nat → Prop} {dC : Nat → ClassId} {dI : Nat → Nat → Nat} (hl0 : l.stackTraces = false) (hL : L ≤ 3072) (hA : ∀ q, s.heap.size ≤ q → A q) (hA2 : ∀ q, A q → s.heap.size ≤ q) (C0 : lw_At p s m meth c b L xs) (sd : Nat → Nat) (sa : Nat) (hE : lg_E A sd sa s) (x mo oa : Nat) (ko : ClassId) (hKo : va_K (dC, dI) vwCl [(ko, .long)] s) (i : Int32) (hi0 : (0 : Int) ≤ i.toInt) (hi6 : i.toInt + 6 ≤ (L : Int)) {H : Heap} {locs : List Loc} {cells slots : Nat} (hc9 : cells + 1 ≤ 601024) (hs9 : slots + 6 ≤ 7293034) (hG : lg_S dC dI A s x mo oa ko H) (hS : va_S A s.heap H locs) {ls : Array Slot} (hl : lv_has ls 7 [(4, .int i), (3, .ref oa), (2, .ref mo), (1, .ref x), (0, .ref b)])
    (kk : ∀ (H : Heap) (locs : List Loc) (ls : Array Slot) (k9 n9 : Nat), k9 ≤ cells + 1 → n9 ≤ slots + 6 → lg_S dC dI A s x mo oa ko H → va_S A s.heap H locs → lv_has ls 7 [(4, .int i), (3, .ref oa), (2, .ref mo), (1, .ref x), (0, .ref b)] → W p l e room_1 s m #[Value.ref b] below meth c H locs k9 n9 (lw_Z below #[Value.ref b] s) (F0 m 1941 ls [])) : W p l e room_1 s m #[Value.ref b] below meth c H locs cells slots (lw_Z below #[Value.ref b] s) (F0 m 449 ls []) := by
  obtain ⟨hx, hb, hr, hml, hown0, htl, hX, hbl, hlocks, hgv⟩ := id C0
  have hown : s.vm.findClass RL = some m.cls := hown0
  have hts : ∀ w ∈ wlT, w.before #[Value.ref b] s = true := fun w h => htl w (wlT_in w h)
  have hbA : ¬ A b := fun h => absurd (hA2 b h) (Nat.not_le.mpr hbl)
  obtain ⟨tp, wx, wm, tx, tm, fo, vi, vf, vm, vn, hIX, hIM, hR, hKx, hKm, hPx, hPm, hPo, hDx, hDm, hDo, jxm, jxo, jmo⟩ := hG
  have hiM : i.toInt ≤ (3066 : Int) := by omega
  have hcc : cells ≤ 601024 := by omega
  have hss : slots ≤ 7293034 := by omega
  have htpb := ix_tp hIX
  have hMo := im_mo hIM
  refine lv_aload_n hx hb dL_law_449 rfl (lv_at hl 3 rfl) ?_
  refine lv_aload_n hx hb dL_law_450 rfl (lv_at hl 4 rfl) ?_
  refine lv_iload hx hb dL_law_451 (lv_at hl 0 rfl) ?_
  refine lv_iconst (v := 1) hx hb dL_law_453 zk_iconst_1 ?_
  refine lv_iadd hx hb dL_law_454 ?_
  refine lv_topi (fun ix1 eix1 => ?_)
  have qix1 : ix1.toInt = i.toInt + 1 := ai_add eix1 ⟨hi0, hiM⟩ ⟨zq1, zq0⟩ (by decide) (by decide)
  refine va_sld (L := L) (i := ix1) hx hb hX hbl hbA hS (vp_in_iff.mpr ⟨by omega, by omega⟩) dL_law_455 ?_
  refine lv_topi (fun vix1 evix1 => ?_)
  refine lv_aload_n hx hb dL_law_456 rfl (lv_at hl 4 rfl) ?_
  refine lv_iload hx hb dL_law_457 (lv_at hl 0 rfl) ?_
  refine lv_iconst (v := 2) hx hb dL_law_459 zk_iconst_2 ?_
  refine lv_iadd hx hb dL_law_460 ?_
  refine lv_topi (fun ix2 eix2 => ?_)
  have qix2 : ix2.toInt = i.toInt + 2 := ai_add eix2 ⟨hi0, hiM⟩ ⟨zq12, zq13⟩ (by decide) (by decide)
  refine va_sld (L := L) (i := ix2) hx hb hX hbl hbA hS (vp_in_iff.mpr ⟨by omega, by omega⟩) dL_law_461 ?_
  refine lv_topi (fun vix2 evix2 => ?_)
  have hFc := lg_free hDx hS hA
  obtain ⟨fs462, hfs462⟩ := ix_recv hIX
  refine va_calli (va_runV (As := [.int vix1, .int vix2]) (rest := []) ⟨hx, hb, hml, hown, hts⟩ (k_X7_watcher l dC dI H.size x tp vi vf wx tx hIX vix1 vix2) (cwV 2 hts gd_X7_watcher rfl rfl rfl (by decide +kernel) ⟨Nat.le_of_ble_eq_true rfl, Nat.le_of_ble_eq_true rfl⟩) ⟨ax_blind (fun _ _ _ _ _ => trivial), va_recv hKx hPx (ci := 7) (q0 := 0) rfl hfs462, ax_preE hPx hKx hDx (fun _ _ _ => trivial)⟩ rfl rfl hl.1 rfl (lv_room (Nat.le_of_ble_eq_true rfl)) dL_law_462 ⟨hcc, hss⟩) hS (fun q _ h => hFc q h) hFc (fun r462 u t H1 locs ht hvm hw462 hB hz1 hk1 hS => ?_)
  obtain ⟨wxn, txn, ⟨vi1, vf1, kx1, kx2, hI1⟩, hP1, hK1, hD1⟩ := hB
  rw [ht] at hP1
  have hK1 := va_K.moved hvm.symm hK1
  obtain ⟨hPm, jxm⟩ := lg_step hPm jxm hk1 hD1
  obtain ⟨hPo, jxo⟩ := lg_step hPo jxo hk1 hD1
  have hD1 := hD1.weaken (fun _ _ _ h9 => hFc _ h9)
  clear hPx hDx hKx hFc hk1 hz1 hfs462
  have hIX := hI1; have hPx := hP1; have hDx := hD1; have hKx := hK1; clear hI1 hP1 hD1 hK1
  clear ht; generalize H1 = H at hPx hPm hPo hS ⊢
  refine lv_pop hx hb dL_law_465 rfl ?_
  refine lv_aload_n hx hb dL_law_466 rfl (lv_at hl 2 rfl) ?_
  refine lv_aload_n hx hb dL_law_467 rfl (lv_at hl 4 rfl) ?_
  refine lv_iload hx hb dL_law_468 (lv_at hl 0 rfl) ?_
  refine lv_iconst (v := 1) hx hb dL_law_470 zk_iconst_1 ?_
  refine lv_iadd hx hb dL_law_471 ?_
  refine ax_ti ix1 eix1.symm ?_
  refine va_sld (L := L) (i := ix1) hx hb hX hbl hbA hS (vp_in_iff.mpr ⟨by omega, by omega⟩) dL_law_472 ?_
  refine ax_ti vix1 evix1.symm ?_
  refine lv_aload_n hx hb dL_law_473 rfl (lv_at hl 4 rfl) ?_
  refine lv_iload hx hb dL_law_474 (lv_at hl 0 rfl) ?_
  refine lv_iconst (v := 2) hx hb dL_law_476 zk_iconst_2 ?_
  refine lv_iadd hx hb dL_law_477 ?_
  refine ax_ti ix2 eix2.symm ?_
  refine va_sld (L := L) (i := ix2) hx hb hX hbl hbA hS (vp_in_iff.mpr ⟨by omega, by omega⟩) dL_law_478 ?_
  refine ax_ti vix2 evix2.symm ?_
  have hFc := lg_free hDm hS hA
  obtain ⟨fs479, hfs479⟩ := im_recv hIM
  refine va_calli (va_runV (As := [.int vix1, .int vix2]) (rest := []) ⟨hx, hb, hml, hown, hts⟩ (k_X8_watcher l dC dI H.size mo tp vm vn wm tm hIM vix1 vix2) (cwV 2 hts gd_X8_watcher rfl rfl rfl (by decide +kernel) ⟨Nat.le_of_ble_eq_true rfl, Nat.le_of_ble_eq_true rfl⟩) ⟨ax_blind (fun _ _ _ _ _ => trivial), va_recv hKm hPm (ci := 8) (q0 := 0) rfl hfs479, ax_preE hPm hKm hDm (fun _ _ _ => trivial)⟩ rfl rfl hl.1 rfl (lv_room (Nat.le_of_ble_eq_true rfl)) dL_law_479 ⟨hcc, hss⟩) hS (fun q _ h => hFc q h) hFc (fun r479 u t H1 locs ht hvm hw479 hB hz1 hk1 hS => ?_)
  obtain ⟨wmn, tmn, ⟨vm1, vn1, km1, km2, hI1⟩, hP1, hK1, hD1⟩ := hB
  rw [ht] at hP1
  have hK1 := va_K.moved hvm.symm hK1
  obtain ⟨hPx, jmx⟩ := lg_step hPx (dj_symm jxm) hk1 hD1
  have jxm := dj_symm jmx
  obtain ⟨hPo, jmo⟩ := lg_step hPo jmo hk1 hD1
  have hD1 := hD1.weaken (fun _ _ _ h9 => hFc _ h9)
  clear hPm hDm hKm hFc hk1 hz1 hfs479
  have hIM := hI1; have hPm := hP1; have hDm := hD1; have hKm := hK1; clear hI1 hP1 hD1 hK1
  clear ht; generalize H1 = H at hPx hPm hPo hS ⊢
  refine lv_pop hx hb dL_law_482 rfl ?_
  refine lv_goto (tgt := 1941) hx hb dL_law_483 (by decide) ?_
  have hRn : lr_R tp vi1 vf1 vm1 vn1 := ⟨by rw [kx2 0 (by decide), km2 0 (by decide)]; exact hR.1, lr_keep (fun k9 h9 => kx1 k9 (kp_dis (by decide) h9)) (fun k9 h8 h9 => kx1 k9 (kp_out (a := 57) (b := 152) (by decide) h8 h9)) (fun k9 h9 => kx2 k9 (kp_dis (by decide) h9)) (fun k9 h8 h9 => kx2 k9 (kp_out (a := 23) (b := 61) (by decide) h8 h9)) (fun k9 h9 => km1 k9 (kp_dis (by decide) h9)) (fun k9 h9 => km2 k9 (kp_dis (by decide) h9)) hR.2⟩
  exact kk _ _ _ _ _ (Nat.le_add_right _ _) (Nat.le_add_right _ _) ⟨tp, _, _, _, _, _, _, _, _, _, hIX, hIM, hRn, hKx, hKm, hPx, hPm, hPo, hDx, hDm, hDo, jxm, jxo, jmo⟩ hS (lv_sub hl [0, 1, 2, 3, 4] rfl)

set_option maxHeartbeats 4000000 in
set_option maxRecDepth 100000 in
theorem lc_6 {p : Program} {l : Launch} {e : Env} {s : State} {m : MethodId} {below : List Frame} {meth : Method} {c : Code} {b L : Nat} {xs : Nat → Int32} {A : Nat → Prop} {dC : Nat → ClassId} {dI : Nat → Nat → Nat} (hl0 : l.stackTraces = false) (hL : L ≤ 3072) (hA : ∀ q, s.heap.size ≤ q → A q) (hA2 : ∀ q, A q → s.heap.size ≤ q) (C0 : lw_At p s m meth c b L xs) (sd : Nat → Nat) (sa : Nat) (hE : lg_E A sd sa s) (x mo oa : Nat) (ko : ClassId) (hKo : va_K (dC, dI) vwCl [(ko, .long)] s) (i : Int32) (hi0 : (0 : Int) ≤ i.toInt) (hi6 : i.toInt + 6 ≤ (L : Int)) {H : Heap} {locs : List Loc} {cells slots : Nat} (hc9 : cells + 1 ≤ 601024) (hs9 : slots + 6 ≤ 7293034) (hG : lg_S dC dI A s x mo oa ko H) (hS : va_S A s.heap H locs) {ls : Array Slot} (hl : lv_has ls 7 [(4, .int i), (3, .ref oa), (2, .ref mo), (1, .ref x), (0, .ref b)])
    (kk : ∀ (H : Heap) (locs : List Loc) (ls : Array Slot) (k9 n9 : Nat), k9 ≤ cells + 1 → n9 ≤ slots + 6 → lg_S dC dI A s x mo oa ko H → va_S A s.heap H locs → lv_has ls 7 [(4, .int i), (3, .ref oa), (2, .ref mo), (1, .ref x), (0, .ref b)] → W p l e room_1 s m #[Value.ref b] below meth c H locs k9 n9 (lw_Z below #[Value.ref b] s) (F0 m 1941 ls [])) : W p l e room_1 s m #[Value.ref b] below meth c H locs cells slots (lw_Z below #[Value.ref b] s) (F0 m 486 ls []) := by
  obtain ⟨hx, hb, hr, hml, hown0, htl, hX, hbl, hlocks, hgv⟩ := id C0
  have hown : s.vm.findClass RL = some m.cls := hown0
  have hts : ∀ w ∈ wlT, w.before #[Value.ref b] s = true := fun w h => htl w (wlT_in w h)
  have hbA : ¬ A b := fun h => absurd (hA2 b h) (Nat.not_le.mpr hbl)
  obtain ⟨tp, wx, wm, tx, tm, fo, vi, vf, vm, vn, hIX, hIM, hR, hKx, hKm, hPx, hPm, hPo, hDx, hDm, hDo, jxm, jxo, jmo⟩ := hG
  have hiM : i.toInt ≤ (3066 : Int) := by omega
  have hcc : cells ≤ 601024 := by omega
  have hss : slots ≤ 7293034 := by omega
  have htpb := ix_tp hIX
  have hMo := im_mo hIM
  refine lv_aload_n hx hb dL_law_486 rfl (lv_at hl 3 rfl) ?_
  have hFc := lg_free hDx hS hA
  obtain ⟨fs487, hfs487⟩ := ix_recv hIX
  refine va_calli (va_runV (As := []) (rest := []) ⟨hx, hb, hml, hown, hts⟩ (k_X7_alive l dC dI H.size x tp vi vf wx tx hIX ) (cwV 0 hts gd_X7_alive rfl rfl rfl (by decide +kernel) ⟨Nat.le_of_ble_eq_true rfl, Nat.le_of_ble_eq_true rfl⟩) ⟨ax_blind (fun _ _ _ _ _ => trivial), va_recv hKx hPx (ci := 7) (q0 := 0) rfl hfs487, ax_preE hPx hKx hDx (fun _ _ _ => trivial)⟩ rfl rfl hl.1 rfl (lv_room (Nat.le_of_ble_eq_true rfl)) dL_law_487 ⟨hcc, hss⟩) hS (fun q _ h => hFc q h) hFc (fun r487 u t H1 locs ht hvm hw487 hB hz1 hk1 hS => ?_)
  obtain ⟨wxn, txn, ⟨vi1, vf1, kx1, kx2, hI1⟩, hP1, hK1, hD1⟩ := hB
  rw [ht] at hP1
  have hK1 := va_K.moved hvm.symm hK1
  obtain ⟨hPm, jxm⟩ := lg_step hPm jxm hk1 hD1
  obtain ⟨hPo, jxo⟩ := lg_step hPo jxo hk1 hD1
  have hD1 := hD1.weaken (fun _ _ _ h9 => hFc _ h9)
  clear hPx hDx hKx hFc hk1 hz1 hfs487
  have hIX := hI1; have hPx := hP1; have hDx := hD1; have hKx := hK1; clear hI1 hP1 hD1 hK1
  clear ht; generalize H1 = H at hPx hPm hPo hS ⊢
  refine lv_pop hx hb dL_law_490 rfl ?_
  refine lv_aload_n hx hb dL_law_491 rfl (lv_at hl 2 rfl) ?_
  have hFc := lg_free hDm hS hA
  obtain ⟨fs492, hfs492⟩ := im_recv hIM
  refine va_calli (va_runV (As := []) (rest := []) ⟨hx, hb, hml, hown, hts⟩ (k_X8_alive l dC dI H.size mo tp vm vn wm tm hIM ) (cwV 0 hts gd_X8_alive rfl rfl rfl (by decide +kernel) ⟨Nat.le_of_ble_eq_true rfl, Nat.le_of_ble_eq_true rfl⟩) ⟨ax_blind (fun _ _ _ _ _ => trivial), va_recv hKm hPm (ci := 8) (q0 := 0) rfl hfs492, ax_preE hPm hKm hDm (fun _ _ _ => trivial)⟩ rfl rfl hl.1 rfl (lv_room (Nat.le_of_ble_eq_true rfl)) dL_law_492 ⟨hcc, hss⟩) hS (fun q _ h => hFc q h) hFc (fun r492 u t H1 locs ht hvm hw492 hB hz1 hk1 hS => ?_)
  obtain ⟨wmn, tmn, ⟨vm1, vn1, km1, km2, hI1⟩, hP1, hK1, hD1⟩ := hB
  rw [ht] at hP1
  have hK1 := va_K.moved hvm.symm hK1
  obtain ⟨hPx, jmx⟩ := lg_step hPx (dj_symm jxm) hk1 hD1
  have jxm := dj_symm jmx
  obtain ⟨hPo, jmo⟩ := lg_step hPo jmo hk1 hD1
  have hD1 := hD1.weaken (fun _ _ _ h9 => hFc _ h9)
  clear hPm hDm hKm hFc hk1 hz1 hfs492
  have hIM := hI1; have hPm := hP1; have hDm := hD1; have hKm := hK1; clear hI1 hP1 hD1 hK1
  clear ht; generalize H1 = H at hPx hPm hPo hS ⊢
  refine lv_pop hx hb dL_law_495 rfl ?_
  refine lv_goto (tgt := 1941) hx hb dL_law_496 (by decide) ?_
  have hRn : lr_R tp vi1 vf1 vm1 vn1 := ⟨by rw [kx2 0 (by decide), km2 0 (by decide)]; exact hR.1, lr_keep (fun k9 h9 => kx1 k9 (kp_dis (by decide) h9)) (fun k9 h8 h9 => kx1 k9 (kp_out (a := 57) (b := 152) (by decide) h8 h9)) (fun k9 h9 => kx2 k9 (kp_dis (by decide) h9)) (fun k9 h8 h9 => kx2 k9 (kp_out (a := 23) (b := 61) (by decide) h8 h9)) (fun k9 h9 => km1 k9 (kp_dis (by decide) h9)) (fun k9 h9 => km2 k9 (kp_dis (by decide) h9)) hR.2⟩
  exact kk _ _ _ _ _ (Nat.le_add_right _ _) (Nat.le_add_right _ _) ⟨tp, _, _, _, _, _, _, _, _, _, hIX, hIM, hRn, hKx, hKm, hPx, hPm, hPo, hDx, hDm, hDo, jxm, jxo, jmo⟩ hS (lv_sub hl [0, 1, 2, 3, 4] rfl)

set_option maxHeartbeats 4000000 in
set_option maxRecDepth 100000 in
theorem lc_7 {p : Program} {l : Launch} {e : Env} {s : State} {m : MethodId} {below : List Frame} {meth : Method} {c : Code} {b L : Nat} {xs : Nat → Int32} {A : Nat → Prop} {dC : Nat → ClassId} {dI : Nat → Nat → Nat} (hl0 : l.stackTraces = false) (hL : L ≤ 3072) (hA : ∀ q, s.heap.size ≤ q → A q) (hA2 : ∀ q, A q → s.heap.size ≤ q) (C0 : lw_At p s m meth c b L xs) (sd : Nat → Nat) (sa : Nat) (hE : lg_E A sd sa s) (x mo oa : Nat) (ko : ClassId) (hKo : va_K (dC, dI) vwCl [(ko, .long)] s) (i : Int32) (hi0 : (0 : Int) ≤ i.toInt) (hi6 : i.toInt + 6 ≤ (L : Int)) {H : Heap} {locs : List Loc} {cells slots : Nat} (hc9 : cells + 1 ≤ 601024) (hs9 : slots + 6 ≤ 7293034) (hG : lg_S dC dI A s x mo oa ko H) (hS : va_S A s.heap H locs) {ls : Array Slot} (hl : lv_has ls 7 [(4, .int i), (3, .ref oa), (2, .ref mo), (1, .ref x), (0, .ref b)])
    (kk : ∀ (H : Heap) (locs : List Loc) (ls : Array Slot) (k9 n9 : Nat), k9 ≤ cells + 1 → n9 ≤ slots + 6 → lg_S dC dI A s x mo oa ko H → va_S A s.heap H locs → lv_has ls 7 [(4, .int i), (3, .ref oa), (2, .ref mo), (1, .ref x), (0, .ref b)] → W p l e room_1 s m #[Value.ref b] below meth c H locs k9 n9 (lw_Z below #[Value.ref b] s) (F0 m 1941 ls [])) : W p l e room_1 s m #[Value.ref b] below meth c H locs cells slots (lw_Z below #[Value.ref b] s) (F0 m 499 ls []) := by
  obtain ⟨hx, hb, hr, hml, hown0, htl, hX, hbl, hlocks, hgv⟩ := id C0
  have hown : s.vm.findClass RL = some m.cls := hown0
  have hts : ∀ w ∈ wlT, w.before #[Value.ref b] s = true := fun w h => htl w (wlT_in w h)
  have hbA : ¬ A b := fun h => absurd (hA2 b h) (Nat.not_le.mpr hbl)
  obtain ⟨tp, wx, wm, tx, tm, fo, vi, vf, vm, vn, hIX, hIM, hR, hKx, hKm, hPx, hPm, hPo, hDx, hDm, hDo, jxm, jxo, jmo⟩ := hG
  have hiM : i.toInt ≤ (3066 : Int) := by omega
  have hcc : cells ≤ 601024 := by omega
  have hss : slots ≤ 7293034 := by omega
  have htpb := ix_tp hIX
  have hMo := im_mo hIM
  refine lv_aload_n hx hb dL_law_499 rfl (lv_at hl 3 rfl) ?_
  have hFc := lg_free hDx hS hA
  obtain ⟨fs500, hfs500⟩ := ix_recv hIX
  refine va_calli (va_runV (As := []) (rest := []) ⟨hx, hb, hml, hown, hts⟩ (k_X7_left l dC dI H.size x tp vi vf wx tx hIX ) (cwV 0 hts gd_X7_left rfl rfl rfl (by decide +kernel) ⟨Nat.le_of_ble_eq_true rfl, Nat.le_of_ble_eq_true rfl⟩) ⟨ax_blind (fun _ _ _ _ _ => trivial), va_recv hKx hPx (ci := 7) (q0 := 0) rfl hfs500, ax_preE hPx hKx hDx (fun _ _ _ => trivial)⟩ rfl rfl hl.1 rfl (lv_room (Nat.le_of_ble_eq_true rfl)) dL_law_500 ⟨hcc, hss⟩) hS (fun q _ h => hFc q h) hFc (fun r500 u t H1 locs ht hvm hw500 hB hz1 hk1 hS => ?_)
  obtain ⟨wxn, txn, ⟨vi1, vf1, kx1, kx2, hI1⟩, hP1, hK1, hD1⟩ := hB
  rw [ht] at hP1
  have hK1 := va_K.moved hvm.symm hK1
  obtain ⟨hPm, jxm⟩ := lg_step hPm jxm hk1 hD1
  obtain ⟨hPo, jxo⟩ := lg_step hPo jxo hk1 hD1
  have hD1 := hD1.weaken (fun _ _ _ h9 => hFc _ h9)
  clear hPx hDx hKx hFc hk1 hz1 hfs500
  have hIX := hI1; have hPx := hP1; have hDx := hD1; have hKx := hK1; clear hI1 hP1 hD1 hK1
  clear ht; generalize H1 = H at hPx hPm hPo hS ⊢
  refine lv_pop hx hb dL_law_503 rfl ?_
  refine lv_aload_n hx hb dL_law_504 rfl (lv_at hl 2 rfl) ?_
  have hFc := lg_free hDm hS hA
  obtain ⟨fs505, hfs505⟩ := im_recv hIM
  refine va_calli (va_runV (As := []) (rest := []) ⟨hx, hb, hml, hown, hts⟩ (k_X8_left l dC dI H.size mo tp vm vn wm tm hIM ) (cwV 0 hts gd_X8_left rfl rfl rfl (by decide +kernel) ⟨Nat.le_of_ble_eq_true rfl, Nat.le_of_ble_eq_true rfl⟩) ⟨ax_blind (fun _ _ _ _ _ => trivial), va_recv hKm hPm (ci := 8) (q0 := 0) rfl hfs505, ax_preE hPm hKm hDm (fun _ _ _ => trivial)⟩ rfl rfl hl.1 rfl (lv_room (Nat.le_of_ble_eq_true rfl)) dL_law_505 ⟨hcc, hss⟩) hS (fun q _ h => hFc q h) hFc (fun r505 u t H1 locs ht hvm hw505 hB hz1 hk1 hS => ?_)
  obtain ⟨wmn, tmn, ⟨vm1, vn1, km1, km2, hI1⟩, hP1, hK1, hD1⟩ := hB
  rw [ht] at hP1
  have hK1 := va_K.moved hvm.symm hK1
  obtain ⟨hPx, jmx⟩ := lg_step hPx (dj_symm jxm) hk1 hD1
  have jxm := dj_symm jmx
  obtain ⟨hPo, jmo⟩ := lg_step hPo jmo hk1 hD1
  have hD1 := hD1.weaken (fun _ _ _ h9 => hFc _ h9)
  clear hPm hDm hKm hFc hk1 hz1 hfs505
  have hIM := hI1; have hPm := hP1; have hDm := hD1; have hKm := hK1; clear hI1 hP1 hD1 hK1
  clear ht; generalize H1 = H at hPx hPm hPo hS ⊢
  refine lv_pop hx hb dL_law_508 rfl ?_
  refine lv_goto (tgt := 1941) hx hb dL_law_509 (by decide) ?_
  have hRn : lr_R tp vi1 vf1 vm1 vn1 := ⟨by rw [kx2 0 (by decide), km2 0 (by decide)]; exact hR.1, lr_keep (fun k9 h9 => kx1 k9 (kp_dis (by decide) h9)) (fun k9 h8 h9 => kx1 k9 (kp_out (a := 57) (b := 152) (by decide) h8 h9)) (fun k9 h9 => kx2 k9 (kp_dis (by decide) h9)) (fun k9 h8 h9 => kx2 k9 (kp_out (a := 23) (b := 61) (by decide) h8 h9)) (fun k9 h9 => km1 k9 (kp_dis (by decide) h9)) (fun k9 h9 => km2 k9 (kp_dis (by decide) h9)) hR.2⟩
  exact kk _ _ _ _ _ (Nat.le_add_right _ _) (Nat.le_add_right _ _) ⟨tp, _, _, _, _, _, _, _, _, _, hIX, hIM, hRn, hKx, hKm, hPx, hPm, hPo, hDx, hDm, hDo, jxm, jxo, jmo⟩ hS (lv_sub hl [0, 1, 2, 3, 4] rfl)

set_option maxHeartbeats 4000000 in
set_option maxRecDepth 100000 in
theorem lc_8 {p : Program} {l : Launch} {e : Env} {s : State} {m : MethodId} {below : List Frame} {meth : Method} {c : Code} {b L : Nat} {xs : Nat → Int32} {A : Nat → Prop} {dC : Nat → ClassId} {dI : Nat → Nat → Nat} (hl0 : l.stackTraces = false) (hL : L ≤ 3072) (hA : ∀ q, s.heap.size ≤ q → A q) (hA2 : ∀ q, A q → s.heap.size ≤ q) (C0 : lw_At p s m meth c b L xs) (sd : Nat → Nat) (sa : Nat) (hE : lg_E A sd sa s) (x mo oa : Nat) (ko : ClassId) (hKo : va_K (dC, dI) vwCl [(ko, .long)] s) (i : Int32) (hi0 : (0 : Int) ≤ i.toInt) (hi6 : i.toInt + 6 ≤ (L : Int)) {H : Heap} {locs : List Loc} {cells slots : Nat} (hc9 : cells + 1 ≤ 601024) (hs9 : slots + 6 ≤ 7293034) (hG : lg_S dC dI A s x mo oa ko H) (hS : va_S A s.heap H locs) {ls : Array Slot} (hl : lv_has ls 7 [(4, .int i), (3, .ref oa), (2, .ref mo), (1, .ref x), (0, .ref b)])
    (kk : ∀ (H : Heap) (locs : List Loc) (ls : Array Slot) (k9 n9 : Nat), k9 ≤ cells + 1 → n9 ≤ slots + 6 → lg_S dC dI A s x mo oa ko H → va_S A s.heap H locs → lv_has ls 7 [(4, .int i), (3, .ref oa), (2, .ref mo), (1, .ref x), (0, .ref b)] → W p l e room_1 s m #[Value.ref b] below meth c H locs k9 n9 (lw_Z below #[Value.ref b] s) (F0 m 1941 ls [])) : W p l e room_1 s m #[Value.ref b] below meth c H locs cells slots (lw_Z below #[Value.ref b] s) (F0 m 512 ls []) := by
  obtain ⟨hx, hb, hr, hml, hown0, htl, hX, hbl, hlocks, hgv⟩ := id C0
  have hown : s.vm.findClass RL = some m.cls := hown0
  have hts : ∀ w ∈ wlT, w.before #[Value.ref b] s = true := fun w h => htl w (wlT_in w h)
  have hbA : ¬ A b := fun h => absurd (hA2 b h) (Nat.not_le.mpr hbl)
  obtain ⟨tp, wx, wm, tx, tm, fo, vi, vf, vm, vn, hIX, hIM, hR, hKx, hKm, hPx, hPm, hPo, hDx, hDm, hDo, jxm, jxo, jmo⟩ := hG
  have hiM : i.toInt ≤ (3066 : Int) := by omega
  have hcc : cells ≤ 601024 := by omega
  have hss : slots ≤ 7293034 := by omega
  have htpb := ix_tp hIX
  have hMo := im_mo hIM
  refine lv_aload_n hx hb dL_law_512 rfl (lv_at hl 3 rfl) ?_
  have hFc := lg_free hDx hS hA
  obtain ⟨fs513, hfs513⟩ := ix_recv hIX
  refine va_calli (va_runV (As := []) (rest := []) ⟨hx, hb, hml, hown, hts⟩ (k_X7_caught l dC dI H.size x tp vi vf wx tx hIX ) (cwV 0 hts gd_X7_caught rfl rfl rfl (by decide +kernel) ⟨Nat.le_of_ble_eq_true rfl, Nat.le_of_ble_eq_true rfl⟩) ⟨ax_blind (fun _ _ _ _ _ => trivial), va_recv hKx hPx (ci := 7) (q0 := 0) rfl hfs513, ax_preE hPx hKx hDx (fun _ _ _ => trivial)⟩ rfl rfl hl.1 rfl (lv_room (Nat.le_of_ble_eq_true rfl)) dL_law_513 ⟨hcc, hss⟩) hS (fun q _ h => hFc q h) hFc (fun r513 u t H1 locs ht hvm hw513 hB hz1 hk1 hS => ?_)
  obtain ⟨wxn, txn, ⟨vi1, vf1, kx1, kx2, hI1⟩, hP1, hK1, hD1⟩ := hB
  rw [ht] at hP1
  have hK1 := va_K.moved hvm.symm hK1
  obtain ⟨hPm, jxm⟩ := lg_step hPm jxm hk1 hD1
  obtain ⟨hPo, jxo⟩ := lg_step hPo jxo hk1 hD1
  have hD1 := hD1.weaken (fun _ _ _ h9 => hFc _ h9)
  clear hPx hDx hKx hFc hk1 hz1 hfs513
  have hIX := hI1; have hPx := hP1; have hDx := hD1; have hKx := hK1; clear hI1 hP1 hD1 hK1
  clear ht; generalize H1 = H at hPx hPm hPo hS ⊢
  refine lv_pop hx hb dL_law_516 rfl ?_
  refine lv_aload_n hx hb dL_law_517 rfl (lv_at hl 2 rfl) ?_
  have hFc := lg_free hDm hS hA
  obtain ⟨fs518, hfs518⟩ := im_recv hIM
  refine va_calli (va_runV (As := []) (rest := []) ⟨hx, hb, hml, hown, hts⟩ (k_X8_caught l dC dI H.size mo tp vm vn wm tm hIM ) (cwV 0 hts gd_X8_caught rfl rfl rfl (by decide +kernel) ⟨Nat.le_of_ble_eq_true rfl, Nat.le_of_ble_eq_true rfl⟩) ⟨ax_blind (fun _ _ _ _ _ => trivial), va_recv hKm hPm (ci := 8) (q0 := 0) rfl hfs518, ax_preE hPm hKm hDm (fun _ _ _ => trivial)⟩ rfl rfl hl.1 rfl (lv_room (Nat.le_of_ble_eq_true rfl)) dL_law_518 ⟨hcc, hss⟩) hS (fun q _ h => hFc q h) hFc (fun r518 u t H1 locs ht hvm hw518 hB hz1 hk1 hS => ?_)
  obtain ⟨wmn, tmn, ⟨vm1, vn1, km1, km2, hI1⟩, hP1, hK1, hD1⟩ := hB
  rw [ht] at hP1
  have hK1 := va_K.moved hvm.symm hK1
  obtain ⟨hPx, jmx⟩ := lg_step hPx (dj_symm jxm) hk1 hD1
  have jxm := dj_symm jmx
  obtain ⟨hPo, jmo⟩ := lg_step hPo jmo hk1 hD1
  have hD1 := hD1.weaken (fun _ _ _ h9 => hFc _ h9)
  clear hPm hDm hKm hFc hk1 hz1 hfs518
  have hIM := hI1; have hPm := hP1; have hDm := hD1; have hKm := hK1; clear hI1 hP1 hD1 hK1
  clear ht; generalize H1 = H at hPx hPm hPo hS ⊢
  refine lv_pop hx hb dL_law_521 rfl ?_
  refine lv_goto (tgt := 1941) hx hb dL_law_522 (by decide) ?_
  have hRn : lr_R tp vi1 vf1 vm1 vn1 := ⟨by rw [kx2 0 (by decide), km2 0 (by decide)]; exact hR.1, lr_keep (fun k9 h9 => kx1 k9 (kp_dis (by decide) h9)) (fun k9 h8 h9 => kx1 k9 (kp_out (a := 57) (b := 152) (by decide) h8 h9)) (fun k9 h9 => kx2 k9 (kp_dis (by decide) h9)) (fun k9 h8 h9 => kx2 k9 (kp_out (a := 23) (b := 61) (by decide) h8 h9)) (fun k9 h9 => km1 k9 (kp_dis (by decide) h9)) (fun k9 h9 => km2 k9 (kp_dis (by decide) h9)) hR.2⟩
  exact kk _ _ _ _ _ (Nat.le_add_right _ _) (Nat.le_add_right _ _) ⟨tp, _, _, _, _, _, _, _, _, _, hIX, hIM, hRn, hKx, hKm, hPx, hPm, hPo, hDx, hDm, hDo, jxm, jxo, jmo⟩ hS (lv_sub hl [0, 1, 2, 3, 4] rfl)

set_option maxHeartbeats 4000000 in
set_option maxRecDepth 100000 in
theorem lc_9 {p : Program} {l : Launch} {e : Env} {s : State} {m : MethodId} {below : List Frame} {meth : Method} {c : Code} {b L : Nat} {xs : Nat → Int32} {A : Nat → Prop} {dC : Nat → ClassId} {dI : Nat → Nat → Nat} (hl0 : l.stackTraces = false) (hL : L ≤ 3072) (hA : ∀ q, s.heap.size ≤ q → A q) (hA2 : ∀ q, A q → s.heap.size ≤ q) (C0 : lw_At p s m meth c b L xs) (sd : Nat → Nat) (sa : Nat) (hE : lg_E A sd sa s) (x mo oa : Nat) (ko : ClassId) (hKo : va_K (dC, dI) vwCl [(ko, .long)] s) (i : Int32) (hi0 : (0 : Int) ≤ i.toInt) (hi6 : i.toInt + 6 ≤ (L : Int)) {H : Heap} {locs : List Loc} {cells slots : Nat} (hc9 : cells + 1 ≤ 601024) (hs9 : slots + 6 ≤ 7293034) (hG : lg_S dC dI A s x mo oa ko H) (hS : va_S A s.heap H locs) {ls : Array Slot} (hl : lv_has ls 7 [(4, .int i), (3, .ref oa), (2, .ref mo), (1, .ref x), (0, .ref b)])
    (kk : ∀ (H : Heap) (locs : List Loc) (ls : Array Slot) (k9 n9 : Nat), k9 ≤ cells + 1 → n9 ≤ slots + 6 → lg_S dC dI A s x mo oa ko H → va_S A s.heap H locs → lv_has ls 7 [(4, .int i), (3, .ref oa), (2, .ref mo), (1, .ref x), (0, .ref b)] → W p l e room_1 s m #[Value.ref b] below meth c H locs k9 n9 (lw_Z below #[Value.ref b] s) (F0 m 1941 ls [])) : W p l e room_1 s m #[Value.ref b] below meth c H locs cells slots (lw_Z below #[Value.ref b] s) (F0 m 525 ls []) := by
  obtain ⟨hx, hb, hr, hml, hown0, htl, hX, hbl, hlocks, hgv⟩ := id C0
  have hown : s.vm.findClass RL = some m.cls := hown0
  have hts : ∀ w ∈ wlT, w.before #[Value.ref b] s = true := fun w h => htl w (wlT_in w h)
  have hbA : ¬ A b := fun h => absurd (hA2 b h) (Nat.not_le.mpr hbl)
  obtain ⟨tp, wx, wm, tx, tm, fo, vi, vf, vm, vn, hIX, hIM, hR, hKx, hKm, hPx, hPm, hPo, hDx, hDm, hDo, jxm, jxo, jmo⟩ := hG
  have hiM : i.toInt ≤ (3066 : Int) := by omega
  have hcc : cells ≤ 601024 := by omega
  have hss : slots ≤ 7293034 := by omega
  have htpb := ix_tp hIX
  have hMo := im_mo hIM
  refine lv_aload_n hx hb dL_law_525 rfl (lv_at hl 3 rfl) ?_
  refine lv_aload_n hx hb dL_law_526 rfl (lv_at hl 4 rfl) ?_
  refine lv_iload hx hb dL_law_527 (lv_at hl 0 rfl) ?_
  refine lv_iconst (v := 1) hx hb dL_law_529 zk_iconst_1 ?_
  refine lv_iadd hx hb dL_law_530 ?_
  refine lv_topi (fun ix1 eix1 => ?_)
  have qix1 : ix1.toInt = i.toInt + 1 := ai_add eix1 ⟨hi0, hiM⟩ ⟨zq1, zq0⟩ (by decide) (by decide)
  refine va_sld (L := L) (i := ix1) hx hb hX hbl hbA hS (vp_in_iff.mpr ⟨by omega, by omega⟩) dL_law_531 ?_
  refine lv_topi (fun vix1 evix1 => ?_)
  have hFc := lg_free hDx hS hA
  obtain ⟨fs532, hfs532⟩ := ix_recv hIX
  refine va_calli (va_runV (As := [.int vix1]) (rest := []) ⟨hx, hb, hml, hown, hts⟩ (k_X7_turnOf l dC dI H.size x tp vi vf wx tx hIX vix1) (cwV 1 hts gd_X7_turnOf rfl rfl rfl (by decide +kernel) ⟨Nat.le_of_ble_eq_true rfl, Nat.le_of_ble_eq_true rfl⟩) ⟨ax_blind (fun _ _ _ _ _ => trivial), va_recv hKx hPx (ci := 7) (q0 := 0) rfl hfs532, ax_preE hPx hKx hDx (fun _ _ _ => trivial)⟩ rfl rfl hl.1 rfl (lv_room (Nat.le_of_ble_eq_true rfl)) dL_law_532 ⟨hcc, hss⟩) hS (fun q _ h => hFc q h) hFc (fun r532 u t H1 locs ht hvm hw532 hB hz1 hk1 hS => ?_)
  obtain ⟨wxn, txn, ⟨vi1, vf1, kx1, kx2, hI1⟩, hP1, hK1, hD1⟩ := hB
  rw [ht] at hP1
  have hK1 := va_K.moved hvm.symm hK1
  obtain ⟨hPm, jxm⟩ := lg_step hPm jxm hk1 hD1
  obtain ⟨hPo, jxo⟩ := lg_step hPo jxo hk1 hD1
  have hD1 := hD1.weaken (fun _ _ _ h9 => hFc _ h9)
  clear hPx hDx hKx hFc hk1 hz1 hfs532
  have hIX := hI1; have hPx := hP1; have hDx := hD1; have hKx := hK1; clear hI1 hP1 hD1 hK1
  clear ht; generalize H1 = H at hPx hPm hPo hS ⊢
  refine lv_pop hx hb dL_law_535 rfl ?_
  refine lv_aload_n hx hb dL_law_536 rfl (lv_at hl 2 rfl) ?_
  refine lv_aload_n hx hb dL_law_537 rfl (lv_at hl 4 rfl) ?_
  refine lv_iload hx hb dL_law_538 (lv_at hl 0 rfl) ?_
  refine lv_iconst (v := 1) hx hb dL_law_540 zk_iconst_1 ?_
  refine lv_iadd hx hb dL_law_541 ?_
  refine ax_ti ix1 eix1.symm ?_
  refine va_sld (L := L) (i := ix1) hx hb hX hbl hbA hS (vp_in_iff.mpr ⟨by omega, by omega⟩) dL_law_542 ?_
  refine ax_ti vix1 evix1.symm ?_
  have hFc := lg_free hDm hS hA
  obtain ⟨fs543, hfs543⟩ := im_recv hIM
  refine va_calli (va_runV (As := [.int vix1]) (rest := []) ⟨hx, hb, hml, hown, hts⟩ (k_X8_turnOf l dC dI H.size mo tp vm vn wm tm hIM vix1) (cwV 1 hts gd_X8_turnOf rfl rfl rfl (by decide +kernel) ⟨Nat.le_of_ble_eq_true rfl, Nat.le_of_ble_eq_true rfl⟩) ⟨ax_blind (fun _ _ _ _ _ => trivial), va_recv hKm hPm (ci := 8) (q0 := 0) rfl hfs543, ax_preE hPm hKm hDm (fun _ _ _ => trivial)⟩ rfl rfl hl.1 rfl (lv_room (Nat.le_of_ble_eq_true rfl)) dL_law_543 ⟨hcc, hss⟩) hS (fun q _ h => hFc q h) hFc (fun r543 u t H1 locs ht hvm hw543 hB hz1 hk1 hS => ?_)
  obtain ⟨wmn, tmn, ⟨vm1, vn1, km1, km2, hI1⟩, hP1, hK1, hD1⟩ := hB
  rw [ht] at hP1
  have hK1 := va_K.moved hvm.symm hK1
  obtain ⟨hPx, jmx⟩ := lg_step hPx (dj_symm jxm) hk1 hD1
  have jxm := dj_symm jmx
  obtain ⟨hPo, jmo⟩ := lg_step hPo jmo hk1 hD1
  have hD1 := hD1.weaken (fun _ _ _ h9 => hFc _ h9)
  clear hPm hDm hKm hFc hk1 hz1 hfs543
  have hIM := hI1; have hPm := hP1; have hDm := hD1; have hKm := hK1; clear hI1 hP1 hD1 hK1
  clear ht; generalize H1 = H at hPx hPm hPo hS ⊢
  refine lv_pop hx hb dL_law_546 rfl ?_
  refine lv_goto (tgt := 1941) hx hb dL_law_547 (by decide) ?_
  have hRn : lr_R tp vi1 vf1 vm1 vn1 := ⟨by rw [kx2 0 (by decide), km2 0 (by decide)]; exact hR.1, lr_keep (fun k9 h9 => kx1 k9 (kp_dis (by decide) h9)) (fun k9 h8 h9 => kx1 k9 (kp_out (a := 57) (b := 152) (by decide) h8 h9)) (fun k9 h9 => kx2 k9 (kp_dis (by decide) h9)) (fun k9 h8 h9 => kx2 k9 (kp_out (a := 23) (b := 61) (by decide) h8 h9)) (fun k9 h9 => km1 k9 (kp_dis (by decide) h9)) (fun k9 h9 => km2 k9 (kp_dis (by decide) h9)) hR.2⟩
  exact kk _ _ _ _ _ (Nat.le_add_right _ _) (Nat.le_add_right _ _) ⟨tp, _, _, _, _, _, _, _, _, _, hIX, hIM, hRn, hKx, hKm, hPx, hPm, hPo, hDx, hDm, hDo, jxm, jxo, jmo⟩ hS (lv_sub hl [0, 1, 2, 3, 4] rfl)

set_option maxHeartbeats 4000000 in
set_option maxRecDepth 100000 in
theorem lc_10 {p : Program} {l : Launch} {e : Env} {s : State} {m : MethodId} {below : List Frame} {meth : Method} {c : Code} {b L : Nat} {xs : Nat → Int32} {A : Nat → Prop} {dC : Nat → ClassId} {dI : Nat → Nat → Nat} (hl0 : l.stackTraces = false) (hL : L ≤ 3072) (hA : ∀ q, s.heap.size ≤ q → A q) (hA2 : ∀ q, A q → s.heap.size ≤ q) (C0 : lw_At p s m meth c b L xs) (sd : Nat → Nat) (sa : Nat) (hE : lg_E A sd sa s) (x mo oa : Nat) (ko : ClassId) (hKo : va_K (dC, dI) vwCl [(ko, .long)] s) (i : Int32) (hi0 : (0 : Int) ≤ i.toInt) (hi6 : i.toInt + 6 ≤ (L : Int)) {H : Heap} {locs : List Loc} {cells slots : Nat} (hc9 : cells + 1 ≤ 601024) (hs9 : slots + 6 ≤ 7293034) (hG : lg_S dC dI A s x mo oa ko H) (hS : va_S A s.heap H locs) {ls : Array Slot} (hl : lv_has ls 7 [(4, .int i), (3, .ref oa), (2, .ref mo), (1, .ref x), (0, .ref b)])
    (kk : ∀ (H : Heap) (locs : List Loc) (ls : Array Slot) (k9 n9 : Nat), k9 ≤ cells + 1 → n9 ≤ slots + 6 → lg_S dC dI A s x mo oa ko H → va_S A s.heap H locs → lv_has ls 7 [(4, .int i), (3, .ref oa), (2, .ref mo), (1, .ref x), (0, .ref b)] → W p l e room_1 s m #[Value.ref b] below meth c H locs k9 n9 (lw_Z below #[Value.ref b] s) (F0 m 1941 ls [])) : W p l e room_1 s m #[Value.ref b] below meth c H locs cells slots (lw_Z below #[Value.ref b] s) (F0 m 550 ls []) := by
  obtain ⟨hx, hb, hr, hml, hown0, htl, hX, hbl, hlocks, hgv⟩ := id C0
  have hown : s.vm.findClass RL = some m.cls := hown0
  have hts : ∀ w ∈ wlT, w.before #[Value.ref b] s = true := fun w h => htl w (wlT_in w h)
  have hbA : ¬ A b := fun h => absurd (hA2 b h) (Nat.not_le.mpr hbl)
  obtain ⟨tp, wx, wm, tx, tm, fo, vi, vf, vm, vn, hIX, hIM, hR, hKx, hKm, hPx, hPm, hPo, hDx, hDm, hDo, jxm, jxo, jmo⟩ := hG
  have hiM : i.toInt ≤ (3066 : Int) := by omega
  have hcc : cells ≤ 601024 := by omega
  have hss : slots ≤ 7293034 := by omega
  have htpb := ix_tp hIX
  have hMo := im_mo hIM
  refine lv_aload_n hx hb dL_law_550 rfl (lv_at hl 3 rfl) ?_
  refine lv_aload_n hx hb dL_law_551 rfl (lv_at hl 4 rfl) ?_
  refine lv_iload hx hb dL_law_552 (lv_at hl 0 rfl) ?_
  refine lv_iconst (v := 1) hx hb dL_law_554 zk_iconst_1 ?_
  refine lv_iadd hx hb dL_law_555 ?_
  refine lv_topi (fun ix1 eix1 => ?_)
  have qix1 : ix1.toInt = i.toInt + 1 := ai_add eix1 ⟨hi0, hiM⟩ ⟨zq1, zq0⟩ (by decide) (by decide)
  refine va_sld (L := L) (i := ix1) hx hb hX hbl hbA hS (vp_in_iff.mpr ⟨by omega, by omega⟩) dL_law_556 ?_
  refine lv_topi (fun vix1 evix1 => ?_)
  have hFc := lg_free hDx hS hA
  obtain ⟨fs557, hfs557⟩ := ix_recv hIX
  refine va_calli (va_runV (As := [.int vix1]) (rest := []) ⟨hx, hb, hml, hown, hts⟩ (k_X7_turnIn l dC dI H.size x tp vi vf wx tx hIX vix1) (cwV 1 hts gd_X7_turnIn rfl rfl rfl (by decide +kernel) ⟨Nat.le_of_ble_eq_true rfl, Nat.le_of_ble_eq_true rfl⟩) ⟨ax_blind (fun _ _ _ _ _ => trivial), va_recv hKx hPx (ci := 7) (q0 := 0) rfl hfs557, ax_preE hPx hKx hDx (fun _ _ _ => trivial)⟩ rfl rfl hl.1 rfl (lv_room (Nat.le_of_ble_eq_true rfl)) dL_law_557 ⟨hcc, hss⟩) hS (fun q _ h => hFc q h) hFc (fun r557 u t H1 locs ht hvm hw557 hB hz1 hk1 hS => ?_)
  obtain ⟨wxn, txn, ⟨vi1, vf1, kx1, kx2, hI1⟩, hP1, hK1, hD1⟩ := hB
  rw [ht] at hP1
  have hK1 := va_K.moved hvm.symm hK1
  obtain ⟨hPm, jxm⟩ := lg_step hPm jxm hk1 hD1
  obtain ⟨hPo, jxo⟩ := lg_step hPo jxo hk1 hD1
  have hD1 := hD1.weaken (fun _ _ _ h9 => hFc _ h9)
  clear hPx hDx hKx hFc hk1 hz1 hfs557
  have hIX := hI1; have hPx := hP1; have hDx := hD1; have hKx := hK1; clear hI1 hP1 hD1 hK1
  clear ht; generalize H1 = H at hPx hPm hPo hS ⊢
  refine lv_pop hx hb dL_law_560 rfl ?_
  refine lv_aload_n hx hb dL_law_561 rfl (lv_at hl 2 rfl) ?_
  refine lv_aload_n hx hb dL_law_562 rfl (lv_at hl 4 rfl) ?_
  refine lv_iload hx hb dL_law_563 (lv_at hl 0 rfl) ?_
  refine lv_iconst (v := 1) hx hb dL_law_565 zk_iconst_1 ?_
  refine lv_iadd hx hb dL_law_566 ?_
  refine ax_ti ix1 eix1.symm ?_
  refine va_sld (L := L) (i := ix1) hx hb hX hbl hbA hS (vp_in_iff.mpr ⟨by omega, by omega⟩) dL_law_567 ?_
  refine ax_ti vix1 evix1.symm ?_
  have hFc := lg_free hDm hS hA
  obtain ⟨fs568, hfs568⟩ := im_recv hIM
  refine va_calli (va_runV (As := [.int vix1]) (rest := []) ⟨hx, hb, hml, hown, hts⟩ (k_X8_turnIn l dC dI H.size mo tp vm vn wm tm hIM vix1) (cwV 1 hts gd_X8_turnIn rfl rfl rfl (by decide +kernel) ⟨Nat.le_of_ble_eq_true rfl, Nat.le_of_ble_eq_true rfl⟩) ⟨ax_blind (fun _ _ _ _ _ => trivial), va_recv hKm hPm (ci := 8) (q0 := 0) rfl hfs568, ax_preE hPm hKm hDm (fun _ _ _ => trivial)⟩ rfl rfl hl.1 rfl (lv_room (Nat.le_of_ble_eq_true rfl)) dL_law_568 ⟨hcc, hss⟩) hS (fun q _ h => hFc q h) hFc (fun r568 u t H1 locs ht hvm hw568 hB hz1 hk1 hS => ?_)
  obtain ⟨wmn, tmn, ⟨vm1, vn1, km1, km2, hI1⟩, hP1, hK1, hD1⟩ := hB
  rw [ht] at hP1
  have hK1 := va_K.moved hvm.symm hK1
  obtain ⟨hPx, jmx⟩ := lg_step hPx (dj_symm jxm) hk1 hD1
  have jxm := dj_symm jmx
  obtain ⟨hPo, jmo⟩ := lg_step hPo jmo hk1 hD1
  have hD1 := hD1.weaken (fun _ _ _ h9 => hFc _ h9)
  clear hPm hDm hKm hFc hk1 hz1 hfs568
  have hIM := hI1; have hPm := hP1; have hDm := hD1; have hKm := hK1; clear hI1 hP1 hD1 hK1
  clear ht; generalize H1 = H at hPx hPm hPo hS ⊢
  refine lv_pop hx hb dL_law_571 rfl ?_
  refine lv_goto (tgt := 1941) hx hb dL_law_572 (by decide) ?_
  have hRn : lr_R tp vi1 vf1 vm1 vn1 := ⟨by rw [kx2 0 (by decide), km2 0 (by decide)]; exact hR.1, lr_keep (fun k9 h9 => kx1 k9 (kp_dis (by decide) h9)) (fun k9 h8 h9 => kx1 k9 (kp_out (a := 57) (b := 152) (by decide) h8 h9)) (fun k9 h9 => kx2 k9 (kp_dis (by decide) h9)) (fun k9 h8 h9 => kx2 k9 (kp_out (a := 23) (b := 61) (by decide) h8 h9)) (fun k9 h9 => km1 k9 (kp_dis (by decide) h9)) (fun k9 h9 => km2 k9 (kp_dis (by decide) h9)) hR.2⟩
  exact kk _ _ _ _ _ (Nat.le_add_right _ _) (Nat.le_add_right _ _) ⟨tp, _, _, _, _, _, _, _, _, _, hIX, hIM, hRn, hKx, hKm, hPx, hPm, hPo, hDx, hDm, hDo, jxm, jxo, jmo⟩ hS (lv_sub hl [0, 1, 2, 3, 4] rfl)

set_option maxHeartbeats 4000000 in
set_option maxRecDepth 100000 in
theorem lc_11 {p : Program} {l : Launch} {e : Env} {s : State} {m : MethodId} {below : List Frame} {meth : Method} {c : Code} {b L : Nat} {xs : Nat → Int32} {A : Nat → Prop} {dC : Nat → ClassId} {dI : Nat → Nat → Nat} (hl0 : l.stackTraces = false) (hL : L ≤ 3072) (hA : ∀ q, s.heap.size ≤ q → A q) (hA2 : ∀ q, A q → s.heap.size ≤ q) (C0 : lw_At p s m meth c b L xs) (sd : Nat → Nat) (sa : Nat) (hE : lg_E A sd sa s) (x mo oa : Nat) (ko : ClassId) (hKo : va_K (dC, dI) vwCl [(ko, .long)] s) (i : Int32) (hi0 : (0 : Int) ≤ i.toInt) (hi6 : i.toInt + 6 ≤ (L : Int)) {H : Heap} {locs : List Loc} {cells slots : Nat} (hc9 : cells + 1 ≤ 601024) (hs9 : slots + 6 ≤ 7293034) (hG : lg_S dC dI A s x mo oa ko H) (hS : va_S A s.heap H locs) {ls : Array Slot} (hl : lv_has ls 7 [(4, .int i), (3, .ref oa), (2, .ref mo), (1, .ref x), (0, .ref b)])
    (kk : ∀ (H : Heap) (locs : List Loc) (ls : Array Slot) (k9 n9 : Nat), k9 ≤ cells + 1 → n9 ≤ slots + 6 → lg_S dC dI A s x mo oa ko H → va_S A s.heap H locs → lv_has ls 7 [(4, .int i), (3, .ref oa), (2, .ref mo), (1, .ref x), (0, .ref b)] → W p l e room_1 s m #[Value.ref b] below meth c H locs k9 n9 (lw_Z below #[Value.ref b] s) (F0 m 1941 ls [])) : W p l e room_1 s m #[Value.ref b] below meth c H locs cells slots (lw_Z below #[Value.ref b] s) (F0 m 575 ls []) := by
  obtain ⟨hx, hb, hr, hml, hown0, htl, hX, hbl, hlocks, hgv⟩ := id C0
  have hown : s.vm.findClass RL = some m.cls := hown0
  have hts : ∀ w ∈ wlT, w.before #[Value.ref b] s = true := fun w h => htl w (wlT_in w h)
  have hbA : ¬ A b := fun h => absurd (hA2 b h) (Nat.not_le.mpr hbl)
  obtain ⟨tp, wx, wm, tx, tm, fo, vi, vf, vm, vn, hIX, hIM, hR, hKx, hKm, hPx, hPm, hPo, hDx, hDm, hDo, jxm, jxo, jmo⟩ := hG
  have hiM : i.toInt ≤ (3066 : Int) := by omega
  have hcc : cells ≤ 601024 := by omega
  have hss : slots ≤ 7293034 := by omega
  have htpb := ix_tp hIX
  have hMo := im_mo hIM
  refine lv_aload_n hx hb dL_law_575 rfl (lv_at hl 3 rfl) ?_
  have hFc := lg_free hDx hS hA
  obtain ⟨fs576, hfs576⟩ := ix_recv hIX
  refine va_calli (va_runV (As := []) (rest := []) ⟨hx, hb, hml, hown, hts⟩ (k_X7_settles l dC dI H.size x tp vi vf wx tx hIX ) (cwV 0 hts gd_X7_settles rfl rfl rfl (by decide +kernel) ⟨Nat.le_of_ble_eq_true rfl, Nat.le_of_ble_eq_true rfl⟩) ⟨ax_blind (fun _ _ _ _ _ => trivial), va_recv hKx hPx (ci := 7) (q0 := 0) rfl hfs576, ax_preE hPx hKx hDx (fun _ _ _ => trivial)⟩ rfl rfl hl.1 rfl (lv_room (Nat.le_of_ble_eq_true rfl)) dL_law_576 ⟨hcc, hss⟩) hS (fun q _ h => hFc q h) hFc (fun r576 u t H1 locs ht hvm hw576 hB hz1 hk1 hS => ?_)
  obtain ⟨wxn, txn, ⟨vi1, vf1, kx1, kx2, hI1⟩, hP1, hK1, hD1⟩ := hB
  rw [ht] at hP1
  have hK1 := va_K.moved hvm.symm hK1
  obtain ⟨hPm, jxm⟩ := lg_step hPm jxm hk1 hD1
  obtain ⟨hPo, jxo⟩ := lg_step hPo jxo hk1 hD1
  have hD1 := hD1.weaken (fun _ _ _ h9 => hFc _ h9)
  clear hPx hDx hKx hFc hk1 hz1 hfs576
  have hIX := hI1; have hPx := hP1; have hDx := hD1; have hKx := hK1; clear hI1 hP1 hD1 hK1
  clear ht; generalize H1 = H at hPx hPm hPo hS ⊢
  refine lv_pop hx hb dL_law_579 rfl ?_
  refine lv_aload_n hx hb dL_law_580 rfl (lv_at hl 2 rfl) ?_
  have hFc := lg_free hDm hS hA
  obtain ⟨fs581, hfs581⟩ := im_recv hIM
  refine va_calli (va_runV (As := []) (rest := []) ⟨hx, hb, hml, hown, hts⟩ (k_X8_settles l dC dI H.size mo tp vm vn wm tm hIM ) (cwV 0 hts gd_X8_settles rfl rfl rfl (by decide +kernel) ⟨Nat.le_of_ble_eq_true rfl, Nat.le_of_ble_eq_true rfl⟩) ⟨ax_blind (fun _ _ _ _ _ => trivial), va_recv hKm hPm (ci := 8) (q0 := 0) rfl hfs581, ax_preE hPm hKm hDm (fun _ _ _ => trivial)⟩ rfl rfl hl.1 rfl (lv_room (Nat.le_of_ble_eq_true rfl)) dL_law_581 ⟨hcc, hss⟩) hS (fun q _ h => hFc q h) hFc (fun r581 u t H1 locs ht hvm hw581 hB hz1 hk1 hS => ?_)
  obtain ⟨wmn, tmn, ⟨vm1, vn1, km1, km2, hI1⟩, hP1, hK1, hD1⟩ := hB
  rw [ht] at hP1
  have hK1 := va_K.moved hvm.symm hK1
  obtain ⟨hPx, jmx⟩ := lg_step hPx (dj_symm jxm) hk1 hD1
  have jxm := dj_symm jmx
  obtain ⟨hPo, jmo⟩ := lg_step hPo jmo hk1 hD1
  have hD1 := hD1.weaken (fun _ _ _ h9 => hFc _ h9)
  clear hPm hDm hKm hFc hk1 hz1 hfs581
  have hIM := hI1; have hPm := hP1; have hDm := hD1; have hKm := hK1; clear hI1 hP1 hD1 hK1
  clear ht; generalize H1 = H at hPx hPm hPo hS ⊢
  refine lv_pop hx hb dL_law_584 rfl ?_
  refine lv_goto (tgt := 1941) hx hb dL_law_585 (by decide) ?_
  have hRn : lr_R tp vi1 vf1 vm1 vn1 := ⟨by rw [kx2 0 (by decide), km2 0 (by decide)]; exact hR.1, lr_keep (fun k9 h9 => kx1 k9 (kp_dis (by decide) h9)) (fun k9 h8 h9 => kx1 k9 (kp_out (a := 57) (b := 152) (by decide) h8 h9)) (fun k9 h9 => kx2 k9 (kp_dis (by decide) h9)) (fun k9 h8 h9 => kx2 k9 (kp_out (a := 23) (b := 61) (by decide) h8 h9)) (fun k9 h9 => km1 k9 (kp_dis (by decide) h9)) (fun k9 h9 => km2 k9 (kp_dis (by decide) h9)) hR.2⟩
  exact kk _ _ _ _ _ (Nat.le_add_right _ _) (Nat.le_add_right _ _) ⟨tp, _, _, _, _, _, _, _, _, _, hIX, hIM, hRn, hKx, hKm, hPx, hPm, hPo, hDx, hDm, hDo, jxm, jxo, jmo⟩ hS (lv_sub hl [0, 1, 2, 3, 4] rfl)

set_option maxHeartbeats 4000000 in
set_option maxRecDepth 100000 in
theorem lc_12 {p : Program} {l : Launch} {e : Env} {s : State} {m : MethodId} {below : List Frame} {meth : Method} {c : Code} {b L : Nat} {xs : Nat → Int32} {A : Nat → Prop} {dC : Nat → ClassId} {dI : Nat → Nat → Nat} (hl0 : l.stackTraces = false) (hL : L ≤ 3072) (hA : ∀ q, s.heap.size ≤ q → A q) (hA2 : ∀ q, A q → s.heap.size ≤ q) (C0 : lw_At p s m meth c b L xs) (sd : Nat → Nat) (sa : Nat) (hE : lg_E A sd sa s) (x mo oa : Nat) (ko : ClassId) (hKo : va_K (dC, dI) vwCl [(ko, .long)] s) (i : Int32) (hi0 : (0 : Int) ≤ i.toInt) (hi6 : i.toInt + 6 ≤ (L : Int)) {H : Heap} {locs : List Loc} {cells slots : Nat} (hc9 : cells + 1 ≤ 601024) (hs9 : slots + 6 ≤ 7293034) (hG : lg_S dC dI A s x mo oa ko H) (hS : va_S A s.heap H locs) {ls : Array Slot} (hl : lv_has ls 7 [(4, .int i), (3, .ref oa), (2, .ref mo), (1, .ref x), (0, .ref b)])
    (kk : ∀ (H : Heap) (locs : List Loc) (ls : Array Slot) (k9 n9 : Nat), k9 ≤ cells + 1 → n9 ≤ slots + 6 → lg_S dC dI A s x mo oa ko H → va_S A s.heap H locs → lv_has ls 7 [(4, .int i), (3, .ref oa), (2, .ref mo), (1, .ref x), (0, .ref b)] → W p l e room_1 s m #[Value.ref b] below meth c H locs k9 n9 (lw_Z below #[Value.ref b] s) (F0 m 1941 ls [])) : W p l e room_1 s m #[Value.ref b] below meth c H locs cells slots (lw_Z below #[Value.ref b] s) (F0 m 588 ls []) := by
  obtain ⟨hx, hb, hr, hml, hown0, htl, hX, hbl, hlocks, hgv⟩ := id C0
  have hown : s.vm.findClass RL = some m.cls := hown0
  have hts : ∀ w ∈ wlT, w.before #[Value.ref b] s = true := fun w h => htl w (wlT_in w h)
  have hbA : ¬ A b := fun h => absurd (hA2 b h) (Nat.not_le.mpr hbl)
  obtain ⟨tp, wx, wm, tx, tm, fo, vi, vf, vm, vn, hIX, hIM, hR, hKx, hKm, hPx, hPm, hPo, hDx, hDm, hDo, jxm, jxo, jmo⟩ := hG
  have hiM : i.toInt ≤ (3066 : Int) := by omega
  have hcc : cells ≤ 601024 := by omega
  have hss : slots ≤ 7293034 := by omega
  have htpb := ix_tp hIX
  have hMo := im_mo hIM
  refine lv_aload_n hx hb dL_law_588 rfl (lv_at hl 3 rfl) ?_
  have hFc := lg_free hDx hS hA
  obtain ⟨fs589, hfs589⟩ := ix_recv hIX
  refine va_calli (va_runV (As := []) (rest := []) ⟨hx, hb, hml, hown, hts⟩ (k_X7_round l dC dI H.size x tp vi vf wx tx hIX ) (cwV 0 hts gd_X7_round rfl rfl rfl (by decide +kernel) ⟨Nat.le_of_ble_eq_true rfl, Nat.le_of_ble_eq_true rfl⟩) ⟨ax_blind (fun _ _ _ _ _ => trivial), va_recv hKx hPx (ci := 7) (q0 := 0) rfl hfs589, ax_preE hPx hKx hDx (fun _ _ _ => trivial)⟩ rfl rfl hl.1 rfl (lv_room (Nat.le_of_ble_eq_true rfl)) dL_law_589 ⟨hcc, hss⟩) hS (fun q _ h => hFc q h) hFc (fun r589 u t H1 locs ht hvm hw589 hB hz1 hk1 hS => ?_)
  obtain ⟨wxn, txn, ⟨vi1, vf1, kx1, kx2, hI1⟩, hP1, hK1, hD1⟩ := hB
  rw [ht] at hP1
  have hK1 := va_K.moved hvm.symm hK1
  obtain ⟨hPm, jxm⟩ := lg_step hPm jxm hk1 hD1
  obtain ⟨hPo, jxo⟩ := lg_step hPo jxo hk1 hD1
  have hD1 := hD1.weaken (fun _ _ _ h9 => hFc _ h9)
  clear hPx hDx hKx hFc hk1 hz1 hfs589
  have hIX := hI1; have hPx := hP1; have hDx := hD1; have hKx := hK1; clear hI1 hP1 hD1 hK1
  clear ht; generalize H1 = H at hPx hPm hPo hS ⊢
  refine lv_pop hx hb dL_law_592 rfl ?_
  refine lv_aload_n hx hb dL_law_593 rfl (lv_at hl 2 rfl) ?_
  have hFc := lg_free hDm hS hA
  obtain ⟨fs594, hfs594⟩ := im_recv hIM
  refine va_calli (va_runV (As := []) (rest := []) ⟨hx, hb, hml, hown, hts⟩ (k_X8_round l dC dI H.size mo tp vm vn wm tm hIM ) (cwV 0 hts gd_X8_round rfl rfl rfl (by decide +kernel) ⟨Nat.le_of_ble_eq_true rfl, Nat.le_of_ble_eq_true rfl⟩) ⟨ax_blind (fun _ _ _ _ _ => trivial), va_recv hKm hPm (ci := 8) (q0 := 0) rfl hfs594, ax_preE hPm hKm hDm (fun _ _ _ => trivial)⟩ rfl rfl hl.1 rfl (lv_room (Nat.le_of_ble_eq_true rfl)) dL_law_594 ⟨hcc, hss⟩) hS (fun q _ h => hFc q h) hFc (fun r594 u t H1 locs ht hvm hw594 hB hz1 hk1 hS => ?_)
  obtain ⟨wmn, tmn, ⟨vm1, vn1, km1, km2, hI1⟩, hP1, hK1, hD1⟩ := hB
  rw [ht] at hP1
  have hK1 := va_K.moved hvm.symm hK1
  obtain ⟨hPx, jmx⟩ := lg_step hPx (dj_symm jxm) hk1 hD1
  have jxm := dj_symm jmx
  obtain ⟨hPo, jmo⟩ := lg_step hPo jmo hk1 hD1
  have hD1 := hD1.weaken (fun _ _ _ h9 => hFc _ h9)
  clear hPm hDm hKm hFc hk1 hz1 hfs594
  have hIM := hI1; have hPm := hP1; have hDm := hD1; have hKm := hK1; clear hI1 hP1 hD1 hK1
  clear ht; generalize H1 = H at hPx hPm hPo hS ⊢
  refine lv_pop hx hb dL_law_597 rfl ?_
  refine lv_goto (tgt := 1941) hx hb dL_law_598 (by decide) ?_
  have hRn : lr_R tp vi1 vf1 vm1 vn1 := ⟨by rw [kx2 0 (by decide), km2 0 (by decide)]; exact hR.1, lr_keep (fun k9 h9 => kx1 k9 (kp_dis (by decide) h9)) (fun k9 h8 h9 => kx1 k9 (kp_out (a := 57) (b := 152) (by decide) h8 h9)) (fun k9 h9 => kx2 k9 (kp_dis (by decide) h9)) (fun k9 h8 h9 => kx2 k9 (kp_out (a := 23) (b := 61) (by decide) h8 h9)) (fun k9 h9 => km1 k9 (kp_dis (by decide) h9)) (fun k9 h9 => km2 k9 (kp_dis (by decide) h9)) hR.2⟩
  exact kk _ _ _ _ _ (Nat.le_add_right _ _) (Nat.le_add_right _ _) ⟨tp, _, _, _, _, _, _, _, _, _, hIX, hIM, hRn, hKx, hKm, hPx, hPm, hPo, hDx, hDm, hDo, jxm, jxo, jmo⟩ hS (lv_sub hl [0, 1, 2, 3, 4] rfl)

set_option maxHeartbeats 4000000 in
set_option maxRecDepth 100000 in
theorem lc_13 {p : Program} {l : Launch} {e : Env} {s : State} {m : MethodId} {below : List Frame} {meth : Method} {c : Code} {b L : Nat} {xs : Nat → Int32} {A : Nat → Prop} {dC : Nat → ClassId} {dI : Nat → Nat → Nat} (hl0 : l.stackTraces = false) (hL : L ≤ 3072) (hA : ∀ q, s.heap.size ≤ q → A q) (hA2 : ∀ q, A q → s.heap.size ≤ q) (C0 : lw_At p s m meth c b L xs) (sd : Nat → Nat) (sa : Nat) (hE : lg_E A sd sa s) (x mo oa : Nat) (ko : ClassId) (hKo : va_K (dC, dI) vwCl [(ko, .long)] s) (i : Int32) (hi0 : (0 : Int) ≤ i.toInt) (hi6 : i.toInt + 6 ≤ (L : Int)) {H : Heap} {locs : List Loc} {cells slots : Nat} (hc9 : cells + 1 ≤ 601024) (hs9 : slots + 6 ≤ 7293034) (hG : lg_S dC dI A s x mo oa ko H) (hS : va_S A s.heap H locs) {ls : Array Slot} (hl : lv_has ls 7 [(4, .int i), (3, .ref oa), (2, .ref mo), (1, .ref x), (0, .ref b)])
    (kk : ∀ (H : Heap) (locs : List Loc) (ls : Array Slot) (k9 n9 : Nat), k9 ≤ cells + 1 → n9 ≤ slots + 6 → lg_S dC dI A s x mo oa ko H → va_S A s.heap H locs → lv_has ls 7 [(4, .int i), (3, .ref oa), (2, .ref mo), (1, .ref x), (0, .ref b)] → W p l e room_1 s m #[Value.ref b] below meth c H locs k9 n9 (lw_Z below #[Value.ref b] s) (F0 m 1941 ls [])) : W p l e room_1 s m #[Value.ref b] below meth c H locs cells slots (lw_Z below #[Value.ref b] s) (F0 m 601 ls []) := by
  obtain ⟨hx, hb, hr, hml, hown0, htl, hX, hbl, hlocks, hgv⟩ := id C0
  have hown : s.vm.findClass RL = some m.cls := hown0
  have hts : ∀ w ∈ wlT, w.before #[Value.ref b] s = true := fun w h => htl w (wlT_in w h)
  have hbA : ¬ A b := fun h => absurd (hA2 b h) (Nat.not_le.mpr hbl)
  obtain ⟨tp, wx, wm, tx, tm, fo, vi, vf, vm, vn, hIX, hIM, hR, hKx, hKm, hPx, hPm, hPo, hDx, hDm, hDo, jxm, jxo, jmo⟩ := hG
  have hiM : i.toInt ≤ (3066 : Int) := by omega
  have hcc : cells ≤ 601024 := by omega
  have hss : slots ≤ 7293034 := by omega
  have htpb := ix_tp hIX
  have hMo := im_mo hIM
  refine lv_aload_n hx hb dL_law_601 rfl (lv_at hl 3 rfl) ?_
  have hFc := lg_free hDx hS hA
  obtain ⟨fs602, hfs602⟩ := ix_recv hIX
  refine va_calli (va_runV (As := []) (rest := []) ⟨hx, hb, hml, hown, hts⟩ (k_X7_called l dC dI H.size x tp vi vf wx tx hIX ) (cwV 0 hts gd_X7_called rfl rfl rfl (by decide +kernel) ⟨Nat.le_of_ble_eq_true rfl, Nat.le_of_ble_eq_true rfl⟩) ⟨ax_blind (fun _ _ _ _ _ => trivial), va_recv hKx hPx (ci := 7) (q0 := 0) rfl hfs602, ax_preE hPx hKx hDx (fun _ _ _ => trivial)⟩ rfl rfl hl.1 rfl (lv_room (Nat.le_of_ble_eq_true rfl)) dL_law_602 ⟨hcc, hss⟩) hS (fun q _ h => hFc q h) hFc (fun r602 u t H1 locs ht hvm hw602 hB hz1 hk1 hS => ?_)
  obtain ⟨wxn, txn, ⟨vi1, vf1, kx1, kx2, hI1⟩, hP1, hK1, hD1⟩ := hB
  rw [ht] at hP1
  have hK1 := va_K.moved hvm.symm hK1
  obtain ⟨hPm, jxm⟩ := lg_step hPm jxm hk1 hD1
  obtain ⟨hPo, jxo⟩ := lg_step hPo jxo hk1 hD1
  have hD1 := hD1.weaken (fun _ _ _ h9 => hFc _ h9)
  clear hPx hDx hKx hFc hk1 hz1 hfs602
  have hIX := hI1; have hPx := hP1; have hDx := hD1; have hKx := hK1; clear hI1 hP1 hD1 hK1
  clear ht; generalize H1 = H at hPx hPm hPo hS ⊢
  refine lv_pop hx hb dL_law_605 rfl ?_
  refine lv_aload_n hx hb dL_law_606 rfl (lv_at hl 2 rfl) ?_
  have hFc := lg_free hDm hS hA
  obtain ⟨fs607, hfs607⟩ := im_recv hIM
  refine va_calli (va_runV (As := []) (rest := []) ⟨hx, hb, hml, hown, hts⟩ (k_X8_called l dC dI H.size mo tp vm vn wm tm hIM ) (cwV 0 hts gd_X8_called rfl rfl rfl (by decide +kernel) ⟨Nat.le_of_ble_eq_true rfl, Nat.le_of_ble_eq_true rfl⟩) ⟨ax_blind (fun _ _ _ _ _ => trivial), va_recv hKm hPm (ci := 8) (q0 := 0) rfl hfs607, ax_preE hPm hKm hDm (fun _ _ _ => trivial)⟩ rfl rfl hl.1 rfl (lv_room (Nat.le_of_ble_eq_true rfl)) dL_law_607 ⟨hcc, hss⟩) hS (fun q _ h => hFc q h) hFc (fun r607 u t H1 locs ht hvm hw607 hB hz1 hk1 hS => ?_)
  obtain ⟨wmn, tmn, ⟨vm1, vn1, km1, km2, hI1⟩, hP1, hK1, hD1⟩ := hB
  rw [ht] at hP1
  have hK1 := va_K.moved hvm.symm hK1
  obtain ⟨hPx, jmx⟩ := lg_step hPx (dj_symm jxm) hk1 hD1
  have jxm := dj_symm jmx
  obtain ⟨hPo, jmo⟩ := lg_step hPo jmo hk1 hD1
  have hD1 := hD1.weaken (fun _ _ _ h9 => hFc _ h9)
  clear hPm hDm hKm hFc hk1 hz1 hfs607
  have hIM := hI1; have hPm := hP1; have hDm := hD1; have hKm := hK1; clear hI1 hP1 hD1 hK1
  clear ht; generalize H1 = H at hPx hPm hPo hS ⊢
  refine lv_pop hx hb dL_law_610 rfl ?_
  refine lv_goto (tgt := 1941) hx hb dL_law_611 (by decide) ?_
  have hRn : lr_R tp vi1 vf1 vm1 vn1 := ⟨by rw [kx2 0 (by decide), km2 0 (by decide)]; exact hR.1, lr_keep (fun k9 h9 => kx1 k9 (kp_dis (by decide) h9)) (fun k9 h8 h9 => kx1 k9 (kp_out (a := 57) (b := 152) (by decide) h8 h9)) (fun k9 h9 => kx2 k9 (kp_dis (by decide) h9)) (fun k9 h8 h9 => kx2 k9 (kp_out (a := 23) (b := 61) (by decide) h8 h9)) (fun k9 h9 => km1 k9 (kp_dis (by decide) h9)) (fun k9 h9 => km2 k9 (kp_dis (by decide) h9)) hR.2⟩
  exact kk _ _ _ _ _ (Nat.le_add_right _ _) (Nat.le_add_right _ _) ⟨tp, _, _, _, _, _, _, _, _, _, hIX, hIM, hRn, hKx, hKm, hPx, hPm, hPo, hDx, hDm, hDo, jxm, jxo, jmo⟩ hS (lv_sub hl [0, 1, 2, 3, 4] rfl)

set_option maxHeartbeats 4000000 in
set_option maxRecDepth 100000 in
theorem lc_14 {p : Program} {l : Launch} {e : Env} {s : State} {m : MethodId} {below : List Frame} {meth : Method} {c : Code} {b L : Nat} {xs : Nat → Int32} {A : Nat → Prop} {dC : Nat → ClassId} {dI : Nat → Nat → Nat} (hl0 : l.stackTraces = false) (hL : L ≤ 3072) (hA : ∀ q, s.heap.size ≤ q → A q) (hA2 : ∀ q, A q → s.heap.size ≤ q) (C0 : lw_At p s m meth c b L xs) (sd : Nat → Nat) (sa : Nat) (hE : lg_E A sd sa s) (x mo oa : Nat) (ko : ClassId) (hKo : va_K (dC, dI) vwCl [(ko, .long)] s) (i : Int32) (hi0 : (0 : Int) ≤ i.toInt) (hi6 : i.toInt + 6 ≤ (L : Int)) {H : Heap} {locs : List Loc} {cells slots : Nat} (hc9 : cells + 1 ≤ 601024) (hs9 : slots + 6 ≤ 7293034) (hG : lg_S dC dI A s x mo oa ko H) (hS : va_S A s.heap H locs) {ls : Array Slot} (hl : lv_has ls 7 [(4, .int i), (3, .ref oa), (2, .ref mo), (1, .ref x), (0, .ref b)])
    (kk : ∀ (H : Heap) (locs : List Loc) (ls : Array Slot) (k9 n9 : Nat), k9 ≤ cells + 1 → n9 ≤ slots + 6 → lg_S dC dI A s x mo oa ko H → va_S A s.heap H locs → lv_has ls 7 [(4, .int i), (3, .ref oa), (2, .ref mo), (1, .ref x), (0, .ref b)] → W p l e room_1 s m #[Value.ref b] below meth c H locs k9 n9 (lw_Z below #[Value.ref b] s) (F0 m 1941 ls [])) : W p l e room_1 s m #[Value.ref b] below meth c H locs cells slots (lw_Z below #[Value.ref b] s) (F0 m 614 ls []) := by
  obtain ⟨hx, hb, hr, hml, hown0, htl, hX, hbl, hlocks, hgv⟩ := id C0
  have hown : s.vm.findClass RL = some m.cls := hown0
  have hts : ∀ w ∈ wlT, w.before #[Value.ref b] s = true := fun w h => htl w (wlT_in w h)
  have hbA : ¬ A b := fun h => absurd (hA2 b h) (Nat.not_le.mpr hbl)
  obtain ⟨tp, wx, wm, tx, tm, fo, vi, vf, vm, vn, hIX, hIM, hR, hKx, hKm, hPx, hPm, hPo, hDx, hDm, hDo, jxm, jxo, jmo⟩ := hG
  have hiM : i.toInt ≤ (3066 : Int) := by omega
  have hcc : cells ≤ 601024 := by omega
  have hss : slots ≤ 7293034 := by omega
  have htpb := ix_tp hIX
  have hMo := im_mo hIM
  refine lv_aload_n hx hb dL_law_614 rfl (lv_at hl 3 rfl) ?_
  refine lv_aload_n hx hb dL_law_615 rfl (lv_at hl 4 rfl) ?_
  refine lv_iload hx hb dL_law_616 (lv_at hl 0 rfl) ?_
  refine lv_iconst (v := 1) hx hb dL_law_618 zk_iconst_1 ?_
  refine lv_iadd hx hb dL_law_619 ?_
  refine lv_topi (fun ix1 eix1 => ?_)
  have qix1 : ix1.toInt = i.toInt + 1 := ai_add eix1 ⟨hi0, hiM⟩ ⟨zq1, zq0⟩ (by decide) (by decide)
  refine va_sld (L := L) (i := ix1) hx hb hX hbl hbA hS (vp_in_iff.mpr ⟨by omega, by omega⟩) dL_law_620 ?_
  refine lv_topi (fun vix1 evix1 => ?_)
  refine lv_aload_n hx hb dL_law_621 rfl (lv_at hl 4 rfl) ?_
  refine lv_iload hx hb dL_law_622 (lv_at hl 0 rfl) ?_
  refine lv_iconst (v := 2) hx hb dL_law_624 zk_iconst_2 ?_
  refine lv_iadd hx hb dL_law_625 ?_
  refine lv_topi (fun ix2 eix2 => ?_)
  have qix2 : ix2.toInt = i.toInt + 2 := ai_add eix2 ⟨hi0, hiM⟩ ⟨zq12, zq13⟩ (by decide) (by decide)
  refine va_sld (L := L) (i := ix2) hx hb hX hbl hbA hS (vp_in_iff.mpr ⟨by omega, by omega⟩) dL_law_626 ?_
  refine lv_topi (fun vix2 evix2 => ?_)
  have hFc := lg_free hDx hS hA
  obtain ⟨fs627, hfs627⟩ := ix_recv hIX
  refine va_calli (va_runV (As := [.int vix1, .int vix2]) (rest := []) ⟨hx, hb, hml, hown, hts⟩ (k_X7_minutesOf l dC dI H.size x tp vi vf wx tx hIX vix1 vix2) (cwV 2 hts gd_X7_minutesOf rfl rfl rfl (by decide +kernel) ⟨Nat.le_of_ble_eq_true rfl, Nat.le_of_ble_eq_true rfl⟩) ⟨ax_blind (fun _ _ _ _ _ => trivial), va_recv hKx hPx (ci := 7) (q0 := 0) rfl hfs627, ax_preE hPx hKx hDx (fun _ _ _ => trivial)⟩ rfl rfl hl.1 rfl (lv_room (Nat.le_of_ble_eq_true rfl)) dL_law_627 ⟨hcc, hss⟩) hS (fun q _ h => hFc q h) hFc (fun r627 u t H1 locs ht hvm hw627 hB hz1 hk1 hS => ?_)
  obtain ⟨wxn, txn, ⟨vi1, vf1, kx1, kx2, hI1⟩, hP1, hK1, hD1⟩ := hB
  rw [ht] at hP1
  have hK1 := va_K.moved hvm.symm hK1
  obtain ⟨hPm, jxm⟩ := lg_step hPm jxm hk1 hD1
  obtain ⟨hPo, jxo⟩ := lg_step hPo jxo hk1 hD1
  have hD1 := hD1.weaken (fun _ _ _ h9 => hFc _ h9)
  clear hPx hDx hKx hFc hk1 hz1 hfs627
  have hIX := hI1; have hPx := hP1; have hDx := hD1; have hKx := hK1; clear hI1 hP1 hD1 hK1
  clear ht; generalize H1 = H at hPx hPm hPo hS ⊢
  refine lv_aload_n hx hb dL_law_630 rfl (lv_at hl 2 rfl) ?_
  refine lv_aload_n hx hb dL_law_631 rfl (lv_at hl 4 rfl) ?_
  refine lv_iload hx hb dL_law_632 (lv_at hl 0 rfl) ?_
  refine lv_iconst (v := 1) hx hb dL_law_634 zk_iconst_1 ?_
  refine lv_iadd hx hb dL_law_635 ?_
  refine ax_ti ix1 eix1.symm ?_
  refine va_sld (L := L) (i := ix1) hx hb hX hbl hbA hS (vp_in_iff.mpr ⟨by omega, by omega⟩) dL_law_636 ?_
  refine ax_ti vix1 evix1.symm ?_
  refine lv_aload_n hx hb dL_law_637 rfl (lv_at hl 4 rfl) ?_
  refine lv_iload hx hb dL_law_638 (lv_at hl 0 rfl) ?_
  refine lv_iconst (v := 2) hx hb dL_law_640 zk_iconst_2 ?_
  refine lv_iadd hx hb dL_law_641 ?_
  refine ax_ti ix2 eix2.symm ?_
  refine va_sld (L := L) (i := ix2) hx hb hX hbl hbA hS (vp_in_iff.mpr ⟨by omega, by omega⟩) dL_law_642 ?_
  refine ax_ti vix2 evix2.symm ?_
  have hFc := lg_free hDm hS hA
  obtain ⟨fs643, hfs643⟩ := im_recv hIM
  refine va_calli (va_runV (As := [.int vix1, .int vix2]) (rest := [.int r627]) ⟨hx, hb, hml, hown, hts⟩ (k_X8_minutesOf l dC dI H.size mo tp vm vn wm tm hIM vix1 vix2) (cwV 2 hts gd_X8_minutesOf rfl rfl rfl (by decide +kernel) ⟨Nat.le_of_ble_eq_true rfl, Nat.le_of_ble_eq_true rfl⟩) ⟨ax_blind (fun _ _ _ _ _ => trivial), va_recv hKm hPm (ci := 8) (q0 := 0) rfl hfs643, ax_preE hPm hKm hDm (fun _ _ _ => trivial)⟩ rfl rfl hl.1 rfl (lv_room (Nat.le_of_ble_eq_true rfl)) dL_law_643 ⟨hcc, hss⟩) hS (fun q _ h => hFc q h) hFc (fun r643 u t H1 locs ht hvm hw643 hB hz1 hk1 hS => ?_)
  obtain ⟨wmn, tmn, ⟨vm1, vn1, km1, km2, hI1⟩, hP1, hK1, hD1⟩ := hB
  rw [ht] at hP1
  have hK1 := va_K.moved hvm.symm hK1
  obtain ⟨hPx, jmx⟩ := lg_step hPx (dj_symm jxm) hk1 hD1
  have jxm := dj_symm jmx
  obtain ⟨hPo, jmo⟩ := lg_step hPo jmo hk1 hD1
  have hD1 := hD1.weaken (fun _ _ _ h9 => hFc _ h9)
  clear hPm hDm hKm hFc hk1 hz1 hfs643
  have hIM := hI1; have hPm := hP1; have hDm := hD1; have hKm := hK1; clear hI1 hP1 hD1 hK1
  clear ht; generalize H1 = H at hPx hPm hPo hS ⊢
  have hra : r627 = r643 := Int32.toInt_inj.mp (hw627.trans (lr_minutesOf hR.2.2.1 hR.2.2.2 hMo _ _ hw643))
  refine lv_icmp_eq (tgt := 1941) hx hb dL_law_646 (by decide) (fun _ => ?_) (fun c9 => absurd hra c9)
  have hRn : lr_R tp vi1 vf1 vm1 vn1 := ⟨by rw [kx2 0 (by decide), km2 0 (by decide)]; exact hR.1, lr_keep (fun k9 h9 => kx1 k9 (kp_dis (by decide) h9)) (fun k9 h8 h9 => kx1 k9 (kp_out (a := 57) (b := 152) (by decide) h8 h9)) (fun k9 h9 => kx2 k9 (kp_dis (by decide) h9)) (fun k9 h8 h9 => kx2 k9 (kp_out (a := 23) (b := 61) (by decide) h8 h9)) (fun k9 h9 => km1 k9 (kp_dis (by decide) h9)) (fun k9 h9 => km2 k9 (kp_dis (by decide) h9)) hR.2⟩
  exact kk _ _ _ _ _ (Nat.le_add_right _ _) (Nat.le_add_right _ _) ⟨tp, _, _, _, _, _, _, _, _, _, hIX, hIM, hRn, hKx, hKm, hPx, hPm, hPo, hDx, hDm, hDo, jxm, jxo, jmo⟩ hS (lv_sub hl [0, 1, 2, 3, 4] rfl)
end P443_cases_0
section P443_cases_1
set_option maxHeartbeats 4000000 in
set_option maxRecDepth 100000 in
theorem lc_15 {p : Program} {l : Launch} {e : Env} {s : State} {m : MethodId} {below : List Frame} {meth : Method} {c : Code} {b L : Nat} {xs : Nat → Int32} {A : Nat → Prop} {dC : Nat → ClassId} {dI : Nat → Nat → Nat} (hl0 : l.stackTraces = false) (hL : L ≤ 3072) (hA : ∀ q, s.heap.size ≤ q → A q) (hA2 : ∀ q, A q → s.heap.size ≤ q) (C0 : lw_At p s m meth c b L xs) (sd : Nat → Nat) (sa : Nat) (hE : lg_E A sd sa s) (x mo oa : Nat) (ko : ClassId) (hKo : va_K (dC, dI) vwCl [(ko, .long)] s) (i : Int32) (hi0 : (0 : Int) ≤ i.toInt) (hi6 : i.toInt + 6 ≤ (L : Int)) {H : Heap} {locs : List Loc} {cells slots : Nat} (hc9 : cells + 1 ≤ 601024) (hs9 : slots + 6 ≤ 7293034) (hG : lg_S dC dI A s x mo oa ko H) (hS : va_S A s.heap H locs) {ls : Array Slot} (hl : lv_has ls 7 [(4, .int i), (3, .ref oa), (2, .ref mo), (1, .ref x), (0, .ref b)])
    (kk : ∀ (H : Heap) (locs : List Loc) (ls : Array Slot) (k9 n9 : Nat), k9 ≤ cells + 1 → n9 ≤ slots + 6 → lg_S dC dI A s x mo oa ko H → va_S A s.heap H locs → lv_has ls 7 [(4, .int i), (3, .ref oa), (2, .ref mo), (1, .ref x), (0, .ref b)] → W p l e room_1 s m #[Value.ref b] below meth c H locs k9 n9 (lw_Z below #[Value.ref b] s) (F0 m 1941 ls [])) : W p l e room_1 s m #[Value.ref b] below meth c H locs cells slots (lw_Z below #[Value.ref b] s) (F0 m 651 ls []) := by
  obtain ⟨hx, hb, hr, hml, hown0, htl, hX, hbl, hlocks, hgv⟩ := id C0
  have hown : s.vm.findClass RL = some m.cls := hown0
  have hts : ∀ w ∈ wlT, w.before #[Value.ref b] s = true := fun w h => htl w (wlT_in w h)
  have hbA : ¬ A b := fun h => absurd (hA2 b h) (Nat.not_le.mpr hbl)
  obtain ⟨tp, wx, wm, tx, tm, fo, vi, vf, vm, vn, hIX, hIM, hR, hKx, hKm, hPx, hPm, hPo, hDx, hDm, hDo, jxm, jxo, jmo⟩ := hG
  have hiM : i.toInt ≤ (3066 : Int) := by omega
  have hcc : cells ≤ 601024 := by omega
  have hss : slots ≤ 7293034 := by omega
  have htpb := ix_tp hIX
  have hMo := im_mo hIM
  refine lv_aload_n hx hb dL_law_651 rfl (lv_at hl 3 rfl) ?_
  refine lv_aload_n hx hb dL_law_652 rfl (lv_at hl 4 rfl) ?_
  refine lv_iload hx hb dL_law_653 (lv_at hl 0 rfl) ?_
  refine lv_iconst (v := 1) hx hb dL_law_655 zk_iconst_1 ?_
  refine lv_iadd hx hb dL_law_656 ?_
  refine lv_topi (fun ix1 eix1 => ?_)
  have qix1 : ix1.toInt = i.toInt + 1 := ai_add eix1 ⟨hi0, hiM⟩ ⟨zq1, zq0⟩ (by decide) (by decide)
  refine va_sld (L := L) (i := ix1) hx hb hX hbl hbA hS (vp_in_iff.mpr ⟨by omega, by omega⟩) dL_law_657 ?_
  refine lv_topi (fun vix1 evix1 => ?_)
  refine lv_aload_n hx hb dL_law_658 rfl (lv_at hl 4 rfl) ?_
  refine lv_iload hx hb dL_law_659 (lv_at hl 0 rfl) ?_
  refine lv_iconst (v := 2) hx hb dL_law_661 zk_iconst_2 ?_
  refine lv_iadd hx hb dL_law_662 ?_
  refine lv_topi (fun ix2 eix2 => ?_)
  have qix2 : ix2.toInt = i.toInt + 2 := ai_add eix2 ⟨hi0, hiM⟩ ⟨zq12, zq13⟩ (by decide) (by decide)
  refine va_sld (L := L) (i := ix2) hx hb hX hbl hbA hS (vp_in_iff.mpr ⟨by omega, by omega⟩) dL_law_663 ?_
  refine lv_topi (fun vix2 evix2 => ?_)
  have hFc := lg_free hDx hS hA
  obtain ⟨fs664, hfs664⟩ := ix_recv hIX
  refine va_calli (va_runV (As := [.int vix1, .int vix2]) (rest := []) ⟨hx, hb, hml, hown, hts⟩ (k_X7_place l dC dI H.size x tp vi vf wx tx hIX vix1 vix2) (cwV 2 hts gd_X7_place rfl rfl rfl (by decide +kernel) ⟨Nat.le_of_ble_eq_true rfl, Nat.le_of_ble_eq_true rfl⟩) ⟨ax_blind (fun _ _ _ _ hq => ⟨va_Nw.same rfl rfl (hq.1), va_Nw.same rfl rfl (hq.2.1), va_Nw.same rfl rfl (hq.2.2)⟩), va_recv hKx hPx (ci := 7) (q0 := 0) rfl hfs664, ax_preE hPx hKx hDx (fun U hU hW => ⟨va_Nw.warmM hW (hE.2.2.2.1), va_Nw.warmM hW (hE.2.2.1), va_Nw.warmM hW (hE.2.2.2.2.1)⟩)⟩ rfl rfl hl.1 rfl (lv_room (Nat.le_of_ble_eq_true rfl)) dL_law_664 ⟨hcc, hss⟩) hS (fun q _ h => hFc q h) hFc (fun r664 u t H1 locs ht hvm hw664 hB hz1 hk1 hS => ?_)
  obtain ⟨wxn, txn, ⟨vi1, vf1, kx1, kx2, hI1⟩, hP1, hK1, hD1⟩ := hB
  rw [ht] at hP1
  have hK1 := va_K.moved hvm.symm hK1
  obtain ⟨hPm, jxm⟩ := lg_step hPm jxm hk1 hD1
  obtain ⟨hPo, jxo⟩ := lg_step hPo jxo hk1 hD1
  have hD1 := hD1.weaken (fun _ _ _ h9 => hFc _ h9)
  clear hPx hDx hKx hFc hk1 hz1 hfs664
  have hIX := hI1; have hPx := hP1; have hDx := hD1; have hKx := hK1; clear hI1 hP1 hD1 hK1
  clear ht; generalize H1 = H at hPx hPm hPo hS ⊢
  refine lv_pop hx hb dL_law_667 rfl ?_
  refine lv_aload_n hx hb dL_law_668 rfl (lv_at hl 2 rfl) ?_
  refine lv_aload_n hx hb dL_law_669 rfl (lv_at hl 4 rfl) ?_
  refine lv_iload hx hb dL_law_670 (lv_at hl 0 rfl) ?_
  refine lv_iconst (v := 1) hx hb dL_law_672 zk_iconst_1 ?_
  refine lv_iadd hx hb dL_law_673 ?_
  refine ax_ti ix1 eix1.symm ?_
  refine va_sld (L := L) (i := ix1) hx hb hX hbl hbA hS (vp_in_iff.mpr ⟨by omega, by omega⟩) dL_law_674 ?_
  refine ax_ti vix1 evix1.symm ?_
  refine lv_aload_n hx hb dL_law_675 rfl (lv_at hl 4 rfl) ?_
  refine lv_iload hx hb dL_law_676 (lv_at hl 0 rfl) ?_
  refine lv_iconst (v := 2) hx hb dL_law_678 zk_iconst_2 ?_
  refine lv_iadd hx hb dL_law_679 ?_
  refine ax_ti ix2 eix2.symm ?_
  refine va_sld (L := L) (i := ix2) hx hb hX hbl hbA hS (vp_in_iff.mpr ⟨by omega, by omega⟩) dL_law_680 ?_
  refine ax_ti vix2 evix2.symm ?_
  have hFc := lg_free hDm hS hA
  obtain ⟨fs681, hfs681⟩ := im_recv hIM
  refine va_calli (va_runV (As := [.int vix1, .int vix2]) (rest := []) ⟨hx, hb, hml, hown, hts⟩ (k_X8_place l dC dI H.size mo tp vm vn wm tm hIM vix1 vix2) (cwV 2 hts gd_X8_place rfl rfl rfl (by decide +kernel) ⟨Nat.le_of_ble_eq_true rfl, Nat.le_of_ble_eq_true rfl⟩) ⟨ax_blind (fun _ _ _ _ _ => trivial), va_recv hKm hPm (ci := 8) (q0 := 0) rfl hfs681, ax_preE hPm hKm hDm (fun _ _ _ => trivial)⟩ rfl rfl hl.1 rfl (lv_room (Nat.le_of_ble_eq_true rfl)) dL_law_681 ⟨hcc, hss⟩) hS (fun q _ h => hFc q h) hFc (fun r681 u t H1 locs ht hvm hw681 hB hz1 hk1 hS => ?_)
  obtain ⟨wmn, tmn, ⟨vm1, vn1, km1, km2, hI1⟩, hP1, hK1, hD1⟩ := hB
  rw [ht] at hP1
  have hK1 := va_K.moved hvm.symm hK1
  obtain ⟨hPx, jmx⟩ := lg_step hPx (dj_symm jxm) hk1 hD1
  have jxm := dj_symm jmx
  obtain ⟨hPo, jmo⟩ := lg_step hPo jmo hk1 hD1
  have hD1 := hD1.weaken (fun _ _ _ h9 => hFc _ h9)
  clear hPm hDm hKm hFc hk1 hz1 hfs681
  have hIM := hI1; have hPm := hP1; have hDm := hD1; have hKm := hK1; clear hI1 hP1 hD1 hK1
  clear ht; generalize H1 = H at hPx hPm hPo hS ⊢
  refine lv_pop hx hb dL_law_684 rfl ?_
  refine lv_goto (tgt := 1941) hx hb dL_law_685 (by decide) ?_
  have hRn : lr_R tp vi1 vf1 vm1 vn1 := ⟨by rw [kx2 0 (by decide), km2 0 (by decide)]; exact hR.1, lr_keep (fun k9 h9 => kx1 k9 (kp_dis (by decide) h9)) (fun k9 h8 h9 => kx1 k9 (kp_out (a := 57) (b := 152) (by decide) h8 h9)) (fun k9 h9 => kx2 k9 (kp_dis (by decide) h9)) (fun k9 h8 h9 => kx2 k9 (kp_out (a := 23) (b := 61) (by decide) h8 h9)) (fun k9 h9 => km1 k9 (kp_dis (by decide) h9)) (fun k9 h9 => km2 k9 (kp_dis (by decide) h9)) hR.2⟩
  exact kk _ _ _ _ _ (Nat.le_add_right _ _) (Nat.le_add_right _ _) ⟨tp, _, _, _, _, _, _, _, _, _, hIX, hIM, hRn, hKx, hKm, hPx, hPm, hPo, hDx, hDm, hDo, jxm, jxo, jmo⟩ hS (lv_sub hl [0, 1, 2, 3, 4] rfl)

set_option maxHeartbeats 4000000 in
set_option maxRecDepth 100000 in
theorem lc_16 {p : Program} {l : Launch} {e : Env} {s : State} {m : MethodId} {below : List Frame} {meth : Method} {c : Code} {b L : Nat} {xs : Nat → Int32} {A : Nat → Prop} {dC : Nat → ClassId} {dI : Nat → Nat → Nat} (hl0 : l.stackTraces = false) (hL : L ≤ 3072) (hA : ∀ q, s.heap.size ≤ q → A q) (hA2 : ∀ q, A q → s.heap.size ≤ q) (C0 : lw_At p s m meth c b L xs) (sd : Nat → Nat) (sa : Nat) (hE : lg_E A sd sa s) (x mo oa : Nat) (ko : ClassId) (hKo : va_K (dC, dI) vwCl [(ko, .long)] s) (i : Int32) (hi0 : (0 : Int) ≤ i.toInt) (hi6 : i.toInt + 6 ≤ (L : Int)) {H : Heap} {locs : List Loc} {cells slots : Nat} (hc9 : cells + 1 ≤ 601024) (hs9 : slots + 6 ≤ 7293034) (hG : lg_S dC dI A s x mo oa ko H) (hS : va_S A s.heap H locs) {ls : Array Slot} (hl : lv_has ls 7 [(4, .int i), (3, .ref oa), (2, .ref mo), (1, .ref x), (0, .ref b)])
    (kk : ∀ (H : Heap) (locs : List Loc) (ls : Array Slot) (k9 n9 : Nat), k9 ≤ cells + 1 → n9 ≤ slots + 6 → lg_S dC dI A s x mo oa ko H → va_S A s.heap H locs → lv_has ls 7 [(4, .int i), (3, .ref oa), (2, .ref mo), (1, .ref x), (0, .ref b)] → W p l e room_1 s m #[Value.ref b] below meth c H locs k9 n9 (lw_Z below #[Value.ref b] s) (F0 m 1941 ls [])) : W p l e room_1 s m #[Value.ref b] below meth c H locs cells slots (lw_Z below #[Value.ref b] s) (F0 m 688 ls []) := by
  obtain ⟨hx, hb, hr, hml, hown0, htl, hX, hbl, hlocks, hgv⟩ := id C0
  have hown : s.vm.findClass RL = some m.cls := hown0
  have hts : ∀ w ∈ wlT, w.before #[Value.ref b] s = true := fun w h => htl w (wlT_in w h)
  have hbA : ¬ A b := fun h => absurd (hA2 b h) (Nat.not_le.mpr hbl)
  obtain ⟨tp, wx, wm, tx, tm, fo, vi, vf, vm, vn, hIX, hIM, hR, hKx, hKm, hPx, hPm, hPo, hDx, hDm, hDo, jxm, jxo, jmo⟩ := hG
  have hiM : i.toInt ≤ (3066 : Int) := by omega
  have hcc : cells ≤ 601024 := by omega
  have hss : slots ≤ 7293034 := by omega
  have htpb := ix_tp hIX
  have hMo := im_mo hIM
  refine lv_aload_n hx hb dL_law_688 rfl (lv_at hl 3 rfl) ?_
  refine lv_aload_n hx hb dL_law_689 rfl (lv_at hl 4 rfl) ?_
  refine lv_iload hx hb dL_law_690 (lv_at hl 0 rfl) ?_
  refine lv_iconst (v := 1) hx hb dL_law_692 zk_iconst_1 ?_
  refine lv_iadd hx hb dL_law_693 ?_
  refine lv_topi (fun ix1 eix1 => ?_)
  have qix1 : ix1.toInt = i.toInt + 1 := ai_add eix1 ⟨hi0, hiM⟩ ⟨zq1, zq0⟩ (by decide) (by decide)
  refine va_sld (L := L) (i := ix1) hx hb hX hbl hbA hS (vp_in_iff.mpr ⟨by omega, by omega⟩) dL_law_694 ?_
  refine lv_topi (fun vix1 evix1 => ?_)
  refine lv_aload_n hx hb dL_law_695 rfl (lv_at hl 4 rfl) ?_
  refine lv_iload hx hb dL_law_696 (lv_at hl 0 rfl) ?_
  refine lv_iconst (v := 2) hx hb dL_law_698 zk_iconst_2 ?_
  refine lv_iadd hx hb dL_law_699 ?_
  refine lv_topi (fun ix2 eix2 => ?_)
  have qix2 : ix2.toInt = i.toInt + 2 := ai_add eix2 ⟨hi0, hiM⟩ ⟨zq12, zq13⟩ (by decide) (by decide)
  refine va_sld (L := L) (i := ix2) hx hb hX hbl hbA hS (vp_in_iff.mpr ⟨by omega, by omega⟩) dL_law_700 ?_
  refine lv_topi (fun vix2 evix2 => ?_)
  have hFc := lg_free hDx hS hA
  obtain ⟨fs701, hfs701⟩ := ix_recv hIX
  refine va_calli (va_runV (As := [.int vix1, .int vix2]) (rest := []) ⟨hx, hb, hml, hown, hts⟩ (k_X7_watch l dC dI H.size x tp vi vf wx tx hIX vix1 vix2) (cwV 2 hts gd_X7_watch rfl rfl rfl (by decide +kernel) ⟨Nat.le_of_ble_eq_true rfl, Nat.le_of_ble_eq_true rfl⟩) ⟨ax_blind (fun _ _ _ _ _ => trivial), va_recv hKx hPx (ci := 7) (q0 := 0) rfl hfs701, ax_preE hPx hKx hDx (fun _ _ _ => trivial)⟩ rfl rfl hl.1 rfl (lv_room (Nat.le_of_ble_eq_true rfl)) dL_law_701 ⟨hcc, hss⟩) hS (fun q _ h => hFc q h) hFc (fun r701 u t H1 locs ht hvm hw701 hB hz1 hk1 hS => ?_)
  obtain ⟨wxn, txn, ⟨vi1, vf1, kx1, kx2, hI1⟩, hP1, hK1, hD1⟩ := hB
  rw [ht] at hP1
  have hK1 := va_K.moved hvm.symm hK1
  obtain ⟨hPm, jxm⟩ := lg_step hPm jxm hk1 hD1
  obtain ⟨hPo, jxo⟩ := lg_step hPo jxo hk1 hD1
  have hD1 := hD1.weaken (fun _ _ _ h9 => hFc _ h9)
  clear hPx hDx hKx hFc hk1 hz1 hfs701
  have hIX := hI1; have hPx := hP1; have hDx := hD1; have hKx := hK1; clear hI1 hP1 hD1 hK1
  clear ht; generalize H1 = H at hPx hPm hPo hS ⊢
  refine lv_pop hx hb dL_law_704 rfl ?_
  refine lv_aload_n hx hb dL_law_705 rfl (lv_at hl 2 rfl) ?_
  refine lv_aload_n hx hb dL_law_706 rfl (lv_at hl 4 rfl) ?_
  refine lv_iload hx hb dL_law_707 (lv_at hl 0 rfl) ?_
  refine lv_iconst (v := 1) hx hb dL_law_709 zk_iconst_1 ?_
  refine lv_iadd hx hb dL_law_710 ?_
  refine ax_ti ix1 eix1.symm ?_
  refine va_sld (L := L) (i := ix1) hx hb hX hbl hbA hS (vp_in_iff.mpr ⟨by omega, by omega⟩) dL_law_711 ?_
  refine ax_ti vix1 evix1.symm ?_
  refine lv_aload_n hx hb dL_law_712 rfl (lv_at hl 4 rfl) ?_
  refine lv_iload hx hb dL_law_713 (lv_at hl 0 rfl) ?_
  refine lv_iconst (v := 2) hx hb dL_law_715 zk_iconst_2 ?_
  refine lv_iadd hx hb dL_law_716 ?_
  refine ax_ti ix2 eix2.symm ?_
  refine va_sld (L := L) (i := ix2) hx hb hX hbl hbA hS (vp_in_iff.mpr ⟨by omega, by omega⟩) dL_law_717 ?_
  refine ax_ti vix2 evix2.symm ?_
  have hFc := lg_free hDm hS hA
  obtain ⟨fs718, hfs718⟩ := im_recv hIM
  refine va_calli (va_runV (As := [.int vix1, .int vix2]) (rest := []) ⟨hx, hb, hml, hown, hts⟩ (k_X8_watch l dC dI H.size mo tp vm vn wm tm hIM vix1 vix2) (cwV 2 hts gd_X8_watch rfl rfl rfl (by decide +kernel) ⟨Nat.le_of_ble_eq_true rfl, Nat.le_of_ble_eq_true rfl⟩) ⟨ax_blind (fun _ _ _ _ _ => trivial), va_recv hKm hPm (ci := 8) (q0 := 0) rfl hfs718, ax_preE hPm hKm hDm (fun _ _ _ => trivial)⟩ rfl rfl hl.1 rfl (lv_room (Nat.le_of_ble_eq_true rfl)) dL_law_718 ⟨hcc, hss⟩) hS (fun q _ h => hFc q h) hFc (fun r718 u t H1 locs ht hvm hw718 hB hz1 hk1 hS => ?_)
  obtain ⟨wmn, tmn, ⟨vm1, vn1, km1, km2, hI1⟩, hP1, hK1, hD1⟩ := hB
  rw [ht] at hP1
  have hK1 := va_K.moved hvm.symm hK1
  obtain ⟨hPx, jmx⟩ := lg_step hPx (dj_symm jxm) hk1 hD1
  have jxm := dj_symm jmx
  obtain ⟨hPo, jmo⟩ := lg_step hPo jmo hk1 hD1
  have hD1 := hD1.weaken (fun _ _ _ h9 => hFc _ h9)
  clear hPm hDm hKm hFc hk1 hz1 hfs718
  have hIM := hI1; have hPm := hP1; have hDm := hD1; have hKm := hK1; clear hI1 hP1 hD1 hK1
  clear ht; generalize H1 = H at hPx hPm hPo hS ⊢
  refine lv_pop hx hb dL_law_721 rfl ?_
  refine lv_goto (tgt := 1941) hx hb dL_law_722 (by decide) ?_
  have hRn : lr_R tp vi1 vf1 vm1 vn1 := ⟨by rw [kx2 0 (by decide), km2 0 (by decide)]; exact hR.1, lr_keep (fun k9 h9 => kx1 k9 (kp_dis (by decide) h9)) (fun k9 h8 h9 => kx1 k9 (kp_out (a := 57) (b := 152) (by decide) h8 h9)) (fun k9 h9 => kx2 k9 (kp_dis (by decide) h9)) (fun k9 h8 h9 => kx2 k9 (kp_out (a := 23) (b := 61) (by decide) h8 h9)) (fun k9 h9 => km1 k9 (kp_dis (by decide) h9)) (fun k9 h9 => km2 k9 (kp_dis (by decide) h9)) hR.2⟩
  exact kk _ _ _ _ _ (Nat.le_add_right _ _) (Nat.le_add_right _ _) ⟨tp, _, _, _, _, _, _, _, _, _, hIX, hIM, hRn, hKx, hKm, hPx, hPm, hPo, hDx, hDm, hDo, jxm, jxo, jmo⟩ hS (lv_sub hl [0, 1, 2, 3, 4] rfl)

set_option maxHeartbeats 4000000 in
set_option maxRecDepth 100000 in
theorem lc_17 {p : Program} {l : Launch} {e : Env} {s : State} {m : MethodId} {below : List Frame} {meth : Method} {c : Code} {b L : Nat} {xs : Nat → Int32} {A : Nat → Prop} {dC : Nat → ClassId} {dI : Nat → Nat → Nat} (hl0 : l.stackTraces = false) (hL : L ≤ 3072) (hA : ∀ q, s.heap.size ≤ q → A q) (hA2 : ∀ q, A q → s.heap.size ≤ q) (C0 : lw_At p s m meth c b L xs) (sd : Nat → Nat) (sa : Nat) (hE : lg_E A sd sa s) (x mo oa : Nat) (ko : ClassId) (hKo : va_K (dC, dI) vwCl [(ko, .long)] s) (i : Int32) (hi0 : (0 : Int) ≤ i.toInt) (hi6 : i.toInt + 6 ≤ (L : Int)) {H : Heap} {locs : List Loc} {cells slots : Nat} (hc9 : cells + 1 ≤ 601024) (hs9 : slots + 6 ≤ 7293034) (hG : lg_S dC dI A s x mo oa ko H) (hS : va_S A s.heap H locs) {ls : Array Slot} (hl : lv_has ls 7 [(4, .int i), (3, .ref oa), (2, .ref mo), (1, .ref x), (0, .ref b)])
    (kk : ∀ (H : Heap) (locs : List Loc) (ls : Array Slot) (k9 n9 : Nat), k9 ≤ cells + 1 → n9 ≤ slots + 6 → lg_S dC dI A s x mo oa ko H → va_S A s.heap H locs → lv_has ls 7 [(4, .int i), (3, .ref oa), (2, .ref mo), (1, .ref x), (0, .ref b)] → W p l e room_1 s m #[Value.ref b] below meth c H locs k9 n9 (lw_Z below #[Value.ref b] s) (F0 m 1941 ls [])) : W p l e room_1 s m #[Value.ref b] below meth c H locs cells slots (lw_Z below #[Value.ref b] s) (F0 m 725 ls []) := by
  obtain ⟨hx, hb, hr, hml, hown0, htl, hX, hbl, hlocks, hgv⟩ := id C0
  have hown : s.vm.findClass RL = some m.cls := hown0
  have hts : ∀ w ∈ wlT, w.before #[Value.ref b] s = true := fun w h => htl w (wlT_in w h)
  have hbA : ¬ A b := fun h => absurd (hA2 b h) (Nat.not_le.mpr hbl)
  obtain ⟨tp, wx, wm, tx, tm, fo, vi, vf, vm, vn, hIX, hIM, hR, hKx, hKm, hPx, hPm, hPo, hDx, hDm, hDo, jxm, jxo, jmo⟩ := hG
  have hiM : i.toInt ≤ (3066 : Int) := by omega
  have hcc : cells ≤ 601024 := by omega
  have hss : slots ≤ 7293034 := by omega
  have htpb := ix_tp hIX
  have hMo := im_mo hIM
  refine lv_aload_n hx hb dL_law_725 rfl (lv_at hl 3 rfl) ?_
  refine lv_aload_n hx hb dL_law_726 rfl (lv_at hl 4 rfl) ?_
  refine lv_iload hx hb dL_law_727 (lv_at hl 0 rfl) ?_
  refine lv_iconst (v := 1) hx hb dL_law_729 zk_iconst_1 ?_
  refine lv_iadd hx hb dL_law_730 ?_
  refine lv_topi (fun ix1 eix1 => ?_)
  have qix1 : ix1.toInt = i.toInt + 1 := ai_add eix1 ⟨hi0, hiM⟩ ⟨zq1, zq0⟩ (by decide) (by decide)
  refine va_sld (L := L) (i := ix1) hx hb hX hbl hbA hS (vp_in_iff.mpr ⟨by omega, by omega⟩) dL_law_731 ?_
  refine lv_topi (fun vix1 evix1 => ?_)
  have hFc := lg_free hDx hS hA
  obtain ⟨fs732, hfs732⟩ := ix_recv hIX
  refine va_calli (va_runV (As := [.int vix1]) (rest := []) ⟨hx, hb, hml, hown, hts⟩ (k_X7_gone l dC dI H.size x tp vi vf wx tx hIX vix1) (cwV 1 hts gd_X7_gone rfl rfl rfl (by decide +kernel) ⟨Nat.le_of_ble_eq_true rfl, Nat.le_of_ble_eq_true rfl⟩) ⟨ax_blind (fun _ _ _ _ hq => ⟨va_Nw.same rfl rfl (hq.1), va_Nw.same rfl rfl (hq.2.1), va_Nw.same rfl rfl (hq.2.2)⟩), va_recv hKx hPx (ci := 7) (q0 := 0) rfl hfs732, ax_preE hPx hKx hDx (fun U hU hW => ⟨va_Nw.warmM hW (hE.2.2.2.1), va_Nw.warmM hW (hE.2.2.1), va_Nw.warmM hW (hE.2.2.2.2.1)⟩)⟩ rfl rfl hl.1 rfl (lv_room (Nat.le_of_ble_eq_true rfl)) dL_law_732 ⟨hcc, hss⟩) hS (fun q _ h => hFc q h) hFc (fun r732 u t H1 locs ht hvm hw732 hB hz1 hk1 hS => ?_)
  obtain ⟨wxn, txn, ⟨vi1, vf1, kx1, kx2, hI1⟩, hP1, hK1, hD1⟩ := hB
  rw [ht] at hP1
  have hK1 := va_K.moved hvm.symm hK1
  obtain ⟨hPm, jxm⟩ := lg_step hPm jxm hk1 hD1
  obtain ⟨hPo, jxo⟩ := lg_step hPo jxo hk1 hD1
  have hD1 := hD1.weaken (fun _ _ _ h9 => hFc _ h9)
  clear hPx hDx hKx hFc hk1 hz1 hfs732
  have hIX := hI1; have hPx := hP1; have hDx := hD1; have hKx := hK1; clear hI1 hP1 hD1 hK1
  clear ht; generalize H1 = H at hPx hPm hPo hS ⊢
  refine lv_pop hx hb dL_law_735 rfl ?_
  refine lv_aload_n hx hb dL_law_736 rfl (lv_at hl 2 rfl) ?_
  refine lv_aload_n hx hb dL_law_737 rfl (lv_at hl 4 rfl) ?_
  refine lv_iload hx hb dL_law_738 (lv_at hl 0 rfl) ?_
  refine lv_iconst (v := 1) hx hb dL_law_740 zk_iconst_1 ?_
  refine lv_iadd hx hb dL_law_741 ?_
  refine ax_ti ix1 eix1.symm ?_
  refine va_sld (L := L) (i := ix1) hx hb hX hbl hbA hS (vp_in_iff.mpr ⟨by omega, by omega⟩) dL_law_742 ?_
  refine ax_ti vix1 evix1.symm ?_
  have hFc := lg_free hDm hS hA
  obtain ⟨fs743, hfs743⟩ := im_recv hIM
  refine va_calli (va_runV (As := [.int vix1]) (rest := []) ⟨hx, hb, hml, hown, hts⟩ (k_X8_gone l dC dI H.size mo tp vm vn wm tm hIM vix1) (cwV 1 hts gd_X8_gone rfl rfl rfl (by decide +kernel) ⟨Nat.le_of_ble_eq_true rfl, Nat.le_of_ble_eq_true rfl⟩) ⟨ax_blind (fun _ _ _ _ _ => trivial), va_recv hKm hPm (ci := 8) (q0 := 0) rfl hfs743, ax_preE hPm hKm hDm (fun _ _ _ => trivial)⟩ rfl rfl hl.1 rfl (lv_room (Nat.le_of_ble_eq_true rfl)) dL_law_743 ⟨hcc, hss⟩) hS (fun q _ h => hFc q h) hFc (fun r743 u t H1 locs ht hvm hw743 hB hz1 hk1 hS => ?_)
  obtain ⟨wmn, tmn, ⟨vm1, vn1, km1, km2, hI1⟩, hP1, hK1, hD1⟩ := hB
  rw [ht] at hP1
  have hK1 := va_K.moved hvm.symm hK1
  obtain ⟨hPx, jmx⟩ := lg_step hPx (dj_symm jxm) hk1 hD1
  have jxm := dj_symm jmx
  obtain ⟨hPo, jmo⟩ := lg_step hPo jmo hk1 hD1
  have hD1 := hD1.weaken (fun _ _ _ h9 => hFc _ h9)
  clear hPm hDm hKm hFc hk1 hz1 hfs743
  have hIM := hI1; have hPm := hP1; have hDm := hD1; have hKm := hK1; clear hI1 hP1 hD1 hK1
  clear ht; generalize H1 = H at hPx hPm hPo hS ⊢
  refine lv_pop hx hb dL_law_746 rfl ?_
  refine lv_goto (tgt := 1941) hx hb dL_law_747 (by decide) ?_
  have hRn : lr_R tp vi1 vf1 vm1 vn1 := ⟨by rw [kx2 0 (by decide), km2 0 (by decide)]; exact hR.1, lr_keep (fun k9 h9 => kx1 k9 (kp_dis (by decide) h9)) (fun k9 h8 h9 => kx1 k9 (kp_out (a := 57) (b := 152) (by decide) h8 h9)) (fun k9 h9 => kx2 k9 (kp_dis (by decide) h9)) (fun k9 h8 h9 => kx2 k9 (kp_out (a := 23) (b := 61) (by decide) h8 h9)) (fun k9 h9 => km1 k9 (kp_dis (by decide) h9)) (fun k9 h9 => km2 k9 (kp_dis (by decide) h9)) hR.2⟩
  exact kk _ _ _ _ _ (Nat.le_add_right _ _) (Nat.le_add_right _ _) ⟨tp, _, _, _, _, _, _, _, _, _, hIX, hIM, hRn, hKx, hKm, hPx, hPm, hPo, hDx, hDm, hDo, jxm, jxo, jmo⟩ hS (lv_sub hl [0, 1, 2, 3, 4] rfl)

set_option maxHeartbeats 4000000 in
set_option maxRecDepth 100000 in
theorem lc_18 {p : Program} {l : Launch} {e : Env} {s : State} {m : MethodId} {below : List Frame} {meth : Method} {c : Code} {b L : Nat} {xs : Nat → Int32} {A : Nat → Prop} {dC : Nat → ClassId} {dI : Nat → Nat → Nat} (hl0 : l.stackTraces = false) (hL : L ≤ 3072) (hA : ∀ q, s.heap.size ≤ q → A q) (hA2 : ∀ q, A q → s.heap.size ≤ q) (C0 : lw_At p s m meth c b L xs) (sd : Nat → Nat) (sa : Nat) (hE : lg_E A sd sa s) (x mo oa : Nat) (ko : ClassId) (hKo : va_K (dC, dI) vwCl [(ko, .long)] s) (i : Int32) (hi0 : (0 : Int) ≤ i.toInt) (hi6 : i.toInt + 6 ≤ (L : Int)) {H : Heap} {locs : List Loc} {cells slots : Nat} (hc9 : cells + 1 ≤ 601024) (hs9 : slots + 6 ≤ 7293034) (hG : lg_S dC dI A s x mo oa ko H) (hS : va_S A s.heap H locs) {ls : Array Slot} (hl : lv_has ls 7 [(4, .int i), (3, .ref oa), (2, .ref mo), (1, .ref x), (0, .ref b)])
    (kk : ∀ (H : Heap) (locs : List Loc) (ls : Array Slot) (k9 n9 : Nat), k9 ≤ cells + 1 → n9 ≤ slots + 6 → lg_S dC dI A s x mo oa ko H → va_S A s.heap H locs → lv_has ls 7 [(4, .int i), (3, .ref oa), (2, .ref mo), (1, .ref x), (0, .ref b)] → W p l e room_1 s m #[Value.ref b] below meth c H locs k9 n9 (lw_Z below #[Value.ref b] s) (F0 m 1941 ls [])) : W p l e room_1 s m #[Value.ref b] below meth c H locs cells slots (lw_Z below #[Value.ref b] s) (F0 m 750 ls []) := by
  obtain ⟨hx, hb, hr, hml, hown0, htl, hX, hbl, hlocks, hgv⟩ := id C0
  have hown : s.vm.findClass RL = some m.cls := hown0
  have hts : ∀ w ∈ wlT, w.before #[Value.ref b] s = true := fun w h => htl w (wlT_in w h)
  have hbA : ¬ A b := fun h => absurd (hA2 b h) (Nat.not_le.mpr hbl)
  obtain ⟨tp, wx, wm, tx, tm, fo, vi, vf, vm, vn, hIX, hIM, hR, hKx, hKm, hPx, hPm, hPo, hDx, hDm, hDo, jxm, jxo, jmo⟩ := hG
  have hiM : i.toInt ≤ (3066 : Int) := by omega
  have hcc : cells ≤ 601024 := by omega
  have hss : slots ≤ 7293034 := by omega
  have htpb := ix_tp hIX
  have hMo := im_mo hIM
  refine lv_aload_n hx hb dL_law_750 rfl (lv_at hl 3 rfl) ?_
  have hFc := lg_free hDx hS hA
  obtain ⟨fs751, hfs751⟩ := ix_recv hIX
  refine va_calli (va_runV (As := []) (rest := []) ⟨hx, hb, hml, hown, hts⟩ (k_X7_stairs l dC dI H.size x tp vi vf wx tx hIX ) (cwV 0 hts gd_X7_stairs rfl rfl rfl (by decide +kernel) ⟨Nat.le_of_ble_eq_true rfl, Nat.le_of_ble_eq_true rfl⟩) ⟨ax_blind (fun _ _ _ _ hq => ⟨va_Nw.same rfl rfl (hq.1), va_Nw.same rfl rfl (hq.2.1), va_Nw.same rfl rfl (hq.2.2)⟩), va_recv hKx hPx (ci := 7) (q0 := 0) rfl hfs751, ax_preE hPx hKx hDx (fun U hU hW => ⟨va_Nw.warmM hW (hE.2.2.2.1), va_Nw.warmM hW (hE.2.2.1), va_Nw.warmM hW (hE.2.2.2.2.1)⟩)⟩ rfl rfl hl.1 rfl (lv_room (Nat.le_of_ble_eq_true rfl)) dL_law_751 ⟨hcc, hss⟩) hS (fun q _ h => hFc q h) hFc (fun r751 u t H1 locs ht hvm hw751 hB hz1 hk1 hS => ?_)
  obtain ⟨wxn, txn, ⟨vi1, vf1, kx1, kx2, hI1⟩, hP1, hK1, hD1⟩ := hB
  rw [ht] at hP1
  have hK1 := va_K.moved hvm.symm hK1
  obtain ⟨hPm, jxm⟩ := lg_step hPm jxm hk1 hD1
  obtain ⟨hPo, jxo⟩ := lg_step hPo jxo hk1 hD1
  have hD1 := hD1.weaken (fun _ _ _ h9 => hFc _ h9)
  clear hPx hDx hKx hFc hk1 hz1 hfs751
  have hIX := hI1; have hPx := hP1; have hDx := hD1; have hKx := hK1; clear hI1 hP1 hD1 hK1
  clear ht; generalize H1 = H at hPx hPm hPo hS ⊢
  refine lv_pop hx hb dL_law_754 rfl ?_
  refine lv_aload_n hx hb dL_law_755 rfl (lv_at hl 2 rfl) ?_
  have hFc := lg_free hDm hS hA
  obtain ⟨fs756, hfs756⟩ := im_recv hIM
  refine va_calli (va_runV (As := []) (rest := []) ⟨hx, hb, hml, hown, hts⟩ (k_X8_stairs l dC dI H.size mo tp vm vn wm tm hIM ) (cwV 0 hts gd_X8_stairs rfl rfl rfl (by decide +kernel) ⟨Nat.le_of_ble_eq_true rfl, Nat.le_of_ble_eq_true rfl⟩) ⟨ax_blind (fun _ _ _ _ _ => trivial), va_recv hKm hPm (ci := 8) (q0 := 0) rfl hfs756, ax_preE hPm hKm hDm (fun _ _ _ => trivial)⟩ rfl rfl hl.1 rfl (lv_room (Nat.le_of_ble_eq_true rfl)) dL_law_756 ⟨hcc, hss⟩) hS (fun q _ h => hFc q h) hFc (fun r756 u t H1 locs ht hvm hw756 hB hz1 hk1 hS => ?_)
  obtain ⟨wmn, tmn, ⟨vm1, vn1, km1, km2, hI1⟩, hP1, hK1, hD1⟩ := hB
  rw [ht] at hP1
  have hK1 := va_K.moved hvm.symm hK1
  obtain ⟨hPx, jmx⟩ := lg_step hPx (dj_symm jxm) hk1 hD1
  have jxm := dj_symm jmx
  obtain ⟨hPo, jmo⟩ := lg_step hPo jmo hk1 hD1
  have hD1 := hD1.weaken (fun _ _ _ h9 => hFc _ h9)
  clear hPm hDm hKm hFc hk1 hz1 hfs756
  have hIM := hI1; have hPm := hP1; have hDm := hD1; have hKm := hK1; clear hI1 hP1 hD1 hK1
  clear ht; generalize H1 = H at hPx hPm hPo hS ⊢
  refine lv_pop hx hb dL_law_759 rfl ?_
  refine lv_goto (tgt := 1941) hx hb dL_law_760 (by decide) ?_
  have hRn : lr_R tp vi1 vf1 vm1 vn1 := ⟨by rw [kx2 0 (by decide), km2 0 (by decide)]; exact hR.1, lr_keep (fun k9 h9 => kx1 k9 (kp_dis (by decide) h9)) (fun k9 h8 h9 => kx1 k9 (kp_out (a := 57) (b := 152) (by decide) h8 h9)) (fun k9 h9 => kx2 k9 (kp_dis (by decide) h9)) (fun k9 h8 h9 => kx2 k9 (kp_out (a := 23) (b := 61) (by decide) h8 h9)) (fun k9 h9 => km1 k9 (kp_dis (by decide) h9)) (fun k9 h9 => km2 k9 (kp_dis (by decide) h9)) hR.2⟩
  exact kk _ _ _ _ _ (Nat.le_add_right _ _) (Nat.le_add_right _ _) ⟨tp, _, _, _, _, _, _, _, _, _, hIX, hIM, hRn, hKx, hKm, hPx, hPm, hPo, hDx, hDm, hDo, jxm, jxo, jmo⟩ hS (lv_sub hl [0, 1, 2, 3, 4] rfl)

set_option maxHeartbeats 4000000 in
set_option maxRecDepth 100000 in
theorem lc_19 {p : Program} {l : Launch} {e : Env} {s : State} {m : MethodId} {below : List Frame} {meth : Method} {c : Code} {b L : Nat} {xs : Nat → Int32} {A : Nat → Prop} {dC : Nat → ClassId} {dI : Nat → Nat → Nat} (hl0 : l.stackTraces = false) (hL : L ≤ 3072) (hA : ∀ q, s.heap.size ≤ q → A q) (hA2 : ∀ q, A q → s.heap.size ≤ q) (C0 : lw_At p s m meth c b L xs) (sd : Nat → Nat) (sa : Nat) (hE : lg_E A sd sa s) (x mo oa : Nat) (ko : ClassId) (hKo : va_K (dC, dI) vwCl [(ko, .long)] s) (i : Int32) (hi0 : (0 : Int) ≤ i.toInt) (hi6 : i.toInt + 6 ≤ (L : Int)) {H : Heap} {locs : List Loc} {cells slots : Nat} (hc9 : cells + 1 ≤ 601024) (hs9 : slots + 6 ≤ 7293034) (hG : lg_S dC dI A s x mo oa ko H) (hS : va_S A s.heap H locs) {ls : Array Slot} (hl : lv_has ls 7 [(4, .int i), (3, .ref oa), (2, .ref mo), (1, .ref x), (0, .ref b)])
    (kk : ∀ (H : Heap) (locs : List Loc) (ls : Array Slot) (k9 n9 : Nat), k9 ≤ cells + 1 → n9 ≤ slots + 6 → lg_S dC dI A s x mo oa ko H → va_S A s.heap H locs → lv_has ls 7 [(4, .int i), (3, .ref oa), (2, .ref mo), (1, .ref x), (0, .ref b)] → W p l e room_1 s m #[Value.ref b] below meth c H locs k9 n9 (lw_Z below #[Value.ref b] s) (F0 m 1941 ls [])) : W p l e room_1 s m #[Value.ref b] below meth c H locs cells slots (lw_Z below #[Value.ref b] s) (F0 m 763 ls []) := by
  obtain ⟨hx, hb, hr, hml, hown0, htl, hX, hbl, hlocks, hgv⟩ := id C0
  have hown : s.vm.findClass RL = some m.cls := hown0
  have hts : ∀ w ∈ wlT, w.before #[Value.ref b] s = true := fun w h => htl w (wlT_in w h)
  have hbA : ¬ A b := fun h => absurd (hA2 b h) (Nat.not_le.mpr hbl)
  obtain ⟨tp, wx, wm, tx, tm, fo, vi, vf, vm, vn, hIX, hIM, hR, hKx, hKm, hPx, hPm, hPo, hDx, hDm, hDo, jxm, jxo, jmo⟩ := hG
  have hiM : i.toInt ≤ (3066 : Int) := by omega
  have hcc : cells ≤ 601024 := by omega
  have hss : slots ≤ 7293034 := by omega
  have htpb := ix_tp hIX
  have hMo := im_mo hIM
  refine lv_aload_n hx hb dL_law_763 rfl (lv_at hl 3 rfl) ?_
  refine lv_aload_n hx hb dL_law_764 rfl (lv_at hl 4 rfl) ?_
  refine lv_iload hx hb dL_law_765 (lv_at hl 0 rfl) ?_
  refine lv_iconst (v := 1) hx hb dL_law_767 zk_iconst_1 ?_
  refine lv_iadd hx hb dL_law_768 ?_
  refine lv_topi (fun ix1 eix1 => ?_)
  have qix1 : ix1.toInt = i.toInt + 1 := ai_add eix1 ⟨hi0, hiM⟩ ⟨zq1, zq0⟩ (by decide) (by decide)
  refine va_sld (L := L) (i := ix1) hx hb hX hbl hbA hS (vp_in_iff.mpr ⟨by omega, by omega⟩) dL_law_769 ?_
  refine lv_topi (fun vix1 evix1 => ?_)
  have hFc := lg_free hDx hS hA
  obtain ⟨fs770, hfs770⟩ := ix_recv hIX
  refine va_calli (va_runV (As := [.int vix1]) (rest := []) ⟨hx, hb, hml, hown, hts⟩ (k_X7_catches l dC dI H.size x tp vi vf wx tx hIX vix1) (cwV 1 hts gd_X7_catches rfl rfl rfl (by decide +kernel) ⟨Nat.le_of_ble_eq_true rfl, Nat.le_of_ble_eq_true rfl⟩) ⟨ax_blind (fun _ _ _ _ hq => ⟨va_Nw.same rfl rfl (hq.1), va_Nw.same rfl rfl (hq.2.1), va_Nw.same rfl rfl (hq.2.2)⟩), va_recv hKx hPx (ci := 7) (q0 := 0) rfl hfs770, ax_preE hPx hKx hDx (fun U hU hW => ⟨va_Nw.warmM hW (hE.2.2.2.1), va_Nw.warmM hW (hE.2.2.1), va_Nw.warmM hW (hE.2.2.2.2.1)⟩)⟩ rfl rfl hl.1 rfl (lv_room (Nat.le_of_ble_eq_true rfl)) dL_law_770 ⟨hcc, hss⟩) hS (fun q _ h => hFc q h) hFc (fun r770 u t H1 locs ht hvm hw770 hB hz1 hk1 hS => ?_)
  obtain ⟨wxn, txn, ⟨vi1, vf1, kx1, kx2, hI1⟩, hP1, hK1, hD1⟩ := hB
  rw [ht] at hP1
  have hK1 := va_K.moved hvm.symm hK1
  obtain ⟨hPm, jxm⟩ := lg_step hPm jxm hk1 hD1
  obtain ⟨hPo, jxo⟩ := lg_step hPo jxo hk1 hD1
  have hD1 := hD1.weaken (fun _ _ _ h9 => hFc _ h9)
  clear hPx hDx hKx hFc hk1 hz1 hfs770
  have hIX := hI1; have hPx := hP1; have hDx := hD1; have hKx := hK1; clear hI1 hP1 hD1 hK1
  clear ht; generalize H1 = H at hPx hPm hPo hS ⊢
  refine lv_pop hx hb dL_law_773 rfl ?_
  refine lv_aload_n hx hb dL_law_774 rfl (lv_at hl 2 rfl) ?_
  refine lv_aload_n hx hb dL_law_775 rfl (lv_at hl 4 rfl) ?_
  refine lv_iload hx hb dL_law_776 (lv_at hl 0 rfl) ?_
  refine lv_iconst (v := 1) hx hb dL_law_778 zk_iconst_1 ?_
  refine lv_iadd hx hb dL_law_779 ?_
  refine ax_ti ix1 eix1.symm ?_
  refine va_sld (L := L) (i := ix1) hx hb hX hbl hbA hS (vp_in_iff.mpr ⟨by omega, by omega⟩) dL_law_780 ?_
  refine ax_ti vix1 evix1.symm ?_
  have hFc := lg_free hDm hS hA
  obtain ⟨fs781, hfs781⟩ := im_recv hIM
  refine va_calli (va_runV (As := [.int vix1]) (rest := []) ⟨hx, hb, hml, hown, hts⟩ (k_X8_catches l dC dI H.size mo tp vm vn wm tm hIM vix1) (cwV 1 hts gd_X8_catches rfl rfl rfl (by decide +kernel) ⟨Nat.le_of_ble_eq_true rfl, Nat.le_of_ble_eq_true rfl⟩) ⟨ax_blind (fun _ _ _ _ _ => trivial), va_recv hKm hPm (ci := 8) (q0 := 0) rfl hfs781, ax_preE hPm hKm hDm (fun _ _ _ => trivial)⟩ rfl rfl hl.1 rfl (lv_room (Nat.le_of_ble_eq_true rfl)) dL_law_781 ⟨hcc, hss⟩) hS (fun q _ h => hFc q h) hFc (fun r781 u t H1 locs ht hvm hw781 hB hz1 hk1 hS => ?_)
  obtain ⟨wmn, tmn, ⟨vm1, vn1, km1, km2, hI1⟩, hP1, hK1, hD1⟩ := hB
  rw [ht] at hP1
  have hK1 := va_K.moved hvm.symm hK1
  obtain ⟨hPx, jmx⟩ := lg_step hPx (dj_symm jxm) hk1 hD1
  have jxm := dj_symm jmx
  obtain ⟨hPo, jmo⟩ := lg_step hPo jmo hk1 hD1
  have hD1 := hD1.weaken (fun _ _ _ h9 => hFc _ h9)
  clear hPm hDm hKm hFc hk1 hz1 hfs781
  have hIM := hI1; have hPm := hP1; have hDm := hD1; have hKm := hK1; clear hI1 hP1 hD1 hK1
  clear ht; generalize H1 = H at hPx hPm hPo hS ⊢
  refine lv_pop hx hb dL_law_784 rfl ?_
  refine lv_goto (tgt := 1941) hx hb dL_law_785 (by decide) ?_
  have hRn : lr_R tp vi1 vf1 vm1 vn1 := ⟨by rw [kx2 0 (by decide), km2 0 (by decide)]; exact hR.1, lr_keep (fun k9 h9 => kx1 k9 (kp_dis (by decide) h9)) (fun k9 h8 h9 => kx1 k9 (kp_out (a := 57) (b := 152) (by decide) h8 h9)) (fun k9 h9 => kx2 k9 (kp_dis (by decide) h9)) (fun k9 h8 h9 => kx2 k9 (kp_out (a := 23) (b := 61) (by decide) h8 h9)) (fun k9 h9 => km1 k9 (kp_dis (by decide) h9)) (fun k9 h9 => km2 k9 (kp_dis (by decide) h9)) hR.2⟩
  exact kk _ _ _ _ _ (Nat.le_add_right _ _) (Nat.le_add_right _ _) ⟨tp, _, _, _, _, _, _, _, _, _, hIX, hIM, hRn, hKx, hKm, hPx, hPm, hPo, hDx, hDm, hDo, jxm, jxo, jmo⟩ hS (lv_sub hl [0, 1, 2, 3, 4] rfl)

set_option maxHeartbeats 4000000 in
set_option maxRecDepth 100000 in
theorem lc_20 {p : Program} {l : Launch} {e : Env} {s : State} {m : MethodId} {below : List Frame} {meth : Method} {c : Code} {b L : Nat} {xs : Nat → Int32} {A : Nat → Prop} {dC : Nat → ClassId} {dI : Nat → Nat → Nat} (hl0 : l.stackTraces = false) (hL : L ≤ 3072) (hA : ∀ q, s.heap.size ≤ q → A q) (hA2 : ∀ q, A q → s.heap.size ≤ q) (C0 : lw_At p s m meth c b L xs) (sd : Nat → Nat) (sa : Nat) (hE : lg_E A sd sa s) (x mo oa : Nat) (ko : ClassId) (hKo : va_K (dC, dI) vwCl [(ko, .long)] s) (i : Int32) (hi0 : (0 : Int) ≤ i.toInt) (hi6 : i.toInt + 6 ≤ (L : Int)) {H : Heap} {locs : List Loc} {cells slots : Nat} (hc9 : cells + 1 ≤ 601024) (hs9 : slots + 6 ≤ 7293034) (hG : lg_S dC dI A s x mo oa ko H) (hS : va_S A s.heap H locs) {ls : Array Slot} (hl : lv_has ls 7 [(4, .int i), (3, .ref oa), (2, .ref mo), (1, .ref x), (0, .ref b)])
    (kk : ∀ (H : Heap) (locs : List Loc) (ls : Array Slot) (k9 n9 : Nat), k9 ≤ cells + 1 → n9 ≤ slots + 6 → lg_S dC dI A s x mo oa ko H → va_S A s.heap H locs → lv_has ls 7 [(4, .int i), (3, .ref oa), (2, .ref mo), (1, .ref x), (0, .ref b)] → W p l e room_1 s m #[Value.ref b] below meth c H locs k9 n9 (lw_Z below #[Value.ref b] s) (F0 m 1941 ls [])) : W p l e room_1 s m #[Value.ref b] below meth c H locs cells slots (lw_Z below #[Value.ref b] s) (F0 m 788 ls []) := by
  obtain ⟨hx, hb, hr, hml, hown0, htl, hX, hbl, hlocks, hgv⟩ := id C0
  have hown : s.vm.findClass RL = some m.cls := hown0
  have hts : ∀ w ∈ wlT, w.before #[Value.ref b] s = true := fun w h => htl w (wlT_in w h)
  have hbA : ¬ A b := fun h => absurd (hA2 b h) (Nat.not_le.mpr hbl)
  obtain ⟨tp, wx, wm, tx, tm, fo, vi, vf, vm, vn, hIX, hIM, hR, hKx, hKm, hPx, hPm, hPo, hDx, hDm, hDo, jxm, jxo, jmo⟩ := hG
  have hiM : i.toInt ≤ (3066 : Int) := by omega
  have hcc : cells ≤ 601024 := by omega
  have hss : slots ≤ 7293034 := by omega
  have htpb := ix_tp hIX
  have hMo := im_mo hIM
  refine lv_aload_n hx hb dL_law_788 rfl (lv_at hl 3 rfl) ?_
  refine lv_aload_n hx hb dL_law_789 rfl (lv_at hl 4 rfl) ?_
  refine lv_iload hx hb dL_law_790 (lv_at hl 0 rfl) ?_
  refine lv_iconst (v := 1) hx hb dL_law_792 zk_iconst_1 ?_
  refine lv_iadd hx hb dL_law_793 ?_
  refine lv_topi (fun ix1 eix1 => ?_)
  have qix1 : ix1.toInt = i.toInt + 1 := ai_add eix1 ⟨hi0, hiM⟩ ⟨zq1, zq0⟩ (by decide) (by decide)
  refine va_sld (L := L) (i := ix1) hx hb hX hbl hbA hS (vp_in_iff.mpr ⟨by omega, by omega⟩) dL_law_794 ?_
  refine lv_topi (fun vix1 evix1 => ?_)
  refine lv_aload_n hx hb dL_law_795 rfl (lv_at hl 4 rfl) ?_
  refine lv_iload hx hb dL_law_796 (lv_at hl 0 rfl) ?_
  refine lv_iconst (v := 2) hx hb dL_law_798 zk_iconst_2 ?_
  refine lv_iadd hx hb dL_law_799 ?_
  refine lv_topi (fun ix2 eix2 => ?_)
  have qix2 : ix2.toInt = i.toInt + 2 := ai_add eix2 ⟨hi0, hiM⟩ ⟨zq12, zq13⟩ (by decide) (by decide)
  refine va_sld (L := L) (i := ix2) hx hb hX hbl hbA hS (vp_in_iff.mpr ⟨by omega, by omega⟩) dL_law_800 ?_
  refine lv_topi (fun vix2 evix2 => ?_)
  have hFc := lg_free hDx hS hA
  obtain ⟨fs801, hfs801⟩ := ix_recv hIX
  refine va_calli (va_runV (As := [.int vix1, .int vix2]) (rest := []) ⟨hx, hb, hml, hown, hts⟩ (k_X7_heard l dC dI H.size x tp vi vf wx tx hIX vix1 vix2) (cwV 2 hts gd_X7_heard rfl rfl rfl (by decide +kernel) ⟨Nat.le_of_ble_eq_true rfl, Nat.le_of_ble_eq_true rfl⟩) ⟨ax_blind (fun _ _ _ _ hq => ⟨va_Nw.same rfl rfl (hq.1), va_Nw.same rfl rfl (hq.2.1), va_Nw.same rfl rfl (hq.2.2)⟩), va_recv hKx hPx (ci := 7) (q0 := 0) rfl hfs801, ax_preE hPx hKx hDx (fun U hU hW => ⟨va_Nw.warmM hW (hE.2.2.2.1), va_Nw.warmM hW (hE.2.2.1), va_Nw.warmM hW (hE.2.2.2.2.1)⟩)⟩ rfl rfl hl.1 rfl (lv_room (Nat.le_of_ble_eq_true rfl)) dL_law_801 ⟨hcc, hss⟩) hS (fun q _ h => hFc q h) hFc (fun r801 u t H1 locs ht hvm hw801 hB hz1 hk1 hS => ?_)
  obtain ⟨wxn, txn, ⟨vi1, vf1, kx1, kx2, hI1⟩, hP1, hK1, hD1⟩ := hB
  rw [ht] at hP1
  have hK1 := va_K.moved hvm.symm hK1
  obtain ⟨hPm, jxm⟩ := lg_step hPm jxm hk1 hD1
  obtain ⟨hPo, jxo⟩ := lg_step hPo jxo hk1 hD1
  have hD1 := hD1.weaken (fun _ _ _ h9 => hFc _ h9)
  clear hPx hDx hKx hFc hk1 hz1 hfs801
  have hIX := hI1; have hPx := hP1; have hDx := hD1; have hKx := hK1; clear hI1 hP1 hD1 hK1
  clear ht; generalize H1 = H at hPx hPm hPo hS ⊢
  refine lv_pop hx hb dL_law_804 rfl ?_
  refine lv_aload_n hx hb dL_law_805 rfl (lv_at hl 2 rfl) ?_
  refine lv_aload_n hx hb dL_law_806 rfl (lv_at hl 4 rfl) ?_
  refine lv_iload hx hb dL_law_807 (lv_at hl 0 rfl) ?_
  refine lv_iconst (v := 1) hx hb dL_law_809 zk_iconst_1 ?_
  refine lv_iadd hx hb dL_law_810 ?_
  refine ax_ti ix1 eix1.symm ?_
  refine va_sld (L := L) (i := ix1) hx hb hX hbl hbA hS (vp_in_iff.mpr ⟨by omega, by omega⟩) dL_law_811 ?_
  refine ax_ti vix1 evix1.symm ?_
  refine lv_aload_n hx hb dL_law_812 rfl (lv_at hl 4 rfl) ?_
  refine lv_iload hx hb dL_law_813 (lv_at hl 0 rfl) ?_
  refine lv_iconst (v := 2) hx hb dL_law_815 zk_iconst_2 ?_
  refine lv_iadd hx hb dL_law_816 ?_
  refine ax_ti ix2 eix2.symm ?_
  refine va_sld (L := L) (i := ix2) hx hb hX hbl hbA hS (vp_in_iff.mpr ⟨by omega, by omega⟩) dL_law_817 ?_
  refine ax_ti vix2 evix2.symm ?_
  have hFc := lg_free hDm hS hA
  obtain ⟨fs818, hfs818⟩ := im_recv hIM
  refine va_calli (va_runV (As := [.int vix1, .int vix2]) (rest := []) ⟨hx, hb, hml, hown, hts⟩ (k_X8_heard l dC dI H.size mo tp vm vn wm tm hIM vix1 vix2) (cwV 2 hts gd_X8_heard rfl rfl rfl (by decide +kernel) ⟨Nat.le_of_ble_eq_true rfl, Nat.le_of_ble_eq_true rfl⟩) ⟨ax_blind (fun _ _ _ _ _ => trivial), va_recv hKm hPm (ci := 8) (q0 := 0) rfl hfs818, ax_preE hPm hKm hDm (fun _ _ _ => trivial)⟩ rfl rfl hl.1 rfl (lv_room (Nat.le_of_ble_eq_true rfl)) dL_law_818 ⟨hcc, hss⟩) hS (fun q _ h => hFc q h) hFc (fun r818 u t H1 locs ht hvm hw818 hB hz1 hk1 hS => ?_)
  obtain ⟨wmn, tmn, ⟨vm1, vn1, km1, km2, hI1⟩, hP1, hK1, hD1⟩ := hB
  rw [ht] at hP1
  have hK1 := va_K.moved hvm.symm hK1
  obtain ⟨hPx, jmx⟩ := lg_step hPx (dj_symm jxm) hk1 hD1
  have jxm := dj_symm jmx
  obtain ⟨hPo, jmo⟩ := lg_step hPo jmo hk1 hD1
  have hD1 := hD1.weaken (fun _ _ _ h9 => hFc _ h9)
  clear hPm hDm hKm hFc hk1 hz1 hfs818
  have hIM := hI1; have hPm := hP1; have hDm := hD1; have hKm := hK1; clear hI1 hP1 hD1 hK1
  clear ht; generalize H1 = H at hPx hPm hPo hS ⊢
  refine lv_pop hx hb dL_law_821 rfl ?_
  refine lv_goto (tgt := 1941) hx hb dL_law_822 (by decide) ?_
  have hRn : lr_R tp vi1 vf1 vm1 vn1 := ⟨by rw [kx2 0 (by decide), km2 0 (by decide)]; exact hR.1, lr_keep (fun k9 h9 => kx1 k9 (kp_dis (by decide) h9)) (fun k9 h8 h9 => kx1 k9 (kp_out (a := 57) (b := 152) (by decide) h8 h9)) (fun k9 h9 => kx2 k9 (kp_dis (by decide) h9)) (fun k9 h8 h9 => kx2 k9 (kp_out (a := 23) (b := 61) (by decide) h8 h9)) (fun k9 h9 => km1 k9 (kp_dis (by decide) h9)) (fun k9 h9 => km2 k9 (kp_dis (by decide) h9)) hR.2⟩
  exact kk _ _ _ _ _ (Nat.le_add_right _ _) (Nat.le_add_right _ _) ⟨tp, _, _, _, _, _, _, _, _, _, hIX, hIM, hRn, hKx, hKm, hPx, hPm, hPo, hDx, hDm, hDo, jxm, jxo, jmo⟩ hS (lv_sub hl [0, 1, 2, 3, 4] rfl)

set_option maxHeartbeats 4000000 in
set_option maxRecDepth 100000 in
theorem lc_21 {p : Program} {l : Launch} {e : Env} {s : State} {m : MethodId} {below : List Frame} {meth : Method} {c : Code} {b L : Nat} {xs : Nat → Int32} {A : Nat → Prop} {dC : Nat → ClassId} {dI : Nat → Nat → Nat} (hl0 : l.stackTraces = false) (hL : L ≤ 3072) (hA : ∀ q, s.heap.size ≤ q → A q) (hA2 : ∀ q, A q → s.heap.size ≤ q) (C0 : lw_At p s m meth c b L xs) (sd : Nat → Nat) (sa : Nat) (hE : lg_E A sd sa s) (x mo oa : Nat) (ko : ClassId) (hKo : va_K (dC, dI) vwCl [(ko, .long)] s) (i : Int32) (hi0 : (0 : Int) ≤ i.toInt) (hi6 : i.toInt + 6 ≤ (L : Int)) {H : Heap} {locs : List Loc} {cells slots : Nat} (hc9 : cells + 1 ≤ 601024) (hs9 : slots + 6 ≤ 7293034) (hG : lg_S dC dI A s x mo oa ko H) (hS : va_S A s.heap H locs) {ls : Array Slot} (hl : lv_has ls 7 [(4, .int i), (3, .ref oa), (2, .ref mo), (1, .ref x), (0, .ref b)])
    (kk : ∀ (H : Heap) (locs : List Loc) (ls : Array Slot) (k9 n9 : Nat), k9 ≤ cells + 1 → n9 ≤ slots + 6 → lg_S dC dI A s x mo oa ko H → va_S A s.heap H locs → lv_has ls 7 [(4, .int i), (3, .ref oa), (2, .ref mo), (1, .ref x), (0, .ref b)] → W p l e room_1 s m #[Value.ref b] below meth c H locs k9 n9 (lw_Z below #[Value.ref b] s) (F0 m 1941 ls [])) : W p l e room_1 s m #[Value.ref b] below meth c H locs cells slots (lw_Z below #[Value.ref b] s) (F0 m 825 ls []) := by
  obtain ⟨hx, hb, hr, hml, hown0, htl, hX, hbl, hlocks, hgv⟩ := id C0
  have hown : s.vm.findClass RL = some m.cls := hown0
  have hts : ∀ w ∈ wlT, w.before #[Value.ref b] s = true := fun w h => htl w (wlT_in w h)
  have hbA : ¬ A b := fun h => absurd (hA2 b h) (Nat.not_le.mpr hbl)
  obtain ⟨tp, wx, wm, tx, tm, fo, vi, vf, vm, vn, hIX, hIM, hR, hKx, hKm, hPx, hPm, hPo, hDx, hDm, hDo, jxm, jxo, jmo⟩ := hG
  have hiM : i.toInt ≤ (3066 : Int) := by omega
  have hcc : cells ≤ 601024 := by omega
  have hss : slots ≤ 7293034 := by omega
  have htpb := ix_tp hIX
  have hMo := im_mo hIM
  refine lv_aload_n hx hb dL_law_825 rfl (lv_at hl 3 rfl) ?_
  refine lv_aload_n hx hb dL_law_826 rfl (lv_at hl 4 rfl) ?_
  refine lv_iload hx hb dL_law_827 (lv_at hl 0 rfl) ?_
  refine lv_iconst (v := 1) hx hb dL_law_829 zk_iconst_1 ?_
  refine lv_iadd hx hb dL_law_830 ?_
  refine lv_topi (fun ix1 eix1 => ?_)
  have qix1 : ix1.toInt = i.toInt + 1 := ai_add eix1 ⟨hi0, hiM⟩ ⟨zq1, zq0⟩ (by decide) (by decide)
  refine va_sld (L := L) (i := ix1) hx hb hX hbl hbA hS (vp_in_iff.mpr ⟨by omega, by omega⟩) dL_law_831 ?_
  refine lv_topi (fun vix1 evix1 => ?_)
  have hFc := lg_free hDx hS hA
  obtain ⟨fs832, hfs832⟩ := ix_recv hIX
  refine va_calli (va_runV (As := [.int vix1]) (rest := []) ⟨hx, hb, hml, hown, hts⟩ (k_X7_allIn l dC dI H.size x tp vi vf wx tx hIX vix1) (cwV 1 hts gd_X7_allIn rfl rfl rfl (by decide +kernel) ⟨Nat.le_of_ble_eq_true rfl, Nat.le_of_ble_eq_true rfl⟩) ⟨ax_blind (fun _ _ _ _ hq => ⟨va_Nw.same rfl rfl (hq.1), va_Nw.same rfl rfl (hq.2.1), va_Nw.same rfl rfl (hq.2.2)⟩), va_recv hKx hPx (ci := 7) (q0 := 0) rfl hfs832, ax_preE hPx hKx hDx (fun U hU hW => ⟨va_Nw.warmM hW (hE.2.2.2.1), va_Nw.warmM hW (hE.2.2.1), va_Nw.warmM hW (hE.2.2.2.2.1)⟩)⟩ rfl rfl hl.1 rfl (lv_room (Nat.le_of_ble_eq_true rfl)) dL_law_832 ⟨hcc, hss⟩) hS (fun q _ h => hFc q h) hFc (fun r832 u t H1 locs ht hvm hw832 hB hz1 hk1 hS => ?_)
  obtain ⟨wxn, txn, ⟨vi1, vf1, kx1, kx2, hI1⟩, hP1, hK1, hD1⟩ := hB
  rw [ht] at hP1
  have hK1 := va_K.moved hvm.symm hK1
  obtain ⟨hPm, jxm⟩ := lg_step hPm jxm hk1 hD1
  obtain ⟨hPo, jxo⟩ := lg_step hPo jxo hk1 hD1
  have hD1 := hD1.weaken (fun _ _ _ h9 => hFc _ h9)
  clear hPx hDx hKx hFc hk1 hz1 hfs832
  have hIX := hI1; have hPx := hP1; have hDx := hD1; have hKx := hK1; clear hI1 hP1 hD1 hK1
  clear ht; generalize H1 = H at hPx hPm hPo hS ⊢
  refine lv_pop hx hb dL_law_835 rfl ?_
  refine lv_aload_n hx hb dL_law_836 rfl (lv_at hl 2 rfl) ?_
  refine lv_aload_n hx hb dL_law_837 rfl (lv_at hl 4 rfl) ?_
  refine lv_iload hx hb dL_law_838 (lv_at hl 0 rfl) ?_
  refine lv_iconst (v := 1) hx hb dL_law_840 zk_iconst_1 ?_
  refine lv_iadd hx hb dL_law_841 ?_
  refine ax_ti ix1 eix1.symm ?_
  refine va_sld (L := L) (i := ix1) hx hb hX hbl hbA hS (vp_in_iff.mpr ⟨by omega, by omega⟩) dL_law_842 ?_
  refine ax_ti vix1 evix1.symm ?_
  have hFc := lg_free hDm hS hA
  obtain ⟨fs843, hfs843⟩ := im_recv hIM
  refine va_calli (va_runV (As := [.int vix1]) (rest := []) ⟨hx, hb, hml, hown, hts⟩ (k_X8_allIn l dC dI H.size mo tp vm vn wm tm hIM vix1) (cwV 1 hts gd_X8_allIn rfl rfl rfl (by decide +kernel) ⟨Nat.le_of_ble_eq_true rfl, Nat.le_of_ble_eq_true rfl⟩) ⟨ax_blind (fun _ _ _ _ _ => trivial), va_recv hKm hPm (ci := 8) (q0 := 0) rfl hfs843, ax_preE hPm hKm hDm (fun _ _ _ => trivial)⟩ rfl rfl hl.1 rfl (lv_room (Nat.le_of_ble_eq_true rfl)) dL_law_843 ⟨hcc, hss⟩) hS (fun q _ h => hFc q h) hFc (fun r843 u t H1 locs ht hvm hw843 hB hz1 hk1 hS => ?_)
  obtain ⟨wmn, tmn, ⟨vm1, vn1, km1, km2, hI1⟩, hP1, hK1, hD1⟩ := hB
  rw [ht] at hP1
  have hK1 := va_K.moved hvm.symm hK1
  obtain ⟨hPx, jmx⟩ := lg_step hPx (dj_symm jxm) hk1 hD1
  have jxm := dj_symm jmx
  obtain ⟨hPo, jmo⟩ := lg_step hPo jmo hk1 hD1
  have hD1 := hD1.weaken (fun _ _ _ h9 => hFc _ h9)
  clear hPm hDm hKm hFc hk1 hz1 hfs843
  have hIM := hI1; have hPm := hP1; have hDm := hD1; have hKm := hK1; clear hI1 hP1 hD1 hK1
  clear ht; generalize H1 = H at hPx hPm hPo hS ⊢
  refine lv_pop hx hb dL_law_846 rfl ?_
  refine lv_goto (tgt := 1941) hx hb dL_law_847 (by decide) ?_
  have hRn : lr_R tp vi1 vf1 vm1 vn1 := ⟨by rw [kx2 0 (by decide), km2 0 (by decide)]; exact hR.1, lr_keep (fun k9 h9 => kx1 k9 (kp_dis (by decide) h9)) (fun k9 h8 h9 => kx1 k9 (kp_out (a := 57) (b := 152) (by decide) h8 h9)) (fun k9 h9 => kx2 k9 (kp_dis (by decide) h9)) (fun k9 h8 h9 => kx2 k9 (kp_out (a := 23) (b := 61) (by decide) h8 h9)) (fun k9 h9 => km1 k9 (kp_dis (by decide) h9)) (fun k9 h9 => km2 k9 (kp_dis (by decide) h9)) hR.2⟩
  exact kk _ _ _ _ _ (Nat.le_add_right _ _) (Nat.le_add_right _ _) ⟨tp, _, _, _, _, _, _, _, _, _, hIX, hIM, hRn, hKx, hKm, hPx, hPm, hPo, hDx, hDm, hDo, jxm, jxo, jmo⟩ hS (lv_sub hl [0, 1, 2, 3, 4] rfl)

set_option maxHeartbeats 4000000 in
set_option maxRecDepth 100000 in
theorem lc_22 {p : Program} {l : Launch} {e : Env} {s : State} {m : MethodId} {below : List Frame} {meth : Method} {c : Code} {b L : Nat} {xs : Nat → Int32} {A : Nat → Prop} {dC : Nat → ClassId} {dI : Nat → Nat → Nat} (hl0 : l.stackTraces = false) (hL : L ≤ 3072) (hA : ∀ q, s.heap.size ≤ q → A q) (hA2 : ∀ q, A q → s.heap.size ≤ q) (C0 : lw_At p s m meth c b L xs) (sd : Nat → Nat) (sa : Nat) (hE : lg_E A sd sa s) (x mo oa : Nat) (ko : ClassId) (hKo : va_K (dC, dI) vwCl [(ko, .long)] s) (i : Int32) (hi0 : (0 : Int) ≤ i.toInt) (hi6 : i.toInt + 6 ≤ (L : Int)) {H : Heap} {locs : List Loc} {cells slots : Nat} (hc9 : cells + 1 ≤ 601024) (hs9 : slots + 6 ≤ 7293034) (hG : lg_S dC dI A s x mo oa ko H) (hS : va_S A s.heap H locs) {ls : Array Slot} (hl : lv_has ls 7 [(4, .int i), (3, .ref oa), (2, .ref mo), (1, .ref x), (0, .ref b)])
    (kk : ∀ (H : Heap) (locs : List Loc) (ls : Array Slot) (k9 n9 : Nat), k9 ≤ cells + 1 → n9 ≤ slots + 6 → lg_S dC dI A s x mo oa ko H → va_S A s.heap H locs → lv_has ls 7 [(4, .int i), (3, .ref oa), (2, .ref mo), (1, .ref x), (0, .ref b)] → W p l e room_1 s m #[Value.ref b] below meth c H locs k9 n9 (lw_Z below #[Value.ref b] s) (F0 m 1941 ls [])) : W p l e room_1 s m #[Value.ref b] below meth c H locs cells slots (lw_Z below #[Value.ref b] s) (F0 m 850 ls []) := by
  obtain ⟨hx, hb, hr, hml, hown0, htl, hX, hbl, hlocks, hgv⟩ := id C0
  have hown : s.vm.findClass RL = some m.cls := hown0
  have hts : ∀ w ∈ wlT, w.before #[Value.ref b] s = true := fun w h => htl w (wlT_in w h)
  have hbA : ¬ A b := fun h => absurd (hA2 b h) (Nat.not_le.mpr hbl)
  obtain ⟨tp, wx, wm, tx, tm, fo, vi, vf, vm, vn, hIX, hIM, hR, hKx, hKm, hPx, hPm, hPo, hDx, hDm, hDo, jxm, jxo, jmo⟩ := hG
  have hiM : i.toInt ≤ (3066 : Int) := by omega
  have hcc : cells ≤ 601024 := by omega
  have hss : slots ≤ 7293034 := by omega
  have htpb := ix_tp hIX
  have hMo := im_mo hIM
  refine lv_aload_n hx hb dL_law_850 rfl (lv_at hl 3 rfl) ?_
  refine lv_aload_n hx hb dL_law_851 rfl (lv_at hl 4 rfl) ?_
  refine lv_iload hx hb dL_law_852 (lv_at hl 0 rfl) ?_
  refine lv_iconst (v := 1) hx hb dL_law_854 zk_iconst_1 ?_
  refine lv_iadd hx hb dL_law_855 ?_
  refine lv_topi (fun ix1 eix1 => ?_)
  have qix1 : ix1.toInt = i.toInt + 1 := ai_add eix1 ⟨hi0, hiM⟩ ⟨zq1, zq0⟩ (by decide) (by decide)
  refine va_sld (L := L) (i := ix1) hx hb hX hbl hbA hS (vp_in_iff.mpr ⟨by omega, by omega⟩) dL_law_856 ?_
  refine lv_topi (fun vix1 evix1 => ?_)
  have hFc := lg_free hDx hS hA
  obtain ⟨fs857, hfs857⟩ := ix_recv hIX
  refine va_calli (va_runV (As := [.int vix1]) (rest := []) ⟨hx, hb, hml, hown, hts⟩ (k_X7_meets l dC dI H.size x tp vi vf wx tx hIX vix1) (cwV 1 hts gd_X7_meets rfl rfl rfl (by decide +kernel) ⟨Nat.le_of_ble_eq_true rfl, Nat.le_of_ble_eq_true rfl⟩) ⟨ax_blind (fun _ _ _ _ hq => ⟨va_Nw.same rfl rfl (hq.1), va_Nw.same rfl rfl (hq.2.1), va_Nw.same rfl rfl (hq.2.2)⟩), va_recv hKx hPx (ci := 7) (q0 := 0) rfl hfs857, ax_preE hPx hKx hDx (fun U hU hW => ⟨va_Nw.warmM hW (hE.2.2.2.1), va_Nw.warmM hW (hE.2.2.1), va_Nw.warmM hW (hE.2.2.2.2.1)⟩)⟩ rfl rfl hl.1 rfl (lv_room (Nat.le_of_ble_eq_true rfl)) dL_law_857 ⟨hcc, hss⟩) hS (fun q _ h => hFc q h) hFc (fun r857 u t H1 locs ht hvm hw857 hB hz1 hk1 hS => ?_)
  obtain ⟨wxn, txn, ⟨vi1, vf1, kx1, kx2, hI1⟩, hP1, hK1, hD1⟩ := hB
  rw [ht] at hP1
  have hK1 := va_K.moved hvm.symm hK1
  obtain ⟨hPm, jxm⟩ := lg_step hPm jxm hk1 hD1
  obtain ⟨hPo, jxo⟩ := lg_step hPo jxo hk1 hD1
  have hD1 := hD1.weaken (fun _ _ _ h9 => hFc _ h9)
  clear hPx hDx hKx hFc hk1 hz1 hfs857
  have hIX := hI1; have hPx := hP1; have hDx := hD1; have hKx := hK1; clear hI1 hP1 hD1 hK1
  clear ht; generalize H1 = H at hPx hPm hPo hS ⊢
  refine lv_pop hx hb dL_law_860 rfl ?_
  refine lv_aload_n hx hb dL_law_861 rfl (lv_at hl 2 rfl) ?_
  refine lv_aload_n hx hb dL_law_862 rfl (lv_at hl 4 rfl) ?_
  refine lv_iload hx hb dL_law_863 (lv_at hl 0 rfl) ?_
  refine lv_iconst (v := 1) hx hb dL_law_865 zk_iconst_1 ?_
  refine lv_iadd hx hb dL_law_866 ?_
  refine ax_ti ix1 eix1.symm ?_
  refine va_sld (L := L) (i := ix1) hx hb hX hbl hbA hS (vp_in_iff.mpr ⟨by omega, by omega⟩) dL_law_867 ?_
  refine ax_ti vix1 evix1.symm ?_
  have hFc := lg_free hDm hS hA
  obtain ⟨fs868, hfs868⟩ := im_recv hIM
  refine va_calli (va_runV (As := [.int vix1]) (rest := []) ⟨hx, hb, hml, hown, hts⟩ (k_X8_meets l dC dI H.size mo tp vm vn wm tm hIM vix1) (cwV 1 hts gd_X8_meets rfl rfl rfl (by decide +kernel) ⟨Nat.le_of_ble_eq_true rfl, Nat.le_of_ble_eq_true rfl⟩) ⟨ax_blind (fun _ _ _ _ _ => trivial), va_recv hKm hPm (ci := 8) (q0 := 0) rfl hfs868, ax_preE hPm hKm hDm (fun _ _ _ => trivial)⟩ rfl rfl hl.1 rfl (lv_room (Nat.le_of_ble_eq_true rfl)) dL_law_868 ⟨hcc, hss⟩) hS (fun q _ h => hFc q h) hFc (fun r868 u t H1 locs ht hvm hw868 hB hz1 hk1 hS => ?_)
  obtain ⟨wmn, tmn, ⟨vm1, vn1, km1, km2, hI1⟩, hP1, hK1, hD1⟩ := hB
  rw [ht] at hP1
  have hK1 := va_K.moved hvm.symm hK1
  obtain ⟨hPx, jmx⟩ := lg_step hPx (dj_symm jxm) hk1 hD1
  have jxm := dj_symm jmx
  obtain ⟨hPo, jmo⟩ := lg_step hPo jmo hk1 hD1
  have hD1 := hD1.weaken (fun _ _ _ h9 => hFc _ h9)
  clear hPm hDm hKm hFc hk1 hz1 hfs868
  have hIM := hI1; have hPm := hP1; have hDm := hD1; have hKm := hK1; clear hI1 hP1 hD1 hK1
  clear ht; generalize H1 = H at hPx hPm hPo hS ⊢
  refine lv_pop hx hb dL_law_871 rfl ?_
  refine lv_goto (tgt := 1941) hx hb dL_law_872 (by decide) ?_
  have hRn : lr_R tp vi1 vf1 vm1 vn1 := ⟨by rw [kx2 0 (by decide), km2 0 (by decide)]; exact hR.1, lr_keep (fun k9 h9 => kx1 k9 (kp_dis (by decide) h9)) (fun k9 h8 h9 => kx1 k9 (kp_out (a := 57) (b := 152) (by decide) h8 h9)) (fun k9 h9 => kx2 k9 (kp_dis (by decide) h9)) (fun k9 h8 h9 => kx2 k9 (kp_out (a := 23) (b := 61) (by decide) h8 h9)) (fun k9 h9 => km1 k9 (kp_dis (by decide) h9)) (fun k9 h9 => km2 k9 (kp_dis (by decide) h9)) hR.2⟩
  exact kk _ _ _ _ _ (Nat.le_add_right _ _) (Nat.le_add_right _ _) ⟨tp, _, _, _, _, _, _, _, _, _, hIX, hIM, hRn, hKx, hKm, hPx, hPm, hPo, hDx, hDm, hDo, jxm, jxo, jmo⟩ hS (lv_sub hl [0, 1, 2, 3, 4] rfl)

set_option maxHeartbeats 4000000 in
set_option maxRecDepth 100000 in
theorem lc_23 {p : Program} {l : Launch} {e : Env} {s : State} {m : MethodId} {below : List Frame} {meth : Method} {c : Code} {b L : Nat} {xs : Nat → Int32} {A : Nat → Prop} {dC : Nat → ClassId} {dI : Nat → Nat → Nat} (hl0 : l.stackTraces = false) (hL : L ≤ 3072) (hA : ∀ q, s.heap.size ≤ q → A q) (hA2 : ∀ q, A q → s.heap.size ≤ q) (C0 : lw_At p s m meth c b L xs) (sd : Nat → Nat) (sa : Nat) (hE : lg_E A sd sa s) (x mo oa : Nat) (ko : ClassId) (hKo : va_K (dC, dI) vwCl [(ko, .long)] s) (i : Int32) (hi0 : (0 : Int) ≤ i.toInt) (hi6 : i.toInt + 6 ≤ (L : Int)) {H : Heap} {locs : List Loc} {cells slots : Nat} (hc9 : cells + 1 ≤ 601024) (hs9 : slots + 6 ≤ 7293034) (hG : lg_S dC dI A s x mo oa ko H) (hS : va_S A s.heap H locs) {ls : Array Slot} (hl : lv_has ls 7 [(4, .int i), (3, .ref oa), (2, .ref mo), (1, .ref x), (0, .ref b)])
    (kk : ∀ (H : Heap) (locs : List Loc) (ls : Array Slot) (k9 n9 : Nat), k9 ≤ cells + 1 → n9 ≤ slots + 6 → lg_S dC dI A s x mo oa ko H → va_S A s.heap H locs → lv_has ls 7 [(4, .int i), (3, .ref oa), (2, .ref mo), (1, .ref x), (0, .ref b)] → W p l e room_1 s m #[Value.ref b] below meth c H locs k9 n9 (lw_Z below #[Value.ref b] s) (F0 m 1941 ls [])) : W p l e room_1 s m #[Value.ref b] below meth c H locs cells slots (lw_Z below #[Value.ref b] s) (F0 m 875 ls []) := by
  obtain ⟨hx, hb, hr, hml, hown0, htl, hX, hbl, hlocks, hgv⟩ := id C0
  have hown : s.vm.findClass RL = some m.cls := hown0
  have hts : ∀ w ∈ wlT, w.before #[Value.ref b] s = true := fun w h => htl w (wlT_in w h)
  have hbA : ¬ A b := fun h => absurd (hA2 b h) (Nat.not_le.mpr hbl)
  obtain ⟨tp, wx, wm, tx, tm, fo, vi, vf, vm, vn, hIX, hIM, hR, hKx, hKm, hPx, hPm, hPo, hDx, hDm, hDo, jxm, jxo, jmo⟩ := hG
  have hiM : i.toInt ≤ (3066 : Int) := by omega
  have hcc : cells ≤ 601024 := by omega
  have hss : slots ≤ 7293034 := by omega
  have htpb := ix_tp hIX
  have hMo := im_mo hIM
  refine lv_aload_n hx hb dL_law_875 rfl (lv_at hl 3 rfl) ?_
  refine lv_aload_n hx hb dL_law_876 rfl (lv_at hl 4 rfl) ?_
  refine lv_iload hx hb dL_law_877 (lv_at hl 0 rfl) ?_
  refine lv_iconst (v := 1) hx hb dL_law_879 zk_iconst_1 ?_
  refine lv_iadd hx hb dL_law_880 ?_
  refine lv_topi (fun ix1 eix1 => ?_)
  have qix1 : ix1.toInt = i.toInt + 1 := ai_add eix1 ⟨hi0, hiM⟩ ⟨zq1, zq0⟩ (by decide) (by decide)
  refine va_sld (L := L) (i := ix1) hx hb hX hbl hbA hS (vp_in_iff.mpr ⟨by omega, by omega⟩) dL_law_881 ?_
  refine lv_topi (fun vix1 evix1 => ?_)
  have hFc := lg_free hDx hS hA
  obtain ⟨fs882, hfs882⟩ := ix_recv hIX
  refine va_calli (va_runV (As := [.int vix1]) (rest := []) ⟨hx, hb, hml, hown, hts⟩ (k_X7_crowd l dC dI H.size x tp vi vf wx tx hIX vix1) (cwV 1 hts gd_X7_crowd rfl rfl rfl (by decide +kernel) ⟨Nat.le_of_ble_eq_true rfl, Nat.le_of_ble_eq_true rfl⟩) ⟨ax_blind (fun _ _ _ _ hq => ⟨va_Nw.same rfl rfl (hq.1), va_Nw.same rfl rfl (hq.2.1), va_Nw.same rfl rfl (hq.2.2)⟩), va_recv hKx hPx (ci := 7) (q0 := 0) rfl hfs882, ax_preE hPx hKx hDx (fun U hU hW => ⟨va_Nw.warmM hW (hE.2.2.2.1), va_Nw.warmM hW (hE.2.2.1), va_Nw.warmM hW (hE.2.2.2.2.1)⟩)⟩ rfl rfl hl.1 rfl (lv_room (Nat.le_of_ble_eq_true rfl)) dL_law_882 ⟨hcc, hss⟩) hS (fun q _ h => hFc q h) hFc (fun r882 u t H1 locs ht hvm hw882 hB hz1 hk1 hS => ?_)
  obtain ⟨wxn, txn, ⟨vi1, vf1, kx1, kx2, hI1⟩, hP1, hK1, hD1⟩ := hB
  rw [ht] at hP1
  have hK1 := va_K.moved hvm.symm hK1
  obtain ⟨hPm, jxm⟩ := lg_step hPm jxm hk1 hD1
  obtain ⟨hPo, jxo⟩ := lg_step hPo jxo hk1 hD1
  have hD1 := hD1.weaken (fun _ _ _ h9 => hFc _ h9)
  clear hPx hDx hKx hFc hk1 hz1 hfs882
  have hIX := hI1; have hPx := hP1; have hDx := hD1; have hKx := hK1; clear hI1 hP1 hD1 hK1
  clear ht; generalize H1 = H at hPx hPm hPo hS ⊢
  refine lv_pop hx hb dL_law_885 rfl ?_
  refine lv_aload_n hx hb dL_law_886 rfl (lv_at hl 2 rfl) ?_
  refine lv_aload_n hx hb dL_law_887 rfl (lv_at hl 4 rfl) ?_
  refine lv_iload hx hb dL_law_888 (lv_at hl 0 rfl) ?_
  refine lv_iconst (v := 1) hx hb dL_law_890 zk_iconst_1 ?_
  refine lv_iadd hx hb dL_law_891 ?_
  refine ax_ti ix1 eix1.symm ?_
  refine va_sld (L := L) (i := ix1) hx hb hX hbl hbA hS (vp_in_iff.mpr ⟨by omega, by omega⟩) dL_law_892 ?_
  refine ax_ti vix1 evix1.symm ?_
  have hFc := lg_free hDm hS hA
  obtain ⟨fs893, hfs893⟩ := im_recv hIM
  refine va_calli (va_runV (As := [.int vix1]) (rest := []) ⟨hx, hb, hml, hown, hts⟩ (k_X8_crowd l dC dI H.size mo tp vm vn wm tm hIM vix1) (cwV 1 hts gd_X8_crowd rfl rfl rfl (by decide +kernel) ⟨Nat.le_of_ble_eq_true rfl, Nat.le_of_ble_eq_true rfl⟩) ⟨ax_blind (fun _ _ _ _ _ => trivial), va_recv hKm hPm (ci := 8) (q0 := 0) rfl hfs893, ax_preE hPm hKm hDm (fun _ _ _ => trivial)⟩ rfl rfl hl.1 rfl (lv_room (Nat.le_of_ble_eq_true rfl)) dL_law_893 ⟨hcc, hss⟩) hS (fun q _ h => hFc q h) hFc (fun r893 u t H1 locs ht hvm hw893 hB hz1 hk1 hS => ?_)
  obtain ⟨wmn, tmn, ⟨vm1, vn1, km1, km2, hI1⟩, hP1, hK1, hD1⟩ := hB
  rw [ht] at hP1
  have hK1 := va_K.moved hvm.symm hK1
  obtain ⟨hPx, jmx⟩ := lg_step hPx (dj_symm jxm) hk1 hD1
  have jxm := dj_symm jmx
  obtain ⟨hPo, jmo⟩ := lg_step hPo jmo hk1 hD1
  have hD1 := hD1.weaken (fun _ _ _ h9 => hFc _ h9)
  clear hPm hDm hKm hFc hk1 hz1 hfs893
  have hIM := hI1; have hPm := hP1; have hDm := hD1; have hKm := hK1; clear hI1 hP1 hD1 hK1
  clear ht; generalize H1 = H at hPx hPm hPo hS ⊢
  refine lv_pop hx hb dL_law_896 rfl ?_
  refine lv_goto (tgt := 1941) hx hb dL_law_897 (by decide) ?_
  have hRn : lr_R tp vi1 vf1 vm1 vn1 := ⟨by rw [kx2 0 (by decide), km2 0 (by decide)]; exact hR.1, lr_keep (fun k9 h9 => kx1 k9 (kp_dis (by decide) h9)) (fun k9 h8 h9 => kx1 k9 (kp_out (a := 57) (b := 152) (by decide) h8 h9)) (fun k9 h9 => kx2 k9 (kp_dis (by decide) h9)) (fun k9 h8 h9 => kx2 k9 (kp_out (a := 23) (b := 61) (by decide) h8 h9)) (fun k9 h9 => km1 k9 (kp_dis (by decide) h9)) (fun k9 h9 => km2 k9 (kp_dis (by decide) h9)) hR.2⟩
  exact kk _ _ _ _ _ (Nat.le_add_right _ _) (Nat.le_add_right _ _) ⟨tp, _, _, _, _, _, _, _, _, _, hIX, hIM, hRn, hKx, hKm, hPx, hPm, hPo, hDx, hDm, hDo, jxm, jxo, jmo⟩ hS (lv_sub hl [0, 1, 2, 3, 4] rfl)

set_option maxHeartbeats 4000000 in
set_option maxRecDepth 100000 in
theorem lc_24 {p : Program} {l : Launch} {e : Env} {s : State} {m : MethodId} {below : List Frame} {meth : Method} {c : Code} {b L : Nat} {xs : Nat → Int32} {A : Nat → Prop} {dC : Nat → ClassId} {dI : Nat → Nat → Nat} (hl0 : l.stackTraces = false) (hL : L ≤ 3072) (hA : ∀ q, s.heap.size ≤ q → A q) (hA2 : ∀ q, A q → s.heap.size ≤ q) (C0 : lw_At p s m meth c b L xs) (sd : Nat → Nat) (sa : Nat) (hE : lg_E A sd sa s) (x mo oa : Nat) (ko : ClassId) (hKo : va_K (dC, dI) vwCl [(ko, .long)] s) (i : Int32) (hi0 : (0 : Int) ≤ i.toInt) (hi6 : i.toInt + 6 ≤ (L : Int)) {H : Heap} {locs : List Loc} {cells slots : Nat} (hc9 : cells + 1 ≤ 601024) (hs9 : slots + 6 ≤ 7293034) (hG : lg_S dC dI A s x mo oa ko H) (hS : va_S A s.heap H locs) {ls : Array Slot} (hl : lv_has ls 7 [(4, .int i), (3, .ref oa), (2, .ref mo), (1, .ref x), (0, .ref b)])
    (kk : ∀ (H : Heap) (locs : List Loc) (ls : Array Slot) (k9 n9 : Nat), k9 ≤ cells + 1 → n9 ≤ slots + 6 → lg_S dC dI A s x mo oa ko H → va_S A s.heap H locs → lv_has ls 7 [(4, .int i), (3, .ref oa), (2, .ref mo), (1, .ref x), (0, .ref b)] → W p l e room_1 s m #[Value.ref b] below meth c H locs k9 n9 (lw_Z below #[Value.ref b] s) (F0 m 1941 ls [])) : W p l e room_1 s m #[Value.ref b] below meth c H locs cells slots (lw_Z below #[Value.ref b] s) (F0 m 900 ls []) := by
  obtain ⟨hx, hb, hr, hml, hown0, htl, hX, hbl, hlocks, hgv⟩ := id C0
  have hown : s.vm.findClass RL = some m.cls := hown0
  have hts : ∀ w ∈ wlT, w.before #[Value.ref b] s = true := fun w h => htl w (wlT_in w h)
  have hbA : ¬ A b := fun h => absurd (hA2 b h) (Nat.not_le.mpr hbl)
  obtain ⟨tp, wx, wm, tx, tm, fo, vi, vf, vm, vn, hIX, hIM, hR, hKx, hKm, hPx, hPm, hPo, hDx, hDm, hDo, jxm, jxo, jmo⟩ := hG
  have hiM : i.toInt ≤ (3066 : Int) := by omega
  have hcc : cells ≤ 601024 := by omega
  have hss : slots ≤ 7293034 := by omega
  have htpb := ix_tp hIX
  have hMo := im_mo hIM
  refine lv_aload_n hx hb dL_law_900 rfl (lv_at hl 3 rfl) ?_
  refine lv_aload_n hx hb dL_law_901 rfl (lv_at hl 4 rfl) ?_
  refine lv_iload hx hb dL_law_902 (lv_at hl 0 rfl) ?_
  refine lv_iconst (v := 1) hx hb dL_law_904 zk_iconst_1 ?_
  refine lv_iadd hx hb dL_law_905 ?_
  refine lv_topi (fun ix1 eix1 => ?_)
  have qix1 : ix1.toInt = i.toInt + 1 := ai_add eix1 ⟨hi0, hiM⟩ ⟨zq1, zq0⟩ (by decide) (by decide)
  refine va_sld (L := L) (i := ix1) hx hb hX hbl hbA hS (vp_in_iff.mpr ⟨by omega, by omega⟩) dL_law_906 ?_
  refine lv_topi (fun vix1 evix1 => ?_)
  have hFc := lg_free hDx hS hA
  obtain ⟨fs907, hfs907⟩ := ix_recv hIX
  refine va_calli (va_runV (As := [.int vix1]) (rest := []) ⟨hx, hb, hml, hown, hts⟩ (k_X7_farthest l dC dI H.size x tp vi vf wx tx hIX vix1) (cwV 1 hts gd_X7_farthest rfl rfl rfl (by decide +kernel) ⟨Nat.le_of_ble_eq_true rfl, Nat.le_of_ble_eq_true rfl⟩) ⟨ax_blind (fun _ _ _ _ hq => ⟨va_Nw.same rfl rfl (hq.1), va_Nw.same rfl rfl (hq.2.1), va_Nw.same rfl rfl (hq.2.2)⟩), va_recv hKx hPx (ci := 7) (q0 := 0) rfl hfs907, ax_preE hPx hKx hDx (fun U hU hW => ⟨va_Nw.warmM hW (hE.2.2.2.1), va_Nw.warmM hW (hE.2.2.1), va_Nw.warmM hW (hE.2.2.2.2.1)⟩)⟩ rfl rfl hl.1 rfl (lv_room (Nat.le_of_ble_eq_true rfl)) dL_law_907 ⟨hcc, hss⟩) hS (fun q _ h => hFc q h) hFc (fun r907 u t H1 locs ht hvm hw907 hB hz1 hk1 hS => ?_)
  obtain ⟨wxn, txn, ⟨vi1, vf1, kx1, kx2, hI1⟩, hP1, hK1, hD1⟩ := hB
  rw [ht] at hP1
  have hK1 := va_K.moved hvm.symm hK1
  obtain ⟨hPm, jxm⟩ := lg_step hPm jxm hk1 hD1
  obtain ⟨hPo, jxo⟩ := lg_step hPo jxo hk1 hD1
  have hD1 := hD1.weaken (fun _ _ _ h9 => hFc _ h9)
  clear hPx hDx hKx hFc hk1 hz1 hfs907
  have hIX := hI1; have hPx := hP1; have hDx := hD1; have hKx := hK1; clear hI1 hP1 hD1 hK1
  clear ht; generalize H1 = H at hPx hPm hPo hS ⊢
  refine lv_pop hx hb dL_law_910 rfl ?_
  refine lv_aload_n hx hb dL_law_911 rfl (lv_at hl 2 rfl) ?_
  refine lv_aload_n hx hb dL_law_912 rfl (lv_at hl 4 rfl) ?_
  refine lv_iload hx hb dL_law_913 (lv_at hl 0 rfl) ?_
  refine lv_iconst (v := 1) hx hb dL_law_915 zk_iconst_1 ?_
  refine lv_iadd hx hb dL_law_916 ?_
  refine ax_ti ix1 eix1.symm ?_
  refine va_sld (L := L) (i := ix1) hx hb hX hbl hbA hS (vp_in_iff.mpr ⟨by omega, by omega⟩) dL_law_917 ?_
  refine ax_ti vix1 evix1.symm ?_
  have hFc := lg_free hDm hS hA
  obtain ⟨fs918, hfs918⟩ := im_recv hIM
  refine va_calli (va_runV (As := [.int vix1]) (rest := []) ⟨hx, hb, hml, hown, hts⟩ (k_X8_farthest l dC dI H.size mo tp vm vn wm tm hIM vix1) (cwV 1 hts gd_X8_farthest rfl rfl rfl (by decide +kernel) ⟨Nat.le_of_ble_eq_true rfl, Nat.le_of_ble_eq_true rfl⟩) ⟨ax_blind (fun _ _ _ _ _ => trivial), va_recv hKm hPm (ci := 8) (q0 := 0) rfl hfs918, ax_preE hPm hKm hDm (fun _ _ _ => trivial)⟩ rfl rfl hl.1 rfl (lv_room (Nat.le_of_ble_eq_true rfl)) dL_law_918 ⟨hcc, hss⟩) hS (fun q _ h => hFc q h) hFc (fun r918 u t H1 locs ht hvm hw918 hB hz1 hk1 hS => ?_)
  obtain ⟨wmn, tmn, ⟨vm1, vn1, km1, km2, hI1⟩, hP1, hK1, hD1⟩ := hB
  rw [ht] at hP1
  have hK1 := va_K.moved hvm.symm hK1
  obtain ⟨hPx, jmx⟩ := lg_step hPx (dj_symm jxm) hk1 hD1
  have jxm := dj_symm jmx
  obtain ⟨hPo, jmo⟩ := lg_step hPo jmo hk1 hD1
  have hD1 := hD1.weaken (fun _ _ _ h9 => hFc _ h9)
  clear hPm hDm hKm hFc hk1 hz1 hfs918
  have hIM := hI1; have hPm := hP1; have hDm := hD1; have hKm := hK1; clear hI1 hP1 hD1 hK1
  clear ht; generalize H1 = H at hPx hPm hPo hS ⊢
  refine lv_pop hx hb dL_law_921 rfl ?_
  refine lv_goto (tgt := 1941) hx hb dL_law_922 (by decide) ?_
  have hRn : lr_R tp vi1 vf1 vm1 vn1 := ⟨by rw [kx2 0 (by decide), km2 0 (by decide)]; exact hR.1, lr_keep (fun k9 h9 => kx1 k9 (kp_dis (by decide) h9)) (fun k9 h8 h9 => kx1 k9 (kp_out (a := 57) (b := 152) (by decide) h8 h9)) (fun k9 h9 => kx2 k9 (kp_dis (by decide) h9)) (fun k9 h8 h9 => kx2 k9 (kp_out (a := 23) (b := 61) (by decide) h8 h9)) (fun k9 h9 => km1 k9 (kp_dis (by decide) h9)) (fun k9 h9 => km2 k9 (kp_dis (by decide) h9)) hR.2⟩
  exact kk _ _ _ _ _ (Nat.le_add_right _ _) (Nat.le_add_right _ _) ⟨tp, _, _, _, _, _, _, _, _, _, hIX, hIM, hRn, hKx, hKm, hPx, hPm, hPo, hDx, hDm, hDo, jxm, jxo, jmo⟩ hS (lv_sub hl [0, 1, 2, 3, 4] rfl)

set_option maxHeartbeats 4000000 in
set_option maxRecDepth 100000 in
theorem lc_25 {p : Program} {l : Launch} {e : Env} {s : State} {m : MethodId} {below : List Frame} {meth : Method} {c : Code} {b L : Nat} {xs : Nat → Int32} {A : Nat → Prop} {dC : Nat → ClassId} {dI : Nat → Nat → Nat} (hl0 : l.stackTraces = false) (hL : L ≤ 3072) (hA : ∀ q, s.heap.size ≤ q → A q) (hA2 : ∀ q, A q → s.heap.size ≤ q) (C0 : lw_At p s m meth c b L xs) (sd : Nat → Nat) (sa : Nat) (hE : lg_E A sd sa s) (x mo oa : Nat) (ko : ClassId) (hKo : va_K (dC, dI) vwCl [(ko, .long)] s) (i : Int32) (hi0 : (0 : Int) ≤ i.toInt) (hi6 : i.toInt + 6 ≤ (L : Int)) {H : Heap} {locs : List Loc} {cells slots : Nat} (hc9 : cells + 1 ≤ 601024) (hs9 : slots + 6 ≤ 7293034) (hG : lg_S dC dI A s x mo oa ko H) (hS : va_S A s.heap H locs) {ls : Array Slot} (hl : lv_has ls 7 [(4, .int i), (3, .ref oa), (2, .ref mo), (1, .ref x), (0, .ref b)])
    (kk : ∀ (H : Heap) (locs : List Loc) (ls : Array Slot) (k9 n9 : Nat), k9 ≤ cells + 1 → n9 ≤ slots + 6 → lg_S dC dI A s x mo oa ko H → va_S A s.heap H locs → lv_has ls 7 [(4, .int i), (3, .ref oa), (2, .ref mo), (1, .ref x), (0, .ref b)] → W p l e room_1 s m #[Value.ref b] below meth c H locs k9 n9 (lw_Z below #[Value.ref b] s) (F0 m 1941 ls [])) : W p l e room_1 s m #[Value.ref b] below meth c H locs cells slots (lw_Z below #[Value.ref b] s) (F0 m 925 ls []) := by
  obtain ⟨hx, hb, hr, hml, hown0, htl, hX, hbl, hlocks, hgv⟩ := id C0
  have hown : s.vm.findClass RL = some m.cls := hown0
  have hts : ∀ w ∈ wlT, w.before #[Value.ref b] s = true := fun w h => htl w (wlT_in w h)
  have hbA : ¬ A b := fun h => absurd (hA2 b h) (Nat.not_le.mpr hbl)
  obtain ⟨tp, wx, wm, tx, tm, fo, vi, vf, vm, vn, hIX, hIM, hR, hKx, hKm, hPx, hPm, hPo, hDx, hDm, hDo, jxm, jxo, jmo⟩ := hG
  have hiM : i.toInt ≤ (3066 : Int) := by omega
  have hcc : cells ≤ 601024 := by omega
  have hss : slots ≤ 7293034 := by omega
  have htpb := ix_tp hIX
  have hMo := im_mo hIM
  refine lv_aload_n hx hb dL_law_925 rfl (lv_at hl 3 rfl) ?_
  refine lv_aload_n hx hb dL_law_926 rfl (lv_at hl 4 rfl) ?_
  refine lv_iload hx hb dL_law_927 (lv_at hl 0 rfl) ?_
  refine lv_iconst (v := 1) hx hb dL_law_929 zk_iconst_1 ?_
  refine lv_iadd hx hb dL_law_930 ?_
  refine lv_topi (fun ix1 eix1 => ?_)
  have qix1 : ix1.toInt = i.toInt + 1 := ai_add eix1 ⟨hi0, hiM⟩ ⟨zq1, zq0⟩ (by decide) (by decide)
  refine va_sld (L := L) (i := ix1) hx hb hX hbl hbA hS (vp_in_iff.mpr ⟨by omega, by omega⟩) dL_law_931 ?_
  refine lv_topi (fun vix1 evix1 => ?_)
  refine lv_aload_n hx hb dL_law_932 rfl (lv_at hl 4 rfl) ?_
  refine lv_iload hx hb dL_law_933 (lv_at hl 0 rfl) ?_
  refine lv_iconst (v := 2) hx hb dL_law_935 zk_iconst_2 ?_
  refine lv_iadd hx hb dL_law_936 ?_
  refine lv_topi (fun ix2 eix2 => ?_)
  have qix2 : ix2.toInt = i.toInt + 2 := ai_add eix2 ⟨hi0, hiM⟩ ⟨zq12, zq13⟩ (by decide) (by decide)
  refine va_sld (L := L) (i := ix2) hx hb hX hbl hbA hS (vp_in_iff.mpr ⟨by omega, by omega⟩) dL_law_937 ?_
  refine lv_topi (fun vix2 evix2 => ?_)
  have hFc := lg_free hDx hS hA
  obtain ⟨fs938, hfs938⟩ := ix_recv hIX
  refine va_calli (va_runV (As := [.int vix1, .int vix2]) (rest := []) ⟨hx, hb, hml, hown, hts⟩ (k_X7_nearBy l dC dI H.size x tp vi vf wx tx hIX vix1 vix2) (cwV 2 hts gd_X7_nearBy rfl rfl rfl (by decide +kernel) ⟨Nat.le_of_ble_eq_true rfl, Nat.le_of_ble_eq_true rfl⟩) ⟨ax_blind (fun _ _ _ _ hq => ⟨va_Nw.same rfl rfl (hq.1), va_Nw.same rfl rfl (hq.2.1), va_Nw.same rfl rfl (hq.2.2)⟩), va_recv hKx hPx (ci := 7) (q0 := 0) rfl hfs938, ax_preE hPx hKx hDx (fun U hU hW => ⟨va_Nw.warmM hW (hE.2.2.2.1), va_Nw.warmM hW (hE.2.2.1), va_Nw.warmM hW (hE.2.2.2.2.1)⟩)⟩ rfl rfl hl.1 rfl (lv_room (Nat.le_of_ble_eq_true rfl)) dL_law_938 ⟨hcc, hss⟩) hS (fun q _ h => hFc q h) hFc (fun r938 u t H1 locs ht hvm hw938 hB hz1 hk1 hS => ?_)
  obtain ⟨wxn, txn, ⟨vi1, vf1, kx1, kx2, hI1⟩, hP1, hK1, hD1⟩ := hB
  rw [ht] at hP1
  have hK1 := va_K.moved hvm.symm hK1
  obtain ⟨hPm, jxm⟩ := lg_step hPm jxm hk1 hD1
  obtain ⟨hPo, jxo⟩ := lg_step hPo jxo hk1 hD1
  have hD1 := hD1.weaken (fun _ _ _ h9 => hFc _ h9)
  clear hPx hDx hKx hFc hk1 hz1 hfs938
  have hIX := hI1; have hPx := hP1; have hDx := hD1; have hKx := hK1; clear hI1 hP1 hD1 hK1
  clear ht; generalize H1 = H at hPx hPm hPo hS ⊢
  refine lv_pop hx hb dL_law_941 rfl ?_
  refine lv_aload_n hx hb dL_law_942 rfl (lv_at hl 2 rfl) ?_
  refine lv_aload_n hx hb dL_law_943 rfl (lv_at hl 4 rfl) ?_
  refine lv_iload hx hb dL_law_944 (lv_at hl 0 rfl) ?_
  refine lv_iconst (v := 1) hx hb dL_law_946 zk_iconst_1 ?_
  refine lv_iadd hx hb dL_law_947 ?_
  refine ax_ti ix1 eix1.symm ?_
  refine va_sld (L := L) (i := ix1) hx hb hX hbl hbA hS (vp_in_iff.mpr ⟨by omega, by omega⟩) dL_law_948 ?_
  refine ax_ti vix1 evix1.symm ?_
  refine lv_aload_n hx hb dL_law_949 rfl (lv_at hl 4 rfl) ?_
  refine lv_iload hx hb dL_law_950 (lv_at hl 0 rfl) ?_
  refine lv_iconst (v := 2) hx hb dL_law_952 zk_iconst_2 ?_
  refine lv_iadd hx hb dL_law_953 ?_
  refine ax_ti ix2 eix2.symm ?_
  refine va_sld (L := L) (i := ix2) hx hb hX hbl hbA hS (vp_in_iff.mpr ⟨by omega, by omega⟩) dL_law_954 ?_
  refine ax_ti vix2 evix2.symm ?_
  have hFc := lg_free hDm hS hA
  obtain ⟨fs955, hfs955⟩ := im_recv hIM
  refine va_calli (va_runV (As := [.int vix1, .int vix2]) (rest := []) ⟨hx, hb, hml, hown, hts⟩ (k_X8_nearBy l dC dI H.size mo tp vm vn wm tm hIM vix1 vix2) (cwV 2 hts gd_X8_nearBy rfl rfl rfl (by decide +kernel) ⟨Nat.le_of_ble_eq_true rfl, Nat.le_of_ble_eq_true rfl⟩) ⟨ax_blind (fun _ _ _ _ _ => trivial), va_recv hKm hPm (ci := 8) (q0 := 0) rfl hfs955, ax_preE hPm hKm hDm (fun _ _ _ => trivial)⟩ rfl rfl hl.1 rfl (lv_room (Nat.le_of_ble_eq_true rfl)) dL_law_955 ⟨hcc, hss⟩) hS (fun q _ h => hFc q h) hFc (fun r955 u t H1 locs ht hvm hw955 hB hz1 hk1 hS => ?_)
  obtain ⟨wmn, tmn, ⟨vm1, vn1, km1, km2, hI1⟩, hP1, hK1, hD1⟩ := hB
  rw [ht] at hP1
  have hK1 := va_K.moved hvm.symm hK1
  obtain ⟨hPx, jmx⟩ := lg_step hPx (dj_symm jxm) hk1 hD1
  have jxm := dj_symm jmx
  obtain ⟨hPo, jmo⟩ := lg_step hPo jmo hk1 hD1
  have hD1 := hD1.weaken (fun _ _ _ h9 => hFc _ h9)
  clear hPm hDm hKm hFc hk1 hz1 hfs955
  have hIM := hI1; have hPm := hP1; have hDm := hD1; have hKm := hK1; clear hI1 hP1 hD1 hK1
  clear ht; generalize H1 = H at hPx hPm hPo hS ⊢
  refine lv_pop hx hb dL_law_958 rfl ?_
  refine lv_goto (tgt := 1941) hx hb dL_law_959 (by decide) ?_
  have hRn : lr_R tp vi1 vf1 vm1 vn1 := ⟨by rw [kx2 0 (by decide), km2 0 (by decide)]; exact hR.1, lr_keep (fun k9 h9 => kx1 k9 (kp_dis (by decide) h9)) (fun k9 h8 h9 => kx1 k9 (kp_out (a := 57) (b := 152) (by decide) h8 h9)) (fun k9 h9 => kx2 k9 (kp_dis (by decide) h9)) (fun k9 h8 h9 => kx2 k9 (kp_out (a := 23) (b := 61) (by decide) h8 h9)) (fun k9 h9 => km1 k9 (kp_dis (by decide) h9)) (fun k9 h9 => km2 k9 (kp_dis (by decide) h9)) hR.2⟩
  exact kk _ _ _ _ _ (Nat.le_add_right _ _) (Nat.le_add_right _ _) ⟨tp, _, _, _, _, _, _, _, _, _, hIX, hIM, hRn, hKx, hKm, hPx, hPm, hPo, hDx, hDm, hDo, jxm, jxo, jmo⟩ hS (lv_sub hl [0, 1, 2, 3, 4] rfl)

set_option maxHeartbeats 4000000 in
set_option maxRecDepth 100000 in
theorem lc_26 {p : Program} {l : Launch} {e : Env} {s : State} {m : MethodId} {below : List Frame} {meth : Method} {c : Code} {b L : Nat} {xs : Nat → Int32} {A : Nat → Prop} {dC : Nat → ClassId} {dI : Nat → Nat → Nat} (hl0 : l.stackTraces = false) (hL : L ≤ 3072) (hA : ∀ q, s.heap.size ≤ q → A q) (hA2 : ∀ q, A q → s.heap.size ≤ q) (C0 : lw_At p s m meth c b L xs) (sd : Nat → Nat) (sa : Nat) (hE : lg_E A sd sa s) (x mo oa : Nat) (ko : ClassId) (hKo : va_K (dC, dI) vwCl [(ko, .long)] s) (i : Int32) (hi0 : (0 : Int) ≤ i.toInt) (hi6 : i.toInt + 6 ≤ (L : Int)) {H : Heap} {locs : List Loc} {cells slots : Nat} (hc9 : cells + 1 ≤ 601024) (hs9 : slots + 6 ≤ 7293034) (hG : lg_S dC dI A s x mo oa ko H) (hS : va_S A s.heap H locs) {ls : Array Slot} (hl : lv_has ls 7 [(4, .int i), (3, .ref oa), (2, .ref mo), (1, .ref x), (0, .ref b)])
    (kk : ∀ (H : Heap) (locs : List Loc) (ls : Array Slot) (k9 n9 : Nat), k9 ≤ cells + 1 → n9 ≤ slots + 6 → lg_S dC dI A s x mo oa ko H → va_S A s.heap H locs → lv_has ls 7 [(4, .int i), (3, .ref oa), (2, .ref mo), (1, .ref x), (0, .ref b)] → W p l e room_1 s m #[Value.ref b] below meth c H locs k9 n9 (lw_Z below #[Value.ref b] s) (F0 m 1941 ls [])) : W p l e room_1 s m #[Value.ref b] below meth c H locs cells slots (lw_Z below #[Value.ref b] s) (F0 m 962 ls []) := by
  obtain ⟨hx, hb, hr, hml, hown0, htl, hX, hbl, hlocks, hgv⟩ := id C0
  have hown : s.vm.findClass RL = some m.cls := hown0
  have hts : ∀ w ∈ wlT, w.before #[Value.ref b] s = true := fun w h => htl w (wlT_in w h)
  have hbA : ¬ A b := fun h => absurd (hA2 b h) (Nat.not_le.mpr hbl)
  obtain ⟨tp, wx, wm, tx, tm, fo, vi, vf, vm, vn, hIX, hIM, hR, hKx, hKm, hPx, hPm, hPo, hDx, hDm, hDo, jxm, jxo, jmo⟩ := hG
  have hiM : i.toInt ≤ (3066 : Int) := by omega
  have hcc : cells ≤ 601024 := by omega
  have hss : slots ≤ 7293034 := by omega
  have htpb := ix_tp hIX
  have hMo := im_mo hIM
  refine lv_aload_n hx hb dL_law_962 rfl (lv_at hl 3 rfl) ?_
  refine lv_aload_n hx hb dL_law_963 rfl (lv_at hl 4 rfl) ?_
  refine lv_iload hx hb dL_law_964 (lv_at hl 0 rfl) ?_
  refine lv_iconst (v := 1) hx hb dL_law_966 zk_iconst_1 ?_
  refine lv_iadd hx hb dL_law_967 ?_
  refine lv_topi (fun ix1 eix1 => ?_)
  have qix1 : ix1.toInt = i.toInt + 1 := ai_add eix1 ⟨hi0, hiM⟩ ⟨zq1, zq0⟩ (by decide) (by decide)
  refine va_sld (L := L) (i := ix1) hx hb hX hbl hbA hS (vp_in_iff.mpr ⟨by omega, by omega⟩) dL_law_968 ?_
  refine lv_topi (fun vix1 evix1 => ?_)
  refine lv_aload_n hx hb dL_law_969 rfl (lv_at hl 4 rfl) ?_
  refine lv_iload hx hb dL_law_970 (lv_at hl 0 rfl) ?_
  refine lv_iconst (v := 2) hx hb dL_law_972 zk_iconst_2 ?_
  refine lv_iadd hx hb dL_law_973 ?_
  refine lv_topi (fun ix2 eix2 => ?_)
  have qix2 : ix2.toInt = i.toInt + 2 := ai_add eix2 ⟨hi0, hiM⟩ ⟨zq12, zq13⟩ (by decide) (by decide)
  refine va_sld (L := L) (i := ix2) hx hb hX hbl hbA hS (vp_in_iff.mpr ⟨by omega, by omega⟩) dL_law_974 ?_
  refine lv_topi (fun vix2 evix2 => ?_)
  have hFc := lg_free hDx hS hA
  obtain ⟨fs975, hfs975⟩ := ix_recv hIX
  refine va_calli (va_runV (As := [.int vix1, .int vix2]) (rest := []) ⟨hx, hb, hml, hown, hts⟩ (k_X7_spoken l dC dI H.size x tp vi vf wx tx hIX vix1 vix2) (cwV 2 hts gd_X7_spoken rfl rfl rfl (by decide +kernel) ⟨Nat.le_of_ble_eq_true rfl, Nat.le_of_ble_eq_true rfl⟩) ⟨ax_blind (fun _ _ _ _ hq => ⟨va_Nw.same rfl rfl (hq.1), va_Nw.same rfl rfl (hq.2.1), va_Nw.same rfl rfl (hq.2.2)⟩), va_recv hKx hPx (ci := 7) (q0 := 0) rfl hfs975, ax_preE hPx hKx hDx (fun U hU hW => ⟨va_Nw.warmM hW (hE.2.2.2.1), va_Nw.warmM hW (hE.2.2.1), va_Nw.warmM hW (hE.2.2.2.2.1)⟩)⟩ rfl rfl hl.1 rfl (lv_room (Nat.le_of_ble_eq_true rfl)) dL_law_975 ⟨hcc, hss⟩) hS (fun q _ h => hFc q h) hFc (fun r975 u t H1 locs ht hvm hw975 hB hz1 hk1 hS => ?_)
  obtain ⟨wxn, txn, ⟨vi1, vf1, kx1, kx2, hI1⟩, hP1, hK1, hD1⟩ := hB
  rw [ht] at hP1
  have hK1 := va_K.moved hvm.symm hK1
  obtain ⟨hPm, jxm⟩ := lg_step hPm jxm hk1 hD1
  obtain ⟨hPo, jxo⟩ := lg_step hPo jxo hk1 hD1
  have hD1 := hD1.weaken (fun _ _ _ h9 => hFc _ h9)
  clear hPx hDx hKx hFc hk1 hz1 hfs975
  have hIX := hI1; have hPx := hP1; have hDx := hD1; have hKx := hK1; clear hI1 hP1 hD1 hK1
  clear ht; generalize H1 = H at hPx hPm hPo hS ⊢
  refine lv_pop hx hb dL_law_978 rfl ?_
  refine lv_aload_n hx hb dL_law_979 rfl (lv_at hl 2 rfl) ?_
  refine lv_aload_n hx hb dL_law_980 rfl (lv_at hl 4 rfl) ?_
  refine lv_iload hx hb dL_law_981 (lv_at hl 0 rfl) ?_
  refine lv_iconst (v := 1) hx hb dL_law_983 zk_iconst_1 ?_
  refine lv_iadd hx hb dL_law_984 ?_
  refine ax_ti ix1 eix1.symm ?_
  refine va_sld (L := L) (i := ix1) hx hb hX hbl hbA hS (vp_in_iff.mpr ⟨by omega, by omega⟩) dL_law_985 ?_
  refine ax_ti vix1 evix1.symm ?_
  refine lv_aload_n hx hb dL_law_986 rfl (lv_at hl 4 rfl) ?_
  refine lv_iload hx hb dL_law_987 (lv_at hl 0 rfl) ?_
  refine lv_iconst (v := 2) hx hb dL_law_989 zk_iconst_2 ?_
  refine lv_iadd hx hb dL_law_990 ?_
  refine ax_ti ix2 eix2.symm ?_
  refine va_sld (L := L) (i := ix2) hx hb hX hbl hbA hS (vp_in_iff.mpr ⟨by omega, by omega⟩) dL_law_991 ?_
  refine ax_ti vix2 evix2.symm ?_
  have hFc := lg_free hDm hS hA
  obtain ⟨fs992, hfs992⟩ := im_recv hIM
  refine va_calli (va_runV (As := [.int vix1, .int vix2]) (rest := []) ⟨hx, hb, hml, hown, hts⟩ (k_X8_spoken l dC dI H.size mo tp vm vn wm tm hIM vix1 vix2) (cwV 2 hts gd_X8_spoken rfl rfl rfl (by decide +kernel) ⟨Nat.le_of_ble_eq_true rfl, Nat.le_of_ble_eq_true rfl⟩) ⟨ax_blind (fun _ _ _ _ _ => trivial), va_recv hKm hPm (ci := 8) (q0 := 0) rfl hfs992, ax_preE hPm hKm hDm (fun _ _ _ => trivial)⟩ rfl rfl hl.1 rfl (lv_room (Nat.le_of_ble_eq_true rfl)) dL_law_992 ⟨hcc, hss⟩) hS (fun q _ h => hFc q h) hFc (fun r992 u t H1 locs ht hvm hw992 hB hz1 hk1 hS => ?_)
  obtain ⟨wmn, tmn, ⟨vm1, vn1, km1, km2, hI1⟩, hP1, hK1, hD1⟩ := hB
  rw [ht] at hP1
  have hK1 := va_K.moved hvm.symm hK1
  obtain ⟨hPx, jmx⟩ := lg_step hPx (dj_symm jxm) hk1 hD1
  have jxm := dj_symm jmx
  obtain ⟨hPo, jmo⟩ := lg_step hPo jmo hk1 hD1
  have hD1 := hD1.weaken (fun _ _ _ h9 => hFc _ h9)
  clear hPm hDm hKm hFc hk1 hz1 hfs992
  have hIM := hI1; have hPm := hP1; have hDm := hD1; have hKm := hK1; clear hI1 hP1 hD1 hK1
  clear ht; generalize H1 = H at hPx hPm hPo hS ⊢
  refine lv_pop hx hb dL_law_995 rfl ?_
  refine lv_goto (tgt := 1941) hx hb dL_law_996 (by decide) ?_
  have hRn : lr_R tp vi1 vf1 vm1 vn1 := ⟨by rw [kx2 0 (by decide), km2 0 (by decide)]; exact hR.1, lr_keep (fun k9 h9 => kx1 k9 (kp_dis (by decide) h9)) (fun k9 h8 h9 => kx1 k9 (kp_out (a := 57) (b := 152) (by decide) h8 h9)) (fun k9 h9 => kx2 k9 (kp_dis (by decide) h9)) (fun k9 h8 h9 => kx2 k9 (kp_out (a := 23) (b := 61) (by decide) h8 h9)) (fun k9 h9 => km1 k9 (kp_dis (by decide) h9)) (fun k9 h9 => km2 k9 (kp_dis (by decide) h9)) hR.2⟩
  exact kk _ _ _ _ _ (Nat.le_add_right _ _) (Nat.le_add_right _ _) ⟨tp, _, _, _, _, _, _, _, _, _, hIX, hIM, hRn, hKx, hKm, hPx, hPm, hPo, hDx, hDm, hDo, jxm, jxo, jmo⟩ hS (lv_sub hl [0, 1, 2, 3, 4] rfl)

set_option maxHeartbeats 4000000 in
set_option maxRecDepth 100000 in
theorem lc_27 {p : Program} {l : Launch} {e : Env} {s : State} {m : MethodId} {below : List Frame} {meth : Method} {c : Code} {b L : Nat} {xs : Nat → Int32} {A : Nat → Prop} {dC : Nat → ClassId} {dI : Nat → Nat → Nat} (hl0 : l.stackTraces = false) (hL : L ≤ 3072) (hA : ∀ q, s.heap.size ≤ q → A q) (hA2 : ∀ q, A q → s.heap.size ≤ q) (C0 : lw_At p s m meth c b L xs) (sd : Nat → Nat) (sa : Nat) (hE : lg_E A sd sa s) (x mo oa : Nat) (ko : ClassId) (hKo : va_K (dC, dI) vwCl [(ko, .long)] s) (i : Int32) (hi0 : (0 : Int) ≤ i.toInt) (hi6 : i.toInt + 6 ≤ (L : Int)) {H : Heap} {locs : List Loc} {cells slots : Nat} (hc9 : cells + 1 ≤ 601024) (hs9 : slots + 6 ≤ 7293034) (hG : lg_S dC dI A s x mo oa ko H) (hS : va_S A s.heap H locs) {ls : Array Slot} (hl : lv_has ls 7 [(4, .int i), (3, .ref oa), (2, .ref mo), (1, .ref x), (0, .ref b)])
    (kk : ∀ (H : Heap) (locs : List Loc) (ls : Array Slot) (k9 n9 : Nat), k9 ≤ cells + 1 → n9 ≤ slots + 6 → lg_S dC dI A s x mo oa ko H → va_S A s.heap H locs → lv_has ls 7 [(4, .int i), (3, .ref oa), (2, .ref mo), (1, .ref x), (0, .ref b)] → W p l e room_1 s m #[Value.ref b] below meth c H locs k9 n9 (lw_Z below #[Value.ref b] s) (F0 m 1941 ls [])) : W p l e room_1 s m #[Value.ref b] below meth c H locs cells slots (lw_Z below #[Value.ref b] s) (F0 m 999 ls []) := by
  obtain ⟨hx, hb, hr, hml, hown0, htl, hX, hbl, hlocks, hgv⟩ := id C0
  have hown : s.vm.findClass RL = some m.cls := hown0
  have hts : ∀ w ∈ wlT, w.before #[Value.ref b] s = true := fun w h => htl w (wlT_in w h)
  have hbA : ¬ A b := fun h => absurd (hA2 b h) (Nat.not_le.mpr hbl)
  obtain ⟨tp, wx, wm, tx, tm, fo, vi, vf, vm, vn, hIX, hIM, hR, hKx, hKm, hPx, hPm, hPo, hDx, hDm, hDo, jxm, jxo, jmo⟩ := hG
  have hiM : i.toInt ≤ (3066 : Int) := by omega
  have hcc : cells ≤ 601024 := by omega
  have hss : slots ≤ 7293034 := by omega
  have htpb := ix_tp hIX
  have hMo := im_mo hIM
  refine lv_aload_n hx hb dL_law_999 rfl (lv_at hl 3 rfl) ?_
  refine lv_aload_n hx hb dL_law_1000 rfl (lv_at hl 4 rfl) ?_
  refine lv_iload hx hb dL_law_1001 (lv_at hl 0 rfl) ?_
  refine lv_iconst (v := 1) hx hb dL_law_1003 zk_iconst_1 ?_
  refine lv_iadd hx hb dL_law_1004 ?_
  refine lv_topi (fun ix1 eix1 => ?_)
  have qix1 : ix1.toInt = i.toInt + 1 := ai_add eix1 ⟨hi0, hiM⟩ ⟨zq1, zq0⟩ (by decide) (by decide)
  refine va_sld (L := L) (i := ix1) hx hb hX hbl hbA hS (vp_in_iff.mpr ⟨by omega, by omega⟩) dL_law_1005 ?_
  refine lv_topi (fun vix1 evix1 => ?_)
  refine lv_aload_n hx hb dL_law_1006 rfl (lv_at hl 4 rfl) ?_
  refine lv_iload hx hb dL_law_1007 (lv_at hl 0 rfl) ?_
  refine lv_iconst (v := 2) hx hb dL_law_1009 zk_iconst_2 ?_
  refine lv_iadd hx hb dL_law_1010 ?_
  refine lv_topi (fun ix2 eix2 => ?_)
  have qix2 : ix2.toInt = i.toInt + 2 := ai_add eix2 ⟨hi0, hiM⟩ ⟨zq12, zq13⟩ (by decide) (by decide)
  refine va_sld (L := L) (i := ix2) hx hb hX hbl hbA hS (vp_in_iff.mpr ⟨by omega, by omega⟩) dL_law_1011 ?_
  refine lv_topi (fun vix2 evix2 => ?_)
  have hFc := lg_free hDx hS hA
  obtain ⟨fs1012, hfs1012⟩ := ix_recv hIX
  refine va_calli (va_runV (As := [.int vix1, .int vix2]) (rest := []) ⟨hx, hb, hml, hown, hts⟩ (k_X7_route l dC dI H.size x tp vi vf wx tx hIX vix1 vix2) (cwV 2 hts gd_X7_route rfl rfl rfl (by decide +kernel) ⟨Nat.le_of_ble_eq_true rfl, Nat.le_of_ble_eq_true rfl⟩) ⟨ax_blind (fun _ _ _ _ hq => ⟨va_Nw.same rfl rfl (hq.1), va_Nw.same rfl rfl (hq.2.1), va_Nw.same rfl rfl (hq.2.2.1), va_Nw.same rfl rfl (hq.2.2.2)⟩), va_recv hKx hPx (ci := 7) (q0 := 0) rfl hfs1012, ax_preE hPx hKx hDx (fun U hU hW => ⟨va_Nw.warmM hW (hE.2.2.2.1), va_Nw.warmM hW (hE.2.2.1), va_Nw.warmM hW (hE.2.2.2.2.1), va_Nw.warmM hW (hE.2.2.2.2.2.1)⟩)⟩ rfl rfl hl.1 rfl (lv_room (Nat.le_of_ble_eq_true rfl)) dL_law_1012 ⟨hcc, hss⟩) hS (fun q _ h => hFc q h) hFc (fun r1012 u t H1 locs ht hvm hw1012 hB hz1 hk1 hS => ?_)
  obtain ⟨wxn, txn, ⟨vi1, vf1, kx1, kx2, hI1⟩, hP1, hK1, hD1⟩ := hB
  rw [ht] at hP1
  have hK1 := va_K.moved hvm.symm hK1
  obtain ⟨hPm, jxm⟩ := lg_step hPm jxm hk1 hD1
  obtain ⟨hPo, jxo⟩ := lg_step hPo jxo hk1 hD1
  have hD1 := hD1.weaken (fun _ _ _ h9 => hFc _ h9)
  clear hPx hDx hKx hFc hk1 hz1 hfs1012
  have hIX := hI1; have hPx := hP1; have hDx := hD1; have hKx := hK1; clear hI1 hP1 hD1 hK1
  clear ht; generalize H1 = H at hPx hPm hPo hS ⊢
  refine lv_pop hx hb dL_law_1015 rfl ?_
  refine lv_aload_n hx hb dL_law_1016 rfl (lv_at hl 2 rfl) ?_
  refine lv_aload_n hx hb dL_law_1017 rfl (lv_at hl 4 rfl) ?_
  refine lv_iload hx hb dL_law_1018 (lv_at hl 0 rfl) ?_
  refine lv_iconst (v := 1) hx hb dL_law_1020 zk_iconst_1 ?_
  refine lv_iadd hx hb dL_law_1021 ?_
  refine ax_ti ix1 eix1.symm ?_
  refine va_sld (L := L) (i := ix1) hx hb hX hbl hbA hS (vp_in_iff.mpr ⟨by omega, by omega⟩) dL_law_1022 ?_
  refine ax_ti vix1 evix1.symm ?_
  refine lv_aload_n hx hb dL_law_1023 rfl (lv_at hl 4 rfl) ?_
  refine lv_iload hx hb dL_law_1024 (lv_at hl 0 rfl) ?_
  refine lv_iconst (v := 2) hx hb dL_law_1026 zk_iconst_2 ?_
  refine lv_iadd hx hb dL_law_1027 ?_
  refine ax_ti ix2 eix2.symm ?_
  refine va_sld (L := L) (i := ix2) hx hb hX hbl hbA hS (vp_in_iff.mpr ⟨by omega, by omega⟩) dL_law_1028 ?_
  refine ax_ti vix2 evix2.symm ?_
  have hFc := lg_free hDm hS hA
  obtain ⟨fs1029, hfs1029⟩ := im_recv hIM
  refine va_calli (va_runV (As := [.int vix1, .int vix2]) (rest := []) ⟨hx, hb, hml, hown, hts⟩ (k_X8_route l dC dI H.size mo tp vm vn wm tm hIM vix1 vix2) (cwV 2 hts gd_X8_route rfl rfl rfl (by decide +kernel) ⟨Nat.le_of_ble_eq_true rfl, Nat.le_of_ble_eq_true rfl⟩) ⟨ax_blind (fun _ _ _ _ _ => trivial), va_recv hKm hPm (ci := 8) (q0 := 0) rfl hfs1029, ax_preE hPm hKm hDm (fun _ _ _ => trivial)⟩ rfl rfl hl.1 rfl (lv_room (Nat.le_of_ble_eq_true rfl)) dL_law_1029 ⟨hcc, hss⟩) hS (fun q _ h => hFc q h) hFc (fun r1029 u t H1 locs ht hvm hw1029 hB hz1 hk1 hS => ?_)
  obtain ⟨wmn, tmn, ⟨vm1, vn1, km1, km2, hI1⟩, hP1, hK1, hD1⟩ := hB
  rw [ht] at hP1
  have hK1 := va_K.moved hvm.symm hK1
  obtain ⟨hPx, jmx⟩ := lg_step hPx (dj_symm jxm) hk1 hD1
  have jxm := dj_symm jmx
  obtain ⟨hPo, jmo⟩ := lg_step hPo jmo hk1 hD1
  have hD1 := hD1.weaken (fun _ _ _ h9 => hFc _ h9)
  clear hPm hDm hKm hFc hk1 hz1 hfs1029
  have hIM := hI1; have hPm := hP1; have hDm := hD1; have hKm := hK1; clear hI1 hP1 hD1 hK1
  clear ht; generalize H1 = H at hPx hPm hPo hS ⊢
  refine lv_pop hx hb dL_law_1032 rfl ?_
  refine lv_goto (tgt := 1941) hx hb dL_law_1033 (by decide) ?_
  have hRn : lr_R tp vi1 vf1 vm1 vn1 := ⟨by rw [kx2 0 (by decide), km2 0 (by decide)]; exact hR.1, lr_keep (fun k9 h9 => kx1 k9 (kp_dis (by decide) h9)) (fun k9 h8 h9 => kx1 k9 (kp_out (a := 57) (b := 152) (by decide) h8 h9)) (fun k9 h9 => kx2 k9 (kp_dis (by decide) h9)) (fun k9 h8 h9 => kx2 k9 (kp_out (a := 23) (b := 61) (by decide) h8 h9)) (fun k9 h9 => km1 k9 (kp_dis (by decide) h9)) (fun k9 h9 => km2 k9 (kp_dis (by decide) h9)) hR.2⟩
  exact kk _ _ _ _ _ (Nat.le_add_right _ _) (Nat.le_add_right _ _) ⟨tp, _, _, _, _, _, _, _, _, _, hIX, hIM, hRn, hKx, hKm, hPx, hPm, hPo, hDx, hDm, hDo, jxm, jxo, jmo⟩ hS (lv_sub hl [0, 1, 2, 3, 4] rfl)

set_option maxHeartbeats 4000000 in
set_option maxRecDepth 100000 in
theorem lc_28 {p : Program} {l : Launch} {e : Env} {s : State} {m : MethodId} {below : List Frame} {meth : Method} {c : Code} {b L : Nat} {xs : Nat → Int32} {A : Nat → Prop} {dC : Nat → ClassId} {dI : Nat → Nat → Nat} (hl0 : l.stackTraces = false) (hL : L ≤ 3072) (hA : ∀ q, s.heap.size ≤ q → A q) (hA2 : ∀ q, A q → s.heap.size ≤ q) (C0 : lw_At p s m meth c b L xs) (sd : Nat → Nat) (sa : Nat) (hE : lg_E A sd sa s) (x mo oa : Nat) (ko : ClassId) (hKo : va_K (dC, dI) vwCl [(ko, .long)] s) (i : Int32) (hi0 : (0 : Int) ≤ i.toInt) (hi6 : i.toInt + 6 ≤ (L : Int)) {H : Heap} {locs : List Loc} {cells slots : Nat} (hc9 : cells + 1 ≤ 601024) (hs9 : slots + 6 ≤ 7293034) (hG : lg_S dC dI A s x mo oa ko H) (hS : va_S A s.heap H locs) {ls : Array Slot} (hl : lv_has ls 7 [(4, .int i), (3, .ref oa), (2, .ref mo), (1, .ref x), (0, .ref b)])
    (kk : ∀ (H : Heap) (locs : List Loc) (ls : Array Slot) (k9 n9 : Nat), k9 ≤ cells + 1 → n9 ≤ slots + 6 → lg_S dC dI A s x mo oa ko H → va_S A s.heap H locs → lv_has ls 7 [(4, .int i), (3, .ref oa), (2, .ref mo), (1, .ref x), (0, .ref b)] → W p l e room_1 s m #[Value.ref b] below meth c H locs k9 n9 (lw_Z below #[Value.ref b] s) (F0 m 1941 ls [])) : W p l e room_1 s m #[Value.ref b] below meth c H locs cells slots (lw_Z below #[Value.ref b] s) (F0 m 1036 ls []) := by
  obtain ⟨hx, hb, hr, hml, hown0, htl, hX, hbl, hlocks, hgv⟩ := id C0
  have hown : s.vm.findClass RL = some m.cls := hown0
  have hts : ∀ w ∈ wlT, w.before #[Value.ref b] s = true := fun w h => htl w (wlT_in w h)
  have hbA : ¬ A b := fun h => absurd (hA2 b h) (Nat.not_le.mpr hbl)
  obtain ⟨tp, wx, wm, tx, tm, fo, vi, vf, vm, vn, hIX, hIM, hR, hKx, hKm, hPx, hPm, hPo, hDx, hDm, hDo, jxm, jxo, jmo⟩ := hG
  have hiM : i.toInt ≤ (3066 : Int) := by omega
  have hcc : cells ≤ 601024 := by omega
  have hss : slots ≤ 7293034 := by omega
  have htpb := ix_tp hIX
  have hMo := im_mo hIM
  refine lv_aload_n hx hb dL_law_1036 rfl (lv_at hl 3 rfl) ?_
  refine lv_aload_n hx hb dL_law_1037 rfl (lv_at hl 4 rfl) ?_
  refine lv_iload hx hb dL_law_1038 (lv_at hl 0 rfl) ?_
  refine lv_iconst (v := 1) hx hb dL_law_1040 zk_iconst_1 ?_
  refine lv_iadd hx hb dL_law_1041 ?_
  refine lv_topi (fun ix1 eix1 => ?_)
  have qix1 : ix1.toInt = i.toInt + 1 := ai_add eix1 ⟨hi0, hiM⟩ ⟨zq1, zq0⟩ (by decide) (by decide)
  refine va_sld (L := L) (i := ix1) hx hb hX hbl hbA hS (vp_in_iff.mpr ⟨by omega, by omega⟩) dL_law_1042 ?_
  refine lv_topi (fun vix1 evix1 => ?_)
  refine lv_aload_n hx hb dL_law_1043 rfl (lv_at hl 4 rfl) ?_
  refine lv_iload hx hb dL_law_1044 (lv_at hl 0 rfl) ?_
  refine lv_iconst (v := 2) hx hb dL_law_1046 zk_iconst_2 ?_
  refine lv_iadd hx hb dL_law_1047 ?_
  refine lv_topi (fun ix2 eix2 => ?_)
  have qix2 : ix2.toInt = i.toInt + 2 := ai_add eix2 ⟨hi0, hiM⟩ ⟨zq12, zq13⟩ (by decide) (by decide)
  refine va_sld (L := L) (i := ix2) hx hb hX hbl hbA hS (vp_in_iff.mpr ⟨by omega, by omega⟩) dL_law_1048 ?_
  refine lv_topi (fun vix2 evix2 => ?_)
  refine lv_aload_n hx hb dL_law_1049 rfl (lv_at hl 4 rfl) ?_
  refine lv_iload hx hb dL_law_1050 (lv_at hl 0 rfl) ?_
  refine lv_iconst (v := 3) hx hb dL_law_1052 zk_iconst_3 ?_
  refine lv_iadd hx hb dL_law_1053 ?_
  refine lv_topi (fun ix3 eix3 => ?_)
  have qix3 : ix3.toInt = i.toInt + 3 := ai_add eix3 ⟨hi0, hiM⟩ ⟨zq8, zq9⟩ (by decide) (by decide)
  refine va_sld (L := L) (i := ix3) hx hb hX hbl hbA hS (vp_in_iff.mpr ⟨by omega, by omega⟩) dL_law_1054 ?_
  refine lv_topi (fun vix3 evix3 => ?_)
  have hFc := lg_free hDx hS hA
  obtain ⟨fs1055, hfs1055⟩ := ix_recv hIX
  refine va_calli (va_runV (As := [.int vix1, .int vix2, .int vix3]) (rest := []) ⟨hx, hb, hml, hown, hts⟩ (k_X7_routeAt l dC dI H.size x tp vi vf wx tx hIX vix1 vix2 vix3) (cwV 3 hts gd_X7_routeAt rfl rfl rfl (by decide +kernel) ⟨Nat.le_of_ble_eq_true rfl, Nat.le_of_ble_eq_true rfl⟩) ⟨ax_blind (fun _ _ _ _ hq => ⟨va_Nw.same rfl rfl (hq.1), va_Nw.same rfl rfl (hq.2.1), va_Nw.same rfl rfl (hq.2.2.1), va_Nw.same rfl rfl (hq.2.2.2)⟩), va_recv hKx hPx (ci := 7) (q0 := 0) rfl hfs1055, ax_preE hPx hKx hDx (fun U hU hW => ⟨va_Nw.warmM hW (hE.2.2.2.1), va_Nw.warmM hW (hE.2.2.1), va_Nw.warmM hW (hE.2.2.2.2.1), va_Nw.warmM hW (hE.2.2.2.2.2.1)⟩)⟩ rfl rfl hl.1 rfl (lv_room (Nat.le_of_ble_eq_true rfl)) dL_law_1055 ⟨hcc, hss⟩) hS (fun q _ h => hFc q h) hFc (fun r1055 u t H1 locs ht hvm hw1055 hB hz1 hk1 hS => ?_)
  obtain ⟨wxn, txn, ⟨vi1, vf1, kx1, kx2, hI1⟩, hP1, hK1, hD1⟩ := hB
  rw [ht] at hP1
  have hK1 := va_K.moved hvm.symm hK1
  obtain ⟨hPm, jxm⟩ := lg_step hPm jxm hk1 hD1
  obtain ⟨hPo, jxo⟩ := lg_step hPo jxo hk1 hD1
  have hD1 := hD1.weaken (fun _ _ _ h9 => hFc _ h9)
  clear hPx hDx hKx hFc hk1 hz1 hfs1055
  have hIX := hI1; have hPx := hP1; have hDx := hD1; have hKx := hK1; clear hI1 hP1 hD1 hK1
  clear ht; generalize H1 = H at hPx hPm hPo hS ⊢
  refine lv_pop hx hb dL_law_1058 rfl ?_
  refine lv_aload_n hx hb dL_law_1059 rfl (lv_at hl 2 rfl) ?_
  refine lv_aload_n hx hb dL_law_1060 rfl (lv_at hl 4 rfl) ?_
  refine lv_iload hx hb dL_law_1061 (lv_at hl 0 rfl) ?_
  refine lv_iconst (v := 1) hx hb dL_law_1063 zk_iconst_1 ?_
  refine lv_iadd hx hb dL_law_1064 ?_
  refine ax_ti ix1 eix1.symm ?_
  refine va_sld (L := L) (i := ix1) hx hb hX hbl hbA hS (vp_in_iff.mpr ⟨by omega, by omega⟩) dL_law_1065 ?_
  refine ax_ti vix1 evix1.symm ?_
  refine lv_aload_n hx hb dL_law_1066 rfl (lv_at hl 4 rfl) ?_
  refine lv_iload hx hb dL_law_1067 (lv_at hl 0 rfl) ?_
  refine lv_iconst (v := 2) hx hb dL_law_1069 zk_iconst_2 ?_
  refine lv_iadd hx hb dL_law_1070 ?_
  refine ax_ti ix2 eix2.symm ?_
  refine va_sld (L := L) (i := ix2) hx hb hX hbl hbA hS (vp_in_iff.mpr ⟨by omega, by omega⟩) dL_law_1071 ?_
  refine ax_ti vix2 evix2.symm ?_
  refine lv_aload_n hx hb dL_law_1072 rfl (lv_at hl 4 rfl) ?_
  refine lv_iload hx hb dL_law_1073 (lv_at hl 0 rfl) ?_
  refine lv_iconst (v := 3) hx hb dL_law_1075 zk_iconst_3 ?_
  refine lv_iadd hx hb dL_law_1076 ?_
  refine ax_ti ix3 eix3.symm ?_
  refine va_sld (L := L) (i := ix3) hx hb hX hbl hbA hS (vp_in_iff.mpr ⟨by omega, by omega⟩) dL_law_1077 ?_
  refine ax_ti vix3 evix3.symm ?_
  have hFc := lg_free hDm hS hA
  obtain ⟨fs1078, hfs1078⟩ := im_recv hIM
  refine va_calli (va_runV (As := [.int vix1, .int vix2, .int vix3]) (rest := []) ⟨hx, hb, hml, hown, hts⟩ (k_X8_routeAt l dC dI H.size mo tp vm vn wm tm hIM vix1 vix2 vix3) (cwV 3 hts gd_X8_routeAt rfl rfl rfl (by decide +kernel) ⟨Nat.le_of_ble_eq_true rfl, Nat.le_of_ble_eq_true rfl⟩) ⟨ax_blind (fun _ _ _ _ _ => trivial), va_recv hKm hPm (ci := 8) (q0 := 0) rfl hfs1078, ax_preE hPm hKm hDm (fun _ _ _ => trivial)⟩ rfl rfl hl.1 rfl (lv_room (Nat.le_of_ble_eq_true rfl)) dL_law_1078 ⟨hcc, hss⟩) hS (fun q _ h => hFc q h) hFc (fun r1078 u t H1 locs ht hvm hw1078 hB hz1 hk1 hS => ?_)
  obtain ⟨wmn, tmn, ⟨vm1, vn1, km1, km2, hI1⟩, hP1, hK1, hD1⟩ := hB
  rw [ht] at hP1
  have hK1 := va_K.moved hvm.symm hK1
  obtain ⟨hPx, jmx⟩ := lg_step hPx (dj_symm jxm) hk1 hD1
  have jxm := dj_symm jmx
  obtain ⟨hPo, jmo⟩ := lg_step hPo jmo hk1 hD1
  have hD1 := hD1.weaken (fun _ _ _ h9 => hFc _ h9)
  clear hPm hDm hKm hFc hk1 hz1 hfs1078
  have hIM := hI1; have hPm := hP1; have hDm := hD1; have hKm := hK1; clear hI1 hP1 hD1 hK1
  clear ht; generalize H1 = H at hPx hPm hPo hS ⊢
  refine lv_pop hx hb dL_law_1081 rfl ?_
  refine lv_goto (tgt := 1941) hx hb dL_law_1082 (by decide) ?_
  have hRn : lr_R tp vi1 vf1 vm1 vn1 := ⟨by rw [kx2 0 (by decide), km2 0 (by decide)]; exact hR.1, lr_keep (fun k9 h9 => kx1 k9 (kp_dis (by decide) h9)) (fun k9 h8 h9 => kx1 k9 (kp_out (a := 57) (b := 152) (by decide) h8 h9)) (fun k9 h9 => kx2 k9 (kp_dis (by decide) h9)) (fun k9 h8 h9 => kx2 k9 (kp_out (a := 23) (b := 61) (by decide) h8 h9)) (fun k9 h9 => km1 k9 (kp_dis (by decide) h9)) (fun k9 h9 => km2 k9 (kp_dis (by decide) h9)) hR.2⟩
  exact kk _ _ _ _ _ (Nat.le_add_right _ _) (Nat.le_add_right _ _) ⟨tp, _, _, _, _, _, _, _, _, _, hIX, hIM, hRn, hKx, hKm, hPx, hPm, hPo, hDx, hDm, hDo, jxm, jxo, jmo⟩ hS (lv_sub hl [0, 1, 2, 3, 4] rfl)

set_option maxHeartbeats 4000000 in
set_option maxRecDepth 100000 in
theorem lc_29 {p : Program} {l : Launch} {e : Env} {s : State} {m : MethodId} {below : List Frame} {meth : Method} {c : Code} {b L : Nat} {xs : Nat → Int32} {A : Nat → Prop} {dC : Nat → ClassId} {dI : Nat → Nat → Nat} (hl0 : l.stackTraces = false) (hL : L ≤ 3072) (hA : ∀ q, s.heap.size ≤ q → A q) (hA2 : ∀ q, A q → s.heap.size ≤ q) (C0 : lw_At p s m meth c b L xs) (sd : Nat → Nat) (sa : Nat) (hE : lg_E A sd sa s) (x mo oa : Nat) (ko : ClassId) (hKo : va_K (dC, dI) vwCl [(ko, .long)] s) (i : Int32) (hi0 : (0 : Int) ≤ i.toInt) (hi6 : i.toInt + 6 ≤ (L : Int)) {H : Heap} {locs : List Loc} {cells slots : Nat} (hc9 : cells + 1 ≤ 601024) (hs9 : slots + 6 ≤ 7293034) (hG : lg_S dC dI A s x mo oa ko H) (hS : va_S A s.heap H locs) {ls : Array Slot} (hl : lv_has ls 7 [(4, .int i), (3, .ref oa), (2, .ref mo), (1, .ref x), (0, .ref b)])
    (kk : ∀ (H : Heap) (locs : List Loc) (ls : Array Slot) (k9 n9 : Nat), k9 ≤ cells + 1 → n9 ≤ slots + 6 → lg_S dC dI A s x mo oa ko H → va_S A s.heap H locs → lv_has ls 7 [(4, .int i), (3, .ref oa), (2, .ref mo), (1, .ref x), (0, .ref b)] → W p l e room_1 s m #[Value.ref b] below meth c H locs k9 n9 (lw_Z below #[Value.ref b] s) (F0 m 1941 ls [])) : W p l e room_1 s m #[Value.ref b] below meth c H locs cells slots (lw_Z below #[Value.ref b] s) (F0 m 1085 ls []) := by
  obtain ⟨hx, hb, hr, hml, hown0, htl, hX, hbl, hlocks, hgv⟩ := id C0
  have hown : s.vm.findClass RL = some m.cls := hown0
  have hts : ∀ w ∈ wlT, w.before #[Value.ref b] s = true := fun w h => htl w (wlT_in w h)
  have hbA : ¬ A b := fun h => absurd (hA2 b h) (Nat.not_le.mpr hbl)
  obtain ⟨tp, wx, wm, tx, tm, fo, vi, vf, vm, vn, hIX, hIM, hR, hKx, hKm, hPx, hPm, hPo, hDx, hDm, hDo, jxm, jxo, jmo⟩ := hG
  have hiM : i.toInt ≤ (3066 : Int) := by omega
  have hcc : cells ≤ 601024 := by omega
  have hss : slots ≤ 7293034 := by omega
  have htpb := ix_tp hIX
  have hMo := im_mo hIM
  refine lv_aload_n hx hb dL_law_1085 rfl (lv_at hl 3 rfl) ?_
  refine lv_aload_n hx hb dL_law_1086 rfl (lv_at hl 4 rfl) ?_
  refine lv_iload hx hb dL_law_1087 (lv_at hl 0 rfl) ?_
  refine lv_iconst (v := 1) hx hb dL_law_1089 zk_iconst_1 ?_
  refine lv_iadd hx hb dL_law_1090 ?_
  refine lv_topi (fun ix1 eix1 => ?_)
  have qix1 : ix1.toInt = i.toInt + 1 := ai_add eix1 ⟨hi0, hiM⟩ ⟨zq1, zq0⟩ (by decide) (by decide)
  refine va_sld (L := L) (i := ix1) hx hb hX hbl hbA hS (vp_in_iff.mpr ⟨by omega, by omega⟩) dL_law_1091 ?_
  refine lv_topi (fun vix1 evix1 => ?_)
  have hFc := lg_free hDx hS hA
  obtain ⟨fs1092, hfs1092⟩ := ix_recv hIX
  refine va_calli (va_runV (As := [.int vix1]) (rest := []) ⟨hx, hb, hml, hown, hts⟩ (k_X7_stand l dC dI H.size x tp vi vf wx tx hIX vix1) (cwV 1 hts gd_X7_stand rfl rfl rfl (by decide +kernel) ⟨Nat.le_of_ble_eq_true rfl, Nat.le_of_ble_eq_true rfl⟩) ⟨ax_blind (fun _ _ _ _ hq => ⟨va_Nw.same rfl rfl (hq.1), va_Nw.same rfl rfl (hq.2.1), va_Nw.same rfl rfl (hq.2.2.1), va_Nw.same rfl rfl (hq.2.2.2)⟩), va_recv hKx hPx (ci := 7) (q0 := 0) rfl hfs1092, ax_preE hPx hKx hDx (fun U hU hW => ⟨va_Nw.warmM hW (hE.2.2.2.1), va_Nw.warmM hW (hE.2.2.1), va_Nw.warmM hW (hE.2.2.2.2.1), va_Nw.warmM hW (hE.2.2.2.2.2.1)⟩)⟩ rfl rfl hl.1 rfl (lv_room (Nat.le_of_ble_eq_true rfl)) dL_law_1092 ⟨hcc, hss⟩) hS (fun q _ h => hFc q h) hFc (fun r1092 u t H1 locs ht hvm hw1092 hB hz1 hk1 hS => ?_)
  obtain ⟨wxn, txn, ⟨vi1, vf1, kx1, kx2, hI1⟩, hP1, hK1, hD1⟩ := hB
  rw [ht] at hP1
  have hK1 := va_K.moved hvm.symm hK1
  obtain ⟨hPm, jxm⟩ := lg_step hPm jxm hk1 hD1
  obtain ⟨hPo, jxo⟩ := lg_step hPo jxo hk1 hD1
  have hD1 := hD1.weaken (fun _ _ _ h9 => hFc _ h9)
  clear hPx hDx hKx hFc hk1 hz1 hfs1092
  have hIX := hI1; have hPx := hP1; have hDx := hD1; have hKx := hK1; clear hI1 hP1 hD1 hK1
  clear ht; generalize H1 = H at hPx hPm hPo hS ⊢
  refine lv_pop hx hb dL_law_1095 rfl ?_
  refine lv_aload_n hx hb dL_law_1096 rfl (lv_at hl 2 rfl) ?_
  refine lv_aload_n hx hb dL_law_1097 rfl (lv_at hl 4 rfl) ?_
  refine lv_iload hx hb dL_law_1098 (lv_at hl 0 rfl) ?_
  refine lv_iconst (v := 1) hx hb dL_law_1100 zk_iconst_1 ?_
  refine lv_iadd hx hb dL_law_1101 ?_
  refine ax_ti ix1 eix1.symm ?_
  refine va_sld (L := L) (i := ix1) hx hb hX hbl hbA hS (vp_in_iff.mpr ⟨by omega, by omega⟩) dL_law_1102 ?_
  refine ax_ti vix1 evix1.symm ?_
  have hFc := lg_free hDm hS hA
  obtain ⟨fs1103, hfs1103⟩ := im_recv hIM
  refine va_calli (va_runV (As := [.int vix1]) (rest := []) ⟨hx, hb, hml, hown, hts⟩ (k_X8_stand l dC dI H.size mo tp vm vn wm tm hIM vix1) (cwV 1 hts gd_X8_stand rfl rfl rfl (by decide +kernel) ⟨Nat.le_of_ble_eq_true rfl, Nat.le_of_ble_eq_true rfl⟩) ⟨ax_blind (fun _ _ _ _ _ => trivial), va_recv hKm hPm (ci := 8) (q0 := 0) rfl hfs1103, ax_preE hPm hKm hDm (fun _ _ _ => trivial)⟩ rfl rfl hl.1 rfl (lv_room (Nat.le_of_ble_eq_true rfl)) dL_law_1103 ⟨hcc, hss⟩) hS (fun q _ h => hFc q h) hFc (fun r1103 u t H1 locs ht hvm hw1103 hB hz1 hk1 hS => ?_)
  obtain ⟨wmn, tmn, ⟨vm1, vn1, km1, km2, hI1⟩, hP1, hK1, hD1⟩ := hB
  rw [ht] at hP1
  have hK1 := va_K.moved hvm.symm hK1
  obtain ⟨hPx, jmx⟩ := lg_step hPx (dj_symm jxm) hk1 hD1
  have jxm := dj_symm jmx
  obtain ⟨hPo, jmo⟩ := lg_step hPo jmo hk1 hD1
  have hD1 := hD1.weaken (fun _ _ _ h9 => hFc _ h9)
  clear hPm hDm hKm hFc hk1 hz1 hfs1103
  have hIM := hI1; have hPm := hP1; have hDm := hD1; have hKm := hK1; clear hI1 hP1 hD1 hK1
  clear ht; generalize H1 = H at hPx hPm hPo hS ⊢
  refine lv_pop hx hb dL_law_1106 rfl ?_
  refine lv_goto (tgt := 1941) hx hb dL_law_1107 (by decide) ?_
  have hRn : lr_R tp vi1 vf1 vm1 vn1 := ⟨by rw [kx2 0 (by decide), km2 0 (by decide)]; exact hR.1, lr_keep (fun k9 h9 => kx1 k9 (kp_dis (by decide) h9)) (fun k9 h8 h9 => kx1 k9 (kp_out (a := 57) (b := 152) (by decide) h8 h9)) (fun k9 h9 => kx2 k9 (kp_dis (by decide) h9)) (fun k9 h8 h9 => kx2 k9 (kp_out (a := 23) (b := 61) (by decide) h8 h9)) (fun k9 h9 => km1 k9 (kp_dis (by decide) h9)) (fun k9 h9 => km2 k9 (kp_dis (by decide) h9)) hR.2⟩
  exact kk _ _ _ _ _ (Nat.le_add_right _ _) (Nat.le_add_right _ _) ⟨tp, _, _, _, _, _, _, _, _, _, hIX, hIM, hRn, hKx, hKm, hPx, hPm, hPo, hDx, hDm, hDo, jxm, jxo, jmo⟩ hS (lv_sub hl [0, 1, 2, 3, 4] rfl)
end P443_cases_1
