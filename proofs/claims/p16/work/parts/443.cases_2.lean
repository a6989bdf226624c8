section P443_cases_2
set_option maxHeartbeats 4000000 in
set_option maxRecDepth 100000 in
theorem lc_30 {p : Program} {l : Launch} {e : Env} {s : State} {m : MethodId} {below : List Frame} {meth : Method} {c : Code} {b L : Nat} {xs : Nat → Int32} {A : Nat → Prop} {dC : Nat → ClassId} {dI : Nat → Nat → Nat} (hl0 : l.stackTraces = false) (hL : L ≤ 3072) (hA : ∀ q, s.heap.size ≤ q → A q) (hA2 : ∀ q, A q → s.heap.size ≤ q) (C0 : lw_At p s m meth c b L xs) (sd : Nat → Nat) (sa : Nat) (hE : lg_E A sd sa s) (x mo oa : Nat) (ko : ClassId) (hKo : va_K (dC, dI) vwCl [(ko, .long)] s) (i : Int32) (hi0 : (0 : Int) ≤ i.toInt) (hi6 : i.toInt + 6 ≤ (L : Int)) {H : Heap} {locs : List Loc} {cells slots : Nat} (hc9 : cells + 1 ≤ 601024) (hs9 : slots + 6 ≤ 7293034) (hG : lg_S dC dI A s x mo oa ko H) (hS : va_S A s.heap H locs) {ls : Array Slot} (hl : lv_has ls 7 [(4, .int i), (3, .ref oa), (2, .ref mo), (1, .ref x), (0, .ref b)])
    (kk : ∀ (H : Heap) (locs : List Loc) (ls : Array Slot) (k9 n9 : Nat), k9 ≤ cells + 1 → n9 ≤ slots + 6 → lg_S dC dI A s x mo oa ko H → va_S A s.heap H locs → lv_has ls 7 [(4, .int i), (3, .ref oa), (2, .ref mo), (1, .ref x), (0, .ref b)] → W p l e room_1 s m #[Value.ref b] below meth c H locs k9 n9 (lw_Z below #[Value.ref b] s) (F0 m 1941 ls [])) : W p l e room_1 s m #[Value.ref b] below meth c H locs cells slots (lw_Z below #[Value.ref b] s) (F0 m 1110 ls []) := by
  obtain ⟨hx, hb, hr, hml, hown0, htl, hX, hbl, hlocks, hgv⟩ := id C0
  have hown : s.vm.findClass RL = some m.cls := hown0
  have hts : ∀ w ∈ wlT, w.before #[Value.ref b] s = true := fun w h => htl w (wlT_in w h)
  have hbA : ¬ A b := fun h => absurd (hA2 b h) (Nat.not_le.mpr hbl)
  obtain ⟨tp, wx, wm, tx, tm, fo, vi, vf, vm, vn, hIX, hIM, hR, hKx, hKm, hPx, hPm, hPo, hDx, hDm, hDo, jxm, jxo, jmo⟩ := hG
  have hiM : i.toInt ≤ (3066 : Int) := by omega
  have hcc : cells ≤ 601024 := by omega
  have hss : slots ≤ 7293034 := by omega
  have htpb := ix_tp hIX
  have hMo := im_mo hIM
  refine lv_aload_n hx hb dL_law_1110 rfl (lv_at hl 3 rfl) ?_
  refine lv_aload_n hx hb dL_law_1111 rfl (lv_at hl 4 rfl) ?_
  refine lv_iload hx hb dL_law_1112 (lv_at hl 0 rfl) ?_
  refine lv_iconst (v := 1) hx hb dL_law_1114 zk_iconst_1 ?_
  refine lv_iadd hx hb dL_law_1115 ?_
  refine lv_topi (fun ix1 eix1 => ?_)
  have qix1 : ix1.toInt = i.toInt + 1 := ai_add eix1 ⟨hi0, hiM⟩ ⟨zq1, zq0⟩ (by decide) (by decide)
  refine va_sld (L := L) (i := ix1) hx hb hX hbl hbA hS (vp_in_iff.mpr ⟨by omega, by omega⟩) dL_law_1116 ?_
  refine lv_topi (fun vix1 evix1 => ?_)
  have hFc := lg_free hDx hS hA
  obtain ⟨fs1117, hfs1117⟩ := ix_recv hIX
  refine va_calli (va_runV (As := [.int vix1]) (rest := []) ⟨hx, hb, hml, hown, hts⟩ (k_X7_guard l dC dI H.size x tp vi vf wx tx hIX vix1) (cwV 1 hts gd_X7_guard rfl rfl rfl (by decide +kernel) ⟨Nat.le_of_ble_eq_true rfl, Nat.le_of_ble_eq_true rfl⟩) ⟨ax_blind (fun _ _ _ _ hq => ⟨va_Nw.same rfl rfl (hq.1), va_Nw.same rfl rfl (hq.2.1), va_Nw.same rfl rfl (hq.2.2)⟩), va_recv hKx hPx (ci := 7) (q0 := 0) rfl hfs1117, ax_preE hPx hKx hDx (fun U hU hW => ⟨va_Nw.warmM hW (hE.2.2.2.1), va_Nw.warmM hW (hE.2.2.1), va_Nw.warmM hW (hE.2.2.2.2.1)⟩)⟩ rfl rfl hl.1 rfl (lv_room (Nat.le_of_ble_eq_true rfl)) dL_law_1117 ⟨hcc, hss⟩) hS (fun q _ h => hFc q h) hFc (fun r1117 u t H1 locs ht hvm hw1117 hB hz1 hk1 hS => ?_)
  obtain ⟨wxn, txn, ⟨vi1, vf1, kx1, kx2, hI1⟩, hP1, hK1, hD1⟩ := hB
  rw [ht] at hP1
  have hK1 := va_K.moved hvm.symm hK1
  obtain ⟨hPm, jxm⟩ := lg_step hPm jxm hk1 hD1
  obtain ⟨hPo, jxo⟩ := lg_step hPo jxo hk1 hD1
  have hD1 := hD1.weaken (fun _ _ _ h9 => hFc _ h9)
  clear hPx hDx hKx hFc hk1 hz1 hfs1117
  have hIX := hI1; have hPx := hP1; have hDx := hD1; have hKx := hK1; clear hI1 hP1 hD1 hK1
  clear ht; generalize H1 = H at hPx hPm hPo hS ⊢
  refine lv_pop hx hb dL_law_1120 rfl ?_
  refine lv_aload_n hx hb dL_law_1121 rfl (lv_at hl 2 rfl) ?_
  refine lv_aload_n hx hb dL_law_1122 rfl (lv_at hl 4 rfl) ?_
  refine lv_iload hx hb dL_law_1123 (lv_at hl 0 rfl) ?_
  refine lv_iconst (v := 1) hx hb dL_law_1125 zk_iconst_1 ?_
  refine lv_iadd hx hb dL_law_1126 ?_
  refine ax_ti ix1 eix1.symm ?_
  refine va_sld (L := L) (i := ix1) hx hb hX hbl hbA hS (vp_in_iff.mpr ⟨by omega, by omega⟩) dL_law_1127 ?_
  refine ax_ti vix1 evix1.symm ?_
  have hFc := lg_free hDm hS hA
  obtain ⟨fs1128, hfs1128⟩ := im_recv hIM
  refine va_calli (va_runV (As := [.int vix1]) (rest := []) ⟨hx, hb, hml, hown, hts⟩ (k_X8_guard l dC dI H.size mo tp vm vn wm tm hIM vix1) (cwV 1 hts gd_X8_guard rfl rfl rfl (by decide +kernel) ⟨Nat.le_of_ble_eq_true rfl, Nat.le_of_ble_eq_true rfl⟩) ⟨ax_blind (fun _ _ _ _ _ => trivial), va_recv hKm hPm (ci := 8) (q0 := 0) rfl hfs1128, ax_preE hPm hKm hDm (fun _ _ _ => trivial)⟩ rfl rfl hl.1 rfl (lv_room (Nat.le_of_ble_eq_true rfl)) dL_law_1128 ⟨hcc, hss⟩) hS (fun q _ h => hFc q h) hFc (fun r1128 u t H1 locs ht hvm hw1128 hB hz1 hk1 hS => ?_)
  obtain ⟨wmn, tmn, ⟨vm1, vn1, km1, km2, hI1⟩, hP1, hK1, hD1⟩ := hB
  rw [ht] at hP1
  have hK1 := va_K.moved hvm.symm hK1
  obtain ⟨hPx, jmx⟩ := lg_step hPx (dj_symm jxm) hk1 hD1
  have jxm := dj_symm jmx
  obtain ⟨hPo, jmo⟩ := lg_step hPo jmo hk1 hD1
  have hD1 := hD1.weaken (fun _ _ _ h9 => hFc _ h9)
  clear hPm hDm hKm hFc hk1 hz1 hfs1128
  have hIM := hI1; have hPm := hP1; have hDm := hD1; have hKm := hK1; clear hI1 hP1 hD1 hK1
  clear ht; generalize H1 = H at hPx hPm hPo hS ⊢
  refine lv_pop hx hb dL_law_1131 rfl ?_
  refine lv_goto (tgt := 1941) hx hb dL_law_1132 (by decide) ?_
  have hRn : lr_R tp vi1 vf1 vm1 vn1 := ⟨by rw [kx2 0 (by decide), km2 0 (by decide)]; exact hR.1, lr_keep (fun k9 h9 => kx1 k9 (kp_dis (by decide) h9)) (fun k9 h8 h9 => kx1 k9 (kp_out (a := 57) (b := 152) (by decide) h8 h9)) (fun k9 h9 => kx2 k9 (kp_dis (by decide) h9)) (fun k9 h8 h9 => kx2 k9 (kp_out (a := 23) (b := 61) (by decide) h8 h9)) (fun k9 h9 => km1 k9 (kp_dis (by decide) h9)) (fun k9 h9 => km2 k9 (kp_dis (by decide) h9)) hR.2⟩
  exact kk _ _ _ _ _ (Nat.le_add_right _ _) (Nat.le_add_right _ _) ⟨tp, _, _, _, _, _, _, _, _, _, hIX, hIM, hRn, hKx, hKm, hPx, hPm, hPo, hDx, hDm, hDo, jxm, jxo, jmo⟩ hS (lv_sub hl [0, 1, 2, 3, 4] rfl)

set_option maxHeartbeats 4000000 in
set_option maxRecDepth 100000 in
theorem lc_31 {p : Program} {l : Launch} {e : Env} {s : State} {m : MethodId} {below : List Frame} {meth : Method} {c : Code} {b L : Nat} {xs : Nat → Int32} {A : Nat → Prop} {dC : Nat → ClassId} {dI : Nat → Nat → Nat} (hl0 : l.stackTraces = false) (hL : L ≤ 3072) (hA : ∀ q, s.heap.size ≤ q → A q) (hA2 : ∀ q, A q → s.heap.size ≤ q) (C0 : lw_At p s m meth c b L xs) (sd : Nat → Nat) (sa : Nat) (hE : lg_E A sd sa s) (x mo oa : Nat) (ko : ClassId) (hKo : va_K (dC, dI) vwCl [(ko, .long)] s) (i : Int32) (hi0 : (0 : Int) ≤ i.toInt) (hi6 : i.toInt + 6 ≤ (L : Int)) {H : Heap} {locs : List Loc} {cells slots : Nat} (hc9 : cells + 1 ≤ 601024) (hs9 : slots + 6 ≤ 7293034) (hG : lg_S dC dI A s x mo oa ko H) (hS : va_S A s.heap H locs) {ls : Array Slot} (hl : lv_has ls 7 [(4, .int i), (3, .ref oa), (2, .ref mo), (1, .ref x), (0, .ref b)])
    (kk : ∀ (H : Heap) (locs : List Loc) (ls : Array Slot) (k9 n9 : Nat), k9 ≤ cells + 1 → n9 ≤ slots + 6 → lg_S dC dI A s x mo oa ko H → va_S A s.heap H locs → lv_has ls 7 [(4, .int i), (3, .ref oa), (2, .ref mo), (1, .ref x), (0, .ref b)] → W p l e room_1 s m #[Value.ref b] below meth c H locs k9 n9 (lw_Z below #[Value.ref b] s) (F0 m 1941 ls [])) : W p l e room_1 s m #[Value.ref b] below meth c H locs cells slots (lw_Z below #[Value.ref b] s) (F0 m 1135 ls []) := by
  obtain ⟨hx, hb, hr, hml, hown0, htl, hX, hbl, hlocks, hgv⟩ := id C0
  have hown : s.vm.findClass RL = some m.cls := hown0
  have hts : ∀ w ∈ wlT, w.before #[Value.ref b] s = true := fun w h => htl w (wlT_in w h)
  have hbA : ¬ A b := fun h => absurd (hA2 b h) (Nat.not_le.mpr hbl)
  obtain ⟨tp, wx, wm, tx, tm, fo, vi, vf, vm, vn, hIX, hIM, hR, hKx, hKm, hPx, hPm, hPo, hDx, hDm, hDo, jxm, jxo, jmo⟩ := hG
  have hiM : i.toInt ≤ (3066 : Int) := by omega
  have hcc : cells ≤ 601024 := by omega
  have hss : slots ≤ 7293034 := by omega
  have htpb := ix_tp hIX
  have hMo := im_mo hIM
  refine lv_aload_n hx hb dL_law_1135 rfl (lv_at hl 3 rfl) ?_
  have hFc := lg_free hDx hS hA
  obtain ⟨fs1136, hfs1136⟩ := ix_recv hIX
  refine va_calli (va_runV (As := []) (rest := []) ⟨hx, hb, hml, hown, hts⟩ (k_X7_windBest l dC dI H.size x tp vi vf wx tx hIX ) (cwV 0 hts gd_X7_windBest rfl rfl rfl (by decide +kernel) ⟨Nat.le_of_ble_eq_true rfl, Nat.le_of_ble_eq_true rfl⟩) ⟨ax_blind (fun _ _ _ _ hq => ⟨va_Nw.same rfl rfl (hq.1), va_Nw.same rfl rfl (hq.2.1), va_Nw.same rfl rfl (hq.2.2)⟩), va_recv hKx hPx (ci := 7) (q0 := 0) rfl hfs1136, ax_preE hPx hKx hDx (fun U hU hW => ⟨va_Nw.warmM hW (hE.2.2.2.1), va_Nw.warmM hW (hE.2.2.1), va_Nw.warmM hW (hE.2.2.2.2.1)⟩)⟩ rfl rfl hl.1 rfl (lv_room (Nat.le_of_ble_eq_true rfl)) dL_law_1136 ⟨hcc, hss⟩) hS (fun q _ h => hFc q h) hFc (fun r1136 u t H1 locs ht hvm hw1136 hB hz1 hk1 hS => ?_)
  obtain ⟨wxn, txn, ⟨vi1, vf1, kx1, kx2, hI1⟩, hP1, hK1, hD1⟩ := hB
  rw [ht] at hP1
  have hK1 := va_K.moved hvm.symm hK1
  obtain ⟨hPm, jxm⟩ := lg_step hPm jxm hk1 hD1
  obtain ⟨hPo, jxo⟩ := lg_step hPo jxo hk1 hD1
  have hD1 := hD1.weaken (fun _ _ _ h9 => hFc _ h9)
  clear hPx hDx hKx hFc hk1 hz1 hfs1136
  have hIX := hI1; have hPx := hP1; have hDx := hD1; have hKx := hK1; clear hI1 hP1 hD1 hK1
  clear ht; generalize H1 = H at hPx hPm hPo hS ⊢
  refine lv_pop hx hb dL_law_1139 rfl ?_
  refine lv_aload_n hx hb dL_law_1140 rfl (lv_at hl 2 rfl) ?_
  have hFc := lg_free hDm hS hA
  obtain ⟨fs1141, hfs1141⟩ := im_recv hIM
  refine va_calli (va_runV (As := []) (rest := []) ⟨hx, hb, hml, hown, hts⟩ (k_X8_windBest l dC dI H.size mo tp vm vn wm tm hIM ) (cwV 0 hts gd_X8_windBest rfl rfl rfl (by decide +kernel) ⟨Nat.le_of_ble_eq_true rfl, Nat.le_of_ble_eq_true rfl⟩) ⟨ax_blind (fun _ _ _ _ _ => trivial), va_recv hKm hPm (ci := 8) (q0 := 0) rfl hfs1141, ax_preE hPm hKm hDm (fun _ _ _ => trivial)⟩ rfl rfl hl.1 rfl (lv_room (Nat.le_of_ble_eq_true rfl)) dL_law_1141 ⟨hcc, hss⟩) hS (fun q _ h => hFc q h) hFc (fun r1141 u t H1 locs ht hvm hw1141 hB hz1 hk1 hS => ?_)
  obtain ⟨wmn, tmn, ⟨vm1, vn1, km1, km2, hI1⟩, hP1, hK1, hD1⟩ := hB
  rw [ht] at hP1
  have hK1 := va_K.moved hvm.symm hK1
  obtain ⟨hPx, jmx⟩ := lg_step hPx (dj_symm jxm) hk1 hD1
  have jxm := dj_symm jmx
  obtain ⟨hPo, jmo⟩ := lg_step hPo jmo hk1 hD1
  have hD1 := hD1.weaken (fun _ _ _ h9 => hFc _ h9)
  clear hPm hDm hKm hFc hk1 hz1 hfs1141
  have hIM := hI1; have hPm := hP1; have hDm := hD1; have hKm := hK1; clear hI1 hP1 hD1 hK1
  clear ht; generalize H1 = H at hPx hPm hPo hS ⊢
  refine lv_pop hx hb dL_law_1144 rfl ?_
  refine lv_goto (tgt := 1941) hx hb dL_law_1145 (by decide) ?_
  have hRn : lr_R tp vi1 vf1 vm1 vn1 := ⟨by rw [kx2 0 (by decide), km2 0 (by decide)]; exact hR.1, lr_keep (fun k9 h9 => kx1 k9 (kp_dis (by decide) h9)) (fun k9 h8 h9 => kx1 k9 (kp_out (a := 57) (b := 152) (by decide) h8 h9)) (fun k9 h9 => kx2 k9 (kp_dis (by decide) h9)) (fun k9 h8 h9 => kx2 k9 (kp_out (a := 23) (b := 61) (by decide) h8 h9)) (fun k9 h9 => km1 k9 (kp_dis (by decide) h9)) (fun k9 h9 => km2 k9 (kp_dis (by decide) h9)) hR.2⟩
  exact kk _ _ _ _ _ (Nat.le_add_right _ _) (Nat.le_add_right _ _) ⟨tp, _, _, _, _, _, _, _, _, _, hIX, hIM, hRn, hKx, hKm, hPx, hPm, hPo, hDx, hDm, hDo, jxm, jxo, jmo⟩ hS (lv_sub hl [0, 1, 2, 3, 4] rfl)

set_option maxHeartbeats 4000000 in
set_option maxRecDepth 100000 in
theorem lc_32 {p : Program} {l : Launch} {e : Env} {s : State} {m : MethodId} {below : List Frame} {meth : Method} {c : Code} {b L : Nat} {xs : Nat → Int32} {A : Nat → Prop} {dC : Nat → ClassId} {dI : Nat → Nat → Nat} (hl0 : l.stackTraces = false) (hL : L ≤ 3072) (hA : ∀ q, s.heap.size ≤ q → A q) (hA2 : ∀ q, A q → s.heap.size ≤ q) (C0 : lw_At p s m meth c b L xs) (sd : Nat → Nat) (sa : Nat) (hE : lg_E A sd sa s) (x mo oa : Nat) (ko : ClassId) (hKo : va_K (dC, dI) vwCl [(ko, .long)] s) (i : Int32) (hi0 : (0 : Int) ≤ i.toInt) (hi6 : i.toInt + 6 ≤ (L : Int)) {H : Heap} {locs : List Loc} {cells slots : Nat} (hc9 : cells + 1 ≤ 601024) (hs9 : slots + 6 ≤ 7293034) (hG : lg_S dC dI A s x mo oa ko H) (hS : va_S A s.heap H locs) {ls : Array Slot} (hl : lv_has ls 7 [(4, .int i), (3, .ref oa), (2, .ref mo), (1, .ref x), (0, .ref b)])
    (kk : ∀ (H : Heap) (locs : List Loc) (ls : Array Slot) (k9 n9 : Nat), k9 ≤ cells + 1 → n9 ≤ slots + 6 → lg_S dC dI A s x mo oa ko H → va_S A s.heap H locs → lv_has ls 7 [(4, .int i), (3, .ref oa), (2, .ref mo), (1, .ref x), (0, .ref b)] → W p l e room_1 s m #[Value.ref b] below meth c H locs k9 n9 (lw_Z below #[Value.ref b] s) (F0 m 1941 ls [])) : W p l e room_1 s m #[Value.ref b] below meth c H locs cells slots (lw_Z below #[Value.ref b] s) (F0 m 1148 ls []) := by
  obtain ⟨hx, hb, hr, hml, hown0, htl, hX, hbl, hlocks, hgv⟩ := id C0
  have hown : s.vm.findClass RL = some m.cls := hown0
  have hts : ∀ w ∈ wlT, w.before #[Value.ref b] s = true := fun w h => htl w (wlT_in w h)
  have hbA : ¬ A b := fun h => absurd (hA2 b h) (Nat.not_le.mpr hbl)
  obtain ⟨tp, wx, wm, tx, tm, fo, vi, vf, vm, vn, hIX, hIM, hR, hKx, hKm, hPx, hPm, hPo, hDx, hDm, hDo, jxm, jxo, jmo⟩ := hG
  have hiM : i.toInt ≤ (3066 : Int) := by omega
  have hcc : cells ≤ 601024 := by omega
  have hss : slots ≤ 7293034 := by omega
  have htpb := ix_tp hIX
  have hMo := im_mo hIM
  refine lv_aload_n hx hb dL_law_1148 rfl (lv_at hl 3 rfl) ?_
  refine lv_aload_n hx hb dL_law_1149 rfl (lv_at hl 4 rfl) ?_
  refine lv_iload hx hb dL_law_1150 (lv_at hl 0 rfl) ?_
  refine lv_iconst (v := 1) hx hb dL_law_1152 zk_iconst_1 ?_
  refine lv_iadd hx hb dL_law_1153 ?_
  refine lv_topi (fun ix1 eix1 => ?_)
  have qix1 : ix1.toInt = i.toInt + 1 := ai_add eix1 ⟨hi0, hiM⟩ ⟨zq1, zq0⟩ (by decide) (by decide)
  refine va_sld (L := L) (i := ix1) hx hb hX hbl hbA hS (vp_in_iff.mpr ⟨by omega, by omega⟩) dL_law_1154 ?_
  refine lv_topi (fun vix1 evix1 => ?_)
  refine lv_aload_n hx hb dL_law_1155 rfl (lv_at hl 4 rfl) ?_
  refine lv_iload hx hb dL_law_1156 (lv_at hl 0 rfl) ?_
  refine lv_iconst (v := 2) hx hb dL_law_1158 zk_iconst_2 ?_
  refine lv_iadd hx hb dL_law_1159 ?_
  refine lv_topi (fun ix2 eix2 => ?_)
  have qix2 : ix2.toInt = i.toInt + 2 := ai_add eix2 ⟨hi0, hiM⟩ ⟨zq12, zq13⟩ (by decide) (by decide)
  refine va_sld (L := L) (i := ix2) hx hb hX hbl hbA hS (vp_in_iff.mpr ⟨by omega, by omega⟩) dL_law_1160 ?_
  refine lv_topi (fun vix2 evix2 => ?_)
  have hFc := lg_free hDx hS hA
  obtain ⟨fs1161, hfs1161⟩ := ix_recv hIX
  refine va_calli (va_runV (As := [.int vix1, .int vix2]) (rest := []) ⟨hx, hb, hml, hown, hts⟩ (k_X7_patrol l dC dI H.size x tp vi vf wx tx hIX vix1 vix2) (cwV 2 hts gd_X7_patrol rfl rfl rfl (by decide +kernel) ⟨Nat.le_of_ble_eq_true rfl, Nat.le_of_ble_eq_true rfl⟩) ⟨ax_blind (fun _ _ _ _ hq => ⟨va_Nw.same rfl rfl (hq.1), va_Nw.same rfl rfl (hq.2.1), va_Nw.same rfl rfl (hq.2.2)⟩), va_recv hKx hPx (ci := 7) (q0 := 0) rfl hfs1161, ax_preE hPx hKx hDx (fun U hU hW => ⟨va_Nw.warmM hW (hE.2.2.2.1), va_Nw.warmM hW (hE.2.2.1), va_Nw.warmM hW (hE.2.2.2.2.1)⟩)⟩ rfl rfl hl.1 rfl (lv_room (Nat.le_of_ble_eq_true rfl)) dL_law_1161 ⟨hcc, hss⟩) hS (fun q _ h => hFc q h) hFc (fun r1161 u t H1 locs ht hvm hw1161 hB hz1 hk1 hS => ?_)
  obtain ⟨wxn, txn, ⟨vi1, vf1, kx1, kx2, hI1⟩, hP1, hK1, hD1⟩ := hB
  rw [ht] at hP1
  have hK1 := va_K.moved hvm.symm hK1
  obtain ⟨hPm, jxm⟩ := lg_step hPm jxm hk1 hD1
  obtain ⟨hPo, jxo⟩ := lg_step hPo jxo hk1 hD1
  have hD1 := hD1.weaken (fun _ _ _ h9 => hFc _ h9)
  clear hPx hDx hKx hFc hk1 hz1 hfs1161
  have hIX := hI1; have hPx := hP1; have hDx := hD1; have hKx := hK1; clear hI1 hP1 hD1 hK1
  clear ht; generalize H1 = H at hPx hPm hPo hS ⊢
  refine lv_pop hx hb dL_law_1164 rfl ?_
  refine lv_aload_n hx hb dL_law_1165 rfl (lv_at hl 2 rfl) ?_
  refine lv_aload_n hx hb dL_law_1166 rfl (lv_at hl 4 rfl) ?_
  refine lv_iload hx hb dL_law_1167 (lv_at hl 0 rfl) ?_
  refine lv_iconst (v := 1) hx hb dL_law_1169 zk_iconst_1 ?_
  refine lv_iadd hx hb dL_law_1170 ?_
  refine ax_ti ix1 eix1.symm ?_
  refine va_sld (L := L) (i := ix1) hx hb hX hbl hbA hS (vp_in_iff.mpr ⟨by omega, by omega⟩) dL_law_1171 ?_
  refine ax_ti vix1 evix1.symm ?_
  refine lv_aload_n hx hb dL_law_1172 rfl (lv_at hl 4 rfl) ?_
  refine lv_iload hx hb dL_law_1173 (lv_at hl 0 rfl) ?_
  refine lv_iconst (v := 2) hx hb dL_law_1175 zk_iconst_2 ?_
  refine lv_iadd hx hb dL_law_1176 ?_
  refine ax_ti ix2 eix2.symm ?_
  refine va_sld (L := L) (i := ix2) hx hb hX hbl hbA hS (vp_in_iff.mpr ⟨by omega, by omega⟩) dL_law_1177 ?_
  refine ax_ti vix2 evix2.symm ?_
  have hFc := lg_free hDm hS hA
  obtain ⟨fs1178, hfs1178⟩ := im_recv hIM
  refine va_calli (va_runV (As := [.int vix1, .int vix2]) (rest := []) ⟨hx, hb, hml, hown, hts⟩ (k_X8_patrol l dC dI H.size mo tp vm vn wm tm hIM vix1 vix2) (cwV 2 hts gd_X8_patrol rfl rfl rfl (by decide +kernel) ⟨Nat.le_of_ble_eq_true rfl, Nat.le_of_ble_eq_true rfl⟩) ⟨ax_blind (fun _ _ _ _ _ => trivial), va_recv hKm hPm (ci := 8) (q0 := 0) rfl hfs1178, ax_preE hPm hKm hDm (fun _ _ _ => trivial)⟩ rfl rfl hl.1 rfl (lv_room (Nat.le_of_ble_eq_true rfl)) dL_law_1178 ⟨hcc, hss⟩) hS (fun q _ h => hFc q h) hFc (fun r1178 u t H1 locs ht hvm hw1178 hB hz1 hk1 hS => ?_)
  obtain ⟨wmn, tmn, ⟨vm1, vn1, km1, km2, hI1⟩, hP1, hK1, hD1⟩ := hB
  rw [ht] at hP1
  have hK1 := va_K.moved hvm.symm hK1
  obtain ⟨hPx, jmx⟩ := lg_step hPx (dj_symm jxm) hk1 hD1
  have jxm := dj_symm jmx
  obtain ⟨hPo, jmo⟩ := lg_step hPo jmo hk1 hD1
  have hD1 := hD1.weaken (fun _ _ _ h9 => hFc _ h9)
  clear hPm hDm hKm hFc hk1 hz1 hfs1178
  have hIM := hI1; have hPm := hP1; have hDm := hD1; have hKm := hK1; clear hI1 hP1 hD1 hK1
  clear ht; generalize H1 = H at hPx hPm hPo hS ⊢
  refine lv_pop hx hb dL_law_1181 rfl ?_
  refine lv_goto (tgt := 1941) hx hb dL_law_1182 (by decide) ?_
  have hRn : lr_R tp vi1 vf1 vm1 vn1 := ⟨by rw [kx2 0 (by decide), km2 0 (by decide)]; exact hR.1, lr_keep (fun k9 h9 => kx1 k9 (kp_dis (by decide) h9)) (fun k9 h8 h9 => kx1 k9 (kp_out (a := 57) (b := 152) (by decide) h8 h9)) (fun k9 h9 => kx2 k9 (kp_dis (by decide) h9)) (fun k9 h8 h9 => kx2 k9 (kp_out (a := 23) (b := 61) (by decide) h8 h9)) (fun k9 h9 => km1 k9 (kp_dis (by decide) h9)) (fun k9 h9 => km2 k9 (kp_dis (by decide) h9)) hR.2⟩
  exact kk _ _ _ _ _ (Nat.le_add_right _ _) (Nat.le_add_right _ _) ⟨tp, _, _, _, _, _, _, _, _, _, hIX, hIM, hRn, hKx, hKm, hPx, hPm, hPo, hDx, hDm, hDo, jxm, jxo, jmo⟩ hS (lv_sub hl [0, 1, 2, 3, 4] rfl)

set_option maxHeartbeats 4000000 in
set_option maxRecDepth 100000 in
theorem lc_33 {p : Program} {l : Launch} {e : Env} {s : State} {m : MethodId} {below : List Frame} {meth : Method} {c : Code} {b L : Nat} {xs : Nat → Int32} {A : Nat → Prop} {dC : Nat → ClassId} {dI : Nat → Nat → Nat} (hl0 : l.stackTraces = false) (hL : L ≤ 3072) (hA : ∀ q, s.heap.size ≤ q → A q) (hA2 : ∀ q, A q → s.heap.size ≤ q) (C0 : lw_At p s m meth c b L xs) (sd : Nat → Nat) (sa : Nat) (hE : lg_E A sd sa s) (x mo oa : Nat) (ko : ClassId) (hKo : va_K (dC, dI) vwCl [(ko, .long)] s) (i : Int32) (hi0 : (0 : Int) ≤ i.toInt) (hi6 : i.toInt + 6 ≤ (L : Int)) {H : Heap} {locs : List Loc} {cells slots : Nat} (hc9 : cells + 1 ≤ 601024) (hs9 : slots + 6 ≤ 7293034) (hG : lg_S dC dI A s x mo oa ko H) (hS : va_S A s.heap H locs) {ls : Array Slot} (hl : lv_has ls 7 [(4, .int i), (3, .ref oa), (2, .ref mo), (1, .ref x), (0, .ref b)])
    (kk : ∀ (H : Heap) (locs : List Loc) (ls : Array Slot) (k9 n9 : Nat), k9 ≤ cells + 1 → n9 ≤ slots + 6 → lg_S dC dI A s x mo oa ko H → va_S A s.heap H locs → lv_has ls 7 [(4, .int i), (3, .ref oa), (2, .ref mo), (1, .ref x), (0, .ref b)] → W p l e room_1 s m #[Value.ref b] below meth c H locs k9 n9 (lw_Z below #[Value.ref b] s) (F0 m 1941 ls [])) : W p l e room_1 s m #[Value.ref b] below meth c H locs cells slots (lw_Z below #[Value.ref b] s) (F0 m 1185 ls []) := by
  obtain ⟨hx, hb, hr, hml, hown0, htl, hX, hbl, hlocks, hgv⟩ := id C0
  have hown : s.vm.findClass RL = some m.cls := hown0
  have hts : ∀ w ∈ wlT, w.before #[Value.ref b] s = true := fun w h => htl w (wlT_in w h)
  have hbA : ¬ A b := fun h => absurd (hA2 b h) (Nat.not_le.mpr hbl)
  obtain ⟨tp, wx, wm, tx, tm, fo, vi, vf, vm, vn, hIX, hIM, hR, hKx, hKm, hPx, hPm, hPo, hDx, hDm, hDo, jxm, jxo, jmo⟩ := hG
  have hiM : i.toInt ≤ (3066 : Int) := by omega
  have hcc : cells ≤ 601024 := by omega
  have hss : slots ≤ 7293034 := by omega
  have htpb := ix_tp hIX
  have hMo := im_mo hIM
  refine lv_aload_n hx hb dL_law_1185 rfl (lv_at hl 3 rfl) ?_
  have hFc := lg_free hDx hS hA
  obtain ⟨fs1186, hfs1186⟩ := ix_recv hIX
  refine va_calli (va_runV (As := []) (rest := []) ⟨hx, hb, hml, hown, hts⟩ (k_X7_fits l dC dI H.size x tp vi vf wx tx hIX ) (cwV 0 hts gd_X7_fits rfl rfl rfl (by decide +kernel) ⟨Nat.le_of_ble_eq_true rfl, Nat.le_of_ble_eq_true rfl⟩) ⟨ax_blind (fun _ _ _ _ hq => va_Nw.same rfl rfl (hq)), va_recv hKx hPx (ci := 7) (q0 := 0) rfl hfs1186, ax_preE hPx hKx hDx (fun U hU hW => va_Nw.warmM hW (hE.2.2.2.2.2.2.1))⟩ rfl rfl hl.1 rfl (lv_room (Nat.le_of_ble_eq_true rfl)) dL_law_1186 ⟨hcc, hss⟩) hS (fun q _ h => hFc q h) hFc (fun r1186 u t H1 locs ht hvm hw1186 hB hz1 hk1 hS => ?_)
  obtain ⟨wxn, txn, ⟨vi1, vf1, kx1, kx2, hI1⟩, hP1, hK1, hD1⟩ := hB
  rw [ht] at hP1
  have hK1 := va_K.moved hvm.symm hK1
  obtain ⟨hPm, jxm⟩ := lg_step hPm jxm hk1 hD1
  obtain ⟨hPo, jxo⟩ := lg_step hPo jxo hk1 hD1
  have hD1 := hD1.weaken (fun _ _ _ h9 => hFc _ h9)
  clear hPx hDx hKx hFc hk1 hz1 hfs1186
  have hIX := hI1; have hPx := hP1; have hDx := hD1; have hKx := hK1; clear hI1 hP1 hD1 hK1
  clear ht; generalize H1 = H at hPx hPm hPo hS ⊢
  refine lv_pop hx hb dL_law_1189 rfl ?_
  refine lv_aload_n hx hb dL_law_1190 rfl (lv_at hl 2 rfl) ?_
  have hFc := lg_free hDm hS hA
  obtain ⟨fs1191, hfs1191⟩ := im_recv hIM
  refine va_calli (va_runV (As := []) (rest := []) ⟨hx, hb, hml, hown, hts⟩ (k_X8_fits l dC dI H.size mo tp vm vn wm tm hIM ) (cwV 0 hts gd_X8_fits rfl rfl rfl (by decide +kernel) ⟨Nat.le_of_ble_eq_true rfl, Nat.le_of_ble_eq_true rfl⟩) ⟨ax_blind (fun _ _ _ _ _ => trivial), va_recv hKm hPm (ci := 8) (q0 := 0) rfl hfs1191, ax_preE hPm hKm hDm (fun _ _ _ => trivial)⟩ rfl rfl hl.1 rfl (lv_room (Nat.le_of_ble_eq_true rfl)) dL_law_1191 ⟨hcc, hss⟩) hS (fun q _ h => hFc q h) hFc (fun r1191 u t H1 locs ht hvm hw1191 hB hz1 hk1 hS => ?_)
  obtain ⟨wmn, tmn, ⟨vm1, vn1, km1, km2, hI1⟩, hP1, hK1, hD1⟩ := hB
  rw [ht] at hP1
  have hK1 := va_K.moved hvm.symm hK1
  obtain ⟨hPx, jmx⟩ := lg_step hPx (dj_symm jxm) hk1 hD1
  have jxm := dj_symm jmx
  obtain ⟨hPo, jmo⟩ := lg_step hPo jmo hk1 hD1
  have hD1 := hD1.weaken (fun _ _ _ h9 => hFc _ h9)
  clear hPm hDm hKm hFc hk1 hz1 hfs1191
  have hIM := hI1; have hPm := hP1; have hDm := hD1; have hKm := hK1; clear hI1 hP1 hD1 hK1
  clear ht; generalize H1 = H at hPx hPm hPo hS ⊢
  refine lv_pop hx hb dL_law_1194 rfl ?_
  refine lv_goto (tgt := 1941) hx hb dL_law_1195 (by decide) ?_
  have hRn : lr_R tp vi1 vf1 vm1 vn1 := ⟨by rw [kx2 0 (by decide), km2 0 (by decide)]; exact hR.1, lr_keep (fun k9 h9 => kx1 k9 (kp_dis (by decide) h9)) (fun k9 h8 h9 => kx1 k9 (kp_out (a := 57) (b := 152) (by decide) h8 h9)) (fun k9 h9 => kx2 k9 (kp_dis (by decide) h9)) (fun k9 h8 h9 => kx2 k9 (kp_out (a := 23) (b := 61) (by decide) h8 h9)) (fun k9 h9 => km1 k9 (kp_dis (by decide) h9)) (fun k9 h9 => km2 k9 (kp_dis (by decide) h9)) hR.2⟩
  exact kk _ _ _ _ _ (Nat.le_add_right _ _) (Nat.le_add_right _ _) ⟨tp, _, _, _, _, _, _, _, _, _, hIX, hIM, hRn, hKx, hKm, hPx, hPm, hPo, hDx, hDm, hDo, jxm, jxo, jmo⟩ hS (lv_sub hl [0, 1, 2, 3, 4] rfl)

set_option maxHeartbeats 4000000 in
set_option maxRecDepth 100000 in
theorem lc_34 {p : Program} {l : Launch} {e : Env} {s : State} {m : MethodId} {below : List Frame} {meth : Method} {c : Code} {b L : Nat} {xs : Nat → Int32} {A : Nat → Prop} {dC : Nat → ClassId} {dI : Nat → Nat → Nat} (hl0 : l.stackTraces = false) (hL : L ≤ 3072) (hA : ∀ q, s.heap.size ≤ q → A q) (hA2 : ∀ q, A q → s.heap.size ≤ q) (C0 : lw_At p s m meth c b L xs) (sd : Nat → Nat) (sa : Nat) (hE : lg_E A sd sa s) (x mo oa : Nat) (ko : ClassId) (hKo : va_K (dC, dI) vwCl [(ko, .long)] s) (i : Int32) (hi0 : (0 : Int) ≤ i.toInt) (hi6 : i.toInt + 6 ≤ (L : Int)) {H : Heap} {locs : List Loc} {cells slots : Nat} (hc9 : cells + 1 ≤ 601024) (hs9 : slots + 6 ≤ 7293034) (hG : lg_S dC dI A s x mo oa ko H) (hS : va_S A s.heap H locs) {ls : Array Slot} (hl : lv_has ls 7 [(4, .int i), (3, .ref oa), (2, .ref mo), (1, .ref x), (0, .ref b)])
    (kk : ∀ (H : Heap) (locs : List Loc) (ls : Array Slot) (k9 n9 : Nat), k9 ≤ cells + 1 → n9 ≤ slots + 6 → lg_S dC dI A s x mo oa ko H → va_S A s.heap H locs → lv_has ls 7 [(4, .int i), (3, .ref oa), (2, .ref mo), (1, .ref x), (0, .ref b)] → W p l e room_1 s m #[Value.ref b] below meth c H locs k9 n9 (lw_Z below #[Value.ref b] s) (F0 m 1941 ls [])) : W p l e room_1 s m #[Value.ref b] below meth c H locs cells slots (lw_Z below #[Value.ref b] s) (F0 m 1198 ls []) := by
  obtain ⟨hx, hb, hr, hml, hown0, htl, hX, hbl, hlocks, hgv⟩ := id C0
  have hown : s.vm.findClass RL = some m.cls := hown0
  have hts : ∀ w ∈ wlT, w.before #[Value.ref b] s = true := fun w h => htl w (wlT_in w h)
  have hbA : ¬ A b := fun h => absurd (hA2 b h) (Nat.not_le.mpr hbl)
  obtain ⟨tp, wx, wm, tx, tm, fo, vi, vf, vm, vn, hIX, hIM, hR, hKx, hKm, hPx, hPm, hPo, hDx, hDm, hDo, jxm, jxo, jmo⟩ := hG
  have hiM : i.toInt ≤ (3066 : Int) := by omega
  have hcc : cells ≤ 601024 := by omega
  have hss : slots ≤ 7293034 := by omega
  have htpb := ix_tp hIX
  have hMo := im_mo hIM
  refine lv_aload_n hx hb dL_law_1198 rfl (lv_at hl 3 rfl) ?_
  refine lv_aload_n hx hb dL_law_1199 rfl (lv_at hl 4 rfl) ?_
  refine lv_iload hx hb dL_law_1200 (lv_at hl 0 rfl) ?_
  refine lv_iconst (v := 1) hx hb dL_law_1202 zk_iconst_1 ?_
  refine lv_iadd hx hb dL_law_1203 ?_
  refine lv_topi (fun ix1 eix1 => ?_)
  have qix1 : ix1.toInt = i.toInt + 1 := ai_add eix1 ⟨hi0, hiM⟩ ⟨zq1, zq0⟩ (by decide) (by decide)
  refine va_sld (L := L) (i := ix1) hx hb hX hbl hbA hS (vp_in_iff.mpr ⟨by omega, by omega⟩) dL_law_1204 ?_
  refine lv_topi (fun vix1 evix1 => ?_)
  have hFc := lg_free hDx hS hA
  obtain ⟨fs1205, hfs1205⟩ := ix_recv hIX
  refine va_calli (va_runV (As := [.int vix1]) (rest := []) ⟨hx, hb, hml, hown, hts⟩ (k_X7_fitAt l dC dI H.size x tp vi vf wx tx hIX vix1) (cwV 1 hts gd_X7_fitAt rfl rfl rfl (by decide +kernel) ⟨Nat.le_of_ble_eq_true rfl, Nat.le_of_ble_eq_true rfl⟩) ⟨ax_blind (fun _ _ _ _ hq => va_Nw.same rfl rfl (hq)), va_recv hKx hPx (ci := 7) (q0 := 0) rfl hfs1205, ax_preE hPx hKx hDx (fun U hU hW => va_Nw.warmM hW (hE.2.2.2.2.2.2.1))⟩ rfl rfl hl.1 rfl (lv_room (Nat.le_of_ble_eq_true rfl)) dL_law_1205 ⟨hcc, hss⟩) hS (fun q _ h => hFc q h) hFc (fun r1205 u t H1 locs ht hvm hw1205 hB hz1 hk1 hS => ?_)
  obtain ⟨wxn, txn, ⟨vi1, vf1, kx1, kx2, hI1⟩, hP1, hK1, hD1⟩ := hB
  rw [ht] at hP1
  have hK1 := va_K.moved hvm.symm hK1
  obtain ⟨hPm, jxm⟩ := lg_step hPm jxm hk1 hD1
  obtain ⟨hPo, jxo⟩ := lg_step hPo jxo hk1 hD1
  have hD1 := hD1.weaken (fun _ _ _ h9 => hFc _ h9)
  clear hPx hDx hKx hFc hk1 hz1 hfs1205
  have hIX := hI1; have hPx := hP1; have hDx := hD1; have hKx := hK1; clear hI1 hP1 hD1 hK1
  clear ht; generalize H1 = H at hPx hPm hPo hS ⊢
  refine lv_pop hx hb dL_law_1208 rfl ?_
  refine lv_aload_n hx hb dL_law_1209 rfl (lv_at hl 2 rfl) ?_
  refine lv_aload_n hx hb dL_law_1210 rfl (lv_at hl 4 rfl) ?_
  refine lv_iload hx hb dL_law_1211 (lv_at hl 0 rfl) ?_
  refine lv_iconst (v := 1) hx hb dL_law_1213 zk_iconst_1 ?_
  refine lv_iadd hx hb dL_law_1214 ?_
  refine ax_ti ix1 eix1.symm ?_
  refine va_sld (L := L) (i := ix1) hx hb hX hbl hbA hS (vp_in_iff.mpr ⟨by omega, by omega⟩) dL_law_1215 ?_
  refine ax_ti vix1 evix1.symm ?_
  have hFc := lg_free hDm hS hA
  obtain ⟨fs1216, hfs1216⟩ := im_recv hIM
  refine va_calli (va_runV (As := [.int vix1]) (rest := []) ⟨hx, hb, hml, hown, hts⟩ (k_X8_fitAt l dC dI H.size mo tp vm vn wm tm hIM vix1) (cwV 1 hts gd_X8_fitAt rfl rfl rfl (by decide +kernel) ⟨Nat.le_of_ble_eq_true rfl, Nat.le_of_ble_eq_true rfl⟩) ⟨ax_blind (fun _ _ _ _ _ => trivial), va_recv hKm hPm (ci := 8) (q0 := 0) rfl hfs1216, ax_preE hPm hKm hDm (fun _ _ _ => trivial)⟩ rfl rfl hl.1 rfl (lv_room (Nat.le_of_ble_eq_true rfl)) dL_law_1216 ⟨hcc, hss⟩) hS (fun q _ h => hFc q h) hFc (fun r1216 u t H1 locs ht hvm hw1216 hB hz1 hk1 hS => ?_)
  obtain ⟨wmn, tmn, ⟨vm1, vn1, km1, km2, hI1⟩, hP1, hK1, hD1⟩ := hB
  rw [ht] at hP1
  have hK1 := va_K.moved hvm.symm hK1
  obtain ⟨hPx, jmx⟩ := lg_step hPx (dj_symm jxm) hk1 hD1
  have jxm := dj_symm jmx
  obtain ⟨hPo, jmo⟩ := lg_step hPo jmo hk1 hD1
  have hD1 := hD1.weaken (fun _ _ _ h9 => hFc _ h9)
  clear hPm hDm hKm hFc hk1 hz1 hfs1216
  have hIM := hI1; have hPm := hP1; have hDm := hD1; have hKm := hK1; clear hI1 hP1 hD1 hK1
  clear ht; generalize H1 = H at hPx hPm hPo hS ⊢
  refine lv_pop hx hb dL_law_1219 rfl ?_
  refine lv_goto (tgt := 1941) hx hb dL_law_1220 (by decide) ?_
  have hRn : lr_R tp vi1 vf1 vm1 vn1 := ⟨by rw [kx2 0 (by decide), km2 0 (by decide)]; exact hR.1, lr_keep (fun k9 h9 => kx1 k9 (kp_dis (by decide) h9)) (fun k9 h8 h9 => kx1 k9 (kp_out (a := 57) (b := 152) (by decide) h8 h9)) (fun k9 h9 => kx2 k9 (kp_dis (by decide) h9)) (fun k9 h8 h9 => kx2 k9 (kp_out (a := 23) (b := 61) (by decide) h8 h9)) (fun k9 h9 => km1 k9 (kp_dis (by decide) h9)) (fun k9 h9 => km2 k9 (kp_dis (by decide) h9)) hR.2⟩
  exact kk _ _ _ _ _ (Nat.le_add_right _ _) (Nat.le_add_right _ _) ⟨tp, _, _, _, _, _, _, _, _, _, hIX, hIM, hRn, hKx, hKm, hPx, hPm, hPo, hDx, hDm, hDo, jxm, jxo, jmo⟩ hS (lv_sub hl [0, 1, 2, 3, 4] rfl)

set_option maxHeartbeats 4000000 in
set_option maxRecDepth 100000 in
theorem lc_35 {p : Program} {l : Launch} {e : Env} {s : State} {m : MethodId} {below : List Frame} {meth : Method} {c : Code} {b L : Nat} {xs : Nat → Int32} {A : Nat → Prop} {dC : Nat → ClassId} {dI : Nat → Nat → Nat} (hl0 : l.stackTraces = false) (hL : L ≤ 3072) (hA : ∀ q, s.heap.size ≤ q → A q) (hA2 : ∀ q, A q → s.heap.size ≤ q) (C0 : lw_At p s m meth c b L xs) (sd : Nat → Nat) (sa : Nat) (hE : lg_E A sd sa s) (x mo oa : Nat) (ko : ClassId) (hKo : va_K (dC, dI) vwCl [(ko, .long)] s) (i : Int32) (hi0 : (0 : Int) ≤ i.toInt) (hi6 : i.toInt + 6 ≤ (L : Int)) {H : Heap} {locs : List Loc} {cells slots : Nat} (hc9 : cells + 1 ≤ 601024) (hs9 : slots + 6 ≤ 7293034) (hG : lg_S dC dI A s x mo oa ko H) (hS : va_S A s.heap H locs) {ls : Array Slot} (hl : lv_has ls 7 [(4, .int i), (3, .ref oa), (2, .ref mo), (1, .ref x), (0, .ref b)])
    (kk : ∀ (H : Heap) (locs : List Loc) (ls : Array Slot) (k9 n9 : Nat), k9 ≤ cells + 1 → n9 ≤ slots + 6 → lg_S dC dI A s x mo oa ko H → va_S A s.heap H locs → lv_has ls 7 [(4, .int i), (3, .ref oa), (2, .ref mo), (1, .ref x), (0, .ref b)] → W p l e room_1 s m #[Value.ref b] below meth c H locs k9 n9 (lw_Z below #[Value.ref b] s) (F0 m 1941 ls [])) : W p l e room_1 s m #[Value.ref b] below meth c H locs cells slots (lw_Z below #[Value.ref b] s) (F0 m 1223 ls []) := by
  obtain ⟨hx, hb, hr, hml, hown0, htl, hX, hbl, hlocks, hgv⟩ := id C0
  have hown : s.vm.findClass RL = some m.cls := hown0
  have hts : ∀ w ∈ wlT, w.before #[Value.ref b] s = true := fun w h => htl w (wlT_in w h)
  have hbA : ¬ A b := fun h => absurd (hA2 b h) (Nat.not_le.mpr hbl)
  obtain ⟨tp, wx, wm, tx, tm, fo, vi, vf, vm, vn, hIX, hIM, hR, hKx, hKm, hPx, hPm, hPo, hDx, hDm, hDo, jxm, jxo, jmo⟩ := hG
  have hiM : i.toInt ≤ (3066 : Int) := by omega
  have hcc : cells ≤ 601024 := by omega
  have hss : slots ≤ 7293034 := by omega
  have htpb := ix_tp hIX
  have hMo := im_mo hIM
  refine lv_aload_n hx hb dL_law_1223 rfl (lv_at hl 3 rfl) ?_
  refine lv_aload_n hx hb dL_law_1224 rfl (lv_at hl 4 rfl) ?_
  refine lv_iload hx hb dL_law_1225 (lv_at hl 0 rfl) ?_
  refine lv_iconst (v := 1) hx hb dL_law_1227 zk_iconst_1 ?_
  refine lv_iadd hx hb dL_law_1228 ?_
  refine lv_topi (fun ix1 eix1 => ?_)
  have qix1 : ix1.toInt = i.toInt + 1 := ai_add eix1 ⟨hi0, hiM⟩ ⟨zq1, zq0⟩ (by decide) (by decide)
  refine va_sld (L := L) (i := ix1) hx hb hX hbl hbA hS (vp_in_iff.mpr ⟨by omega, by omega⟩) dL_law_1229 ?_
  refine lv_topi (fun vix1 evix1 => ?_)
  have hFc := lg_free hDx hS hA
  obtain ⟨fs1230, hfs1230⟩ := ix_recv hIX
  refine va_calli (va_runV (As := [.int vix1]) (rest := []) ⟨hx, hb, hml, hown, hts⟩ (k_X7_could l dC dI H.size x tp vi vf wx tx hIX vix1) (cwV 1 hts gd_X7_could rfl rfl rfl (by decide +kernel) ⟨Nat.le_of_ble_eq_true rfl, Nat.le_of_ble_eq_true rfl⟩) ⟨ax_blind (fun _ _ _ _ hq => va_Nw.same rfl rfl (hq)), va_recv hKx hPx (ci := 7) (q0 := 0) rfl hfs1230, ax_preE hPx hKx hDx (fun U hU hW => va_Nw.warmM hW (hE.2.2.2.2.2.2.1))⟩ rfl rfl hl.1 rfl (lv_room (Nat.le_of_ble_eq_true rfl)) dL_law_1230 ⟨hcc, hss⟩) hS (fun q _ h => hFc q h) hFc (fun r1230 u t H1 locs ht hvm hw1230 hB hz1 hk1 hS => ?_)
  obtain ⟨wxn, txn, ⟨vi1, vf1, kx1, kx2, hI1⟩, hP1, hK1, hD1⟩ := hB
  rw [ht] at hP1
  have hK1 := va_K.moved hvm.symm hK1
  obtain ⟨hPm, jxm⟩ := lg_step hPm jxm hk1 hD1
  obtain ⟨hPo, jxo⟩ := lg_step hPo jxo hk1 hD1
  have hD1 := hD1.weaken (fun _ _ _ h9 => hFc _ h9)
  clear hPx hDx hKx hFc hk1 hz1 hfs1230
  have hIX := hI1; have hPx := hP1; have hDx := hD1; have hKx := hK1; clear hI1 hP1 hD1 hK1
  clear ht; generalize H1 = H at hPx hPm hPo hS ⊢
  refine lv_pop hx hb dL_law_1233 rfl ?_
  refine lv_aload_n hx hb dL_law_1234 rfl (lv_at hl 2 rfl) ?_
  refine lv_aload_n hx hb dL_law_1235 rfl (lv_at hl 4 rfl) ?_
  refine lv_iload hx hb dL_law_1236 (lv_at hl 0 rfl) ?_
  refine lv_iconst (v := 1) hx hb dL_law_1238 zk_iconst_1 ?_
  refine lv_iadd hx hb dL_law_1239 ?_
  refine ax_ti ix1 eix1.symm ?_
  refine va_sld (L := L) (i := ix1) hx hb hX hbl hbA hS (vp_in_iff.mpr ⟨by omega, by omega⟩) dL_law_1240 ?_
  refine ax_ti vix1 evix1.symm ?_
  have hFc := lg_free hDm hS hA
  obtain ⟨fs1241, hfs1241⟩ := im_recv hIM
  refine va_calli (va_runV (As := [.int vix1]) (rest := []) ⟨hx, hb, hml, hown, hts⟩ (k_X8_could l dC dI H.size mo tp vm vn wm tm hIM vix1) (cwV 1 hts gd_X8_could rfl rfl rfl (by decide +kernel) ⟨Nat.le_of_ble_eq_true rfl, Nat.le_of_ble_eq_true rfl⟩) ⟨ax_blind (fun _ _ _ _ _ => trivial), va_recv hKm hPm (ci := 8) (q0 := 0) rfl hfs1241, ax_preE hPm hKm hDm (fun _ _ _ => trivial)⟩ rfl rfl hl.1 rfl (lv_room (Nat.le_of_ble_eq_true rfl)) dL_law_1241 ⟨hcc, hss⟩) hS (fun q _ h => hFc q h) hFc (fun r1241 u t H1 locs ht hvm hw1241 hB hz1 hk1 hS => ?_)
  obtain ⟨wmn, tmn, ⟨vm1, vn1, km1, km2, hI1⟩, hP1, hK1, hD1⟩ := hB
  rw [ht] at hP1
  have hK1 := va_K.moved hvm.symm hK1
  obtain ⟨hPx, jmx⟩ := lg_step hPx (dj_symm jxm) hk1 hD1
  have jxm := dj_symm jmx
  obtain ⟨hPo, jmo⟩ := lg_step hPo jmo hk1 hD1
  have hD1 := hD1.weaken (fun _ _ _ h9 => hFc _ h9)
  clear hPm hDm hKm hFc hk1 hz1 hfs1241
  have hIM := hI1; have hPm := hP1; have hDm := hD1; have hKm := hK1; clear hI1 hP1 hD1 hK1
  clear ht; generalize H1 = H at hPx hPm hPo hS ⊢
  refine lv_pop hx hb dL_law_1244 rfl ?_
  refine lv_goto (tgt := 1941) hx hb dL_law_1245 (by decide) ?_
  have hRn : lr_R tp vi1 vf1 vm1 vn1 := ⟨by rw [kx2 0 (by decide), km2 0 (by decide)]; exact hR.1, lr_keep (fun k9 h9 => kx1 k9 (kp_dis (by decide) h9)) (fun k9 h8 h9 => kx1 k9 (kp_out (a := 57) (b := 152) (by decide) h8 h9)) (fun k9 h9 => kx2 k9 (kp_dis (by decide) h9)) (fun k9 h8 h9 => kx2 k9 (kp_out (a := 23) (b := 61) (by decide) h8 h9)) (fun k9 h9 => km1 k9 (kp_dis (by decide) h9)) (fun k9 h9 => km2 k9 (kp_dis (by decide) h9)) hR.2⟩
  exact kk _ _ _ _ _ (Nat.le_add_right _ _) (Nat.le_add_right _ _) ⟨tp, _, _, _, _, _, _, _, _, _, hIX, hIM, hRn, hKx, hKm, hPx, hPm, hPo, hDx, hDm, hDo, jxm, jxo, jmo⟩ hS (lv_sub hl [0, 1, 2, 3, 4] rfl)

set_option maxHeartbeats 4000000 in
set_option maxRecDepth 100000 in
theorem lc_36 {p : Program} {l : Launch} {e : Env} {s : State} {m : MethodId} {below : List Frame} {meth : Method} {c : Code} {b L : Nat} {xs : Nat → Int32} {A : Nat → Prop} {dC : Nat → ClassId} {dI : Nat → Nat → Nat} (hl0 : l.stackTraces = false) (hL : L ≤ 3072) (hA : ∀ q, s.heap.size ≤ q → A q) (hA2 : ∀ q, A q → s.heap.size ≤ q) (C0 : lw_At p s m meth c b L xs) (sd : Nat → Nat) (sa : Nat) (hE : lg_E A sd sa s) (x mo oa : Nat) (ko : ClassId) (hKo : va_K (dC, dI) vwCl [(ko, .long)] s) (i : Int32) (hi0 : (0 : Int) ≤ i.toInt) (hi6 : i.toInt + 6 ≤ (L : Int)) {H : Heap} {locs : List Loc} {cells slots : Nat} (hc9 : cells + 1 ≤ 601024) (hs9 : slots + 6 ≤ 7293034) (hG : lg_S dC dI A s x mo oa ko H) (hS : va_S A s.heap H locs) {ls : Array Slot} (hl : lv_has ls 7 [(4, .int i), (3, .ref oa), (2, .ref mo), (1, .ref x), (0, .ref b)])
    (kk : ∀ (H : Heap) (locs : List Loc) (ls : Array Slot) (k9 n9 : Nat), k9 ≤ cells + 1 → n9 ≤ slots + 6 → lg_S dC dI A s x mo oa ko H → va_S A s.heap H locs → lv_has ls 7 [(4, .int i), (3, .ref oa), (2, .ref mo), (1, .ref x), (0, .ref b)] → W p l e room_1 s m #[Value.ref b] below meth c H locs k9 n9 (lw_Z below #[Value.ref b] s) (F0 m 1941 ls [])) : W p l e room_1 s m #[Value.ref b] below meth c H locs cells slots (lw_Z below #[Value.ref b] s) (F0 m 1248 ls []) := by
  obtain ⟨hx, hb, hr, hml, hown0, htl, hX, hbl, hlocks, hgv⟩ := id C0
  have hown : s.vm.findClass RL = some m.cls := hown0
  have hts : ∀ w ∈ wlT, w.before #[Value.ref b] s = true := fun w h => htl w (wlT_in w h)
  have hbA : ¬ A b := fun h => absurd (hA2 b h) (Nat.not_le.mpr hbl)
  obtain ⟨tp, wx, wm, tx, tm, fo, vi, vf, vm, vn, hIX, hIM, hR, hKx, hKm, hPx, hPm, hPo, hDx, hDm, hDo, jxm, jxo, jmo⟩ := hG
  have hiM : i.toInt ≤ (3066 : Int) := by omega
  have hcc : cells ≤ 601024 := by omega
  have hss : slots ≤ 7293034 := by omega
  have htpb := ix_tp hIX
  have hMo := im_mo hIM
  refine lv_aload_n hx hb dL_law_1248 rfl (lv_at hl 3 rfl) ?_
  refine lv_aload_n hx hb dL_law_1249 rfl (lv_at hl 4 rfl) ?_
  refine lv_iload hx hb dL_law_1250 (lv_at hl 0 rfl) ?_
  refine lv_iconst (v := 1) hx hb dL_law_1252 zk_iconst_1 ?_
  refine lv_iadd hx hb dL_law_1253 ?_
  refine lv_topi (fun ix1 eix1 => ?_)
  have qix1 : ix1.toInt = i.toInt + 1 := ai_add eix1 ⟨hi0, hiM⟩ ⟨zq1, zq0⟩ (by decide) (by decide)
  refine va_sld (L := L) (i := ix1) hx hb hX hbl hbA hS (vp_in_iff.mpr ⟨by omega, by omega⟩) dL_law_1254 ?_
  refine lv_topi (fun vix1 evix1 => ?_)
  refine lv_aload_n hx hb dL_law_1255 rfl (lv_at hl 4 rfl) ?_
  refine lv_iload hx hb dL_law_1256 (lv_at hl 0 rfl) ?_
  refine lv_iconst (v := 2) hx hb dL_law_1258 zk_iconst_2 ?_
  refine lv_iadd hx hb dL_law_1259 ?_
  refine lv_topi (fun ix2 eix2 => ?_)
  have qix2 : ix2.toInt = i.toInt + 2 := ai_add eix2 ⟨hi0, hiM⟩ ⟨zq12, zq13⟩ (by decide) (by decide)
  refine va_sld (L := L) (i := ix2) hx hb hX hbl hbA hS (vp_in_iff.mpr ⟨by omega, by omega⟩) dL_law_1260 ?_
  refine lv_topi (fun vix2 evix2 => ?_)
  have hFc := lg_free hDx hS hA
  obtain ⟨fs1261, hfs1261⟩ := ix_recv hIX
  refine va_calli (va_runV (As := [.int vix1, .int vix2]) (rest := []) ⟨hx, hb, hml, hown, hts⟩ (k_X7_aliveBy l dC dI H.size x tp vi vf wx tx hIX vix1 vix2) (cwV 2 hts gd_X7_aliveBy rfl rfl rfl (by decide +kernel) ⟨Nat.le_of_ble_eq_true rfl, Nat.le_of_ble_eq_true rfl⟩) ⟨ax_blind (fun _ _ _ _ hq => va_Nw.same rfl rfl (hq)), va_recv hKx hPx (ci := 7) (q0 := 0) rfl hfs1261, ax_preE hPx hKx hDx (fun U hU hW => va_Nw.warmM hW (hE.2.2.2.2.2.2.1))⟩ rfl rfl hl.1 rfl (lv_room (Nat.le_of_ble_eq_true rfl)) dL_law_1261 ⟨hcc, hss⟩) hS (fun q _ h => hFc q h) hFc (fun r1261 u t H1 locs ht hvm hw1261 hB hz1 hk1 hS => ?_)
  obtain ⟨wxn, txn, ⟨vi1, vf1, kx1, kx2, hI1⟩, hP1, hK1, hD1⟩ := hB
  rw [ht] at hP1
  have hK1 := va_K.moved hvm.symm hK1
  obtain ⟨hPm, jxm⟩ := lg_step hPm jxm hk1 hD1
  obtain ⟨hPo, jxo⟩ := lg_step hPo jxo hk1 hD1
  have hD1 := hD1.weaken (fun _ _ _ h9 => hFc _ h9)
  clear hPx hDx hKx hFc hk1 hz1 hfs1261
  have hIX := hI1; have hPx := hP1; have hDx := hD1; have hKx := hK1; clear hI1 hP1 hD1 hK1
  clear ht; generalize H1 = H at hPx hPm hPo hS ⊢
  refine lv_pop hx hb dL_law_1264 rfl ?_
  refine lv_aload_n hx hb dL_law_1265 rfl (lv_at hl 2 rfl) ?_
  refine lv_aload_n hx hb dL_law_1266 rfl (lv_at hl 4 rfl) ?_
  refine lv_iload hx hb dL_law_1267 (lv_at hl 0 rfl) ?_
  refine lv_iconst (v := 1) hx hb dL_law_1269 zk_iconst_1 ?_
  refine lv_iadd hx hb dL_law_1270 ?_
  refine ax_ti ix1 eix1.symm ?_
  refine va_sld (L := L) (i := ix1) hx hb hX hbl hbA hS (vp_in_iff.mpr ⟨by omega, by omega⟩) dL_law_1271 ?_
  refine ax_ti vix1 evix1.symm ?_
  refine lv_aload_n hx hb dL_law_1272 rfl (lv_at hl 4 rfl) ?_
  refine lv_iload hx hb dL_law_1273 (lv_at hl 0 rfl) ?_
  refine lv_iconst (v := 2) hx hb dL_law_1275 zk_iconst_2 ?_
  refine lv_iadd hx hb dL_law_1276 ?_
  refine ax_ti ix2 eix2.symm ?_
  refine va_sld (L := L) (i := ix2) hx hb hX hbl hbA hS (vp_in_iff.mpr ⟨by omega, by omega⟩) dL_law_1277 ?_
  refine ax_ti vix2 evix2.symm ?_
  have hFc := lg_free hDm hS hA
  obtain ⟨fs1278, hfs1278⟩ := im_recv hIM
  refine va_calli (va_runV (As := [.int vix1, .int vix2]) (rest := []) ⟨hx, hb, hml, hown, hts⟩ (k_X8_aliveBy l dC dI H.size mo tp vm vn wm tm hIM vix1 vix2) (cwV 2 hts gd_X8_aliveBy rfl rfl rfl (by decide +kernel) ⟨Nat.le_of_ble_eq_true rfl, Nat.le_of_ble_eq_true rfl⟩) ⟨ax_blind (fun _ _ _ _ _ => trivial), va_recv hKm hPm (ci := 8) (q0 := 0) rfl hfs1278, ax_preE hPm hKm hDm (fun _ _ _ => trivial)⟩ rfl rfl hl.1 rfl (lv_room (Nat.le_of_ble_eq_true rfl)) dL_law_1278 ⟨hcc, hss⟩) hS (fun q _ h => hFc q h) hFc (fun r1278 u t H1 locs ht hvm hw1278 hB hz1 hk1 hS => ?_)
  obtain ⟨wmn, tmn, ⟨vm1, vn1, km1, km2, hI1⟩, hP1, hK1, hD1⟩ := hB
  rw [ht] at hP1
  have hK1 := va_K.moved hvm.symm hK1
  obtain ⟨hPx, jmx⟩ := lg_step hPx (dj_symm jxm) hk1 hD1
  have jxm := dj_symm jmx
  obtain ⟨hPo, jmo⟩ := lg_step hPo jmo hk1 hD1
  have hD1 := hD1.weaken (fun _ _ _ h9 => hFc _ h9)
  clear hPm hDm hKm hFc hk1 hz1 hfs1278
  have hIM := hI1; have hPm := hP1; have hDm := hD1; have hKm := hK1; clear hI1 hP1 hD1 hK1
  clear ht; generalize H1 = H at hPx hPm hPo hS ⊢
  refine lv_pop hx hb dL_law_1281 rfl ?_
  refine lv_goto (tgt := 1941) hx hb dL_law_1282 (by decide) ?_
  have hRn : lr_R tp vi1 vf1 vm1 vn1 := ⟨by rw [kx2 0 (by decide), km2 0 (by decide)]; exact hR.1, lr_keep (fun k9 h9 => kx1 k9 (kp_dis (by decide) h9)) (fun k9 h8 h9 => kx1 k9 (kp_out (a := 57) (b := 152) (by decide) h8 h9)) (fun k9 h9 => kx2 k9 (kp_dis (by decide) h9)) (fun k9 h8 h9 => kx2 k9 (kp_out (a := 23) (b := 61) (by decide) h8 h9)) (fun k9 h9 => km1 k9 (kp_dis (by decide) h9)) (fun k9 h9 => km2 k9 (kp_dis (by decide) h9)) hR.2⟩
  exact kk _ _ _ _ _ (Nat.le_add_right _ _) (Nat.le_add_right _ _) ⟨tp, _, _, _, _, _, _, _, _, _, hIX, hIM, hRn, hKx, hKm, hPx, hPm, hPo, hDx, hDm, hDo, jxm, jxo, jmo⟩ hS (lv_sub hl [0, 1, 2, 3, 4] rfl)

set_option maxHeartbeats 4000000 in
set_option maxRecDepth 100000 in
theorem lc_37 {p : Program} {l : Launch} {e : Env} {s : State} {m : MethodId} {below : List Frame} {meth : Method} {c : Code} {b L : Nat} {xs : Nat → Int32} {A : Nat → Prop} {dC : Nat → ClassId} {dI : Nat → Nat → Nat} (hl0 : l.stackTraces = false) (hL : L ≤ 3072) (hA : ∀ q, s.heap.size ≤ q → A q) (hA2 : ∀ q, A q → s.heap.size ≤ q) (C0 : lw_At p s m meth c b L xs) (sd : Nat → Nat) (sa : Nat) (hE : lg_E A sd sa s) (x mo oa : Nat) (ko : ClassId) (hKo : va_K (dC, dI) vwCl [(ko, .long)] s) (i : Int32) (hi0 : (0 : Int) ≤ i.toInt) (hi6 : i.toInt + 6 ≤ (L : Int)) {H : Heap} {locs : List Loc} {cells slots : Nat} (hc9 : cells + 1 ≤ 601024) (hs9 : slots + 6 ≤ 7293034) (hG : lg_S dC dI A s x mo oa ko H) (hS : va_S A s.heap H locs) {ls : Array Slot} (hl : lv_has ls 7 [(4, .int i), (3, .ref oa), (2, .ref mo), (1, .ref x), (0, .ref b)])
    (kk : ∀ (H : Heap) (locs : List Loc) (ls : Array Slot) (k9 n9 : Nat), k9 ≤ cells + 1 → n9 ≤ slots + 6 → lg_S dC dI A s x mo oa ko H → va_S A s.heap H locs → lv_has ls 7 [(4, .int i), (3, .ref oa), (2, .ref mo), (1, .ref x), (0, .ref b)] → W p l e room_1 s m #[Value.ref b] below meth c H locs k9 n9 (lw_Z below #[Value.ref b] s) (F0 m 1941 ls [])) : W p l e room_1 s m #[Value.ref b] below meth c H locs cells slots (lw_Z below #[Value.ref b] s) (F0 m 1285 ls []) := by
  obtain ⟨hx, hb, hr, hml, hown0, htl, hX, hbl, hlocks, hgv⟩ := id C0
  have hown : s.vm.findClass RL = some m.cls := hown0
  have hts : ∀ w ∈ wlT, w.before #[Value.ref b] s = true := fun w h => htl w (wlT_in w h)
  have hbA : ¬ A b := fun h => absurd (hA2 b h) (Nat.not_le.mpr hbl)
  obtain ⟨tp, wx, wm, tx, tm, fo, vi, vf, vm, vn, hIX, hIM, hR, hKx, hKm, hPx, hPm, hPo, hDx, hDm, hDo, jxm, jxo, jmo⟩ := hG
  have hiM : i.toInt ≤ (3066 : Int) := by omega
  have hcc : cells ≤ 601024 := by omega
  have hss : slots ≤ 7293034 := by omega
  have htpb := ix_tp hIX
  have hMo := im_mo hIM
  refine lv_aload_n hx hb dL_law_1285 rfl (lv_at hl 3 rfl) ?_
  have hFc := lg_free hDx hS hA
  obtain ⟨fs1286, hfs1286⟩ := ix_recv hIX
  refine va_calli (va_runV (As := []) (rest := []) ⟨hx, hb, hml, hown, hts⟩ (k_X7_look l dC dI H.size x tp vi vf wx tx hIX ) (cwV 0 hts gd_X7_look rfl rfl rfl (by decide +kernel) ⟨Nat.le_of_ble_eq_true rfl, Nat.le_of_ble_eq_true rfl⟩) ⟨ax_blind (fun _ _ _ _ hq => va_Nw.same rfl rfl (hq)), va_recv hKx hPx (ci := 7) (q0 := 0) rfl hfs1286, ax_preE hPx hKx hDx (fun U hU hW => va_Nw.warmM hW (hE.2.2.2.2.2.2.1))⟩ rfl rfl hl.1 rfl (lv_room (Nat.le_of_ble_eq_true rfl)) dL_law_1286 ⟨hcc, hss⟩) hS (fun q _ h => hFc q h) hFc (fun r1286 u t H1 locs ht hvm hw1286 hB hz1 hk1 hS => ?_)
  obtain ⟨wxn, txn, ⟨vi1, vf1, kx1, kx2, hI1⟩, hP1, hK1, hD1⟩ := hB
  rw [ht] at hP1
  have hK1 := va_K.moved hvm.symm hK1
  obtain ⟨hPm, jxm⟩ := lg_step hPm jxm hk1 hD1
  obtain ⟨hPo, jxo⟩ := lg_step hPo jxo hk1 hD1
  have hD1 := hD1.weaken (fun _ _ _ h9 => hFc _ h9)
  clear hPx hDx hKx hFc hk1 hz1 hfs1286
  have hIX := hI1; have hPx := hP1; have hDx := hD1; have hKx := hK1; clear hI1 hP1 hD1 hK1
  clear ht; generalize H1 = H at hPx hPm hPo hS ⊢
  refine lv_pop hx hb dL_law_1289 rfl ?_
  refine lv_aload_n hx hb dL_law_1290 rfl (lv_at hl 2 rfl) ?_
  have hFc := lg_free hDm hS hA
  obtain ⟨fs1291, hfs1291⟩ := im_recv hIM
  refine va_calli (va_runV (As := []) (rest := []) ⟨hx, hb, hml, hown, hts⟩ (k_X8_look l dC dI H.size mo tp vm vn wm tm hIM ) (cwV 0 hts gd_X8_look rfl rfl rfl (by decide +kernel) ⟨Nat.le_of_ble_eq_true rfl, Nat.le_of_ble_eq_true rfl⟩) ⟨ax_blind (fun _ _ _ _ _ => trivial), va_recv hKm hPm (ci := 8) (q0 := 0) rfl hfs1291, ax_preE hPm hKm hDm (fun _ _ _ => trivial)⟩ rfl rfl hl.1 rfl (lv_room (Nat.le_of_ble_eq_true rfl)) dL_law_1291 ⟨hcc, hss⟩) hS (fun q _ h => hFc q h) hFc (fun r1291 u t H1 locs ht hvm hw1291 hB hz1 hk1 hS => ?_)
  obtain ⟨wmn, tmn, ⟨vm1, vn1, km1, km2, hI1⟩, hP1, hK1, hD1⟩ := hB
  rw [ht] at hP1
  have hK1 := va_K.moved hvm.symm hK1
  obtain ⟨hPx, jmx⟩ := lg_step hPx (dj_symm jxm) hk1 hD1
  have jxm := dj_symm jmx
  obtain ⟨hPo, jmo⟩ := lg_step hPo jmo hk1 hD1
  have hD1 := hD1.weaken (fun _ _ _ h9 => hFc _ h9)
  clear hPm hDm hKm hFc hk1 hz1 hfs1291
  have hIM := hI1; have hPm := hP1; have hDm := hD1; have hKm := hK1; clear hI1 hP1 hD1 hK1
  clear ht; generalize H1 = H at hPx hPm hPo hS ⊢
  refine lv_pop hx hb dL_law_1294 rfl ?_
  refine lv_goto (tgt := 1941) hx hb dL_law_1295 (by decide) ?_
  have hRn : lr_R tp vi1 vf1 vm1 vn1 := ⟨by rw [kx2 0 (by decide), km2 0 (by decide)]; exact hR.1, lr_keep (fun k9 h9 => kx1 k9 (kp_dis (by decide) h9)) (fun k9 h8 h9 => kx1 k9 (kp_out (a := 57) (b := 152) (by decide) h8 h9)) (fun k9 h9 => kx2 k9 (kp_dis (by decide) h9)) (fun k9 h8 h9 => kx2 k9 (kp_out (a := 23) (b := 61) (by decide) h8 h9)) (fun k9 h9 => km1 k9 (kp_dis (by decide) h9)) (fun k9 h9 => km2 k9 (kp_dis (by decide) h9)) hR.2⟩
  exact kk _ _ _ _ _ (Nat.le_add_right _ _) (Nat.le_add_right _ _) ⟨tp, _, _, _, _, _, _, _, _, _, hIX, hIM, hRn, hKx, hKm, hPx, hPm, hPo, hDx, hDm, hDo, jxm, jxo, jmo⟩ hS (lv_sub hl [0, 1, 2, 3, 4] rfl)

set_option maxHeartbeats 4000000 in
set_option maxRecDepth 100000 in
theorem lc_38 {p : Program} {l : Launch} {e : Env} {s : State} {m : MethodId} {below : List Frame} {meth : Method} {c : Code} {b L : Nat} {xs : Nat → Int32} {A : Nat → Prop} {dC : Nat → ClassId} {dI : Nat → Nat → Nat} (hl0 : l.stackTraces = false) (hL : L ≤ 3072) (hA : ∀ q, s.heap.size ≤ q → A q) (hA2 : ∀ q, A q → s.heap.size ≤ q) (C0 : lw_At p s m meth c b L xs) (sd : Nat → Nat) (sa : Nat) (hE : lg_E A sd sa s) (x mo oa : Nat) (ko : ClassId) (hKo : va_K (dC, dI) vwCl [(ko, .long)] s) (i : Int32) (hi0 : (0 : Int) ≤ i.toInt) (hi6 : i.toInt + 6 ≤ (L : Int)) {H : Heap} {locs : List Loc} {cells slots : Nat} (hc9 : cells + 1 ≤ 601024) (hs9 : slots + 6 ≤ 7293034) (hG : lg_S dC dI A s x mo oa ko H) (hS : va_S A s.heap H locs) {ls : Array Slot} (hl : lv_has ls 7 [(4, .int i), (3, .ref oa), (2, .ref mo), (1, .ref x), (0, .ref b)])
    (kk : ∀ (H : Heap) (locs : List Loc) (ls : Array Slot) (k9 n9 : Nat), k9 ≤ cells + 1 → n9 ≤ slots + 6 → lg_S dC dI A s x mo oa ko H → va_S A s.heap H locs → lv_has ls 7 [(4, .int i), (3, .ref oa), (2, .ref mo), (1, .ref x), (0, .ref b)] → W p l e room_1 s m #[Value.ref b] below meth c H locs k9 n9 (lw_Z below #[Value.ref b] s) (F0 m 1941 ls [])) : W p l e room_1 s m #[Value.ref b] below meth c H locs cells slots (lw_Z below #[Value.ref b] s) (F0 m 1298 ls []) := by
  obtain ⟨hx, hb, hr, hml, hown0, htl, hX, hbl, hlocks, hgv⟩ := id C0
  have hown : s.vm.findClass RL = some m.cls := hown0
  have hts : ∀ w ∈ wlT, w.before #[Value.ref b] s = true := fun w h => htl w (wlT_in w h)
  have hbA : ¬ A b := fun h => absurd (hA2 b h) (Nat.not_le.mpr hbl)
  obtain ⟨tp, wx, wm, tx, tm, fo, vi, vf, vm, vn, hIX, hIM, hR, hKx, hKm, hPx, hPm, hPo, hDx, hDm, hDo, jxm, jxo, jmo⟩ := hG
  have hiM : i.toInt ≤ (3066 : Int) := by omega
  have hcc : cells ≤ 601024 := by omega
  have hss : slots ≤ 7293034 := by omega
  have htpb := ix_tp hIX
  have hMo := im_mo hIM
  refine lv_aload_n hx hb dL_law_1298 rfl (lv_at hl 3 rfl) ?_
  have hFc := lg_free hDx hS hA
  obtain ⟨fs1299, hfs1299⟩ := ix_recv hIX
  refine va_calli (va_runV (As := []) (rest := []) ⟨hx, hb, hml, hown, hts⟩ (k_X7_lookLeaves l dC dI H.size x tp vi vf wx tx hIX ) (cwV 0 hts gd_X7_lookLeaves rfl rfl rfl (by decide +kernel) ⟨Nat.le_of_ble_eq_true rfl, Nat.le_of_ble_eq_true rfl⟩) ⟨ax_blind (fun _ _ _ _ hq => va_Nw.same rfl rfl (hq)), va_recv hKx hPx (ci := 7) (q0 := 0) rfl hfs1299, ax_preE hPx hKx hDx (fun U hU hW => va_Nw.warmM hW (hE.2.2.2.2.2.2.1))⟩ rfl rfl hl.1 rfl (lv_room (Nat.le_of_ble_eq_true rfl)) dL_law_1299 ⟨hcc, hss⟩) hS (fun q _ h => hFc q h) hFc (fun r1299 u t H1 locs ht hvm hw1299 hB hz1 hk1 hS => ?_)
  obtain ⟨wxn, txn, ⟨vi1, vf1, kx1, kx2, hI1⟩, hP1, hK1, hD1⟩ := hB
  rw [ht] at hP1
  have hK1 := va_K.moved hvm.symm hK1
  obtain ⟨hPm, jxm⟩ := lg_step hPm jxm hk1 hD1
  obtain ⟨hPo, jxo⟩ := lg_step hPo jxo hk1 hD1
  have hD1 := hD1.weaken (fun _ _ _ h9 => hFc _ h9)
  clear hPx hDx hKx hFc hk1 hz1 hfs1299
  have hIX := hI1; have hPx := hP1; have hDx := hD1; have hKx := hK1; clear hI1 hP1 hD1 hK1
  clear ht; generalize H1 = H at hPx hPm hPo hS ⊢
  refine lv_pop hx hb dL_law_1302 rfl ?_
  refine lv_aload_n hx hb dL_law_1303 rfl (lv_at hl 2 rfl) ?_
  have hFc := lg_free hDm hS hA
  obtain ⟨fs1304, hfs1304⟩ := im_recv hIM
  refine va_calli (va_runV (As := []) (rest := []) ⟨hx, hb, hml, hown, hts⟩ (k_X8_lookLeaves l dC dI H.size mo tp vm vn wm tm hIM ) (cwV 0 hts gd_X8_lookLeaves rfl rfl rfl (by decide +kernel) ⟨Nat.le_of_ble_eq_true rfl, Nat.le_of_ble_eq_true rfl⟩) ⟨ax_blind (fun _ _ _ _ _ => trivial), va_recv hKm hPm (ci := 8) (q0 := 0) rfl hfs1304, ax_preE hPm hKm hDm (fun _ _ _ => trivial)⟩ rfl rfl hl.1 rfl (lv_room (Nat.le_of_ble_eq_true rfl)) dL_law_1304 ⟨hcc, hss⟩) hS (fun q _ h => hFc q h) hFc (fun r1304 u t H1 locs ht hvm hw1304 hB hz1 hk1 hS => ?_)
  obtain ⟨wmn, tmn, ⟨vm1, vn1, km1, km2, hI1⟩, hP1, hK1, hD1⟩ := hB
  rw [ht] at hP1
  have hK1 := va_K.moved hvm.symm hK1
  obtain ⟨hPx, jmx⟩ := lg_step hPx (dj_symm jxm) hk1 hD1
  have jxm := dj_symm jmx
  obtain ⟨hPo, jmo⟩ := lg_step hPo jmo hk1 hD1
  have hD1 := hD1.weaken (fun _ _ _ h9 => hFc _ h9)
  clear hPm hDm hKm hFc hk1 hz1 hfs1304
  have hIM := hI1; have hPm := hP1; have hDm := hD1; have hKm := hK1; clear hI1 hP1 hD1 hK1
  clear ht; generalize H1 = H at hPx hPm hPo hS ⊢
  refine lv_pop hx hb dL_law_1307 rfl ?_
  refine lv_goto (tgt := 1941) hx hb dL_law_1308 (by decide) ?_
  have hRn : lr_R tp vi1 vf1 vm1 vn1 := ⟨by rw [kx2 0 (by decide), km2 0 (by decide)]; exact hR.1, lr_keep (fun k9 h9 => kx1 k9 (kp_dis (by decide) h9)) (fun k9 h8 h9 => kx1 k9 (kp_out (a := 57) (b := 152) (by decide) h8 h9)) (fun k9 h9 => kx2 k9 (kp_dis (by decide) h9)) (fun k9 h8 h9 => kx2 k9 (kp_out (a := 23) (b := 61) (by decide) h8 h9)) (fun k9 h9 => km1 k9 (kp_dis (by decide) h9)) (fun k9 h9 => km2 k9 (kp_dis (by decide) h9)) hR.2⟩
  exact kk _ _ _ _ _ (Nat.le_add_right _ _) (Nat.le_add_right _ _) ⟨tp, _, _, _, _, _, _, _, _, _, hIX, hIM, hRn, hKx, hKm, hPx, hPm, hPo, hDx, hDm, hDo, jxm, jxo, jmo⟩ hS (lv_sub hl [0, 1, 2, 3, 4] rfl)

set_option maxHeartbeats 4000000 in
set_option maxRecDepth 100000 in
theorem lc_39 {p : Program} {l : Launch} {e : Env} {s : State} {m : MethodId} {below : List Frame} {meth : Method} {c : Code} {b L : Nat} {xs : Nat → Int32} {A : Nat → Prop} {dC : Nat → ClassId} {dI : Nat → Nat → Nat} (hl0 : l.stackTraces = false) (hL : L ≤ 3072) (hA : ∀ q, s.heap.size ≤ q → A q) (hA2 : ∀ q, A q → s.heap.size ≤ q) (C0 : lw_At p s m meth c b L xs) (sd : Nat → Nat) (sa : Nat) (hE : lg_E A sd sa s) (x mo oa : Nat) (ko : ClassId) (hKo : va_K (dC, dI) vwCl [(ko, .long)] s) (i : Int32) (hi0 : (0 : Int) ≤ i.toInt) (hi6 : i.toInt + 6 ≤ (L : Int)) {H : Heap} {locs : List Loc} {cells slots : Nat} (hc9 : cells + 1 ≤ 601024) (hs9 : slots + 6 ≤ 7293034) (hG : lg_S dC dI A s x mo oa ko H) (hS : va_S A s.heap H locs) {ls : Array Slot} (hl : lv_has ls 7 [(4, .int i), (3, .ref oa), (2, .ref mo), (1, .ref x), (0, .ref b)])
    (kk : ∀ (H : Heap) (locs : List Loc) (ls : Array Slot) (k9 n9 : Nat), k9 ≤ cells + 1 → n9 ≤ slots + 6 → lg_S dC dI A s x mo oa ko H → va_S A s.heap H locs → lv_has ls 7 [(4, .int i), (3, .ref oa), (2, .ref mo), (1, .ref x), (0, .ref b)] → W p l e room_1 s m #[Value.ref b] below meth c H locs k9 n9 (lw_Z below #[Value.ref b] s) (F0 m 1941 ls [])) : W p l e room_1 s m #[Value.ref b] below meth c H locs cells slots (lw_Z below #[Value.ref b] s) (F0 m 1311 ls []) := by
  obtain ⟨hx, hb, hr, hml, hown0, htl, hX, hbl, hlocks, hgv⟩ := id C0
  have hown : s.vm.findClass RL = some m.cls := hown0
  have hts : ∀ w ∈ wlT, w.before #[Value.ref b] s = true := fun w h => htl w (wlT_in w h)
  have hbA : ¬ A b := fun h => absurd (hA2 b h) (Nat.not_le.mpr hbl)
  obtain ⟨tp, wx, wm, tx, tm, fo, vi, vf, vm, vn, hIX, hIM, hR, hKx, hKm, hPx, hPm, hPo, hDx, hDm, hDo, jxm, jxo, jmo⟩ := hG
  have hiM : i.toInt ≤ (3066 : Int) := by omega
  have hcc : cells ≤ 601024 := by omega
  have hss : slots ≤ 7293034 := by omega
  have htpb := ix_tp hIX
  have hMo := im_mo hIM
  refine lv_aload_n hx hb dL_law_1311 rfl (lv_at hl 3 rfl) ?_
  have hFc := lg_free hDx hS hA
  obtain ⟨fs1312, hfs1312⟩ := ix_recv hIX
  refine va_calli (va_runV (As := []) (rest := []) ⟨hx, hb, hml, hown, hts⟩ (k_X7_lawsLike l dC dI H.size x tp vi vf wx tx hIX ) (cwV 0 hts gd_X7_lawsLike rfl rfl rfl (by decide +kernel) ⟨Nat.le_of_ble_eq_true rfl, Nat.le_of_ble_eq_true rfl⟩) ⟨ax_blind (fun _ _ _ _ _ => trivial), va_recv hKx hPx (ci := 7) (q0 := 0) rfl hfs1312, ax_preE hPx hKx hDx (fun _ _ _ => trivial)⟩ rfl rfl hl.1 rfl (lv_room (Nat.le_of_ble_eq_true rfl)) dL_law_1312 ⟨hcc, hss⟩) hS (fun q _ h => hFc q h) hFc (fun r1312 u t H1 locs ht hvm hw1312 hB hz1 hk1 hS => ?_)
  obtain ⟨wxn, txn, ⟨vi1, vf1, kx1, kx2, hI1⟩, hP1, hK1, hD1⟩ := hB
  rw [ht] at hP1
  have hK1 := va_K.moved hvm.symm hK1
  obtain ⟨hPm, jxm⟩ := lg_step hPm jxm hk1 hD1
  obtain ⟨hPo, jxo⟩ := lg_step hPo jxo hk1 hD1
  have hD1 := hD1.weaken (fun _ _ _ h9 => hFc _ h9)
  clear hPx hDx hKx hFc hk1 hz1 hfs1312
  have hIX := hI1; have hPx := hP1; have hDx := hD1; have hKx := hK1; clear hI1 hP1 hD1 hK1
  clear ht; generalize H1 = H at hPx hPm hPo hS ⊢
  refine lv_pop hx hb dL_law_1315 rfl ?_
  refine lv_aload_n hx hb dL_law_1316 rfl (lv_at hl 2 rfl) ?_
  have hFc := lg_free hDm hS hA
  obtain ⟨fs1317, hfs1317⟩ := im_recv hIM
  refine va_calli (va_runV (As := []) (rest := []) ⟨hx, hb, hml, hown, hts⟩ (k_X8_lawsLike l dC dI H.size mo tp vm vn wm tm hIM ) (cwV 0 hts gd_X8_lawsLike rfl rfl rfl (by decide +kernel) ⟨Nat.le_of_ble_eq_true rfl, Nat.le_of_ble_eq_true rfl⟩) ⟨ax_blind (fun _ _ _ _ _ => trivial), va_recv hKm hPm (ci := 8) (q0 := 0) rfl hfs1317, ax_preE hPm hKm hDm (fun _ _ _ => trivial)⟩ rfl rfl hl.1 rfl (lv_room (Nat.le_of_ble_eq_true rfl)) dL_law_1317 ⟨hcc, hss⟩) hS (fun q _ h => hFc q h) hFc (fun r1317 u t H1 locs ht hvm hw1317 hB hz1 hk1 hS => ?_)
  obtain ⟨wmn, tmn, ⟨vm1, vn1, km1, km2, hI1⟩, hP1, hK1, hD1⟩ := hB
  rw [ht] at hP1
  have hK1 := va_K.moved hvm.symm hK1
  obtain ⟨hPx, jmx⟩ := lg_step hPx (dj_symm jxm) hk1 hD1
  have jxm := dj_symm jmx
  obtain ⟨hPo, jmo⟩ := lg_step hPo jmo hk1 hD1
  have hD1 := hD1.weaken (fun _ _ _ h9 => hFc _ h9)
  clear hPm hDm hKm hFc hk1 hz1 hfs1317
  have hIM := hI1; have hPm := hP1; have hDm := hD1; have hKm := hK1; clear hI1 hP1 hD1 hK1
  clear ht; generalize H1 = H at hPx hPm hPo hS ⊢
  refine lv_pop hx hb dL_law_1320 rfl ?_
  refine lv_goto (tgt := 1941) hx hb dL_law_1321 (by decide) ?_
  have hRn : lr_R tp vi1 vf1 vm1 vn1 := ⟨by rw [kx2 0 (by decide), km2 0 (by decide)]; exact hR.1, lr_keep (fun k9 h9 => kx1 k9 (kp_dis (by decide) h9)) (fun k9 h8 h9 => kx1 k9 (kp_out (a := 57) (b := 152) (by decide) h8 h9)) (fun k9 h9 => kx2 k9 (kp_dis (by decide) h9)) (fun k9 h8 h9 => kx2 k9 (kp_out (a := 23) (b := 61) (by decide) h8 h9)) (fun k9 h9 => km1 k9 (kp_dis (by decide) h9)) (fun k9 h9 => km2 k9 (kp_dis (by decide) h9)) hR.2⟩
  exact kk _ _ _ _ _ (Nat.le_add_right _ _) (Nat.le_add_right _ _) ⟨tp, _, _, _, _, _, _, _, _, _, hIX, hIM, hRn, hKx, hKm, hPx, hPm, hPo, hDx, hDm, hDo, jxm, jxo, jmo⟩ hS (lv_sub hl [0, 1, 2, 3, 4] rfl)

set_option maxHeartbeats 4000000 in
set_option maxRecDepth 100000 in
theorem lc_40 {p : Program} {l : Launch} {e : Env} {s : State} {m : MethodId} {below : List Frame} {meth : Method} {c : Code} {b L : Nat} {xs : Nat → Int32} {A : Nat → Prop} {dC : Nat → ClassId} {dI : Nat → Nat → Nat} (hl0 : l.stackTraces = false) (hL : L ≤ 3072) (hA : ∀ q, s.heap.size ≤ q → A q) (hA2 : ∀ q, A q → s.heap.size ≤ q) (C0 : lw_At p s m meth c b L xs) (sd : Nat → Nat) (sa : Nat) (hE : lg_E A sd sa s) (x mo oa : Nat) (ko : ClassId) (hKo : va_K (dC, dI) vwCl [(ko, .long)] s) (i : Int32) (hi0 : (0 : Int) ≤ i.toInt) (hi6 : i.toInt + 6 ≤ (L : Int)) {H : Heap} {locs : List Loc} {cells slots : Nat} (hc9 : cells + 1 ≤ 601024) (hs9 : slots + 6 ≤ 7293034) (hG : lg_S dC dI A s x mo oa ko H) (hS : va_S A s.heap H locs) {ls : Array Slot} (hl : lv_has ls 7 [(4, .int i), (3, .ref oa), (2, .ref mo), (1, .ref x), (0, .ref b)])
    (kk : ∀ (H : Heap) (locs : List Loc) (ls : Array Slot) (k9 n9 : Nat), k9 ≤ cells + 1 → n9 ≤ slots + 6 → lg_S dC dI A s x mo oa ko H → va_S A s.heap H locs → lv_has ls 7 [(4, .int i), (3, .ref oa), (2, .ref mo), (1, .ref x), (0, .ref b)] → W p l e room_1 s m #[Value.ref b] below meth c H locs k9 n9 (lw_Z below #[Value.ref b] s) (F0 m 1941 ls [])) : W p l e room_1 s m #[Value.ref b] below meth c H locs cells slots (lw_Z below #[Value.ref b] s) (F0 m 1324 ls []) := by
  obtain ⟨hx, hb, hr, hml, hown0, htl, hX, hbl, hlocks, hgv⟩ := id C0
  have hown : s.vm.findClass RL = some m.cls := hown0
  have hts : ∀ w ∈ wlT, w.before #[Value.ref b] s = true := fun w h => htl w (wlT_in w h)
  have hbA : ¬ A b := fun h => absurd (hA2 b h) (Nat.not_le.mpr hbl)
  obtain ⟨tp, wx, wm, tx, tm, fo, vi, vf, vm, vn, hIX, hIM, hR, hKx, hKm, hPx, hPm, hPo, hDx, hDm, hDo, jxm, jxo, jmo⟩ := hG
  have hiM : i.toInt ≤ (3066 : Int) := by omega
  have hcc : cells ≤ 601024 := by omega
  have hss : slots ≤ 7293034 := by omega
  have htpb := ix_tp hIX
  have hMo := im_mo hIM
  refine lv_aload_n hx hb dL_law_1324 rfl (lv_at hl 3 rfl) ?_
  refine lv_aload_n hx hb dL_law_1325 rfl (lv_at hl 4 rfl) ?_
  refine lv_iload hx hb dL_law_1326 (lv_at hl 0 rfl) ?_
  refine lv_iconst (v := 1) hx hb dL_law_1328 zk_iconst_1 ?_
  refine lv_iadd hx hb dL_law_1329 ?_
  refine lv_topi (fun ix1 eix1 => ?_)
  have qix1 : ix1.toInt = i.toInt + 1 := ai_add eix1 ⟨hi0, hiM⟩ ⟨zq1, zq0⟩ (by decide) (by decide)
  refine va_sld (L := L) (i := ix1) hx hb hX hbl hbA hS (vp_in_iff.mpr ⟨by omega, by omega⟩) dL_law_1330 ?_
  refine lv_topi (fun vix1 evix1 => ?_)
  refine lv_aload_n hx hb dL_law_1331 rfl (lv_at hl 4 rfl) ?_
  refine lv_iload hx hb dL_law_1332 (lv_at hl 0 rfl) ?_
  refine lv_iconst (v := 2) hx hb dL_law_1334 zk_iconst_2 ?_
  refine lv_iadd hx hb dL_law_1335 ?_
  refine lv_topi (fun ix2 eix2 => ?_)
  have qix2 : ix2.toInt = i.toInt + 2 := ai_add eix2 ⟨hi0, hiM⟩ ⟨zq12, zq13⟩ (by decide) (by decide)
  refine va_sld (L := L) (i := ix2) hx hb hX hbl hbA hS (vp_in_iff.mpr ⟨by omega, by omega⟩) dL_law_1336 ?_
  refine lv_topi (fun vix2 evix2 => ?_)
  have hFc := lg_free hDx hS hA
  obtain ⟨fs1337, hfs1337⟩ := ix_recv hIX
  refine va_calli (va_runV (As := [.int vix1, .int vix2]) (rest := []) ⟨hx, hb, hml, hown, hts⟩ (k_X7_lawFor l dC dI H.size x tp vi vf wx tx hIX vix1 vix2) (cwV 2 hts gd_X7_lawFor rfl rfl rfl (by decide +kernel) ⟨Nat.le_of_ble_eq_true rfl, Nat.le_of_ble_eq_true rfl⟩) ⟨ax_blind (fun _ _ _ _ _ => trivial), va_recv hKx hPx (ci := 7) (q0 := 0) rfl hfs1337, ax_preE hPx hKx hDx (fun _ _ _ => trivial)⟩ rfl rfl hl.1 rfl (lv_room (Nat.le_of_ble_eq_true rfl)) dL_law_1337 ⟨hcc, hss⟩) hS (fun q _ h => hFc q h) hFc (fun r1337 u t H1 locs ht hvm hw1337 hB hz1 hk1 hS => ?_)
  obtain ⟨wxn, txn, ⟨vi1, vf1, kx1, kx2, hI1⟩, hP1, hK1, hD1⟩ := hB
  rw [ht] at hP1
  have hK1 := va_K.moved hvm.symm hK1
  obtain ⟨hPm, jxm⟩ := lg_step hPm jxm hk1 hD1
  obtain ⟨hPo, jxo⟩ := lg_step hPo jxo hk1 hD1
  have hD1 := hD1.weaken (fun _ _ _ h9 => hFc _ h9)
  clear hPx hDx hKx hFc hk1 hz1 hfs1337
  have hIX := hI1; have hPx := hP1; have hDx := hD1; have hKx := hK1; clear hI1 hP1 hD1 hK1
  clear ht; generalize H1 = H at hPx hPm hPo hS ⊢
  refine lv_pop hx hb dL_law_1340 rfl ?_
  refine lv_aload_n hx hb dL_law_1341 rfl (lv_at hl 2 rfl) ?_
  refine lv_aload_n hx hb dL_law_1342 rfl (lv_at hl 4 rfl) ?_
  refine lv_iload hx hb dL_law_1343 (lv_at hl 0 rfl) ?_
  refine lv_iconst (v := 1) hx hb dL_law_1345 zk_iconst_1 ?_
  refine lv_iadd hx hb dL_law_1346 ?_
  refine ax_ti ix1 eix1.symm ?_
  refine va_sld (L := L) (i := ix1) hx hb hX hbl hbA hS (vp_in_iff.mpr ⟨by omega, by omega⟩) dL_law_1347 ?_
  refine ax_ti vix1 evix1.symm ?_
  refine lv_aload_n hx hb dL_law_1348 rfl (lv_at hl 4 rfl) ?_
  refine lv_iload hx hb dL_law_1349 (lv_at hl 0 rfl) ?_
  refine lv_iconst (v := 2) hx hb dL_law_1351 zk_iconst_2 ?_
  refine lv_iadd hx hb dL_law_1352 ?_
  refine ax_ti ix2 eix2.symm ?_
  refine va_sld (L := L) (i := ix2) hx hb hX hbl hbA hS (vp_in_iff.mpr ⟨by omega, by omega⟩) dL_law_1353 ?_
  refine ax_ti vix2 evix2.symm ?_
  have hFc := lg_free hDm hS hA
  obtain ⟨fs1354, hfs1354⟩ := im_recv hIM
  refine va_calli (va_runV (As := [.int vix1, .int vix2]) (rest := []) ⟨hx, hb, hml, hown, hts⟩ (k_X8_lawFor l dC dI H.size mo tp vm vn wm tm hIM vix1 vix2) (cwV 2 hts gd_X8_lawFor rfl rfl rfl (by decide +kernel) ⟨Nat.le_of_ble_eq_true rfl, Nat.le_of_ble_eq_true rfl⟩) ⟨ax_blind (fun _ _ _ _ _ => trivial), va_recv hKm hPm (ci := 8) (q0 := 0) rfl hfs1354, ax_preE hPm hKm hDm (fun _ _ _ => trivial)⟩ rfl rfl hl.1 rfl (lv_room (Nat.le_of_ble_eq_true rfl)) dL_law_1354 ⟨hcc, hss⟩) hS (fun q _ h => hFc q h) hFc (fun r1354 u t H1 locs ht hvm hw1354 hB hz1 hk1 hS => ?_)
  obtain ⟨wmn, tmn, ⟨vm1, vn1, km1, km2, hI1⟩, hP1, hK1, hD1⟩ := hB
  rw [ht] at hP1
  have hK1 := va_K.moved hvm.symm hK1
  obtain ⟨hPx, jmx⟩ := lg_step hPx (dj_symm jxm) hk1 hD1
  have jxm := dj_symm jmx
  obtain ⟨hPo, jmo⟩ := lg_step hPo jmo hk1 hD1
  have hD1 := hD1.weaken (fun _ _ _ h9 => hFc _ h9)
  clear hPm hDm hKm hFc hk1 hz1 hfs1354
  have hIM := hI1; have hPm := hP1; have hDm := hD1; have hKm := hK1; clear hI1 hP1 hD1 hK1
  clear ht; generalize H1 = H at hPx hPm hPo hS ⊢
  refine lv_pop hx hb dL_law_1357 rfl ?_
  refine lv_goto (tgt := 1941) hx hb dL_law_1358 (by decide) ?_
  have hRn : lr_R tp vi1 vf1 vm1 vn1 := ⟨by rw [kx2 0 (by decide), km2 0 (by decide)]; exact hR.1, lr_keep (fun k9 h9 => kx1 k9 (kp_dis (by decide) h9)) (fun k9 h8 h9 => kx1 k9 (kp_out (a := 57) (b := 152) (by decide) h8 h9)) (fun k9 h9 => kx2 k9 (kp_dis (by decide) h9)) (fun k9 h8 h9 => kx2 k9 (kp_out (a := 23) (b := 61) (by decide) h8 h9)) (fun k9 h9 => km1 k9 (kp_dis (by decide) h9)) (fun k9 h9 => km2 k9 (kp_dis (by decide) h9)) hR.2⟩
  exact kk _ _ _ _ _ (Nat.le_add_right _ _) (Nat.le_add_right _ _) ⟨tp, _, _, _, _, _, _, _, _, _, hIX, hIM, hRn, hKx, hKm, hPx, hPm, hPo, hDx, hDm, hDo, jxm, jxo, jmo⟩ hS (lv_sub hl [0, 1, 2, 3, 4] rfl)

set_option maxHeartbeats 4000000 in
set_option maxRecDepth 100000 in
theorem lc_41 {p : Program} {l : Launch} {e : Env} {s : State} {m : MethodId} {below : List Frame} {meth : Method} {c : Code} {b L : Nat} {xs : Nat → Int32} {A : Nat → Prop} {dC : Nat → ClassId} {dI : Nat → Nat → Nat} (hl0 : l.stackTraces = false) (hL : L ≤ 3072) (hA : ∀ q, s.heap.size ≤ q → A q) (hA2 : ∀ q, A q → s.heap.size ≤ q) (C0 : lw_At p s m meth c b L xs) (sd : Nat → Nat) (sa : Nat) (hE : lg_E A sd sa s) (x mo oa : Nat) (ko : ClassId) (hKo : va_K (dC, dI) vwCl [(ko, .long)] s) (i : Int32) (hi0 : (0 : Int) ≤ i.toInt) (hi6 : i.toInt + 6 ≤ (L : Int)) {H : Heap} {locs : List Loc} {cells slots : Nat} (hc9 : cells + 1 ≤ 601024) (hs9 : slots + 6 ≤ 7293034) (hG : lg_S dC dI A s x mo oa ko H) (hS : va_S A s.heap H locs) {ls : Array Slot} (hl : lv_has ls 7 [(4, .int i), (3, .ref oa), (2, .ref mo), (1, .ref x), (0, .ref b)])
    (kk : ∀ (H : Heap) (locs : List Loc) (ls : Array Slot) (k9 n9 : Nat), k9 ≤ cells + 1 → n9 ≤ slots + 6 → lg_S dC dI A s x mo oa ko H → va_S A s.heap H locs → lv_has ls 7 [(4, .int i), (3, .ref oa), (2, .ref mo), (1, .ref x), (0, .ref b)] → W p l e room_1 s m #[Value.ref b] below meth c H locs k9 n9 (lw_Z below #[Value.ref b] s) (F0 m 1941 ls [])) : W p l e room_1 s m #[Value.ref b] below meth c H locs cells slots (lw_Z below #[Value.ref b] s) (F0 m 1361 ls []) := by
  obtain ⟨hx, hb, hr, hml, hown0, htl, hX, hbl, hlocks, hgv⟩ := id C0
  have hown : s.vm.findClass RL = some m.cls := hown0
  have hts : ∀ w ∈ wlT, w.before #[Value.ref b] s = true := fun w h => htl w (wlT_in w h)
  have hbA : ¬ A b := fun h => absurd (hA2 b h) (Nat.not_le.mpr hbl)
  obtain ⟨tp, wx, wm, tx, tm, fo, vi, vf, vm, vn, hIX, hIM, hR, hKx, hKm, hPx, hPm, hPo, hDx, hDm, hDo, jxm, jxo, jmo⟩ := hG
  have hiM : i.toInt ≤ (3066 : Int) := by omega
  have hcc : cells ≤ 601024 := by omega
  have hss : slots ≤ 7293034 := by omega
  have htpb := ix_tp hIX
  have hMo := im_mo hIM
  refine lv_aload_n hx hb dL_law_1361 rfl (lv_at hl 3 rfl) ?_
  have hFc := lg_free hDx hS hA
  obtain ⟨fs1362, hfs1362⟩ := ix_recv hIX
  refine va_calli (va_runV (As := []) (rest := []) ⟨hx, hb, hml, hown, hts⟩ (k_X7_judge l dC dI H.size x tp vi vf wx tx hIX ) (cwV 0 hts gd_X7_judge rfl rfl rfl (by decide +kernel) ⟨Nat.le_of_ble_eq_true rfl, Nat.le_of_ble_eq_true rfl⟩) ⟨ax_blind (fun _ _ _ _ hq => va_Nw.same rfl rfl (hq)), va_recv hKx hPx (ci := 7) (q0 := 0) rfl hfs1362, ax_preE hPx hKx hDx (fun U hU hW => va_Nw.warmM hW (hE.2.2.2.2.2.2.1))⟩ rfl rfl hl.1 rfl (lv_room (Nat.le_of_ble_eq_true rfl)) dL_law_1362 ⟨hcc, hss⟩) hS (fun q _ h => hFc q h) hFc (fun r1362 u t H1 locs ht hvm hw1362 hB hz1 hk1 hS => ?_)
  obtain ⟨wxn, txn, ⟨vi1, vf1, kx1, kx2, hI1⟩, hP1, hK1, hD1⟩ := hB
  rw [ht] at hP1
  have hK1 := va_K.moved hvm.symm hK1
  obtain ⟨hPm, jxm⟩ := lg_step hPm jxm hk1 hD1
  obtain ⟨hPo, jxo⟩ := lg_step hPo jxo hk1 hD1
  have hD1 := hD1.weaken (fun _ _ _ h9 => hFc _ h9)
  clear hPx hDx hKx hFc hk1 hz1 hfs1362
  have hIX := hI1; have hPx := hP1; have hDx := hD1; have hKx := hK1; clear hI1 hP1 hD1 hK1
  clear ht; generalize H1 = H at hPx hPm hPo hS ⊢
  refine lv_pop hx hb dL_law_1365 rfl ?_
  refine lv_aload_n hx hb dL_law_1366 rfl (lv_at hl 2 rfl) ?_
  have hFc := lg_free hDm hS hA
  obtain ⟨fs1367, hfs1367⟩ := im_recv hIM
  refine va_calli (va_runV (As := []) (rest := []) ⟨hx, hb, hml, hown, hts⟩ (k_X8_judge l dC dI H.size mo tp vm vn wm tm hIM ) (cwV 0 hts gd_X8_judge rfl rfl rfl (by decide +kernel) ⟨Nat.le_of_ble_eq_true rfl, Nat.le_of_ble_eq_true rfl⟩) ⟨ax_blind (fun _ _ _ _ _ => trivial), va_recv hKm hPm (ci := 8) (q0 := 0) rfl hfs1367, ax_preE hPm hKm hDm (fun _ _ _ => trivial)⟩ rfl rfl hl.1 rfl (lv_room (Nat.le_of_ble_eq_true rfl)) dL_law_1367 ⟨hcc, hss⟩) hS (fun q _ h => hFc q h) hFc (fun r1367 u t H1 locs ht hvm hw1367 hB hz1 hk1 hS => ?_)
  obtain ⟨wmn, tmn, ⟨vm1, vn1, km1, km2, hI1⟩, hP1, hK1, hD1⟩ := hB
  rw [ht] at hP1
  have hK1 := va_K.moved hvm.symm hK1
  obtain ⟨hPx, jmx⟩ := lg_step hPx (dj_symm jxm) hk1 hD1
  have jxm := dj_symm jmx
  obtain ⟨hPo, jmo⟩ := lg_step hPo jmo hk1 hD1
  have hD1 := hD1.weaken (fun _ _ _ h9 => hFc _ h9)
  clear hPm hDm hKm hFc hk1 hz1 hfs1367
  have hIM := hI1; have hPm := hP1; have hDm := hD1; have hKm := hK1; clear hI1 hP1 hD1 hK1
  clear ht; generalize H1 = H at hPx hPm hPo hS ⊢
  refine lv_pop hx hb dL_law_1370 rfl ?_
  refine lv_goto (tgt := 1941) hx hb dL_law_1371 (by decide) ?_
  have hRn : lr_R tp vi1 vf1 vm1 vn1 := ⟨by rw [kx2 0 (by decide), km2 0 (by decide)]; exact hR.1, lr_keep (fun k9 h9 => kx1 k9 (kp_dis (by decide) h9)) (fun k9 h8 h9 => kx1 k9 (kp_out (a := 57) (b := 152) (by decide) h8 h9)) (fun k9 h9 => kx2 k9 (kp_dis (by decide) h9)) (fun k9 h8 h9 => kx2 k9 (kp_out (a := 23) (b := 61) (by decide) h8 h9)) (fun k9 h9 => km1 k9 (kp_dis (by decide) h9)) (fun k9 h9 => km2 k9 (kp_dis (by decide) h9)) hR.2⟩
  exact kk _ _ _ _ _ (Nat.le_add_right _ _) (Nat.le_add_right _ _) ⟨tp, _, _, _, _, _, _, _, _, _, hIX, hIM, hRn, hKx, hKm, hPx, hPm, hPo, hDx, hDm, hDo, jxm, jxo, jmo⟩ hS (lv_sub hl [0, 1, 2, 3, 4] rfl)

set_option maxHeartbeats 4000000 in
set_option maxRecDepth 100000 in
theorem lc_42 {p : Program} {l : Launch} {e : Env} {s : State} {m : MethodId} {below : List Frame} {meth : Method} {c : Code} {b L : Nat} {xs : Nat → Int32} {A : Nat → Prop} {dC : Nat → ClassId} {dI : Nat → Nat → Nat} (hl0 : l.stackTraces = false) (hL : L ≤ 3072) (hA : ∀ q, s.heap.size ≤ q → A q) (hA2 : ∀ q, A q → s.heap.size ≤ q) (C0 : lw_At p s m meth c b L xs) (sd : Nat → Nat) (sa : Nat) (hE : lg_E A sd sa s) (x mo oa : Nat) (ko : ClassId) (hKo : va_K (dC, dI) vwCl [(ko, .long)] s) (i : Int32) (hi0 : (0 : Int) ≤ i.toInt) (hi6 : i.toInt + 6 ≤ (L : Int)) {H : Heap} {locs : List Loc} {cells slots : Nat} (hc9 : cells + 1 ≤ 601024) (hs9 : slots + 6 ≤ 7293034) (hG : lg_S dC dI A s x mo oa ko H) (hS : va_S A s.heap H locs) {ls : Array Slot} (hl : lv_has ls 7 [(4, .int i), (3, .ref oa), (2, .ref mo), (1, .ref x), (0, .ref b)])
    (kk : ∀ (H : Heap) (locs : List Loc) (ls : Array Slot) (k9 n9 : Nat), k9 ≤ cells + 1 → n9 ≤ slots + 6 → lg_S dC dI A s x mo oa ko H → va_S A s.heap H locs → lv_has ls 7 [(4, .int i), (3, .ref oa), (2, .ref mo), (1, .ref x), (0, .ref b)] → W p l e room_1 s m #[Value.ref b] below meth c H locs k9 n9 (lw_Z below #[Value.ref b] s) (F0 m 1941 ls [])) : W p l e room_1 s m #[Value.ref b] below meth c H locs cells slots (lw_Z below #[Value.ref b] s) (F0 m 1374 ls []) := by
  obtain ⟨hx, hb, hr, hml, hown0, htl, hX, hbl, hlocks, hgv⟩ := id C0
  have hown : s.vm.findClass RL = some m.cls := hown0
  have hts : ∀ w ∈ wlT, w.before #[Value.ref b] s = true := fun w h => htl w (wlT_in w h)
  have hbA : ¬ A b := fun h => absurd (hA2 b h) (Nat.not_le.mpr hbl)
  obtain ⟨tp, wx, wm, tx, tm, fo, vi, vf, vm, vn, hIX, hIM, hR, hKx, hKm, hPx, hPm, hPo, hDx, hDm, hDo, jxm, jxo, jmo⟩ := hG
  have hiM : i.toInt ≤ (3066 : Int) := by omega
  have hcc : cells ≤ 601024 := by omega
  have hss : slots ≤ 7293034 := by omega
  have htpb := ix_tp hIX
  have hMo := im_mo hIM
  refine lv_aload_n hx hb dL_law_1374 rfl (lv_at hl 3 rfl) ?_
  refine lv_aload_n hx hb dL_law_1375 rfl (lv_at hl 4 rfl) ?_
  refine lv_iload hx hb dL_law_1376 (lv_at hl 0 rfl) ?_
  refine lv_iconst (v := 1) hx hb dL_law_1378 zk_iconst_1 ?_
  refine lv_iadd hx hb dL_law_1379 ?_
  refine lv_topi (fun ix1 eix1 => ?_)
  have qix1 : ix1.toInt = i.toInt + 1 := ai_add eix1 ⟨hi0, hiM⟩ ⟨zq1, zq0⟩ (by decide) (by decide)
  refine va_sld (L := L) (i := ix1) hx hb hX hbl hbA hS (vp_in_iff.mpr ⟨by omega, by omega⟩) dL_law_1380 ?_
  refine lv_topi (fun vix1 evix1 => ?_)
  refine lv_aload_n hx hb dL_law_1381 rfl (lv_at hl 4 rfl) ?_
  refine lv_iload hx hb dL_law_1382 (lv_at hl 0 rfl) ?_
  refine lv_iconst (v := 2) hx hb dL_law_1384 zk_iconst_2 ?_
  refine lv_iadd hx hb dL_law_1385 ?_
  refine lv_topi (fun ix2 eix2 => ?_)
  have qix2 : ix2.toInt = i.toInt + 2 := ai_add eix2 ⟨hi0, hiM⟩ ⟨zq12, zq13⟩ (by decide) (by decide)
  refine va_sld (L := L) (i := ix2) hx hb hX hbl hbA hS (vp_in_iff.mpr ⟨by omega, by omega⟩) dL_law_1386 ?_
  refine lv_topi (fun vix2 evix2 => ?_)
  refine lv_if_eq (tgt := 1394) hx hb dL_law_1387 (by decide) (fun c_1 => ?_) (fun c_1 => ?_)
  · refine lv_iconst (v := 0) hx hb dL_law_1394 zk_iconst_0 ?_
    refine lv_aload_n hx hb dL_law_1395 rfl (lv_at hl 4 rfl) ?_
    refine lv_iload hx hb dL_law_1396 (lv_at hl 0 rfl) ?_
    refine lv_iconst (v := 3) hx hb dL_law_1398 zk_iconst_3 ?_
    refine lv_iadd hx hb dL_law_1399 ?_
    refine lv_topi (fun ix3 eix3 => ?_)
    have qix3 : ix3.toInt = i.toInt + 3 := ai_add eix3 ⟨hi0, hiM⟩ ⟨zq8, zq9⟩ (by decide) (by decide)
    refine va_sld (L := L) (i := ix3) hx hb hX hbl hbA hS (vp_in_iff.mpr ⟨by omega, by omega⟩) dL_law_1400 ?_
    refine lv_topi (fun vix3 evix3 => ?_)
    refine lv_if_eq (tgt := 1408) hx hb dL_law_1401 (by decide) (fun c_2 => ?_) (fun c_2 => ?_)
    · refine lv_iconst (v := 0) hx hb dL_law_1408 zk_iconst_0 ?_
      refine lv_aload_n hx hb dL_law_1409 rfl (lv_at hl 4 rfl) ?_
      refine lv_iload hx hb dL_law_1410 (lv_at hl 0 rfl) ?_
      refine lv_iconst (v := 4) hx hb dL_law_1412 zk_iconst_4 ?_
      refine lv_iadd hx hb dL_law_1413 ?_
      refine lv_topi (fun ix4 eix4 => ?_)
      have qix4 : ix4.toInt = i.toInt + 4 := ai_add eix4 ⟨hi0, hiM⟩ ⟨zq68, zq67⟩ (by decide) (by decide)
      refine va_sld (L := L) (i := ix4) hx hb hX hbl hbA hS (vp_in_iff.mpr ⟨by omega, by omega⟩) dL_law_1414 ?_
      refine lv_topi (fun vix4 evix4 => ?_)
      refine lv_if_eq (tgt := 1422) hx hb dL_law_1415 (by decide) (fun c_3 => ?_) (fun c_3 => ?_)
      · refine lv_iconst (v := 0) hx hb dL_law_1422 zk_iconst_0 ?_
        have hFc := lg_free hDx hS hA
        obtain ⟨fs1423, hfs1423⟩ := ix_recv hIX
        refine va_calli (va_runV (As := [.int vix1, .int 0, .int 0, .int 0]) (rest := []) ⟨hx, hb, hml, hown, hts⟩ (k_X7_dares l dC dI H.size x tp vi vf wx tx hIX vix1 0 0 0) (cwV 4 hts gd_X7_dares rfl rfl rfl (by decide +kernel) ⟨Nat.le_of_ble_eq_true rfl, Nat.le_of_ble_eq_true rfl⟩) ⟨ax_blind (fun _ _ _ _ _ => trivial), va_recv hKx hPx (ci := 7) (q0 := 0) rfl hfs1423, ax_preE hPx hKx hDx (fun _ _ _ => trivial)⟩ rfl rfl hl.1 rfl (lv_room (Nat.le_of_ble_eq_true rfl)) dL_law_1423 ⟨hcc, hss⟩) hS (fun q _ h => hFc q h) hFc (fun r1423 u t H1 locs ht hvm hw1423 hB hz1 hk1 hS => ?_)
        obtain ⟨wxn, txn, ⟨vi1, vf1, kx1, kx2, hI1⟩, hP1, hK1, hD1⟩ := hB
        rw [ht] at hP1
        have hK1 := va_K.moved hvm.symm hK1
        obtain ⟨hPm, jxm⟩ := lg_step hPm jxm hk1 hD1
        obtain ⟨hPo, jxo⟩ := lg_step hPo jxo hk1 hD1
        have hD1 := hD1.weaken (fun _ _ _ h9 => hFc _ h9)
        clear hPx hDx hKx hFc hk1 hz1 hfs1423
        have hIX := hI1; have hPx := hP1; have hDx := hD1; have hKx := hK1; clear hI1 hP1 hD1 hK1
        clear ht; generalize H1 = H at hPx hPm hPo hS ⊢
        refine lv_pop hx hb dL_law_1426 rfl ?_
        refine lv_aload_n hx hb dL_law_1427 rfl (lv_at hl 2 rfl) ?_
        refine lv_aload_n hx hb dL_law_1428 rfl (lv_at hl 4 rfl) ?_
        refine lv_iload hx hb dL_law_1429 (lv_at hl 0 rfl) ?_
        refine lv_iconst (v := 1) hx hb dL_law_1431 zk_iconst_1 ?_
        refine lv_iadd hx hb dL_law_1432 ?_
        refine ax_ti ix1 eix1.symm ?_
        refine va_sld (L := L) (i := ix1) hx hb hX hbl hbA hS (vp_in_iff.mpr ⟨by omega, by omega⟩) dL_law_1433 ?_
        refine ax_ti vix1 evix1.symm ?_
        refine lv_aload_n hx hb dL_law_1434 rfl (lv_at hl 4 rfl) ?_
        refine lv_iload hx hb dL_law_1435 (lv_at hl 0 rfl) ?_
        refine lv_iconst (v := 2) hx hb dL_law_1437 zk_iconst_2 ?_
        refine lv_iadd hx hb dL_law_1438 ?_
        refine ax_ti ix2 eix2.symm ?_
        refine va_sld (L := L) (i := ix2) hx hb hX hbl hbA hS (vp_in_iff.mpr ⟨by omega, by omega⟩) dL_law_1439 ?_
        refine ax_ti vix2 evix2.symm ?_
        refine lv_if_eq (tgt := 1447) hx hb dL_law_1440 (by decide) (fun _ => ?_) (fun c_4 => absurd c_1 c_4)
        refine lv_iconst (v := 0) hx hb dL_law_1447 zk_iconst_0 ?_
        refine lv_aload_n hx hb dL_law_1448 rfl (lv_at hl 4 rfl) ?_
        refine lv_iload hx hb dL_law_1449 (lv_at hl 0 rfl) ?_
        refine lv_iconst (v := 3) hx hb dL_law_1451 zk_iconst_3 ?_
        refine lv_iadd hx hb dL_law_1452 ?_
        refine ax_ti ix3 eix3.symm ?_
        refine va_sld (L := L) (i := ix3) hx hb hX hbl hbA hS (vp_in_iff.mpr ⟨by omega, by omega⟩) dL_law_1453 ?_
        refine ax_ti vix3 evix3.symm ?_
        refine lv_if_eq (tgt := 1461) hx hb dL_law_1454 (by decide) (fun _ => ?_) (fun c_5 => absurd c_2 c_5)
        refine lv_iconst (v := 0) hx hb dL_law_1461 zk_iconst_0 ?_
        refine lv_aload_n hx hb dL_law_1462 rfl (lv_at hl 4 rfl) ?_
        refine lv_iload hx hb dL_law_1463 (lv_at hl 0 rfl) ?_
        refine lv_iconst (v := 4) hx hb dL_law_1465 zk_iconst_4 ?_
        refine lv_iadd hx hb dL_law_1466 ?_
        refine ax_ti ix4 eix4.symm ?_
        refine va_sld (L := L) (i := ix4) hx hb hX hbl hbA hS (vp_in_iff.mpr ⟨by omega, by omega⟩) dL_law_1467 ?_
        refine ax_ti vix4 evix4.symm ?_
        refine lv_if_eq (tgt := 1475) hx hb dL_law_1468 (by decide) (fun _ => ?_) (fun c_6 => absurd c_3 c_6)
        refine lv_iconst (v := 0) hx hb dL_law_1475 zk_iconst_0 ?_
        have hFc := lg_free hDm hS hA
        obtain ⟨fs1476, hfs1476⟩ := im_recv hIM
        refine va_calli (va_runV (As := [.int vix1, .int 0, .int 0, .int 0]) (rest := []) ⟨hx, hb, hml, hown, hts⟩ (k_X8_dares l dC dI H.size mo tp vm vn wm tm hIM vix1 0 0 0) (cwV 4 hts gd_X8_dares rfl rfl rfl (by decide +kernel) ⟨Nat.le_of_ble_eq_true rfl, Nat.le_of_ble_eq_true rfl⟩) ⟨ax_blind (fun _ _ _ _ _ => trivial), va_recv hKm hPm (ci := 8) (q0 := 0) rfl hfs1476, ax_preE hPm hKm hDm (fun _ _ _ => trivial)⟩ rfl rfl hl.1 rfl (lv_room (Nat.le_of_ble_eq_true rfl)) dL_law_1476 ⟨hcc, hss⟩) hS (fun q _ h => hFc q h) hFc (fun r1476 u t H1 locs ht hvm hw1476 hB hz1 hk1 hS => ?_)
        obtain ⟨wmn, tmn, ⟨vm1, vn1, km1, km2, hI1⟩, hP1, hK1, hD1⟩ := hB
        rw [ht] at hP1
        have hK1 := va_K.moved hvm.symm hK1
        obtain ⟨hPx, jmx⟩ := lg_step hPx (dj_symm jxm) hk1 hD1
        have jxm := dj_symm jmx
        obtain ⟨hPo, jmo⟩ := lg_step hPo jmo hk1 hD1
        have hD1 := hD1.weaken (fun _ _ _ h9 => hFc _ h9)
        clear hPm hDm hKm hFc hk1 hz1 hfs1476
        have hIM := hI1; have hPm := hP1; have hDm := hD1; have hKm := hK1; clear hI1 hP1 hD1 hK1
        clear ht; generalize H1 = H at hPx hPm hPo hS ⊢
        refine lv_pop hx hb dL_law_1479 rfl ?_
        refine lv_goto (tgt := 1941) hx hb dL_law_1480 (by decide) ?_
        have hRn : lr_R tp vi1 vf1 vm1 vn1 := ⟨by rw [kx2 0 (by decide), km2 0 (by decide)]; exact hR.1, lr_keep (fun k9 h9 => kx1 k9 (kp_dis (by decide) h9)) (fun k9 h8 h9 => kx1 k9 (kp_out (a := 57) (b := 152) (by decide) h8 h9)) (fun k9 h9 => kx2 k9 (kp_dis (by decide) h9)) (fun k9 h8 h9 => kx2 k9 (kp_out (a := 23) (b := 61) (by decide) h8 h9)) (fun k9 h9 => km1 k9 (kp_dis (by decide) h9)) (fun k9 h9 => km2 k9 (kp_dis (by decide) h9)) hR.2⟩
        exact kk _ _ _ _ _ (Nat.le_add_right _ _) (Nat.le_add_right _ _) ⟨tp, _, _, _, _, _, _, _, _, _, hIX, hIM, hRn, hKx, hKm, hPx, hPm, hPo, hDx, hDm, hDo, jxm, jxo, jmo⟩ hS (lv_sub hl [0, 1, 2, 3, 4] rfl)
      · refine lv_iconst (v := 1) hx hb dL_law_1418 zk_iconst_1 ?_
        refine lv_goto (tgt := 1423) hx hb dL_law_1419 (by decide) ?_
        have hFc := lg_free hDx hS hA
        obtain ⟨fs1423, hfs1423⟩ := ix_recv hIX
        refine va_calli (va_runV (As := [.int vix1, .int 0, .int 0, .int 1]) (rest := []) ⟨hx, hb, hml, hown, hts⟩ (k_X7_dares l dC dI H.size x tp vi vf wx tx hIX vix1 0 0 1) (cwV 4 hts gd_X7_dares rfl rfl rfl (by decide +kernel) ⟨Nat.le_of_ble_eq_true rfl, Nat.le_of_ble_eq_true rfl⟩) ⟨ax_blind (fun _ _ _ _ _ => trivial), va_recv hKx hPx (ci := 7) (q0 := 0) rfl hfs1423, ax_preE hPx hKx hDx (fun _ _ _ => trivial)⟩ rfl rfl hl.1 rfl (lv_room (Nat.le_of_ble_eq_true rfl)) dL_law_1423 ⟨hcc, hss⟩) hS (fun q _ h => hFc q h) hFc (fun r1423 u t H1 locs ht hvm hw1423 hB hz1 hk1 hS => ?_)
        obtain ⟨wxn, txn, ⟨vi1, vf1, kx1, kx2, hI1⟩, hP1, hK1, hD1⟩ := hB
        rw [ht] at hP1
        have hK1 := va_K.moved hvm.symm hK1
        obtain ⟨hPm, jxm⟩ := lg_step hPm jxm hk1 hD1
        obtain ⟨hPo, jxo⟩ := lg_step hPo jxo hk1 hD1
        have hD1 := hD1.weaken (fun _ _ _ h9 => hFc _ h9)
        clear hPx hDx hKx hFc hk1 hz1 hfs1423
        have hIX := hI1; have hPx := hP1; have hDx := hD1; have hKx := hK1; clear hI1 hP1 hD1 hK1
        clear ht; generalize H1 = H at hPx hPm hPo hS ⊢
        refine lv_pop hx hb dL_law_1426 rfl ?_
        refine lv_aload_n hx hb dL_law_1427 rfl (lv_at hl 2 rfl) ?_
        refine lv_aload_n hx hb dL_law_1428 rfl (lv_at hl 4 rfl) ?_
        refine lv_iload hx hb dL_law_1429 (lv_at hl 0 rfl) ?_
        refine lv_iconst (v := 1) hx hb dL_law_1431 zk_iconst_1 ?_
        refine lv_iadd hx hb dL_law_1432 ?_
        refine ax_ti ix1 eix1.symm ?_
        refine va_sld (L := L) (i := ix1) hx hb hX hbl hbA hS (vp_in_iff.mpr ⟨by omega, by omega⟩) dL_law_1433 ?_
        refine ax_ti vix1 evix1.symm ?_
        refine lv_aload_n hx hb dL_law_1434 rfl (lv_at hl 4 rfl) ?_
        refine lv_iload hx hb dL_law_1435 (lv_at hl 0 rfl) ?_
        refine lv_iconst (v := 2) hx hb dL_law_1437 zk_iconst_2 ?_
        refine lv_iadd hx hb dL_law_1438 ?_
        refine ax_ti ix2 eix2.symm ?_
        refine va_sld (L := L) (i := ix2) hx hb hX hbl hbA hS (vp_in_iff.mpr ⟨by omega, by omega⟩) dL_law_1439 ?_
        refine ax_ti vix2 evix2.symm ?_
        refine lv_if_eq (tgt := 1447) hx hb dL_law_1440 (by decide) (fun _ => ?_) (fun c_7 => absurd c_1 c_7)
        refine lv_iconst (v := 0) hx hb dL_law_1447 zk_iconst_0 ?_
        refine lv_aload_n hx hb dL_law_1448 rfl (lv_at hl 4 rfl) ?_
        refine lv_iload hx hb dL_law_1449 (lv_at hl 0 rfl) ?_
        refine lv_iconst (v := 3) hx hb dL_law_1451 zk_iconst_3 ?_
        refine lv_iadd hx hb dL_law_1452 ?_
        refine ax_ti ix3 eix3.symm ?_
        refine va_sld (L := L) (i := ix3) hx hb hX hbl hbA hS (vp_in_iff.mpr ⟨by omega, by omega⟩) dL_law_1453 ?_
        refine ax_ti vix3 evix3.symm ?_
        refine lv_if_eq (tgt := 1461) hx hb dL_law_1454 (by decide) (fun _ => ?_) (fun c_8 => absurd c_2 c_8)
        refine lv_iconst (v := 0) hx hb dL_law_1461 zk_iconst_0 ?_
        refine lv_aload_n hx hb dL_law_1462 rfl (lv_at hl 4 rfl) ?_
        refine lv_iload hx hb dL_law_1463 (lv_at hl 0 rfl) ?_
        refine lv_iconst (v := 4) hx hb dL_law_1465 zk_iconst_4 ?_
        refine lv_iadd hx hb dL_law_1466 ?_
        refine ax_ti ix4 eix4.symm ?_
        refine va_sld (L := L) (i := ix4) hx hb hX hbl hbA hS (vp_in_iff.mpr ⟨by omega, by omega⟩) dL_law_1467 ?_
        refine ax_ti vix4 evix4.symm ?_
        refine lv_if_eq (tgt := 1475) hx hb dL_law_1468 (by decide) (fun c_9 => absurd c_9 c_3) (fun _ => ?_)
        refine lv_iconst (v := 1) hx hb dL_law_1471 zk_iconst_1 ?_
        refine lv_goto (tgt := 1476) hx hb dL_law_1472 (by decide) ?_
        have hFc := lg_free hDm hS hA
        obtain ⟨fs1476, hfs1476⟩ := im_recv hIM
        refine va_calli (va_runV (As := [.int vix1, .int 0, .int 0, .int 1]) (rest := []) ⟨hx, hb, hml, hown, hts⟩ (k_X8_dares l dC dI H.size mo tp vm vn wm tm hIM vix1 0 0 1) (cwV 4 hts gd_X8_dares rfl rfl rfl (by decide +kernel) ⟨Nat.le_of_ble_eq_true rfl, Nat.le_of_ble_eq_true rfl⟩) ⟨ax_blind (fun _ _ _ _ _ => trivial), va_recv hKm hPm (ci := 8) (q0 := 0) rfl hfs1476, ax_preE hPm hKm hDm (fun _ _ _ => trivial)⟩ rfl rfl hl.1 rfl (lv_room (Nat.le_of_ble_eq_true rfl)) dL_law_1476 ⟨hcc, hss⟩) hS (fun q _ h => hFc q h) hFc (fun r1476 u t H1 locs ht hvm hw1476 hB hz1 hk1 hS => ?_)
        obtain ⟨wmn, tmn, ⟨vm1, vn1, km1, km2, hI1⟩, hP1, hK1, hD1⟩ := hB
        rw [ht] at hP1
        have hK1 := va_K.moved hvm.symm hK1
        obtain ⟨hPx, jmx⟩ := lg_step hPx (dj_symm jxm) hk1 hD1
        have jxm := dj_symm jmx
        obtain ⟨hPo, jmo⟩ := lg_step hPo jmo hk1 hD1
        have hD1 := hD1.weaken (fun _ _ _ h9 => hFc _ h9)
        clear hPm hDm hKm hFc hk1 hz1 hfs1476
        have hIM := hI1; have hPm := hP1; have hDm := hD1; have hKm := hK1; clear hI1 hP1 hD1 hK1
        clear ht; generalize H1 = H at hPx hPm hPo hS ⊢
        refine lv_pop hx hb dL_law_1479 rfl ?_
        refine lv_goto (tgt := 1941) hx hb dL_law_1480 (by decide) ?_
        have hRn : lr_R tp vi1 vf1 vm1 vn1 := ⟨by rw [kx2 0 (by decide), km2 0 (by decide)]; exact hR.1, lr_keep (fun k9 h9 => kx1 k9 (kp_dis (by decide) h9)) (fun k9 h8 h9 => kx1 k9 (kp_out (a := 57) (b := 152) (by decide) h8 h9)) (fun k9 h9 => kx2 k9 (kp_dis (by decide) h9)) (fun k9 h8 h9 => kx2 k9 (kp_out (a := 23) (b := 61) (by decide) h8 h9)) (fun k9 h9 => km1 k9 (kp_dis (by decide) h9)) (fun k9 h9 => km2 k9 (kp_dis (by decide) h9)) hR.2⟩
        exact kk _ _ _ _ _ (Nat.le_add_right _ _) (Nat.le_add_right _ _) ⟨tp, _, _, _, _, _, _, _, _, _, hIX, hIM, hRn, hKx, hKm, hPx, hPm, hPo, hDx, hDm, hDo, jxm, jxo, jmo⟩ hS (lv_sub hl [0, 1, 2, 3, 4] rfl)
    · refine lv_iconst (v := 1) hx hb dL_law_1404 zk_iconst_1 ?_
      refine lv_goto (tgt := 1409) hx hb dL_law_1405 (by decide) ?_
      refine lv_aload_n hx hb dL_law_1409 rfl (lv_at hl 4 rfl) ?_
      refine lv_iload hx hb dL_law_1410 (lv_at hl 0 rfl) ?_
      refine lv_iconst (v := 4) hx hb dL_law_1412 zk_iconst_4 ?_
      refine lv_iadd hx hb dL_law_1413 ?_
      refine lv_topi (fun ix4 eix4 => ?_)
      have qix4 : ix4.toInt = i.toInt + 4 := ai_add eix4 ⟨hi0, hiM⟩ ⟨zq68, zq67⟩ (by decide) (by decide)
      refine va_sld (L := L) (i := ix4) hx hb hX hbl hbA hS (vp_in_iff.mpr ⟨by omega, by omega⟩) dL_law_1414 ?_
      refine lv_topi (fun vix4 evix4 => ?_)
      refine lv_if_eq (tgt := 1422) hx hb dL_law_1415 (by decide) (fun c_10 => ?_) (fun c_10 => ?_)
      · refine lv_iconst (v := 0) hx hb dL_law_1422 zk_iconst_0 ?_
        have hFc := lg_free hDx hS hA
        obtain ⟨fs1423, hfs1423⟩ := ix_recv hIX
        refine va_calli (va_runV (As := [.int vix1, .int 0, .int 1, .int 0]) (rest := []) ⟨hx, hb, hml, hown, hts⟩ (k_X7_dares l dC dI H.size x tp vi vf wx tx hIX vix1 0 1 0) (cwV 4 hts gd_X7_dares rfl rfl rfl (by decide +kernel) ⟨Nat.le_of_ble_eq_true rfl, Nat.le_of_ble_eq_true rfl⟩) ⟨ax_blind (fun _ _ _ _ _ => trivial), va_recv hKx hPx (ci := 7) (q0 := 0) rfl hfs1423, ax_preE hPx hKx hDx (fun _ _ _ => trivial)⟩ rfl rfl hl.1 rfl (lv_room (Nat.le_of_ble_eq_true rfl)) dL_law_1423 ⟨hcc, hss⟩) hS (fun q _ h => hFc q h) hFc (fun r1423 u t H1 locs ht hvm hw1423 hB hz1 hk1 hS => ?_)
        obtain ⟨wxn, txn, ⟨vi1, vf1, kx1, kx2, hI1⟩, hP1, hK1, hD1⟩ := hB
        rw [ht] at hP1
        have hK1 := va_K.moved hvm.symm hK1
        obtain ⟨hPm, jxm⟩ := lg_step hPm jxm hk1 hD1
        obtain ⟨hPo, jxo⟩ := lg_step hPo jxo hk1 hD1
        have hD1 := hD1.weaken (fun _ _ _ h9 => hFc _ h9)
        clear hPx hDx hKx hFc hk1 hz1 hfs1423
        have hIX := hI1; have hPx := hP1; have hDx := hD1; have hKx := hK1; clear hI1 hP1 hD1 hK1
        clear ht; generalize H1 = H at hPx hPm hPo hS ⊢
        refine lv_pop hx hb dL_law_1426 rfl ?_
        refine lv_aload_n hx hb dL_law_1427 rfl (lv_at hl 2 rfl) ?_
        refine lv_aload_n hx hb dL_law_1428 rfl (lv_at hl 4 rfl) ?_
        refine lv_iload hx hb dL_law_1429 (lv_at hl 0 rfl) ?_
        refine lv_iconst (v := 1) hx hb dL_law_1431 zk_iconst_1 ?_
        refine lv_iadd hx hb dL_law_1432 ?_
        refine ax_ti ix1 eix1.symm ?_
        refine va_sld (L := L) (i := ix1) hx hb hX hbl hbA hS (vp_in_iff.mpr ⟨by omega, by omega⟩) dL_law_1433 ?_
        refine ax_ti vix1 evix1.symm ?_
        refine lv_aload_n hx hb dL_law_1434 rfl (lv_at hl 4 rfl) ?_
        refine lv_iload hx hb dL_law_1435 (lv_at hl 0 rfl) ?_
        refine lv_iconst (v := 2) hx hb dL_law_1437 zk_iconst_2 ?_
        refine lv_iadd hx hb dL_law_1438 ?_
        refine ax_ti ix2 eix2.symm ?_
        refine va_sld (L := L) (i := ix2) hx hb hX hbl hbA hS (vp_in_iff.mpr ⟨by omega, by omega⟩) dL_law_1439 ?_
        refine ax_ti vix2 evix2.symm ?_
        refine lv_if_eq (tgt := 1447) hx hb dL_law_1440 (by decide) (fun _ => ?_) (fun c_11 => absurd c_1 c_11)
        refine lv_iconst (v := 0) hx hb dL_law_1447 zk_iconst_0 ?_
        refine lv_aload_n hx hb dL_law_1448 rfl (lv_at hl 4 rfl) ?_
        refine lv_iload hx hb dL_law_1449 (lv_at hl 0 rfl) ?_
        refine lv_iconst (v := 3) hx hb dL_law_1451 zk_iconst_3 ?_
        refine lv_iadd hx hb dL_law_1452 ?_
        refine ax_ti ix3 eix3.symm ?_
        refine va_sld (L := L) (i := ix3) hx hb hX hbl hbA hS (vp_in_iff.mpr ⟨by omega, by omega⟩) dL_law_1453 ?_
        refine ax_ti vix3 evix3.symm ?_
        refine lv_if_eq (tgt := 1461) hx hb dL_law_1454 (by decide) (fun c_12 => absurd c_12 c_2) (fun _ => ?_)
        refine lv_iconst (v := 1) hx hb dL_law_1457 zk_iconst_1 ?_
        refine lv_goto (tgt := 1462) hx hb dL_law_1458 (by decide) ?_
        refine lv_aload_n hx hb dL_law_1462 rfl (lv_at hl 4 rfl) ?_
        refine lv_iload hx hb dL_law_1463 (lv_at hl 0 rfl) ?_
        refine lv_iconst (v := 4) hx hb dL_law_1465 zk_iconst_4 ?_
        refine lv_iadd hx hb dL_law_1466 ?_
        refine ax_ti ix4 eix4.symm ?_
        refine va_sld (L := L) (i := ix4) hx hb hX hbl hbA hS (vp_in_iff.mpr ⟨by omega, by omega⟩) dL_law_1467 ?_
        refine ax_ti vix4 evix4.symm ?_
        refine lv_if_eq (tgt := 1475) hx hb dL_law_1468 (by decide) (fun _ => ?_) (fun c_13 => absurd c_10 c_13)
        refine lv_iconst (v := 0) hx hb dL_law_1475 zk_iconst_0 ?_
        have hFc := lg_free hDm hS hA
        obtain ⟨fs1476, hfs1476⟩ := im_recv hIM
        refine va_calli (va_runV (As := [.int vix1, .int 0, .int 1, .int 0]) (rest := []) ⟨hx, hb, hml, hown, hts⟩ (k_X8_dares l dC dI H.size mo tp vm vn wm tm hIM vix1 0 1 0) (cwV 4 hts gd_X8_dares rfl rfl rfl (by decide +kernel) ⟨Nat.le_of_ble_eq_true rfl, Nat.le_of_ble_eq_true rfl⟩) ⟨ax_blind (fun _ _ _ _ _ => trivial), va_recv hKm hPm (ci := 8) (q0 := 0) rfl hfs1476, ax_preE hPm hKm hDm (fun _ _ _ => trivial)⟩ rfl rfl hl.1 rfl (lv_room (Nat.le_of_ble_eq_true rfl)) dL_law_1476 ⟨hcc, hss⟩) hS (fun q _ h => hFc q h) hFc (fun r1476 u t H1 locs ht hvm hw1476 hB hz1 hk1 hS => ?_)
        obtain ⟨wmn, tmn, ⟨vm1, vn1, km1, km2, hI1⟩, hP1, hK1, hD1⟩ := hB
        rw [ht] at hP1
        have hK1 := va_K.moved hvm.symm hK1
        obtain ⟨hPx, jmx⟩ := lg_step hPx (dj_symm jxm) hk1 hD1
        have jxm := dj_symm jmx
        obtain ⟨hPo, jmo⟩ := lg_step hPo jmo hk1 hD1
        have hD1 := hD1.weaken (fun _ _ _ h9 => hFc _ h9)
        clear hPm hDm hKm hFc hk1 hz1 hfs1476
        have hIM := hI1; have hPm := hP1; have hDm := hD1; have hKm := hK1; clear hI1 hP1 hD1 hK1
        clear ht; generalize H1 = H at hPx hPm hPo hS ⊢
        refine lv_pop hx hb dL_law_1479 rfl ?_
        refine lv_goto (tgt := 1941) hx hb dL_law_1480 (by decide) ?_
        have hRn : lr_R tp vi1 vf1 vm1 vn1 := ⟨by rw [kx2 0 (by decide), km2 0 (by decide)]; exact hR.1, lr_keep (fun k9 h9 => kx1 k9 (kp_dis (by decide) h9)) (fun k9 h8 h9 => kx1 k9 (kp_out (a := 57) (b := 152) (by decide) h8 h9)) (fun k9 h9 => kx2 k9 (kp_dis (by decide) h9)) (fun k9 h8 h9 => kx2 k9 (kp_out (a := 23) (b := 61) (by decide) h8 h9)) (fun k9 h9 => km1 k9 (kp_dis (by decide) h9)) (fun k9 h9 => km2 k9 (kp_dis (by decide) h9)) hR.2⟩
        exact kk _ _ _ _ _ (Nat.le_add_right _ _) (Nat.le_add_right _ _) ⟨tp, _, _, _, _, _, _, _, _, _, hIX, hIM, hRn, hKx, hKm, hPx, hPm, hPo, hDx, hDm, hDo, jxm, jxo, jmo⟩ hS (lv_sub hl [0, 1, 2, 3, 4] rfl)
      · refine lv_iconst (v := 1) hx hb dL_law_1418 zk_iconst_1 ?_
        refine lv_goto (tgt := 1423) hx hb dL_law_1419 (by decide) ?_
        have hFc := lg_free hDx hS hA
        obtain ⟨fs1423, hfs1423⟩ := ix_recv hIX
        refine va_calli (va_runV (As := [.int vix1, .int 0, .int 1, .int 1]) (rest := []) ⟨hx, hb, hml, hown, hts⟩ (k_X7_dares l dC dI H.size x tp vi vf wx tx hIX vix1 0 1 1) (cwV 4 hts gd_X7_dares rfl rfl rfl (by decide +kernel) ⟨Nat.le_of_ble_eq_true rfl, Nat.le_of_ble_eq_true rfl⟩) ⟨ax_blind (fun _ _ _ _ _ => trivial), va_recv hKx hPx (ci := 7) (q0 := 0) rfl hfs1423, ax_preE hPx hKx hDx (fun _ _ _ => trivial)⟩ rfl rfl hl.1 rfl (lv_room (Nat.le_of_ble_eq_true rfl)) dL_law_1423 ⟨hcc, hss⟩) hS (fun q _ h => hFc q h) hFc (fun r1423 u t H1 locs ht hvm hw1423 hB hz1 hk1 hS => ?_)
        obtain ⟨wxn, txn, ⟨vi1, vf1, kx1, kx2, hI1⟩, hP1, hK1, hD1⟩ := hB
        rw [ht] at hP1
        have hK1 := va_K.moved hvm.symm hK1
        obtain ⟨hPm, jxm⟩ := lg_step hPm jxm hk1 hD1
        obtain ⟨hPo, jxo⟩ := lg_step hPo jxo hk1 hD1
        have hD1 := hD1.weaken (fun _ _ _ h9 => hFc _ h9)
        clear hPx hDx hKx hFc hk1 hz1 hfs1423
        have hIX := hI1; have hPx := hP1; have hDx := hD1; have hKx := hK1; clear hI1 hP1 hD1 hK1
        clear ht; generalize H1 = H at hPx hPm hPo hS ⊢
        refine lv_pop hx hb dL_law_1426 rfl ?_
        refine lv_aload_n hx hb dL_law_1427 rfl (lv_at hl 2 rfl) ?_
        refine lv_aload_n hx hb dL_law_1428 rfl (lv_at hl 4 rfl) ?_
        refine lv_iload hx hb dL_law_1429 (lv_at hl 0 rfl) ?_
        refine lv_iconst (v := 1) hx hb dL_law_1431 zk_iconst_1 ?_
        refine lv_iadd hx hb dL_law_1432 ?_
        refine ax_ti ix1 eix1.symm ?_
        refine va_sld (L := L) (i := ix1) hx hb hX hbl hbA hS (vp_in_iff.mpr ⟨by omega, by omega⟩) dL_law_1433 ?_
        refine ax_ti vix1 evix1.symm ?_
        refine lv_aload_n hx hb dL_law_1434 rfl (lv_at hl 4 rfl) ?_
        refine lv_iload hx hb dL_law_1435 (lv_at hl 0 rfl) ?_
        refine lv_iconst (v := 2) hx hb dL_law_1437 zk_iconst_2 ?_
        refine lv_iadd hx hb dL_law_1438 ?_
        refine ax_ti ix2 eix2.symm ?_
        refine va_sld (L := L) (i := ix2) hx hb hX hbl hbA hS (vp_in_iff.mpr ⟨by omega, by omega⟩) dL_law_1439 ?_
        refine ax_ti vix2 evix2.symm ?_
        refine lv_if_eq (tgt := 1447) hx hb dL_law_1440 (by decide) (fun _ => ?_) (fun c_14 => absurd c_1 c_14)
        refine lv_iconst (v := 0) hx hb dL_law_1447 zk_iconst_0 ?_
        refine lv_aload_n hx hb dL_law_1448 rfl (lv_at hl 4 rfl) ?_
        refine lv_iload hx hb dL_law_1449 (lv_at hl 0 rfl) ?_
        refine lv_iconst (v := 3) hx hb dL_law_1451 zk_iconst_3 ?_
        refine lv_iadd hx hb dL_law_1452 ?_
        refine ax_ti ix3 eix3.symm ?_
        refine va_sld (L := L) (i := ix3) hx hb hX hbl hbA hS (vp_in_iff.mpr ⟨by omega, by omega⟩) dL_law_1453 ?_
        refine ax_ti vix3 evix3.symm ?_
        refine lv_if_eq (tgt := 1461) hx hb dL_law_1454 (by decide) (fun c_15 => absurd c_15 c_2) (fun _ => ?_)
        refine lv_iconst (v := 1) hx hb dL_law_1457 zk_iconst_1 ?_
        refine lv_goto (tgt := 1462) hx hb dL_law_1458 (by decide) ?_
        refine lv_aload_n hx hb dL_law_1462 rfl (lv_at hl 4 rfl) ?_
        refine lv_iload hx hb dL_law_1463 (lv_at hl 0 rfl) ?_
        refine lv_iconst (v := 4) hx hb dL_law_1465 zk_iconst_4 ?_
        refine lv_iadd hx hb dL_law_1466 ?_
        refine ax_ti ix4 eix4.symm ?_
        refine va_sld (L := L) (i := ix4) hx hb hX hbl hbA hS (vp_in_iff.mpr ⟨by omega, by omega⟩) dL_law_1467 ?_
        refine ax_ti vix4 evix4.symm ?_
        refine lv_if_eq (tgt := 1475) hx hb dL_law_1468 (by decide) (fun c_16 => absurd c_16 c_10) (fun _ => ?_)
        refine lv_iconst (v := 1) hx hb dL_law_1471 zk_iconst_1 ?_
        refine lv_goto (tgt := 1476) hx hb dL_law_1472 (by decide) ?_
        have hFc := lg_free hDm hS hA
        obtain ⟨fs1476, hfs1476⟩ := im_recv hIM
        refine va_calli (va_runV (As := [.int vix1, .int 0, .int 1, .int 1]) (rest := []) ⟨hx, hb, hml, hown, hts⟩ (k_X8_dares l dC dI H.size mo tp vm vn wm tm hIM vix1 0 1 1) (cwV 4 hts gd_X8_dares rfl rfl rfl (by decide +kernel) ⟨Nat.le_of_ble_eq_true rfl, Nat.le_of_ble_eq_true rfl⟩) ⟨ax_blind (fun _ _ _ _ _ => trivial), va_recv hKm hPm (ci := 8) (q0 := 0) rfl hfs1476, ax_preE hPm hKm hDm (fun _ _ _ => trivial)⟩ rfl rfl hl.1 rfl (lv_room (Nat.le_of_ble_eq_true rfl)) dL_law_1476 ⟨hcc, hss⟩) hS (fun q _ h => hFc q h) hFc (fun r1476 u t H1 locs ht hvm hw1476 hB hz1 hk1 hS => ?_)
        obtain ⟨wmn, tmn, ⟨vm1, vn1, km1, km2, hI1⟩, hP1, hK1, hD1⟩ := hB
        rw [ht] at hP1
        have hK1 := va_K.moved hvm.symm hK1
        obtain ⟨hPx, jmx⟩ := lg_step hPx (dj_symm jxm) hk1 hD1
        have jxm := dj_symm jmx
        obtain ⟨hPo, jmo⟩ := lg_step hPo jmo hk1 hD1
        have hD1 := hD1.weaken (fun _ _ _ h9 => hFc _ h9)
        clear hPm hDm hKm hFc hk1 hz1 hfs1476
        have hIM := hI1; have hPm := hP1; have hDm := hD1; have hKm := hK1; clear hI1 hP1 hD1 hK1
        clear ht; generalize H1 = H at hPx hPm hPo hS ⊢
        refine lv_pop hx hb dL_law_1479 rfl ?_
        refine lv_goto (tgt := 1941) hx hb dL_law_1480 (by decide) ?_
        have hRn : lr_R tp vi1 vf1 vm1 vn1 := ⟨by rw [kx2 0 (by decide), km2 0 (by decide)]; exact hR.1, lr_keep (fun k9 h9 => kx1 k9 (kp_dis (by decide) h9)) (fun k9 h8 h9 => kx1 k9 (kp_out (a := 57) (b := 152) (by decide) h8 h9)) (fun k9 h9 => kx2 k9 (kp_dis (by decide) h9)) (fun k9 h8 h9 => kx2 k9 (kp_out (a := 23) (b := 61) (by decide) h8 h9)) (fun k9 h9 => km1 k9 (kp_dis (by decide) h9)) (fun k9 h9 => km2 k9 (kp_dis (by decide) h9)) hR.2⟩
        exact kk _ _ _ _ _ (Nat.le_add_right _ _) (Nat.le_add_right _ _) ⟨tp, _, _, _, _, _, _, _, _, _, hIX, hIM, hRn, hKx, hKm, hPx, hPm, hPo, hDx, hDm, hDo, jxm, jxo, jmo⟩ hS (lv_sub hl [0, 1, 2, 3, 4] rfl)
  · refine lv_iconst (v := 1) hx hb dL_law_1390 zk_iconst_1 ?_
    refine lv_goto (tgt := 1395) hx hb dL_law_1391 (by decide) ?_
    refine lv_aload_n hx hb dL_law_1395 rfl (lv_at hl 4 rfl) ?_
    refine lv_iload hx hb dL_law_1396 (lv_at hl 0 rfl) ?_
    refine lv_iconst (v := 3) hx hb dL_law_1398 zk_iconst_3 ?_
    refine lv_iadd hx hb dL_law_1399 ?_
    refine lv_topi (fun ix3 eix3 => ?_)
    have qix3 : ix3.toInt = i.toInt + 3 := ai_add eix3 ⟨hi0, hiM⟩ ⟨zq8, zq9⟩ (by decide) (by decide)
    refine va_sld (L := L) (i := ix3) hx hb hX hbl hbA hS (vp_in_iff.mpr ⟨by omega, by omega⟩) dL_law_1400 ?_
    refine lv_topi (fun vix3 evix3 => ?_)
    refine lv_if_eq (tgt := 1408) hx hb dL_law_1401 (by decide) (fun c_17 => ?_) (fun c_17 => ?_)
    · refine lv_iconst (v := 0) hx hb dL_law_1408 zk_iconst_0 ?_
      refine lv_aload_n hx hb dL_law_1409 rfl (lv_at hl 4 rfl) ?_
      refine lv_iload hx hb dL_law_1410 (lv_at hl 0 rfl) ?_
      refine lv_iconst (v := 4) hx hb dL_law_1412 zk_iconst_4 ?_
      refine lv_iadd hx hb dL_law_1413 ?_
      refine lv_topi (fun ix4 eix4 => ?_)
      have qix4 : ix4.toInt = i.toInt + 4 := ai_add eix4 ⟨hi0, hiM⟩ ⟨zq68, zq67⟩ (by decide) (by decide)
      refine va_sld (L := L) (i := ix4) hx hb hX hbl hbA hS (vp_in_iff.mpr ⟨by omega, by omega⟩) dL_law_1414 ?_
      refine lv_topi (fun vix4 evix4 => ?_)
      refine lv_if_eq (tgt := 1422) hx hb dL_law_1415 (by decide) (fun c_18 => ?_) (fun c_18 => ?_)
      · refine lv_iconst (v := 0) hx hb dL_law_1422 zk_iconst_0 ?_
        have hFc := lg_free hDx hS hA
        obtain ⟨fs1423, hfs1423⟩ := ix_recv hIX
        refine va_calli (va_runV (As := [.int vix1, .int 1, .int 0, .int 0]) (rest := []) ⟨hx, hb, hml, hown, hts⟩ (k_X7_dares l dC dI H.size x tp vi vf wx tx hIX vix1 1 0 0) (cwV 4 hts gd_X7_dares rfl rfl rfl (by decide +kernel) ⟨Nat.le_of_ble_eq_true rfl, Nat.le_of_ble_eq_true rfl⟩) ⟨ax_blind (fun _ _ _ _ _ => trivial), va_recv hKx hPx (ci := 7) (q0 := 0) rfl hfs1423, ax_preE hPx hKx hDx (fun _ _ _ => trivial)⟩ rfl rfl hl.1 rfl (lv_room (Nat.le_of_ble_eq_true rfl)) dL_law_1423 ⟨hcc, hss⟩) hS (fun q _ h => hFc q h) hFc (fun r1423 u t H1 locs ht hvm hw1423 hB hz1 hk1 hS => ?_)
        obtain ⟨wxn, txn, ⟨vi1, vf1, kx1, kx2, hI1⟩, hP1, hK1, hD1⟩ := hB
        rw [ht] at hP1
        have hK1 := va_K.moved hvm.symm hK1
        obtain ⟨hPm, jxm⟩ := lg_step hPm jxm hk1 hD1
        obtain ⟨hPo, jxo⟩ := lg_step hPo jxo hk1 hD1
        have hD1 := hD1.weaken (fun _ _ _ h9 => hFc _ h9)
        clear hPx hDx hKx hFc hk1 hz1 hfs1423
        have hIX := hI1; have hPx := hP1; have hDx := hD1; have hKx := hK1; clear hI1 hP1 hD1 hK1
        clear ht; generalize H1 = H at hPx hPm hPo hS ⊢
        refine lv_pop hx hb dL_law_1426 rfl ?_
        refine lv_aload_n hx hb dL_law_1427 rfl (lv_at hl 2 rfl) ?_
        refine lv_aload_n hx hb dL_law_1428 rfl (lv_at hl 4 rfl) ?_
        refine lv_iload hx hb dL_law_1429 (lv_at hl 0 rfl) ?_
        refine lv_iconst (v := 1) hx hb dL_law_1431 zk_iconst_1 ?_
        refine lv_iadd hx hb dL_law_1432 ?_
        refine ax_ti ix1 eix1.symm ?_
        refine va_sld (L := L) (i := ix1) hx hb hX hbl hbA hS (vp_in_iff.mpr ⟨by omega, by omega⟩) dL_law_1433 ?_
        refine ax_ti vix1 evix1.symm ?_
        refine lv_aload_n hx hb dL_law_1434 rfl (lv_at hl 4 rfl) ?_
        refine lv_iload hx hb dL_law_1435 (lv_at hl 0 rfl) ?_
        refine lv_iconst (v := 2) hx hb dL_law_1437 zk_iconst_2 ?_
        refine lv_iadd hx hb dL_law_1438 ?_
        refine ax_ti ix2 eix2.symm ?_
        refine va_sld (L := L) (i := ix2) hx hb hX hbl hbA hS (vp_in_iff.mpr ⟨by omega, by omega⟩) dL_law_1439 ?_
        refine ax_ti vix2 evix2.symm ?_
        refine lv_if_eq (tgt := 1447) hx hb dL_law_1440 (by decide) (fun c_19 => absurd c_19 c_1) (fun _ => ?_)
        refine lv_iconst (v := 1) hx hb dL_law_1443 zk_iconst_1 ?_
        refine lv_goto (tgt := 1448) hx hb dL_law_1444 (by decide) ?_
        refine lv_aload_n hx hb dL_law_1448 rfl (lv_at hl 4 rfl) ?_
        refine lv_iload hx hb dL_law_1449 (lv_at hl 0 rfl) ?_
        refine lv_iconst (v := 3) hx hb dL_law_1451 zk_iconst_3 ?_
        refine lv_iadd hx hb dL_law_1452 ?_
        refine ax_ti ix3 eix3.symm ?_
        refine va_sld (L := L) (i := ix3) hx hb hX hbl hbA hS (vp_in_iff.mpr ⟨by omega, by omega⟩) dL_law_1453 ?_
        refine ax_ti vix3 evix3.symm ?_
        refine lv_if_eq (tgt := 1461) hx hb dL_law_1454 (by decide) (fun _ => ?_) (fun c_20 => absurd c_17 c_20)
        refine lv_iconst (v := 0) hx hb dL_law_1461 zk_iconst_0 ?_
        refine lv_aload_n hx hb dL_law_1462 rfl (lv_at hl 4 rfl) ?_
        refine lv_iload hx hb dL_law_1463 (lv_at hl 0 rfl) ?_
        refine lv_iconst (v := 4) hx hb dL_law_1465 zk_iconst_4 ?_
        refine lv_iadd hx hb dL_law_1466 ?_
        refine ax_ti ix4 eix4.symm ?_
        refine va_sld (L := L) (i := ix4) hx hb hX hbl hbA hS (vp_in_iff.mpr ⟨by omega, by omega⟩) dL_law_1467 ?_
        refine ax_ti vix4 evix4.symm ?_
        refine lv_if_eq (tgt := 1475) hx hb dL_law_1468 (by decide) (fun _ => ?_) (fun c_21 => absurd c_18 c_21)
        refine lv_iconst (v := 0) hx hb dL_law_1475 zk_iconst_0 ?_
        have hFc := lg_free hDm hS hA
        obtain ⟨fs1476, hfs1476⟩ := im_recv hIM
        refine va_calli (va_runV (As := [.int vix1, .int 1, .int 0, .int 0]) (rest := []) ⟨hx, hb, hml, hown, hts⟩ (k_X8_dares l dC dI H.size mo tp vm vn wm tm hIM vix1 1 0 0) (cwV 4 hts gd_X8_dares rfl rfl rfl (by decide +kernel) ⟨Nat.le_of_ble_eq_true rfl, Nat.le_of_ble_eq_true rfl⟩) ⟨ax_blind (fun _ _ _ _ _ => trivial), va_recv hKm hPm (ci := 8) (q0 := 0) rfl hfs1476, ax_preE hPm hKm hDm (fun _ _ _ => trivial)⟩ rfl rfl hl.1 rfl (lv_room (Nat.le_of_ble_eq_true rfl)) dL_law_1476 ⟨hcc, hss⟩) hS (fun q _ h => hFc q h) hFc (fun r1476 u t H1 locs ht hvm hw1476 hB hz1 hk1 hS => ?_)
        obtain ⟨wmn, tmn, ⟨vm1, vn1, km1, km2, hI1⟩, hP1, hK1, hD1⟩ := hB
        rw [ht] at hP1
        have hK1 := va_K.moved hvm.symm hK1
        obtain ⟨hPx, jmx⟩ := lg_step hPx (dj_symm jxm) hk1 hD1
        have jxm := dj_symm jmx
        obtain ⟨hPo, jmo⟩ := lg_step hPo jmo hk1 hD1
        have hD1 := hD1.weaken (fun _ _ _ h9 => hFc _ h9)
        clear hPm hDm hKm hFc hk1 hz1 hfs1476
        have hIM := hI1; have hPm := hP1; have hDm := hD1; have hKm := hK1; clear hI1 hP1 hD1 hK1
        clear ht; generalize H1 = H at hPx hPm hPo hS ⊢
        refine lv_pop hx hb dL_law_1479 rfl ?_
        refine lv_goto (tgt := 1941) hx hb dL_law_1480 (by decide) ?_
        have hRn : lr_R tp vi1 vf1 vm1 vn1 := ⟨by rw [kx2 0 (by decide), km2 0 (by decide)]; exact hR.1, lr_keep (fun k9 h9 => kx1 k9 (kp_dis (by decide) h9)) (fun k9 h8 h9 => kx1 k9 (kp_out (a := 57) (b := 152) (by decide) h8 h9)) (fun k9 h9 => kx2 k9 (kp_dis (by decide) h9)) (fun k9 h8 h9 => kx2 k9 (kp_out (a := 23) (b := 61) (by decide) h8 h9)) (fun k9 h9 => km1 k9 (kp_dis (by decide) h9)) (fun k9 h9 => km2 k9 (kp_dis (by decide) h9)) hR.2⟩
        exact kk _ _ _ _ _ (Nat.le_add_right _ _) (Nat.le_add_right _ _) ⟨tp, _, _, _, _, _, _, _, _, _, hIX, hIM, hRn, hKx, hKm, hPx, hPm, hPo, hDx, hDm, hDo, jxm, jxo, jmo⟩ hS (lv_sub hl [0, 1, 2, 3, 4] rfl)
      · refine lv_iconst (v := 1) hx hb dL_law_1418 zk_iconst_1 ?_
        refine lv_goto (tgt := 1423) hx hb dL_law_1419 (by decide) ?_
        have hFc := lg_free hDx hS hA
        obtain ⟨fs1423, hfs1423⟩ := ix_recv hIX
        refine va_calli (va_runV (As := [.int vix1, .int 1, .int 0, .int 1]) (rest := []) ⟨hx, hb, hml, hown, hts⟩ (k_X7_dares l dC dI H.size x tp vi vf wx tx hIX vix1 1 0 1) (cwV 4 hts gd_X7_dares rfl rfl rfl (by decide +kernel) ⟨Nat.le_of_ble_eq_true rfl, Nat.le_of_ble_eq_true rfl⟩) ⟨ax_blind (fun _ _ _ _ _ => trivial), va_recv hKx hPx (ci := 7) (q0 := 0) rfl hfs1423, ax_preE hPx hKx hDx (fun _ _ _ => trivial)⟩ rfl rfl hl.1 rfl (lv_room (Nat.le_of_ble_eq_true rfl)) dL_law_1423 ⟨hcc, hss⟩) hS (fun q _ h => hFc q h) hFc (fun r1423 u t H1 locs ht hvm hw1423 hB hz1 hk1 hS => ?_)
        obtain ⟨wxn, txn, ⟨vi1, vf1, kx1, kx2, hI1⟩, hP1, hK1, hD1⟩ := hB
        rw [ht] at hP1
        have hK1 := va_K.moved hvm.symm hK1
        obtain ⟨hPm, jxm⟩ := lg_step hPm jxm hk1 hD1
        obtain ⟨hPo, jxo⟩ := lg_step hPo jxo hk1 hD1
        have hD1 := hD1.weaken (fun _ _ _ h9 => hFc _ h9)
        clear hPx hDx hKx hFc hk1 hz1 hfs1423
        have hIX := hI1; have hPx := hP1; have hDx := hD1; have hKx := hK1; clear hI1 hP1 hD1 hK1
        clear ht; generalize H1 = H at hPx hPm hPo hS ⊢
        refine lv_pop hx hb dL_law_1426 rfl ?_
        refine lv_aload_n hx hb dL_law_1427 rfl (lv_at hl 2 rfl) ?_
        refine lv_aload_n hx hb dL_law_1428 rfl (lv_at hl 4 rfl) ?_
        refine lv_iload hx hb dL_law_1429 (lv_at hl 0 rfl) ?_
        refine lv_iconst (v := 1) hx hb dL_law_1431 zk_iconst_1 ?_
        refine lv_iadd hx hb dL_law_1432 ?_
        refine ax_ti ix1 eix1.symm ?_
        refine va_sld (L := L) (i := ix1) hx hb hX hbl hbA hS (vp_in_iff.mpr ⟨by omega, by omega⟩) dL_law_1433 ?_
        refine ax_ti vix1 evix1.symm ?_
        refine lv_aload_n hx hb dL_law_1434 rfl (lv_at hl 4 rfl) ?_
        refine lv_iload hx hb dL_law_1435 (lv_at hl 0 rfl) ?_
        refine lv_iconst (v := 2) hx hb dL_law_1437 zk_iconst_2 ?_
        refine lv_iadd hx hb dL_law_1438 ?_
        refine ax_ti ix2 eix2.symm ?_
        refine va_sld (L := L) (i := ix2) hx hb hX hbl hbA hS (vp_in_iff.mpr ⟨by omega, by omega⟩) dL_law_1439 ?_
        refine ax_ti vix2 evix2.symm ?_
        refine lv_if_eq (tgt := 1447) hx hb dL_law_1440 (by decide) (fun c_22 => absurd c_22 c_1) (fun _ => ?_)
        refine lv_iconst (v := 1) hx hb dL_law_1443 zk_iconst_1 ?_
        refine lv_goto (tgt := 1448) hx hb dL_law_1444 (by decide) ?_
        refine lv_aload_n hx hb dL_law_1448 rfl (lv_at hl 4 rfl) ?_
        refine lv_iload hx hb dL_law_1449 (lv_at hl 0 rfl) ?_
        refine lv_iconst (v := 3) hx hb dL_law_1451 zk_iconst_3 ?_
        refine lv_iadd hx hb dL_law_1452 ?_
        refine ax_ti ix3 eix3.symm ?_
        refine va_sld (L := L) (i := ix3) hx hb hX hbl hbA hS (vp_in_iff.mpr ⟨by omega, by omega⟩) dL_law_1453 ?_
        refine ax_ti vix3 evix3.symm ?_
        refine lv_if_eq (tgt := 1461) hx hb dL_law_1454 (by decide) (fun _ => ?_) (fun c_23 => absurd c_17 c_23)
        refine lv_iconst (v := 0) hx hb dL_law_1461 zk_iconst_0 ?_
        refine lv_aload_n hx hb dL_law_1462 rfl (lv_at hl 4 rfl) ?_
        refine lv_iload hx hb dL_law_1463 (lv_at hl 0 rfl) ?_
        refine lv_iconst (v := 4) hx hb dL_law_1465 zk_iconst_4 ?_
        refine lv_iadd hx hb dL_law_1466 ?_
        refine ax_ti ix4 eix4.symm ?_
        refine va_sld (L := L) (i := ix4) hx hb hX hbl hbA hS (vp_in_iff.mpr ⟨by omega, by omega⟩) dL_law_1467 ?_
        refine ax_ti vix4 evix4.symm ?_
        refine lv_if_eq (tgt := 1475) hx hb dL_law_1468 (by decide) (fun c_24 => absurd c_24 c_18) (fun _ => ?_)
        refine lv_iconst (v := 1) hx hb dL_law_1471 zk_iconst_1 ?_
        refine lv_goto (tgt := 1476) hx hb dL_law_1472 (by decide) ?_
        have hFc := lg_free hDm hS hA
        obtain ⟨fs1476, hfs1476⟩ := im_recv hIM
        refine va_calli (va_runV (As := [.int vix1, .int 1, .int 0, .int 1]) (rest := []) ⟨hx, hb, hml, hown, hts⟩ (k_X8_dares l dC dI H.size mo tp vm vn wm tm hIM vix1 1 0 1) (cwV 4 hts gd_X8_dares rfl rfl rfl (by decide +kernel) ⟨Nat.le_of_ble_eq_true rfl, Nat.le_of_ble_eq_true rfl⟩) ⟨ax_blind (fun _ _ _ _ _ => trivial), va_recv hKm hPm (ci := 8) (q0 := 0) rfl hfs1476, ax_preE hPm hKm hDm (fun _ _ _ => trivial)⟩ rfl rfl hl.1 rfl (lv_room (Nat.le_of_ble_eq_true rfl)) dL_law_1476 ⟨hcc, hss⟩) hS (fun q _ h => hFc q h) hFc (fun r1476 u t H1 locs ht hvm hw1476 hB hz1 hk1 hS => ?_)
        obtain ⟨wmn, tmn, ⟨vm1, vn1, km1, km2, hI1⟩, hP1, hK1, hD1⟩ := hB
        rw [ht] at hP1
        have hK1 := va_K.moved hvm.symm hK1
        obtain ⟨hPx, jmx⟩ := lg_step hPx (dj_symm jxm) hk1 hD1
        have jxm := dj_symm jmx
        obtain ⟨hPo, jmo⟩ := lg_step hPo jmo hk1 hD1
        have hD1 := hD1.weaken (fun _ _ _ h9 => hFc _ h9)
        clear hPm hDm hKm hFc hk1 hz1 hfs1476
        have hIM := hI1; have hPm := hP1; have hDm := hD1; have hKm := hK1; clear hI1 hP1 hD1 hK1
        clear ht; generalize H1 = H at hPx hPm hPo hS ⊢
        refine lv_pop hx hb dL_law_1479 rfl ?_
        refine lv_goto (tgt := 1941) hx hb dL_law_1480 (by decide) ?_
        have hRn : lr_R tp vi1 vf1 vm1 vn1 := ⟨by rw [kx2 0 (by decide), km2 0 (by decide)]; exact hR.1, lr_keep (fun k9 h9 => kx1 k9 (kp_dis (by decide) h9)) (fun k9 h8 h9 => kx1 k9 (kp_out (a := 57) (b := 152) (by decide) h8 h9)) (fun k9 h9 => kx2 k9 (kp_dis (by decide) h9)) (fun k9 h8 h9 => kx2 k9 (kp_out (a := 23) (b := 61) (by decide) h8 h9)) (fun k9 h9 => km1 k9 (kp_dis (by decide) h9)) (fun k9 h9 => km2 k9 (kp_dis (by decide) h9)) hR.2⟩
        exact kk _ _ _ _ _ (Nat.le_add_right _ _) (Nat.le_add_right _ _) ⟨tp, _, _, _, _, _, _, _, _, _, hIX, hIM, hRn, hKx, hKm, hPx, hPm, hPo, hDx, hDm, hDo, jxm, jxo, jmo⟩ hS (lv_sub hl [0, 1, 2, 3, 4] rfl)
    · refine lv_iconst (v := 1) hx hb dL_law_1404 zk_iconst_1 ?_
      refine lv_goto (tgt := 1409) hx hb dL_law_1405 (by decide) ?_
      refine lv_aload_n hx hb dL_law_1409 rfl (lv_at hl 4 rfl) ?_
      refine lv_iload hx hb dL_law_1410 (lv_at hl 0 rfl) ?_
      refine lv_iconst (v := 4) hx hb dL_law_1412 zk_iconst_4 ?_
      refine lv_iadd hx hb dL_law_1413 ?_
      refine lv_topi (fun ix4 eix4 => ?_)
      have qix4 : ix4.toInt = i.toInt + 4 := ai_add eix4 ⟨hi0, hiM⟩ ⟨zq68, zq67⟩ (by decide) (by decide)
      refine va_sld (L := L) (i := ix4) hx hb hX hbl hbA hS (vp_in_iff.mpr ⟨by omega, by omega⟩) dL_law_1414 ?_
      refine lv_topi (fun vix4 evix4 => ?_)
      refine lv_if_eq (tgt := 1422) hx hb dL_law_1415 (by decide) (fun c_25 => ?_) (fun c_25 => ?_)
      · refine lv_iconst (v := 0) hx hb dL_law_1422 zk_iconst_0 ?_
        have hFc := lg_free hDx hS hA
        obtain ⟨fs1423, hfs1423⟩ := ix_recv hIX
        refine va_calli (va_runV (As := [.int vix1, .int 1, .int 1, .int 0]) (rest := []) ⟨hx, hb, hml, hown, hts⟩ (k_X7_dares l dC dI H.size x tp vi vf wx tx hIX vix1 1 1 0) (cwV 4 hts gd_X7_dares rfl rfl rfl (by decide +kernel) ⟨Nat.le_of_ble_eq_true rfl, Nat.le_of_ble_eq_true rfl⟩) ⟨ax_blind (fun _ _ _ _ _ => trivial), va_recv hKx hPx (ci := 7) (q0 := 0) rfl hfs1423, ax_preE hPx hKx hDx (fun _ _ _ => trivial)⟩ rfl rfl hl.1 rfl (lv_room (Nat.le_of_ble_eq_true rfl)) dL_law_1423 ⟨hcc, hss⟩) hS (fun q _ h => hFc q h) hFc (fun r1423 u t H1 locs ht hvm hw1423 hB hz1 hk1 hS => ?_)
        obtain ⟨wxn, txn, ⟨vi1, vf1, kx1, kx2, hI1⟩, hP1, hK1, hD1⟩ := hB
        rw [ht] at hP1
        have hK1 := va_K.moved hvm.symm hK1
        obtain ⟨hPm, jxm⟩ := lg_step hPm jxm hk1 hD1
        obtain ⟨hPo, jxo⟩ := lg_step hPo jxo hk1 hD1
        have hD1 := hD1.weaken (fun _ _ _ h9 => hFc _ h9)
        clear hPx hDx hKx hFc hk1 hz1 hfs1423
        have hIX := hI1; have hPx := hP1; have hDx := hD1; have hKx := hK1; clear hI1 hP1 hD1 hK1
        clear ht; generalize H1 = H at hPx hPm hPo hS ⊢
        refine lv_pop hx hb dL_law_1426 rfl ?_
        refine lv_aload_n hx hb dL_law_1427 rfl (lv_at hl 2 rfl) ?_
        refine lv_aload_n hx hb dL_law_1428 rfl (lv_at hl 4 rfl) ?_
        refine lv_iload hx hb dL_law_1429 (lv_at hl 0 rfl) ?_
        refine lv_iconst (v := 1) hx hb dL_law_1431 zk_iconst_1 ?_
        refine lv_iadd hx hb dL_law_1432 ?_
        refine ax_ti ix1 eix1.symm ?_
        refine va_sld (L := L) (i := ix1) hx hb hX hbl hbA hS (vp_in_iff.mpr ⟨by omega, by omega⟩) dL_law_1433 ?_
        refine ax_ti vix1 evix1.symm ?_
        refine lv_aload_n hx hb dL_law_1434 rfl (lv_at hl 4 rfl) ?_
        refine lv_iload hx hb dL_law_1435 (lv_at hl 0 rfl) ?_
        refine lv_iconst (v := 2) hx hb dL_law_1437 zk_iconst_2 ?_
        refine lv_iadd hx hb dL_law_1438 ?_
        refine ax_ti ix2 eix2.symm ?_
        refine va_sld (L := L) (i := ix2) hx hb hX hbl hbA hS (vp_in_iff.mpr ⟨by omega, by omega⟩) dL_law_1439 ?_
        refine ax_ti vix2 evix2.symm ?_
        refine lv_if_eq (tgt := 1447) hx hb dL_law_1440 (by decide) (fun c_26 => absurd c_26 c_1) (fun _ => ?_)
        refine lv_iconst (v := 1) hx hb dL_law_1443 zk_iconst_1 ?_
        refine lv_goto (tgt := 1448) hx hb dL_law_1444 (by decide) ?_
        refine lv_aload_n hx hb dL_law_1448 rfl (lv_at hl 4 rfl) ?_
        refine lv_iload hx hb dL_law_1449 (lv_at hl 0 rfl) ?_
        refine lv_iconst (v := 3) hx hb dL_law_1451 zk_iconst_3 ?_
        refine lv_iadd hx hb dL_law_1452 ?_
        refine ax_ti ix3 eix3.symm ?_
        refine va_sld (L := L) (i := ix3) hx hb hX hbl hbA hS (vp_in_iff.mpr ⟨by omega, by omega⟩) dL_law_1453 ?_
        refine ax_ti vix3 evix3.symm ?_
        refine lv_if_eq (tgt := 1461) hx hb dL_law_1454 (by decide) (fun c_27 => absurd c_27 c_17) (fun _ => ?_)
        refine lv_iconst (v := 1) hx hb dL_law_1457 zk_iconst_1 ?_
        refine lv_goto (tgt := 1462) hx hb dL_law_1458 (by decide) ?_
        refine lv_aload_n hx hb dL_law_1462 rfl (lv_at hl 4 rfl) ?_
        refine lv_iload hx hb dL_law_1463 (lv_at hl 0 rfl) ?_
        refine lv_iconst (v := 4) hx hb dL_law_1465 zk_iconst_4 ?_
        refine lv_iadd hx hb dL_law_1466 ?_
        refine ax_ti ix4 eix4.symm ?_
        refine va_sld (L := L) (i := ix4) hx hb hX hbl hbA hS (vp_in_iff.mpr ⟨by omega, by omega⟩) dL_law_1467 ?_
        refine ax_ti vix4 evix4.symm ?_
        refine lv_if_eq (tgt := 1475) hx hb dL_law_1468 (by decide) (fun _ => ?_) (fun c_28 => absurd c_25 c_28)
        refine lv_iconst (v := 0) hx hb dL_law_1475 zk_iconst_0 ?_
        have hFc := lg_free hDm hS hA
        obtain ⟨fs1476, hfs1476⟩ := im_recv hIM
        refine va_calli (va_runV (As := [.int vix1, .int 1, .int 1, .int 0]) (rest := []) ⟨hx, hb, hml, hown, hts⟩ (k_X8_dares l dC dI H.size mo tp vm vn wm tm hIM vix1 1 1 0) (cwV 4 hts gd_X8_dares rfl rfl rfl (by decide +kernel) ⟨Nat.le_of_ble_eq_true rfl, Nat.le_of_ble_eq_true rfl⟩) ⟨ax_blind (fun _ _ _ _ _ => trivial), va_recv hKm hPm (ci := 8) (q0 := 0) rfl hfs1476, ax_preE hPm hKm hDm (fun _ _ _ => trivial)⟩ rfl rfl hl.1 rfl (lv_room (Nat.le_of_ble_eq_true rfl)) dL_law_1476 ⟨hcc, hss⟩) hS (fun q _ h => hFc q h) hFc (fun r1476 u t H1 locs ht hvm hw1476 hB hz1 hk1 hS => ?_)
        obtain ⟨wmn, tmn, ⟨vm1, vn1, km1, km2, hI1⟩, hP1, hK1, hD1⟩ := hB
        rw [ht] at hP1
        have hK1 := va_K.moved hvm.symm hK1
        obtain ⟨hPx, jmx⟩ := lg_step hPx (dj_symm jxm) hk1 hD1
        have jxm := dj_symm jmx
        obtain ⟨hPo, jmo⟩ := lg_step hPo jmo hk1 hD1
        have hD1 := hD1.weaken (fun _ _ _ h9 => hFc _ h9)
        clear hPm hDm hKm hFc hk1 hz1 hfs1476
        have hIM := hI1; have hPm := hP1; have hDm := hD1; have hKm := hK1; clear hI1 hP1 hD1 hK1
        clear ht; generalize H1 = H at hPx hPm hPo hS ⊢
        refine lv_pop hx hb dL_law_1479 rfl ?_
        refine lv_goto (tgt := 1941) hx hb dL_law_1480 (by decide) ?_
        have hRn : lr_R tp vi1 vf1 vm1 vn1 := ⟨by rw [kx2 0 (by decide), km2 0 (by decide)]; exact hR.1, lr_keep (fun k9 h9 => kx1 k9 (kp_dis (by decide) h9)) (fun k9 h8 h9 => kx1 k9 (kp_out (a := 57) (b := 152) (by decide) h8 h9)) (fun k9 h9 => kx2 k9 (kp_dis (by decide) h9)) (fun k9 h8 h9 => kx2 k9 (kp_out (a := 23) (b := 61) (by decide) h8 h9)) (fun k9 h9 => km1 k9 (kp_dis (by decide) h9)) (fun k9 h9 => km2 k9 (kp_dis (by decide) h9)) hR.2⟩
        exact kk _ _ _ _ _ (Nat.le_add_right _ _) (Nat.le_add_right _ _) ⟨tp, _, _, _, _, _, _, _, _, _, hIX, hIM, hRn, hKx, hKm, hPx, hPm, hPo, hDx, hDm, hDo, jxm, jxo, jmo⟩ hS (lv_sub hl [0, 1, 2, 3, 4] rfl)
      · refine lv_iconst (v := 1) hx hb dL_law_1418 zk_iconst_1 ?_
        refine lv_goto (tgt := 1423) hx hb dL_law_1419 (by decide) ?_
        have hFc := lg_free hDx hS hA
        obtain ⟨fs1423, hfs1423⟩ := ix_recv hIX
        refine va_calli (va_runV (As := [.int vix1, .int 1, .int 1, .int 1]) (rest := []) ⟨hx, hb, hml, hown, hts⟩ (k_X7_dares l dC dI H.size x tp vi vf wx tx hIX vix1 1 1 1) (cwV 4 hts gd_X7_dares rfl rfl rfl (by decide +kernel) ⟨Nat.le_of_ble_eq_true rfl, Nat.le_of_ble_eq_true rfl⟩) ⟨ax_blind (fun _ _ _ _ _ => trivial), va_recv hKx hPx (ci := 7) (q0 := 0) rfl hfs1423, ax_preE hPx hKx hDx (fun _ _ _ => trivial)⟩ rfl rfl hl.1 rfl (lv_room (Nat.le_of_ble_eq_true rfl)) dL_law_1423 ⟨hcc, hss⟩) hS (fun q _ h => hFc q h) hFc (fun r1423 u t H1 locs ht hvm hw1423 hB hz1 hk1 hS => ?_)
        obtain ⟨wxn, txn, ⟨vi1, vf1, kx1, kx2, hI1⟩, hP1, hK1, hD1⟩ := hB
        rw [ht] at hP1
        have hK1 := va_K.moved hvm.symm hK1
        obtain ⟨hPm, jxm⟩ := lg_step hPm jxm hk1 hD1
        obtain ⟨hPo, jxo⟩ := lg_step hPo jxo hk1 hD1
        have hD1 := hD1.weaken (fun _ _ _ h9 => hFc _ h9)
        clear hPx hDx hKx hFc hk1 hz1 hfs1423
        have hIX := hI1; have hPx := hP1; have hDx := hD1; have hKx := hK1; clear hI1 hP1 hD1 hK1
        clear ht; generalize H1 = H at hPx hPm hPo hS ⊢
        refine lv_pop hx hb dL_law_1426 rfl ?_
        refine lv_aload_n hx hb dL_law_1427 rfl (lv_at hl 2 rfl) ?_
        refine lv_aload_n hx hb dL_law_1428 rfl (lv_at hl 4 rfl) ?_
        refine lv_iload hx hb dL_law_1429 (lv_at hl 0 rfl) ?_
        refine lv_iconst (v := 1) hx hb dL_law_1431 zk_iconst_1 ?_
        refine lv_iadd hx hb dL_law_1432 ?_
        refine ax_ti ix1 eix1.symm ?_
        refine va_sld (L := L) (i := ix1) hx hb hX hbl hbA hS (vp_in_iff.mpr ⟨by omega, by omega⟩) dL_law_1433 ?_
        refine ax_ti vix1 evix1.symm ?_
        refine lv_aload_n hx hb dL_law_1434 rfl (lv_at hl 4 rfl) ?_
        refine lv_iload hx hb dL_law_1435 (lv_at hl 0 rfl) ?_
        refine lv_iconst (v := 2) hx hb dL_law_1437 zk_iconst_2 ?_
        refine lv_iadd hx hb dL_law_1438 ?_
        refine ax_ti ix2 eix2.symm ?_
        refine va_sld (L := L) (i := ix2) hx hb hX hbl hbA hS (vp_in_iff.mpr ⟨by omega, by omega⟩) dL_law_1439 ?_
        refine ax_ti vix2 evix2.symm ?_
        refine lv_if_eq (tgt := 1447) hx hb dL_law_1440 (by decide) (fun c_29 => absurd c_29 c_1) (fun _ => ?_)
        refine lv_iconst (v := 1) hx hb dL_law_1443 zk_iconst_1 ?_
        refine lv_goto (tgt := 1448) hx hb dL_law_1444 (by decide) ?_
        refine lv_aload_n hx hb dL_law_1448 rfl (lv_at hl 4 rfl) ?_
        refine lv_iload hx hb dL_law_1449 (lv_at hl 0 rfl) ?_
        refine lv_iconst (v := 3) hx hb dL_law_1451 zk_iconst_3 ?_
        refine lv_iadd hx hb dL_law_1452 ?_
        refine ax_ti ix3 eix3.symm ?_
        refine va_sld (L := L) (i := ix3) hx hb hX hbl hbA hS (vp_in_iff.mpr ⟨by omega, by omega⟩) dL_law_1453 ?_
        refine ax_ti vix3 evix3.symm ?_
        refine lv_if_eq (tgt := 1461) hx hb dL_law_1454 (by decide) (fun c_30 => absurd c_30 c_17) (fun _ => ?_)
        refine lv_iconst (v := 1) hx hb dL_law_1457 zk_iconst_1 ?_
        refine lv_goto (tgt := 1462) hx hb dL_law_1458 (by decide) ?_
        refine lv_aload_n hx hb dL_law_1462 rfl (lv_at hl 4 rfl) ?_
        refine lv_iload hx hb dL_law_1463 (lv_at hl 0 rfl) ?_
        refine lv_iconst (v := 4) hx hb dL_law_1465 zk_iconst_4 ?_
        refine lv_iadd hx hb dL_law_1466 ?_
        refine ax_ti ix4 eix4.symm ?_
        refine va_sld (L := L) (i := ix4) hx hb hX hbl hbA hS (vp_in_iff.mpr ⟨by omega, by omega⟩) dL_law_1467 ?_
        refine ax_ti vix4 evix4.symm ?_
        refine lv_if_eq (tgt := 1475) hx hb dL_law_1468 (by decide) (fun c_31 => absurd c_31 c_25) (fun _ => ?_)
        refine lv_iconst (v := 1) hx hb dL_law_1471 zk_iconst_1 ?_
        refine lv_goto (tgt := 1476) hx hb dL_law_1472 (by decide) ?_
        have hFc := lg_free hDm hS hA
        obtain ⟨fs1476, hfs1476⟩ := im_recv hIM
        refine va_calli (va_runV (As := [.int vix1, .int 1, .int 1, .int 1]) (rest := []) ⟨hx, hb, hml, hown, hts⟩ (k_X8_dares l dC dI H.size mo tp vm vn wm tm hIM vix1 1 1 1) (cwV 4 hts gd_X8_dares rfl rfl rfl (by decide +kernel) ⟨Nat.le_of_ble_eq_true rfl, Nat.le_of_ble_eq_true rfl⟩) ⟨ax_blind (fun _ _ _ _ _ => trivial), va_recv hKm hPm (ci := 8) (q0 := 0) rfl hfs1476, ax_preE hPm hKm hDm (fun _ _ _ => trivial)⟩ rfl rfl hl.1 rfl (lv_room (Nat.le_of_ble_eq_true rfl)) dL_law_1476 ⟨hcc, hss⟩) hS (fun q _ h => hFc q h) hFc (fun r1476 u t H1 locs ht hvm hw1476 hB hz1 hk1 hS => ?_)
        obtain ⟨wmn, tmn, ⟨vm1, vn1, km1, km2, hI1⟩, hP1, hK1, hD1⟩ := hB
        rw [ht] at hP1
        have hK1 := va_K.moved hvm.symm hK1
        obtain ⟨hPx, jmx⟩ := lg_step hPx (dj_symm jxm) hk1 hD1
        have jxm := dj_symm jmx
        obtain ⟨hPo, jmo⟩ := lg_step hPo jmo hk1 hD1
        have hD1 := hD1.weaken (fun _ _ _ h9 => hFc _ h9)
        clear hPm hDm hKm hFc hk1 hz1 hfs1476
        have hIM := hI1; have hPm := hP1; have hDm := hD1; have hKm := hK1; clear hI1 hP1 hD1 hK1
        clear ht; generalize H1 = H at hPx hPm hPo hS ⊢
        refine lv_pop hx hb dL_law_1479 rfl ?_
        refine lv_goto (tgt := 1941) hx hb dL_law_1480 (by decide) ?_
        have hRn : lr_R tp vi1 vf1 vm1 vn1 := ⟨by rw [kx2 0 (by decide), km2 0 (by decide)]; exact hR.1, lr_keep (fun k9 h9 => kx1 k9 (kp_dis (by decide) h9)) (fun k9 h8 h9 => kx1 k9 (kp_out (a := 57) (b := 152) (by decide) h8 h9)) (fun k9 h9 => kx2 k9 (kp_dis (by decide) h9)) (fun k9 h8 h9 => kx2 k9 (kp_out (a := 23) (b := 61) (by decide) h8 h9)) (fun k9 h9 => km1 k9 (kp_dis (by decide) h9)) (fun k9 h9 => km2 k9 (kp_dis (by decide) h9)) hR.2⟩
        exact kk _ _ _ _ _ (Nat.le_add_right _ _) (Nat.le_add_right _ _) ⟨tp, _, _, _, _, _, _, _, _, _, hIX, hIM, hRn, hKx, hKm, hPx, hPm, hPo, hDx, hDm, hDo, jxm, jxo, jmo⟩ hS (lv_sub hl [0, 1, 2, 3, 4] rfl)

set_option maxHeartbeats 4000000 in
set_option maxRecDepth 100000 in
theorem lc_43 {p : Program} {l : Launch} {e : Env} {s : State} {m : MethodId} {below : List Frame} {meth : Method} {c : Code} {b L : Nat} {xs : Nat → Int32} {A : Nat → Prop} {dC : Nat → ClassId} {dI : Nat → Nat → Nat} (hl0 : l.stackTraces = false) (hL : L ≤ 3072) (hA : ∀ q, s.heap.size ≤ q → A q) (hA2 : ∀ q, A q → s.heap.size ≤ q) (C0 : lw_At p s m meth c b L xs) (sd : Nat → Nat) (sa : Nat) (hE : lg_E A sd sa s) (x mo oa : Nat) (ko : ClassId) (hKo : va_K (dC, dI) vwCl [(ko, .long)] s) (i : Int32) (hi0 : (0 : Int) ≤ i.toInt) (hi6 : i.toInt + 6 ≤ (L : Int)) {H : Heap} {locs : List Loc} {cells slots : Nat} (hc9 : cells + 1 ≤ 601024) (hs9 : slots + 6 ≤ 7293034) (hG : lg_S dC dI A s x mo oa ko H) (hS : va_S A s.heap H locs) {ls : Array Slot} (hl : lv_has ls 7 [(4, .int i), (3, .ref oa), (2, .ref mo), (1, .ref x), (0, .ref b)])
    (kk : ∀ (H : Heap) (locs : List Loc) (ls : Array Slot) (k9 n9 : Nat), k9 ≤ cells + 1 → n9 ≤ slots + 6 → lg_S dC dI A s x mo oa ko H → va_S A s.heap H locs → lv_has ls 7 [(4, .int i), (3, .ref oa), (2, .ref mo), (1, .ref x), (0, .ref b)] → W p l e room_1 s m #[Value.ref b] below meth c H locs k9 n9 (lw_Z below #[Value.ref b] s) (F0 m 1941 ls [])) : W p l e room_1 s m #[Value.ref b] below meth c H locs cells slots (lw_Z below #[Value.ref b] s) (F0 m 1483 ls []) := by
  obtain ⟨hx, hb, hr, hml, hown0, htl, hX, hbl, hlocks, hgv⟩ := id C0
  have hown : s.vm.findClass RL = some m.cls := hown0
  have hts : ∀ w ∈ wlT, w.before #[Value.ref b] s = true := fun w h => htl w (wlT_in w h)
  have hbA : ¬ A b := fun h => absurd (hA2 b h) (Nat.not_le.mpr hbl)
  obtain ⟨tp, wx, wm, tx, tm, fo, vi, vf, vm, vn, hIX, hIM, hR, hKx, hKm, hPx, hPm, hPo, hDx, hDm, hDo, jxm, jxo, jmo⟩ := hG
  have hiM : i.toInt ≤ (3066 : Int) := by omega
  have hcc : cells ≤ 601024 := by omega
  have hss : slots ≤ 7293034 := by omega
  have htpb := ix_tp hIX
  have hMo := im_mo hIM
  refine lv_aload_n hx hb dL_law_1483 rfl (lv_at hl 3 rfl) ?_
  refine lv_aload_n hx hb dL_law_1484 rfl (lv_at hl 4 rfl) ?_
  refine lv_iload hx hb dL_law_1485 (lv_at hl 0 rfl) ?_
  refine lv_iconst (v := 1) hx hb dL_law_1487 zk_iconst_1 ?_
  refine lv_iadd hx hb dL_law_1488 ?_
  refine lv_topi (fun ix1 eix1 => ?_)
  have qix1 : ix1.toInt = i.toInt + 1 := ai_add eix1 ⟨hi0, hiM⟩ ⟨zq1, zq0⟩ (by decide) (by decide)
  refine va_sld (L := L) (i := ix1) hx hb hX hbl hbA hS (vp_in_iff.mpr ⟨by omega, by omega⟩) dL_law_1489 ?_
  refine lv_topi (fun vix1 evix1 => ?_)
  have hFc := lg_free hDx hS hA
  obtain ⟨fs1490, hfs1490⟩ := ix_recv hIX
  refine va_calli (va_runV (As := [.int vix1]) (rest := []) ⟨hx, hb, hml, hown, hts⟩ (k_X7_rests l dC dI H.size x tp vi vf wx tx hIX vix1) (cwV 1 hts gd_X7_rests rfl rfl rfl (by decide +kernel) ⟨Nat.le_of_ble_eq_true rfl, Nat.le_of_ble_eq_true rfl⟩) ⟨ax_blind (fun _ _ _ _ _ => trivial), va_recv hKx hPx (ci := 7) (q0 := 0) rfl hfs1490, ax_preE hPx hKx hDx (fun _ _ _ => trivial)⟩ rfl rfl hl.1 rfl (lv_room (Nat.le_of_ble_eq_true rfl)) dL_law_1490 ⟨hcc, hss⟩) hS (fun q _ h => hFc q h) hFc (fun r1490 u t H1 locs ht hvm hw1490 hB hz1 hk1 hS => ?_)
  obtain ⟨wxn, txn, ⟨vi1, vf1, kx1, kx2, hI1⟩, hP1, hK1, hD1⟩ := hB
  rw [ht] at hP1
  have hK1 := va_K.moved hvm.symm hK1
  obtain ⟨hPm, jxm⟩ := lg_step hPm jxm hk1 hD1
  obtain ⟨hPo, jxo⟩ := lg_step hPo jxo hk1 hD1
  have hD1 := hD1.weaken (fun _ _ _ h9 => hFc _ h9)
  clear hPx hDx hKx hFc hk1 hz1 hfs1490
  have hIX := hI1; have hPx := hP1; have hDx := hD1; have hKx := hK1; clear hI1 hP1 hD1 hK1
  clear ht; generalize H1 = H at hPx hPm hPo hS ⊢
  refine lv_pop hx hb dL_law_1493 rfl ?_
  refine lv_aload_n hx hb dL_law_1494 rfl (lv_at hl 2 rfl) ?_
  refine lv_aload_n hx hb dL_law_1495 rfl (lv_at hl 4 rfl) ?_
  refine lv_iload hx hb dL_law_1496 (lv_at hl 0 rfl) ?_
  refine lv_iconst (v := 1) hx hb dL_law_1498 zk_iconst_1 ?_
  refine lv_iadd hx hb dL_law_1499 ?_
  refine ax_ti ix1 eix1.symm ?_
  refine va_sld (L := L) (i := ix1) hx hb hX hbl hbA hS (vp_in_iff.mpr ⟨by omega, by omega⟩) dL_law_1500 ?_
  refine ax_ti vix1 evix1.symm ?_
  have hFc := lg_free hDm hS hA
  obtain ⟨fs1501, hfs1501⟩ := im_recv hIM
  refine va_calli (va_runV (As := [.int vix1]) (rest := []) ⟨hx, hb, hml, hown, hts⟩ (k_X8_rests l dC dI H.size mo tp vm vn wm tm hIM vix1) (cwV 1 hts gd_X8_rests rfl rfl rfl (by decide +kernel) ⟨Nat.le_of_ble_eq_true rfl, Nat.le_of_ble_eq_true rfl⟩) ⟨ax_blind (fun _ _ _ _ _ => trivial), va_recv hKm hPm (ci := 8) (q0 := 0) rfl hfs1501, ax_preE hPm hKm hDm (fun _ _ _ => trivial)⟩ rfl rfl hl.1 rfl (lv_room (Nat.le_of_ble_eq_true rfl)) dL_law_1501 ⟨hcc, hss⟩) hS (fun q _ h => hFc q h) hFc (fun r1501 u t H1 locs ht hvm hw1501 hB hz1 hk1 hS => ?_)
  obtain ⟨wmn, tmn, ⟨vm1, vn1, km1, km2, hI1⟩, hP1, hK1, hD1⟩ := hB
  rw [ht] at hP1
  have hK1 := va_K.moved hvm.symm hK1
  obtain ⟨hPx, jmx⟩ := lg_step hPx (dj_symm jxm) hk1 hD1
  have jxm := dj_symm jmx
  obtain ⟨hPo, jmo⟩ := lg_step hPo jmo hk1 hD1
  have hD1 := hD1.weaken (fun _ _ _ h9 => hFc _ h9)
  clear hPm hDm hKm hFc hk1 hz1 hfs1501
  have hIM := hI1; have hPm := hP1; have hDm := hD1; have hKm := hK1; clear hI1 hP1 hD1 hK1
  clear ht; generalize H1 = H at hPx hPm hPo hS ⊢
  refine lv_pop hx hb dL_law_1504 rfl ?_
  refine lv_goto (tgt := 1941) hx hb dL_law_1505 (by decide) ?_
  have hRn : lr_R tp vi1 vf1 vm1 vn1 := ⟨by rw [kx2 0 (by decide), km2 0 (by decide)]; exact hR.1, lr_keep (fun k9 h9 => kx1 k9 (kp_dis (by decide) h9)) (fun k9 h8 h9 => kx1 k9 (kp_out (a := 57) (b := 152) (by decide) h8 h9)) (fun k9 h9 => kx2 k9 (kp_dis (by decide) h9)) (fun k9 h8 h9 => kx2 k9 (kp_out (a := 23) (b := 61) (by decide) h8 h9)) (fun k9 h9 => km1 k9 (kp_dis (by decide) h9)) (fun k9 h9 => km2 k9 (kp_dis (by decide) h9)) hR.2⟩
  exact kk _ _ _ _ _ (Nat.le_add_right _ _) (Nat.le_add_right _ _) ⟨tp, _, _, _, _, _, _, _, _, _, hIX, hIM, hRn, hKx, hKm, hPx, hPm, hPo, hDx, hDm, hDo, jxm, jxo, jmo⟩ hS (lv_sub hl [0, 1, 2, 3, 4] rfl)

set_option maxHeartbeats 4000000 in
set_option maxRecDepth 100000 in
theorem lc_44 {p : Program} {l : Launch} {e : Env} {s : State} {m : MethodId} {below : List Frame} {meth : Method} {c : Code} {b L : Nat} {xs : Nat → Int32} {A : Nat → Prop} {dC : Nat → ClassId} {dI : Nat → Nat → Nat} (hl0 : l.stackTraces = false) (hL : L ≤ 3072) (hA : ∀ q, s.heap.size ≤ q → A q) (hA2 : ∀ q, A q → s.heap.size ≤ q) (C0 : lw_At p s m meth c b L xs) (sd : Nat → Nat) (sa : Nat) (hE : lg_E A sd sa s) (x mo oa : Nat) (ko : ClassId) (hKo : va_K (dC, dI) vwCl [(ko, .long)] s) (i : Int32) (hi0 : (0 : Int) ≤ i.toInt) (hi6 : i.toInt + 6 ≤ (L : Int)) {H : Heap} {locs : List Loc} {cells slots : Nat} (hc9 : cells + 1 ≤ 601024) (hs9 : slots + 6 ≤ 7293034) (hG : lg_S dC dI A s x mo oa ko H) (hS : va_S A s.heap H locs) {ls : Array Slot} (hl : lv_has ls 7 [(4, .int i), (3, .ref oa), (2, .ref mo), (1, .ref x), (0, .ref b)])
    (kk : ∀ (H : Heap) (locs : List Loc) (ls : Array Slot) (k9 n9 : Nat), k9 ≤ cells + 1 → n9 ≤ slots + 6 → lg_S dC dI A s x mo oa ko H → va_S A s.heap H locs → lv_has ls 7 [(4, .int i), (3, .ref oa), (2, .ref mo), (1, .ref x), (0, .ref b)] → W p l e room_1 s m #[Value.ref b] below meth c H locs k9 n9 (lw_Z below #[Value.ref b] s) (F0 m 1941 ls [])) : W p l e room_1 s m #[Value.ref b] below meth c H locs cells slots (lw_Z below #[Value.ref b] s) (F0 m 1508 ls []) := by
  obtain ⟨hx, hb, hr, hml, hown0, htl, hX, hbl, hlocks, hgv⟩ := id C0
  have hown : s.vm.findClass RL = some m.cls := hown0
  have hts : ∀ w ∈ wlT, w.before #[Value.ref b] s = true := fun w h => htl w (wlT_in w h)
  have hbA : ¬ A b := fun h => absurd (hA2 b h) (Nat.not_le.mpr hbl)
  obtain ⟨tp, wx, wm, tx, tm, fo, vi, vf, vm, vn, hIX, hIM, hR, hKx, hKm, hPx, hPm, hPo, hDx, hDm, hDo, jxm, jxo, jmo⟩ := hG
  have hiM : i.toInt ≤ (3066 : Int) := by omega
  have hcc : cells ≤ 601024 := by omega
  have hss : slots ≤ 7293034 := by omega
  have htpb := ix_tp hIX
  have hMo := im_mo hIM
  refine lv_aload_n hx hb dL_law_1508 rfl (lv_at hl 3 rfl) ?_
  refine lv_aload_n hx hb dL_law_1509 rfl (lv_at hl 4 rfl) ?_
  refine lv_iload hx hb dL_law_1510 (lv_at hl 0 rfl) ?_
  refine lv_iconst (v := 1) hx hb dL_law_1512 zk_iconst_1 ?_
  refine lv_iadd hx hb dL_law_1513 ?_
  refine lv_topi (fun ix1 eix1 => ?_)
  have qix1 : ix1.toInt = i.toInt + 1 := ai_add eix1 ⟨hi0, hiM⟩ ⟨zq1, zq0⟩ (by decide) (by decide)
  refine va_sld (L := L) (i := ix1) hx hb hX hbl hbA hS (vp_in_iff.mpr ⟨by omega, by omega⟩) dL_law_1514 ?_
  refine lv_topi (fun vix1 evix1 => ?_)
  have hFc := lg_free hDx hS hA
  obtain ⟨fs1515, hfs1515⟩ := ix_recv hIX
  refine va_calli (va_runV (As := [.int vix1]) (rest := []) ⟨hx, hb, hml, hown, hts⟩ (k_X7_rest l dC dI H.size x tp vi vf wx tx hIX vix1) (cwV 1 hts gd_X7_rest rfl rfl rfl (by decide +kernel) ⟨Nat.le_of_ble_eq_true rfl, Nat.le_of_ble_eq_true rfl⟩) ⟨ax_blind (fun _ _ _ _ _ => trivial), va_recv hKx hPx (ci := 7) (q0 := 0) rfl hfs1515, ax_preE hPx hKx hDx (fun _ _ _ => trivial)⟩ rfl rfl hl.1 rfl (lv_room (Nat.le_of_ble_eq_true rfl)) dL_law_1515 ⟨hcc, hss⟩) hS (fun q _ h => hFc q h) hFc (fun r1515 u t H1 locs ht hvm hw1515 hB hz1 hk1 hS => ?_)
  obtain ⟨wxn, txn, ⟨vi1, vf1, kx1, kx2, hI1⟩, hP1, hK1, hD1⟩ := hB
  rw [ht] at hP1
  have hK1 := va_K.moved hvm.symm hK1
  obtain ⟨hPm, jxm⟩ := lg_step hPm jxm hk1 hD1
  obtain ⟨hPo, jxo⟩ := lg_step hPo jxo hk1 hD1
  have hD1 := hD1.weaken (fun _ _ _ h9 => hFc _ h9)
  clear hPx hDx hKx hFc hk1 hz1 hfs1515
  have hIX := hI1; have hPx := hP1; have hDx := hD1; have hKx := hK1; clear hI1 hP1 hD1 hK1
  clear ht; generalize H1 = H at hPx hPm hPo hS ⊢
  refine lv_pop hx hb dL_law_1518 rfl ?_
  refine lv_aload_n hx hb dL_law_1519 rfl (lv_at hl 2 rfl) ?_
  refine lv_aload_n hx hb dL_law_1520 rfl (lv_at hl 4 rfl) ?_
  refine lv_iload hx hb dL_law_1521 (lv_at hl 0 rfl) ?_
  refine lv_iconst (v := 1) hx hb dL_law_1523 zk_iconst_1 ?_
  refine lv_iadd hx hb dL_law_1524 ?_
  refine ax_ti ix1 eix1.symm ?_
  refine va_sld (L := L) (i := ix1) hx hb hX hbl hbA hS (vp_in_iff.mpr ⟨by omega, by omega⟩) dL_law_1525 ?_
  refine ax_ti vix1 evix1.symm ?_
  have hFc := lg_free hDm hS hA
  obtain ⟨fs1526, hfs1526⟩ := im_recv hIM
  refine va_calli (va_runV (As := [.int vix1]) (rest := []) ⟨hx, hb, hml, hown, hts⟩ (k_X8_rest l dC dI H.size mo tp vm vn wm tm hIM vix1) (cwV 1 hts gd_X8_rest rfl rfl rfl (by decide +kernel) ⟨Nat.le_of_ble_eq_true rfl, Nat.le_of_ble_eq_true rfl⟩) ⟨ax_blind (fun _ _ _ _ _ => trivial), va_recv hKm hPm (ci := 8) (q0 := 0) rfl hfs1526, ax_preE hPm hKm hDm (fun _ _ _ => trivial)⟩ rfl rfl hl.1 rfl (lv_room (Nat.le_of_ble_eq_true rfl)) dL_law_1526 ⟨hcc, hss⟩) hS (fun q _ h => hFc q h) hFc (fun r1526 u t H1 locs ht hvm hw1526 hB hz1 hk1 hS => ?_)
  obtain ⟨wmn, tmn, ⟨vm1, vn1, km1, km2, hI1⟩, hP1, hK1, hD1⟩ := hB
  rw [ht] at hP1
  have hK1 := va_K.moved hvm.symm hK1
  obtain ⟨hPx, jmx⟩ := lg_step hPx (dj_symm jxm) hk1 hD1
  have jxm := dj_symm jmx
  obtain ⟨hPo, jmo⟩ := lg_step hPo jmo hk1 hD1
  have hD1 := hD1.weaken (fun _ _ _ h9 => hFc _ h9)
  clear hPm hDm hKm hFc hk1 hz1 hfs1526
  have hIM := hI1; have hPm := hP1; have hDm := hD1; have hKm := hK1; clear hI1 hP1 hD1 hK1
  clear ht; generalize H1 = H at hPx hPm hPo hS ⊢
  refine lv_pop hx hb dL_law_1529 rfl ?_
  refine lv_goto (tgt := 1941) hx hb dL_law_1530 (by decide) ?_
  have hRn : lr_R tp vi1 vf1 vm1 vn1 := ⟨by rw [kx2 0 (by decide), km2 0 (by decide)]; exact hR.1, lr_keep (fun k9 h9 => kx1 k9 (kp_dis (by decide) h9)) (fun k9 h8 h9 => kx1 k9 (kp_out (a := 57) (b := 152) (by decide) h8 h9)) (fun k9 h9 => kx2 k9 (kp_dis (by decide) h9)) (fun k9 h8 h9 => kx2 k9 (kp_out (a := 23) (b := 61) (by decide) h8 h9)) (fun k9 h9 => km1 k9 (kp_dis (by decide) h9)) (fun k9 h9 => km2 k9 (kp_dis (by decide) h9)) hR.2⟩
  exact kk _ _ _ _ _ (Nat.le_add_right _ _) (Nat.le_add_right _ _) ⟨tp, _, _, _, _, _, _, _, _, _, hIX, hIM, hRn, hKx, hKm, hPx, hPm, hPo, hDx, hDm, hDo, jxm, jxo, jmo⟩ hS (lv_sub hl [0, 1, 2, 3, 4] rfl)
end P443_cases_2
section P443_cases_3
set_option maxHeartbeats 4000000 in
set_option maxRecDepth 100000 in
theorem lc_45 {p : Program} {l : Launch} {e : Env} {s : State} {m : MethodId} {below : List Frame} {meth : Method} {c : Code} {b L : Nat} {xs : Nat → Int32} {A : Nat → Prop} {dC : Nat → ClassId} {dI : Nat → Nat → Nat} (hl0 : l.stackTraces = false) (hL : L ≤ 3072) (hA : ∀ q, s.heap.size ≤ q → A q) (hA2 : ∀ q, A q → s.heap.size ≤ q) (C0 : lw_At p s m meth c b L xs) (sd : Nat → Nat) (sa : Nat) (hE : lg_E A sd sa s) (x mo oa : Nat) (ko : ClassId) (hKo : va_K (dC, dI) vwCl [(ko, .long)] s) (i : Int32) (hi0 : (0 : Int) ≤ i.toInt) (hi6 : i.toInt + 6 ≤ (L : Int)) {H : Heap} {locs : List Loc} {cells slots : Nat} (hc9 : cells + 1 ≤ 601024) (hs9 : slots + 6 ≤ 7293034) (hG : lg_S dC dI A s x mo oa ko H) (hS : va_S A s.heap H locs) {ls : Array Slot} (hl : lv_has ls 7 [(4, .int i), (3, .ref oa), (2, .ref mo), (1, .ref x), (0, .ref b)])
    (kk : ∀ (H : Heap) (locs : List Loc) (ls : Array Slot) (k9 n9 : Nat), k9 ≤ cells + 1 → n9 ≤ slots + 6 → lg_S dC dI A s x mo oa ko H → va_S A s.heap H locs → lv_has ls 7 [(4, .int i), (3, .ref oa), (2, .ref mo), (1, .ref x), (0, .ref b)] → W p l e room_1 s m #[Value.ref b] below meth c H locs k9 n9 (lw_Z below #[Value.ref b] s) (F0 m 1941 ls [])) : W p l e room_1 s m #[Value.ref b] below meth c H locs cells slots (lw_Z below #[Value.ref b] s) (F0 m 1533 ls []) := by
  obtain ⟨hx, hb, hr, hml, hown0, htl, hX, hbl, hlocks, hgv⟩ := id C0
  have hown : s.vm.findClass RL = some m.cls := hown0
  have hts : ∀ w ∈ wlT, w.before #[Value.ref b] s = true := fun w h => htl w (wlT_in w h)
  have hbA : ¬ A b := fun h => absurd (hA2 b h) (Nat.not_le.mpr hbl)
  obtain ⟨tp, wx, wm, tx, tm, fo, vi, vf, vm, vn, hIX, hIM, hR, hKx, hKm, hPx, hPm, hPo, hDx, hDm, hDo, jxm, jxo, jmo⟩ := hG
  have hiM : i.toInt ≤ (3066 : Int) := by omega
  have hcc : cells ≤ 601024 := by omega
  have hss : slots ≤ 7293034 := by omega
  have htpb := ix_tp hIX
  have hMo := im_mo hIM
  refine lv_aload_n hx hb dL_law_1533 rfl (lv_at hl 3 rfl) ?_
  refine lv_aload_n hx hb dL_law_1534 rfl (lv_at hl 4 rfl) ?_
  refine lv_iload hx hb dL_law_1535 (lv_at hl 0 rfl) ?_
  refine lv_iconst (v := 1) hx hb dL_law_1537 zk_iconst_1 ?_
  refine lv_iadd hx hb dL_law_1538 ?_
  refine lv_topi (fun ix1 eix1 => ?_)
  have qix1 : ix1.toInt = i.toInt + 1 := ai_add eix1 ⟨hi0, hiM⟩ ⟨zq1, zq0⟩ (by decide) (by decide)
  refine va_sld (L := L) (i := ix1) hx hb hX hbl hbA hS (vp_in_iff.mpr ⟨by omega, by omega⟩) dL_law_1539 ?_
  refine lv_topi (fun vix1 evix1 => ?_)
  refine lv_aload_n hx hb dL_law_1540 rfl (lv_at hl 4 rfl) ?_
  refine lv_iload hx hb dL_law_1541 (lv_at hl 0 rfl) ?_
  refine lv_iconst (v := 2) hx hb dL_law_1543 zk_iconst_2 ?_
  refine lv_iadd hx hb dL_law_1544 ?_
  refine lv_topi (fun ix2 eix2 => ?_)
  have qix2 : ix2.toInt = i.toInt + 2 := ai_add eix2 ⟨hi0, hiM⟩ ⟨zq12, zq13⟩ (by decide) (by decide)
  refine va_sld (L := L) (i := ix2) hx hb hX hbl hbA hS (vp_in_iff.mpr ⟨by omega, by omega⟩) dL_law_1545 ?_
  refine lv_topi (fun vix2 evix2 => ?_)
  refine lv_aload_n hx hb dL_law_1546 rfl (lv_at hl 4 rfl) ?_
  refine lv_iload hx hb dL_law_1547 (lv_at hl 0 rfl) ?_
  refine lv_iconst (v := 3) hx hb dL_law_1549 zk_iconst_3 ?_
  refine lv_iadd hx hb dL_law_1550 ?_
  refine lv_topi (fun ix3 eix3 => ?_)
  have qix3 : ix3.toInt = i.toInt + 3 := ai_add eix3 ⟨hi0, hiM⟩ ⟨zq8, zq9⟩ (by decide) (by decide)
  refine va_sld (L := L) (i := ix3) hx hb hX hbl hbA hS (vp_in_iff.mpr ⟨by omega, by omega⟩) dL_law_1551 ?_
  refine lv_topi (fun vix3 evix3 => ?_)
  refine lv_if_eq (tgt := 1559) hx hb dL_law_1552 (by decide) (fun c_1 => ?_) (fun c_1 => ?_)
  · refine lv_iconst (v := 0) hx hb dL_law_1559 zk_iconst_0 ?_
    have hFc := lg_free hDx hS hA
    obtain ⟨fs1560, hfs1560⟩ := ix_recv hIX
    refine va_calll (va_runV (As := [.int vix1, .int vix2, .int 0]) (rest := []) ⟨hx, hb, hml, hown, hts⟩ (k_X7_odds l dC dI H.size x tp vi vf wx tx hIX vix1 vix2 0) (cwV 3 hts gd_X7_odds rfl rfl rfl (by decide +kernel) ⟨Nat.le_of_ble_eq_true rfl, Nat.le_of_ble_eq_true rfl⟩) ⟨ax_blind (fun _ _ _ _ _ => trivial), va_recv hKx hPx (ci := 7) (q0 := 0) rfl hfs1560, ax_preE hPx hKx hDx (fun _ _ _ => trivial)⟩ rfl rfl hl.1 rfl (lv_room (Nat.le_of_ble_eq_true rfl)) dL_law_1560 ⟨hcc, hss⟩) hS (fun q _ h => hFc q h) hFc (fun r1560 u t H1 locs ht hvm hw1560 hB hz1 hk1 hS => ?_)
    obtain ⟨wxn, txn, ⟨vi1, vf1, kx1, kx2, hI1⟩, hP1, hK1, hD1⟩ := hB
    rw [ht] at hP1
    have hK1 := va_K.moved hvm.symm hK1
    obtain ⟨hPm, jxm⟩ := lg_step hPm jxm hk1 hD1
    obtain ⟨hPo, jxo⟩ := lg_step hPo jxo hk1 hD1
    have hD1 := hD1.weaken (fun _ _ _ h9 => hFc _ h9)
    clear hPx hDx hKx hFc hk1 hz1 hfs1560
    have hIX := hI1; have hPx := hP1; have hDx := hD1; have hKx := hK1; clear hI1 hP1 hD1 hK1
    clear ht; generalize H1 = H at hPx hPm hPo hS ⊢
    refine lv_pop2_2 hx hb dL_law_1563 rfl ?_
    refine lv_aload_n hx hb dL_law_1564 rfl (lv_at hl 2 rfl) ?_
    refine lv_aload_n hx hb dL_law_1565 rfl (lv_at hl 4 rfl) ?_
    refine lv_iload hx hb dL_law_1566 (lv_at hl 0 rfl) ?_
    refine lv_iconst (v := 1) hx hb dL_law_1568 zk_iconst_1 ?_
    refine lv_iadd hx hb dL_law_1569 ?_
    refine ax_ti ix1 eix1.symm ?_
    refine va_sld (L := L) (i := ix1) hx hb hX hbl hbA hS (vp_in_iff.mpr ⟨by omega, by omega⟩) dL_law_1570 ?_
    refine ax_ti vix1 evix1.symm ?_
    refine lv_aload_n hx hb dL_law_1571 rfl (lv_at hl 4 rfl) ?_
    refine lv_iload hx hb dL_law_1572 (lv_at hl 0 rfl) ?_
    refine lv_iconst (v := 2) hx hb dL_law_1574 zk_iconst_2 ?_
    refine lv_iadd hx hb dL_law_1575 ?_
    refine ax_ti ix2 eix2.symm ?_
    refine va_sld (L := L) (i := ix2) hx hb hX hbl hbA hS (vp_in_iff.mpr ⟨by omega, by omega⟩) dL_law_1576 ?_
    refine ax_ti vix2 evix2.symm ?_
    refine lv_aload_n hx hb dL_law_1577 rfl (lv_at hl 4 rfl) ?_
    refine lv_iload hx hb dL_law_1578 (lv_at hl 0 rfl) ?_
    refine lv_iconst (v := 3) hx hb dL_law_1580 zk_iconst_3 ?_
    refine lv_iadd hx hb dL_law_1581 ?_
    refine ax_ti ix3 eix3.symm ?_
    refine va_sld (L := L) (i := ix3) hx hb hX hbl hbA hS (vp_in_iff.mpr ⟨by omega, by omega⟩) dL_law_1582 ?_
    refine ax_ti vix3 evix3.symm ?_
    refine lv_if_eq (tgt := 1590) hx hb dL_law_1583 (by decide) (fun _ => ?_) (fun c_2 => absurd c_1 c_2)
    refine lv_iconst (v := 0) hx hb dL_law_1590 zk_iconst_0 ?_
    have hFc := lg_free hDm hS hA
    obtain ⟨fs1591, hfs1591⟩ := im_recv hIM
    refine va_calll (va_runV (As := [.int vix1, .int vix2, .int 0]) (rest := []) ⟨hx, hb, hml, hown, hts⟩ (k_X8_odds l dC dI H.size mo tp vm vn wm tm hIM vix1 vix2 0) (cwV 3 hts gd_X8_odds rfl rfl rfl (by decide +kernel) ⟨Nat.le_of_ble_eq_true rfl, Nat.le_of_ble_eq_true rfl⟩) ⟨ax_blind (fun _ _ _ _ _ => trivial), va_recv hKm hPm (ci := 8) (q0 := 0) rfl hfs1591, ax_preE hPm hKm hDm (fun _ _ _ => trivial)⟩ rfl rfl hl.1 rfl (lv_room (Nat.le_of_ble_eq_true rfl)) dL_law_1591 ⟨hcc, hss⟩) hS (fun q _ h => hFc q h) hFc (fun r1591 u t H1 locs ht hvm hw1591 hB hz1 hk1 hS => ?_)
    obtain ⟨wmn, tmn, ⟨vm1, vn1, km1, km2, hI1⟩, hP1, hK1, hD1⟩ := hB
    rw [ht] at hP1
    have hK1 := va_K.moved hvm.symm hK1
    obtain ⟨hPx, jmx⟩ := lg_step hPx (dj_symm jxm) hk1 hD1
    have jxm := dj_symm jmx
    obtain ⟨hPo, jmo⟩ := lg_step hPo jmo hk1 hD1
    have hD1 := hD1.weaken (fun _ _ _ h9 => hFc _ h9)
    clear hPm hDm hKm hFc hk1 hz1 hfs1591
    have hIM := hI1; have hPm := hP1; have hDm := hD1; have hKm := hK1; clear hI1 hP1 hD1 hK1
    clear ht; generalize H1 = H at hPx hPm hPo hS ⊢
    refine lv_pop2_2 hx hb dL_law_1594 rfl ?_
    refine lv_goto (tgt := 1941) hx hb dL_law_1595 (by decide) ?_
    have hRn : lr_R tp vi1 vf1 vm1 vn1 := ⟨by rw [kx2 0 (by decide), km2 0 (by decide)]; exact hR.1, lr_keep (fun k9 h9 => kx1 k9 (kp_dis (by decide) h9)) (fun k9 h8 h9 => kx1 k9 (kp_out (a := 57) (b := 152) (by decide) h8 h9)) (fun k9 h9 => kx2 k9 (kp_dis (by decide) h9)) (fun k9 h8 h9 => kx2 k9 (kp_out (a := 23) (b := 61) (by decide) h8 h9)) (fun k9 h9 => km1 k9 (kp_dis (by decide) h9)) (fun k9 h9 => km2 k9 (kp_dis (by decide) h9)) hR.2⟩
    exact kk _ _ _ _ _ (Nat.le_add_right _ _) (Nat.le_add_right _ _) ⟨tp, _, _, _, _, _, _, _, _, _, hIX, hIM, hRn, hKx, hKm, hPx, hPm, hPo, hDx, hDm, hDo, jxm, jxo, jmo⟩ hS (lv_sub hl [0, 1, 2, 3, 4] rfl)
  · refine lv_iconst (v := 1) hx hb dL_law_1555 zk_iconst_1 ?_
    refine lv_goto (tgt := 1560) hx hb dL_law_1556 (by decide) ?_
    have hFc := lg_free hDx hS hA
    obtain ⟨fs1560, hfs1560⟩ := ix_recv hIX
    refine va_calll (va_runV (As := [.int vix1, .int vix2, .int 1]) (rest := []) ⟨hx, hb, hml, hown, hts⟩ (k_X7_odds l dC dI H.size x tp vi vf wx tx hIX vix1 vix2 1) (cwV 3 hts gd_X7_odds rfl rfl rfl (by decide +kernel) ⟨Nat.le_of_ble_eq_true rfl, Nat.le_of_ble_eq_true rfl⟩) ⟨ax_blind (fun _ _ _ _ _ => trivial), va_recv hKx hPx (ci := 7) (q0 := 0) rfl hfs1560, ax_preE hPx hKx hDx (fun _ _ _ => trivial)⟩ rfl rfl hl.1 rfl (lv_room (Nat.le_of_ble_eq_true rfl)) dL_law_1560 ⟨hcc, hss⟩) hS (fun q _ h => hFc q h) hFc (fun r1560 u t H1 locs ht hvm hw1560 hB hz1 hk1 hS => ?_)
    obtain ⟨wxn, txn, ⟨vi1, vf1, kx1, kx2, hI1⟩, hP1, hK1, hD1⟩ := hB
    rw [ht] at hP1
    have hK1 := va_K.moved hvm.symm hK1
    obtain ⟨hPm, jxm⟩ := lg_step hPm jxm hk1 hD1
    obtain ⟨hPo, jxo⟩ := lg_step hPo jxo hk1 hD1
    have hD1 := hD1.weaken (fun _ _ _ h9 => hFc _ h9)
    clear hPx hDx hKx hFc hk1 hz1 hfs1560
    have hIX := hI1; have hPx := hP1; have hDx := hD1; have hKx := hK1; clear hI1 hP1 hD1 hK1
    clear ht; generalize H1 = H at hPx hPm hPo hS ⊢
    refine lv_pop2_2 hx hb dL_law_1563 rfl ?_
    refine lv_aload_n hx hb dL_law_1564 rfl (lv_at hl 2 rfl) ?_
    refine lv_aload_n hx hb dL_law_1565 rfl (lv_at hl 4 rfl) ?_
    refine lv_iload hx hb dL_law_1566 (lv_at hl 0 rfl) ?_
    refine lv_iconst (v := 1) hx hb dL_law_1568 zk_iconst_1 ?_
    refine lv_iadd hx hb dL_law_1569 ?_
    refine ax_ti ix1 eix1.symm ?_
    refine va_sld (L := L) (i := ix1) hx hb hX hbl hbA hS (vp_in_iff.mpr ⟨by omega, by omega⟩) dL_law_1570 ?_
    refine ax_ti vix1 evix1.symm ?_
    refine lv_aload_n hx hb dL_law_1571 rfl (lv_at hl 4 rfl) ?_
    refine lv_iload hx hb dL_law_1572 (lv_at hl 0 rfl) ?_
    refine lv_iconst (v := 2) hx hb dL_law_1574 zk_iconst_2 ?_
    refine lv_iadd hx hb dL_law_1575 ?_
    refine ax_ti ix2 eix2.symm ?_
    refine va_sld (L := L) (i := ix2) hx hb hX hbl hbA hS (vp_in_iff.mpr ⟨by omega, by omega⟩) dL_law_1576 ?_
    refine ax_ti vix2 evix2.symm ?_
    refine lv_aload_n hx hb dL_law_1577 rfl (lv_at hl 4 rfl) ?_
    refine lv_iload hx hb dL_law_1578 (lv_at hl 0 rfl) ?_
    refine lv_iconst (v := 3) hx hb dL_law_1580 zk_iconst_3 ?_
    refine lv_iadd hx hb dL_law_1581 ?_
    refine ax_ti ix3 eix3.symm ?_
    refine va_sld (L := L) (i := ix3) hx hb hX hbl hbA hS (vp_in_iff.mpr ⟨by omega, by omega⟩) dL_law_1582 ?_
    refine ax_ti vix3 evix3.symm ?_
    refine lv_if_eq (tgt := 1590) hx hb dL_law_1583 (by decide) (fun c_3 => absurd c_3 c_1) (fun _ => ?_)
    refine lv_iconst (v := 1) hx hb dL_law_1586 zk_iconst_1 ?_
    refine lv_goto (tgt := 1591) hx hb dL_law_1587 (by decide) ?_
    have hFc := lg_free hDm hS hA
    obtain ⟨fs1591, hfs1591⟩ := im_recv hIM
    refine va_calll (va_runV (As := [.int vix1, .int vix2, .int 1]) (rest := []) ⟨hx, hb, hml, hown, hts⟩ (k_X8_odds l dC dI H.size mo tp vm vn wm tm hIM vix1 vix2 1) (cwV 3 hts gd_X8_odds rfl rfl rfl (by decide +kernel) ⟨Nat.le_of_ble_eq_true rfl, Nat.le_of_ble_eq_true rfl⟩) ⟨ax_blind (fun _ _ _ _ _ => trivial), va_recv hKm hPm (ci := 8) (q0 := 0) rfl hfs1591, ax_preE hPm hKm hDm (fun _ _ _ => trivial)⟩ rfl rfl hl.1 rfl (lv_room (Nat.le_of_ble_eq_true rfl)) dL_law_1591 ⟨hcc, hss⟩) hS (fun q _ h => hFc q h) hFc (fun r1591 u t H1 locs ht hvm hw1591 hB hz1 hk1 hS => ?_)
    obtain ⟨wmn, tmn, ⟨vm1, vn1, km1, km2, hI1⟩, hP1, hK1, hD1⟩ := hB
    rw [ht] at hP1
    have hK1 := va_K.moved hvm.symm hK1
    obtain ⟨hPx, jmx⟩ := lg_step hPx (dj_symm jxm) hk1 hD1
    have jxm := dj_symm jmx
    obtain ⟨hPo, jmo⟩ := lg_step hPo jmo hk1 hD1
    have hD1 := hD1.weaken (fun _ _ _ h9 => hFc _ h9)
    clear hPm hDm hKm hFc hk1 hz1 hfs1591
    have hIM := hI1; have hPm := hP1; have hDm := hD1; have hKm := hK1; clear hI1 hP1 hD1 hK1
    clear ht; generalize H1 = H at hPx hPm hPo hS ⊢
    refine lv_pop2_2 hx hb dL_law_1594 rfl ?_
    refine lv_goto (tgt := 1941) hx hb dL_law_1595 (by decide) ?_
    have hRn : lr_R tp vi1 vf1 vm1 vn1 := ⟨by rw [kx2 0 (by decide), km2 0 (by decide)]; exact hR.1, lr_keep (fun k9 h9 => kx1 k9 (kp_dis (by decide) h9)) (fun k9 h8 h9 => kx1 k9 (kp_out (a := 57) (b := 152) (by decide) h8 h9)) (fun k9 h9 => kx2 k9 (kp_dis (by decide) h9)) (fun k9 h8 h9 => kx2 k9 (kp_out (a := 23) (b := 61) (by decide) h8 h9)) (fun k9 h9 => km1 k9 (kp_dis (by decide) h9)) (fun k9 h9 => km2 k9 (kp_dis (by decide) h9)) hR.2⟩
    exact kk _ _ _ _ _ (Nat.le_add_right _ _) (Nat.le_add_right _ _) ⟨tp, _, _, _, _, _, _, _, _, _, hIX, hIM, hRn, hKx, hKm, hPx, hPm, hPo, hDx, hDm, hDo, jxm, jxo, jmo⟩ hS (lv_sub hl [0, 1, 2, 3, 4] rfl)

set_option maxHeartbeats 4000000 in
set_option maxRecDepth 100000 in
theorem lc_46 {p : Program} {l : Launch} {e : Env} {s : State} {m : MethodId} {below : List Frame} {meth : Method} {c : Code} {b L : Nat} {xs : Nat → Int32} {A : Nat → Prop} {dC : Nat → ClassId} {dI : Nat → Nat → Nat} (hl0 : l.stackTraces = false) (hL : L ≤ 3072) (hA : ∀ q, s.heap.size ≤ q → A q) (hA2 : ∀ q, A q → s.heap.size ≤ q) (C0 : lw_At p s m meth c b L xs) (sd : Nat → Nat) (sa : Nat) (hE : lg_E A sd sa s) (x mo oa : Nat) (ko : ClassId) (hKo : va_K (dC, dI) vwCl [(ko, .long)] s) (i : Int32) (hi0 : (0 : Int) ≤ i.toInt) (hi6 : i.toInt + 6 ≤ (L : Int)) {H : Heap} {locs : List Loc} {cells slots : Nat} (hc9 : cells + 1 ≤ 601024) (hs9 : slots + 6 ≤ 7293034) (hG : lg_S dC dI A s x mo oa ko H) (hS : va_S A s.heap H locs) {ls : Array Slot} (hl : lv_has ls 7 [(4, .int i), (3, .ref oa), (2, .ref mo), (1, .ref x), (0, .ref b)])
    (kk : ∀ (H : Heap) (locs : List Loc) (ls : Array Slot) (k9 n9 : Nat), k9 ≤ cells + 1 → n9 ≤ slots + 6 → lg_S dC dI A s x mo oa ko H → va_S A s.heap H locs → lv_has ls 7 [(4, .int i), (3, .ref oa), (2, .ref mo), (1, .ref x), (0, .ref b)] → W p l e room_1 s m #[Value.ref b] below meth c H locs k9 n9 (lw_Z below #[Value.ref b] s) (F0 m 1941 ls [])) : W p l e room_1 s m #[Value.ref b] below meth c H locs cells slots (lw_Z below #[Value.ref b] s) (F0 m 1598 ls []) := by
  obtain ⟨hx, hb, hr, hml, hown0, htl, hX, hbl, hlocks, hgv⟩ := id C0
  have hown : s.vm.findClass RL = some m.cls := hown0
  have hts : ∀ w ∈ wlT, w.before #[Value.ref b] s = true := fun w h => htl w (wlT_in w h)
  have hbA : ¬ A b := fun h => absurd (hA2 b h) (Nat.not_le.mpr hbl)
  obtain ⟨tp, wx, wm, tx, tm, fo, vi, vf, vm, vn, hIX, hIM, hR, hKx, hKm, hPx, hPm, hPo, hDx, hDm, hDo, jxm, jxo, jmo⟩ := hG
  have hiM : i.toInt ≤ (3066 : Int) := by omega
  have hcc : cells ≤ 601024 := by omega
  have hss : slots ≤ 7293034 := by omega
  have htpb := ix_tp hIX
  have hMo := im_mo hIM
  refine lv_aload_n hx hb dL_law_1598 rfl (lv_at hl 3 rfl) ?_
  refine lv_aload_n hx hb dL_law_1599 rfl (lv_at hl 4 rfl) ?_
  refine lv_iload hx hb dL_law_1600 (lv_at hl 0 rfl) ?_
  refine lv_iconst (v := 1) hx hb dL_law_1602 zk_iconst_1 ?_
  refine lv_iadd hx hb dL_law_1603 ?_
  refine lv_topi (fun ix1 eix1 => ?_)
  have qix1 : ix1.toInt = i.toInt + 1 := ai_add eix1 ⟨hi0, hiM⟩ ⟨zq1, zq0⟩ (by decide) (by decide)
  refine va_sld (L := L) (i := ix1) hx hb hX hbl hbA hS (vp_in_iff.mpr ⟨by omega, by omega⟩) dL_law_1604 ?_
  refine lv_topi (fun vix1 evix1 => ?_)
  refine lv_aload_n hx hb dL_law_1605 rfl (lv_at hl 4 rfl) ?_
  refine lv_iload hx hb dL_law_1606 (lv_at hl 0 rfl) ?_
  refine lv_iconst (v := 2) hx hb dL_law_1608 zk_iconst_2 ?_
  refine lv_iadd hx hb dL_law_1609 ?_
  refine lv_topi (fun ix2 eix2 => ?_)
  have qix2 : ix2.toInt = i.toInt + 2 := ai_add eix2 ⟨hi0, hiM⟩ ⟨zq12, zq13⟩ (by decide) (by decide)
  refine va_sld (L := L) (i := ix2) hx hb hX hbl hbA hS (vp_in_iff.mpr ⟨by omega, by omega⟩) dL_law_1610 ?_
  refine lv_topi (fun vix2 evix2 => ?_)
  refine lv_aload_n hx hb dL_law_1611 rfl (lv_at hl 4 rfl) ?_
  refine lv_iload hx hb dL_law_1612 (lv_at hl 0 rfl) ?_
  refine lv_iconst (v := 3) hx hb dL_law_1614 zk_iconst_3 ?_
  refine lv_iadd hx hb dL_law_1615 ?_
  refine lv_topi (fun ix3 eix3 => ?_)
  have qix3 : ix3.toInt = i.toInt + 3 := ai_add eix3 ⟨hi0, hiM⟩ ⟨zq8, zq9⟩ (by decide) (by decide)
  refine va_sld (L := L) (i := ix3) hx hb hX hbl hbA hS (vp_in_iff.mpr ⟨by omega, by omega⟩) dL_law_1616 ?_
  refine lv_topi (fun vix3 evix3 => ?_)
  refine lv_if_eq (tgt := 1624) hx hb dL_law_1617 (by decide) (fun c_1 => ?_) (fun c_1 => ?_)
  · refine lv_iconst (v := 0) hx hb dL_law_1624 zk_iconst_0 ?_
    have hFc := lg_free hDx hS hA
    obtain ⟨fs1625, hfs1625⟩ := ix_recv hIX
    refine va_calll (va_runV (As := [.int vix1, .int vix2, .int 0]) (rest := []) ⟨hx, hb, hml, hown, hts⟩ (k_X7_mean l dC dI H.size x tp vi vf wx tx hIX vix1 vix2 0) (cwV 3 hts gd_X7_mean rfl rfl rfl (by decide +kernel) ⟨Nat.le_of_ble_eq_true rfl, Nat.le_of_ble_eq_true rfl⟩) ⟨ax_blind (fun _ _ _ _ _ => trivial), va_recv hKx hPx (ci := 7) (q0 := 0) rfl hfs1625, ax_preE hPx hKx hDx (fun _ _ _ => trivial)⟩ rfl rfl hl.1 rfl (lv_room (Nat.le_of_ble_eq_true rfl)) dL_law_1625 ⟨hcc, hss⟩) hS (fun q _ h => hFc q h) hFc (fun r1625 u t H1 locs ht hvm hw1625 hB hz1 hk1 hS => ?_)
    obtain ⟨wxn, txn, ⟨vi1, vf1, kx1, kx2, hI1⟩, hP1, hK1, hD1⟩ := hB
    rw [ht] at hP1
    have hK1 := va_K.moved hvm.symm hK1
    obtain ⟨hPm, jxm⟩ := lg_step hPm jxm hk1 hD1
    obtain ⟨hPo, jxo⟩ := lg_step hPo jxo hk1 hD1
    have hD1 := hD1.weaken (fun _ _ _ h9 => hFc _ h9)
    clear hPx hDx hKx hFc hk1 hz1 hfs1625
    have hIX := hI1; have hPx := hP1; have hDx := hD1; have hKx := hK1; clear hI1 hP1 hD1 hK1
    clear ht; generalize H1 = H at hPx hPm hPo hS ⊢
    refine lv_pop2_2 hx hb dL_law_1628 rfl ?_
    refine lv_aload_n hx hb dL_law_1629 rfl (lv_at hl 2 rfl) ?_
    refine lv_aload_n hx hb dL_law_1630 rfl (lv_at hl 4 rfl) ?_
    refine lv_iload hx hb dL_law_1631 (lv_at hl 0 rfl) ?_
    refine lv_iconst (v := 1) hx hb dL_law_1633 zk_iconst_1 ?_
    refine lv_iadd hx hb dL_law_1634 ?_
    refine ax_ti ix1 eix1.symm ?_
    refine va_sld (L := L) (i := ix1) hx hb hX hbl hbA hS (vp_in_iff.mpr ⟨by omega, by omega⟩) dL_law_1635 ?_
    refine ax_ti vix1 evix1.symm ?_
    refine lv_aload_n hx hb dL_law_1636 rfl (lv_at hl 4 rfl) ?_
    refine lv_iload hx hb dL_law_1637 (lv_at hl 0 rfl) ?_
    refine lv_iconst (v := 2) hx hb dL_law_1639 zk_iconst_2 ?_
    refine lv_iadd hx hb dL_law_1640 ?_
    refine ax_ti ix2 eix2.symm ?_
    refine va_sld (L := L) (i := ix2) hx hb hX hbl hbA hS (vp_in_iff.mpr ⟨by omega, by omega⟩) dL_law_1641 ?_
    refine ax_ti vix2 evix2.symm ?_
    refine lv_aload_n hx hb dL_law_1642 rfl (lv_at hl 4 rfl) ?_
    refine lv_iload hx hb dL_law_1643 (lv_at hl 0 rfl) ?_
    refine lv_iconst (v := 3) hx hb dL_law_1645 zk_iconst_3 ?_
    refine lv_iadd hx hb dL_law_1646 ?_
    refine ax_ti ix3 eix3.symm ?_
    refine va_sld (L := L) (i := ix3) hx hb hX hbl hbA hS (vp_in_iff.mpr ⟨by omega, by omega⟩) dL_law_1647 ?_
    refine ax_ti vix3 evix3.symm ?_
    refine lv_if_eq (tgt := 1655) hx hb dL_law_1648 (by decide) (fun _ => ?_) (fun c_2 => absurd c_1 c_2)
    refine lv_iconst (v := 0) hx hb dL_law_1655 zk_iconst_0 ?_
    have hFc := lg_free hDm hS hA
    obtain ⟨fs1656, hfs1656⟩ := im_recv hIM
    refine va_calll (va_runV (As := [.int vix1, .int vix2, .int 0]) (rest := []) ⟨hx, hb, hml, hown, hts⟩ (k_X8_mean l dC dI H.size mo tp vm vn wm tm hIM vix1 vix2 0) (cwV 3 hts gd_X8_mean rfl rfl rfl (by decide +kernel) ⟨Nat.le_of_ble_eq_true rfl, Nat.le_of_ble_eq_true rfl⟩) ⟨ax_blind (fun _ _ _ _ _ => trivial), va_recv hKm hPm (ci := 8) (q0 := 0) rfl hfs1656, ax_preE hPm hKm hDm (fun _ _ _ => trivial)⟩ rfl rfl hl.1 rfl (lv_room (Nat.le_of_ble_eq_true rfl)) dL_law_1656 ⟨hcc, hss⟩) hS (fun q _ h => hFc q h) hFc (fun r1656 u t H1 locs ht hvm hw1656 hB hz1 hk1 hS => ?_)
    obtain ⟨wmn, tmn, ⟨vm1, vn1, km1, km2, hI1⟩, hP1, hK1, hD1⟩ := hB
    rw [ht] at hP1
    have hK1 := va_K.moved hvm.symm hK1
    obtain ⟨hPx, jmx⟩ := lg_step hPx (dj_symm jxm) hk1 hD1
    have jxm := dj_symm jmx
    obtain ⟨hPo, jmo⟩ := lg_step hPo jmo hk1 hD1
    have hD1 := hD1.weaken (fun _ _ _ h9 => hFc _ h9)
    clear hPm hDm hKm hFc hk1 hz1 hfs1656
    have hIM := hI1; have hPm := hP1; have hDm := hD1; have hKm := hK1; clear hI1 hP1 hD1 hK1
    clear ht; generalize H1 = H at hPx hPm hPo hS ⊢
    refine lv_pop2_2 hx hb dL_law_1659 rfl ?_
    refine lv_goto (tgt := 1941) hx hb dL_law_1660 (by decide) ?_
    have hRn : lr_R tp vi1 vf1 vm1 vn1 := ⟨by rw [kx2 0 (by decide), km2 0 (by decide)]; exact hR.1, lr_keep (fun k9 h9 => kx1 k9 (kp_dis (by decide) h9)) (fun k9 h8 h9 => kx1 k9 (kp_out (a := 57) (b := 152) (by decide) h8 h9)) (fun k9 h9 => kx2 k9 (kp_dis (by decide) h9)) (fun k9 h8 h9 => kx2 k9 (kp_out (a := 23) (b := 61) (by decide) h8 h9)) (fun k9 h9 => km1 k9 (kp_dis (by decide) h9)) (fun k9 h9 => km2 k9 (kp_dis (by decide) h9)) hR.2⟩
    exact kk _ _ _ _ _ (Nat.le_add_right _ _) (Nat.le_add_right _ _) ⟨tp, _, _, _, _, _, _, _, _, _, hIX, hIM, hRn, hKx, hKm, hPx, hPm, hPo, hDx, hDm, hDo, jxm, jxo, jmo⟩ hS (lv_sub hl [0, 1, 2, 3, 4] rfl)
  · refine lv_iconst (v := 1) hx hb dL_law_1620 zk_iconst_1 ?_
    refine lv_goto (tgt := 1625) hx hb dL_law_1621 (by decide) ?_
    have hFc := lg_free hDx hS hA
    obtain ⟨fs1625, hfs1625⟩ := ix_recv hIX
    refine va_calll (va_runV (As := [.int vix1, .int vix2, .int 1]) (rest := []) ⟨hx, hb, hml, hown, hts⟩ (k_X7_mean l dC dI H.size x tp vi vf wx tx hIX vix1 vix2 1) (cwV 3 hts gd_X7_mean rfl rfl rfl (by decide +kernel) ⟨Nat.le_of_ble_eq_true rfl, Nat.le_of_ble_eq_true rfl⟩) ⟨ax_blind (fun _ _ _ _ _ => trivial), va_recv hKx hPx (ci := 7) (q0 := 0) rfl hfs1625, ax_preE hPx hKx hDx (fun _ _ _ => trivial)⟩ rfl rfl hl.1 rfl (lv_room (Nat.le_of_ble_eq_true rfl)) dL_law_1625 ⟨hcc, hss⟩) hS (fun q _ h => hFc q h) hFc (fun r1625 u t H1 locs ht hvm hw1625 hB hz1 hk1 hS => ?_)
    obtain ⟨wxn, txn, ⟨vi1, vf1, kx1, kx2, hI1⟩, hP1, hK1, hD1⟩ := hB
    rw [ht] at hP1
    have hK1 := va_K.moved hvm.symm hK1
    obtain ⟨hPm, jxm⟩ := lg_step hPm jxm hk1 hD1
    obtain ⟨hPo, jxo⟩ := lg_step hPo jxo hk1 hD1
    have hD1 := hD1.weaken (fun _ _ _ h9 => hFc _ h9)
    clear hPx hDx hKx hFc hk1 hz1 hfs1625
    have hIX := hI1; have hPx := hP1; have hDx := hD1; have hKx := hK1; clear hI1 hP1 hD1 hK1
    clear ht; generalize H1 = H at hPx hPm hPo hS ⊢
    refine lv_pop2_2 hx hb dL_law_1628 rfl ?_
    refine lv_aload_n hx hb dL_law_1629 rfl (lv_at hl 2 rfl) ?_
    refine lv_aload_n hx hb dL_law_1630 rfl (lv_at hl 4 rfl) ?_
    refine lv_iload hx hb dL_law_1631 (lv_at hl 0 rfl) ?_
    refine lv_iconst (v := 1) hx hb dL_law_1633 zk_iconst_1 ?_
    refine lv_iadd hx hb dL_law_1634 ?_
    refine ax_ti ix1 eix1.symm ?_
    refine va_sld (L := L) (i := ix1) hx hb hX hbl hbA hS (vp_in_iff.mpr ⟨by omega, by omega⟩) dL_law_1635 ?_
    refine ax_ti vix1 evix1.symm ?_
    refine lv_aload_n hx hb dL_law_1636 rfl (lv_at hl 4 rfl) ?_
    refine lv_iload hx hb dL_law_1637 (lv_at hl 0 rfl) ?_
    refine lv_iconst (v := 2) hx hb dL_law_1639 zk_iconst_2 ?_
    refine lv_iadd hx hb dL_law_1640 ?_
    refine ax_ti ix2 eix2.symm ?_
    refine va_sld (L := L) (i := ix2) hx hb hX hbl hbA hS (vp_in_iff.mpr ⟨by omega, by omega⟩) dL_law_1641 ?_
    refine ax_ti vix2 evix2.symm ?_
    refine lv_aload_n hx hb dL_law_1642 rfl (lv_at hl 4 rfl) ?_
    refine lv_iload hx hb dL_law_1643 (lv_at hl 0 rfl) ?_
    refine lv_iconst (v := 3) hx hb dL_law_1645 zk_iconst_3 ?_
    refine lv_iadd hx hb dL_law_1646 ?_
    refine ax_ti ix3 eix3.symm ?_
    refine va_sld (L := L) (i := ix3) hx hb hX hbl hbA hS (vp_in_iff.mpr ⟨by omega, by omega⟩) dL_law_1647 ?_
    refine ax_ti vix3 evix3.symm ?_
    refine lv_if_eq (tgt := 1655) hx hb dL_law_1648 (by decide) (fun c_3 => absurd c_3 c_1) (fun _ => ?_)
    refine lv_iconst (v := 1) hx hb dL_law_1651 zk_iconst_1 ?_
    refine lv_goto (tgt := 1656) hx hb dL_law_1652 (by decide) ?_
    have hFc := lg_free hDm hS hA
    obtain ⟨fs1656, hfs1656⟩ := im_recv hIM
    refine va_calll (va_runV (As := [.int vix1, .int vix2, .int 1]) (rest := []) ⟨hx, hb, hml, hown, hts⟩ (k_X8_mean l dC dI H.size mo tp vm vn wm tm hIM vix1 vix2 1) (cwV 3 hts gd_X8_mean rfl rfl rfl (by decide +kernel) ⟨Nat.le_of_ble_eq_true rfl, Nat.le_of_ble_eq_true rfl⟩) ⟨ax_blind (fun _ _ _ _ _ => trivial), va_recv hKm hPm (ci := 8) (q0 := 0) rfl hfs1656, ax_preE hPm hKm hDm (fun _ _ _ => trivial)⟩ rfl rfl hl.1 rfl (lv_room (Nat.le_of_ble_eq_true rfl)) dL_law_1656 ⟨hcc, hss⟩) hS (fun q _ h => hFc q h) hFc (fun r1656 u t H1 locs ht hvm hw1656 hB hz1 hk1 hS => ?_)
    obtain ⟨wmn, tmn, ⟨vm1, vn1, km1, km2, hI1⟩, hP1, hK1, hD1⟩ := hB
    rw [ht] at hP1
    have hK1 := va_K.moved hvm.symm hK1
    obtain ⟨hPx, jmx⟩ := lg_step hPx (dj_symm jxm) hk1 hD1
    have jxm := dj_symm jmx
    obtain ⟨hPo, jmo⟩ := lg_step hPo jmo hk1 hD1
    have hD1 := hD1.weaken (fun _ _ _ h9 => hFc _ h9)
    clear hPm hDm hKm hFc hk1 hz1 hfs1656
    have hIM := hI1; have hPm := hP1; have hDm := hD1; have hKm := hK1; clear hI1 hP1 hD1 hK1
    clear ht; generalize H1 = H at hPx hPm hPo hS ⊢
    refine lv_pop2_2 hx hb dL_law_1659 rfl ?_
    refine lv_goto (tgt := 1941) hx hb dL_law_1660 (by decide) ?_
    have hRn : lr_R tp vi1 vf1 vm1 vn1 := ⟨by rw [kx2 0 (by decide), km2 0 (by decide)]; exact hR.1, lr_keep (fun k9 h9 => kx1 k9 (kp_dis (by decide) h9)) (fun k9 h8 h9 => kx1 k9 (kp_out (a := 57) (b := 152) (by decide) h8 h9)) (fun k9 h9 => kx2 k9 (kp_dis (by decide) h9)) (fun k9 h8 h9 => kx2 k9 (kp_out (a := 23) (b := 61) (by decide) h8 h9)) (fun k9 h9 => km1 k9 (kp_dis (by decide) h9)) (fun k9 h9 => km2 k9 (kp_dis (by decide) h9)) hR.2⟩
    exact kk _ _ _ _ _ (Nat.le_add_right _ _) (Nat.le_add_right _ _) ⟨tp, _, _, _, _, _, _, _, _, _, hIX, hIM, hRn, hKx, hKm, hPx, hPm, hPo, hDx, hDm, hDo, jxm, jxo, jmo⟩ hS (lv_sub hl [0, 1, 2, 3, 4] rfl)

set_option maxHeartbeats 4000000 in
set_option maxRecDepth 100000 in
theorem lc_47 {p : Program} {l : Launch} {e : Env} {s : State} {m : MethodId} {below : List Frame} {meth : Method} {c : Code} {b L : Nat} {xs : Nat → Int32} {A : Nat → Prop} {dC : Nat → ClassId} {dI : Nat → Nat → Nat} (hl0 : l.stackTraces = false) (hL : L ≤ 3072) (hA : ∀ q, s.heap.size ≤ q → A q) (hA2 : ∀ q, A q → s.heap.size ≤ q) (C0 : lw_At p s m meth c b L xs) (sd : Nat → Nat) (sa : Nat) (hE : lg_E A sd sa s) (x mo oa : Nat) (ko : ClassId) (hKo : va_K (dC, dI) vwCl [(ko, .long)] s) (i : Int32) (hi0 : (0 : Int) ≤ i.toInt) (hi6 : i.toInt + 6 ≤ (L : Int)) {H : Heap} {locs : List Loc} {cells slots : Nat} (hc9 : cells + 1 ≤ 601024) (hs9 : slots + 6 ≤ 7293034) (hG : lg_S dC dI A s x mo oa ko H) (hS : va_S A s.heap H locs) {ls : Array Slot} (hl : lv_has ls 7 [(4, .int i), (3, .ref oa), (2, .ref mo), (1, .ref x), (0, .ref b)])
    (kk : ∀ (H : Heap) (locs : List Loc) (ls : Array Slot) (k9 n9 : Nat), k9 ≤ cells + 1 → n9 ≤ slots + 6 → lg_S dC dI A s x mo oa ko H → va_S A s.heap H locs → lv_has ls 7 [(4, .int i), (3, .ref oa), (2, .ref mo), (1, .ref x), (0, .ref b)] → W p l e room_1 s m #[Value.ref b] below meth c H locs k9 n9 (lw_Z below #[Value.ref b] s) (F0 m 1941 ls [])) : W p l e room_1 s m #[Value.ref b] below meth c H locs cells slots (lw_Z below #[Value.ref b] s) (F0 m 1663 ls []) := by
  obtain ⟨hx, hb, hr, hml, hown0, htl, hX, hbl, hlocks, hgv⟩ := id C0
  have hown : s.vm.findClass RL = some m.cls := hown0
  have hts : ∀ w ∈ wlT, w.before #[Value.ref b] s = true := fun w h => htl w (wlT_in w h)
  have hbA : ¬ A b := fun h => absurd (hA2 b h) (Nat.not_le.mpr hbl)
  obtain ⟨tp, wx, wm, tx, tm, fo, vi, vf, vm, vn, hIX, hIM, hR, hKx, hKm, hPx, hPm, hPo, hDx, hDm, hDo, jxm, jxo, jmo⟩ := hG
  have hiM : i.toInt ≤ (3066 : Int) := by omega
  have hcc : cells ≤ 601024 := by omega
  have hss : slots ≤ 7293034 := by omega
  have htpb := ix_tp hIX
  have hMo := im_mo hIM
  refine lv_aload_n hx hb dL_law_1663 rfl (lv_at hl 3 rfl) ?_
  refine lv_aload_n hx hb dL_law_1664 rfl (lv_at hl 4 rfl) ?_
  refine lv_iload hx hb dL_law_1665 (lv_at hl 0 rfl) ?_
  refine lv_iconst (v := 1) hx hb dL_law_1667 zk_iconst_1 ?_
  refine lv_iadd hx hb dL_law_1668 ?_
  refine lv_topi (fun ix1 eix1 => ?_)
  have qix1 : ix1.toInt = i.toInt + 1 := ai_add eix1 ⟨hi0, hiM⟩ ⟨zq1, zq0⟩ (by decide) (by decide)
  refine va_sld (L := L) (i := ix1) hx hb hX hbl hbA hS (vp_in_iff.mpr ⟨by omega, by omega⟩) dL_law_1669 ?_
  refine lv_topi (fun vix1 evix1 => ?_)
  refine lv_aload_n hx hb dL_law_1670 rfl (lv_at hl 4 rfl) ?_
  refine lv_iload hx hb dL_law_1671 (lv_at hl 0 rfl) ?_
  refine lv_iconst (v := 2) hx hb dL_law_1673 zk_iconst_2 ?_
  refine lv_iadd hx hb dL_law_1674 ?_
  refine lv_topi (fun ix2 eix2 => ?_)
  have qix2 : ix2.toInt = i.toInt + 2 := ai_add eix2 ⟨hi0, hiM⟩ ⟨zq12, zq13⟩ (by decide) (by decide)
  refine va_sld (L := L) (i := ix2) hx hb hX hbl hbA hS (vp_in_iff.mpr ⟨by omega, by omega⟩) dL_law_1675 ?_
  refine lv_topi (fun vix2 evix2 => ?_)
  refine lv_aload_n hx hb dL_law_1676 rfl (lv_at hl 4 rfl) ?_
  refine lv_iload hx hb dL_law_1677 (lv_at hl 0 rfl) ?_
  refine lv_iconst (v := 3) hx hb dL_law_1679 zk_iconst_3 ?_
  refine lv_iadd hx hb dL_law_1680 ?_
  refine lv_topi (fun ix3 eix3 => ?_)
  have qix3 : ix3.toInt = i.toInt + 3 := ai_add eix3 ⟨hi0, hiM⟩ ⟨zq8, zq9⟩ (by decide) (by decide)
  refine va_sld (L := L) (i := ix3) hx hb hX hbl hbA hS (vp_in_iff.mpr ⟨by omega, by omega⟩) dL_law_1681 ?_
  refine lv_topi (fun vix3 evix3 => ?_)
  have hFc := lg_free hDx hS hA
  obtain ⟨fs1682, hfs1682⟩ := ix_recv hIX
  refine va_calli (va_runV (As := [.int vix1, .int vix2, .int vix3]) (rest := []) ⟨hx, hb, hml, hown, hts⟩ (k_X7_drawn l dC dI H.size x tp vi vf wx tx hIX vix1 vix2 vix3) (cwV 3 hts gd_X7_drawn rfl rfl rfl (by decide +kernel) ⟨Nat.le_of_ble_eq_true rfl, Nat.le_of_ble_eq_true rfl⟩) ⟨ax_blind (fun _ _ _ _ _ => trivial), va_recv hKx hPx (ci := 7) (q0 := 0) rfl hfs1682, ax_preE hPx hKx hDx (fun _ _ _ => trivial)⟩ rfl rfl hl.1 rfl (lv_room (Nat.le_of_ble_eq_true rfl)) dL_law_1682 ⟨hcc, hss⟩) hS (fun q _ h => hFc q h) hFc (fun r1682 u t H1 locs ht hvm hw1682 hB hz1 hk1 hS => ?_)
  obtain ⟨wxn, txn, ⟨vi1, vf1, kx1, kx2, hI1⟩, hP1, hK1, hD1⟩ := hB
  rw [ht] at hP1
  have hK1 := va_K.moved hvm.symm hK1
  obtain ⟨hPm, jxm⟩ := lg_step hPm jxm hk1 hD1
  obtain ⟨hPo, jxo⟩ := lg_step hPo jxo hk1 hD1
  have hD1 := hD1.weaken (fun _ _ _ h9 => hFc _ h9)
  clear hPx hDx hKx hFc hk1 hz1 hfs1682
  have hIX := hI1; have hPx := hP1; have hDx := hD1; have hKx := hK1; clear hI1 hP1 hD1 hK1
  clear ht; generalize H1 = H at hPx hPm hPo hS ⊢
  refine lv_pop hx hb dL_law_1685 rfl ?_
  refine lv_aload_n hx hb dL_law_1686 rfl (lv_at hl 2 rfl) ?_
  refine lv_aload_n hx hb dL_law_1687 rfl (lv_at hl 4 rfl) ?_
  refine lv_iload hx hb dL_law_1688 (lv_at hl 0 rfl) ?_
  refine lv_iconst (v := 1) hx hb dL_law_1690 zk_iconst_1 ?_
  refine lv_iadd hx hb dL_law_1691 ?_
  refine ax_ti ix1 eix1.symm ?_
  refine va_sld (L := L) (i := ix1) hx hb hX hbl hbA hS (vp_in_iff.mpr ⟨by omega, by omega⟩) dL_law_1692 ?_
  refine ax_ti vix1 evix1.symm ?_
  refine lv_aload_n hx hb dL_law_1693 rfl (lv_at hl 4 rfl) ?_
  refine lv_iload hx hb dL_law_1694 (lv_at hl 0 rfl) ?_
  refine lv_iconst (v := 2) hx hb dL_law_1696 zk_iconst_2 ?_
  refine lv_iadd hx hb dL_law_1697 ?_
  refine ax_ti ix2 eix2.symm ?_
  refine va_sld (L := L) (i := ix2) hx hb hX hbl hbA hS (vp_in_iff.mpr ⟨by omega, by omega⟩) dL_law_1698 ?_
  refine ax_ti vix2 evix2.symm ?_
  refine lv_aload_n hx hb dL_law_1699 rfl (lv_at hl 4 rfl) ?_
  refine lv_iload hx hb dL_law_1700 (lv_at hl 0 rfl) ?_
  refine lv_iconst (v := 3) hx hb dL_law_1702 zk_iconst_3 ?_
  refine lv_iadd hx hb dL_law_1703 ?_
  refine ax_ti ix3 eix3.symm ?_
  refine va_sld (L := L) (i := ix3) hx hb hX hbl hbA hS (vp_in_iff.mpr ⟨by omega, by omega⟩) dL_law_1704 ?_
  refine ax_ti vix3 evix3.symm ?_
  have hFc := lg_free hDm hS hA
  obtain ⟨fs1705, hfs1705⟩ := im_recv hIM
  refine va_calli (va_runV (As := [.int vix1, .int vix2, .int vix3]) (rest := []) ⟨hx, hb, hml, hown, hts⟩ (k_X8_drawn l dC dI H.size mo tp vm vn wm tm hIM vix1 vix2 vix3) (cwV 3 hts gd_X8_drawn rfl rfl rfl (by decide +kernel) ⟨Nat.le_of_ble_eq_true rfl, Nat.le_of_ble_eq_true rfl⟩) ⟨ax_blind (fun _ _ _ _ _ => trivial), va_recv hKm hPm (ci := 8) (q0 := 0) rfl hfs1705, ax_preE hPm hKm hDm (fun _ _ _ => trivial)⟩ rfl rfl hl.1 rfl (lv_room (Nat.le_of_ble_eq_true rfl)) dL_law_1705 ⟨hcc, hss⟩) hS (fun q _ h => hFc q h) hFc (fun r1705 u t H1 locs ht hvm hw1705 hB hz1 hk1 hS => ?_)
  obtain ⟨wmn, tmn, ⟨vm1, vn1, km1, km2, hI1⟩, hP1, hK1, hD1⟩ := hB
  rw [ht] at hP1
  have hK1 := va_K.moved hvm.symm hK1
  obtain ⟨hPx, jmx⟩ := lg_step hPx (dj_symm jxm) hk1 hD1
  have jxm := dj_symm jmx
  obtain ⟨hPo, jmo⟩ := lg_step hPo jmo hk1 hD1
  have hD1 := hD1.weaken (fun _ _ _ h9 => hFc _ h9)
  clear hPm hDm hKm hFc hk1 hz1 hfs1705
  have hIM := hI1; have hPm := hP1; have hDm := hD1; have hKm := hK1; clear hI1 hP1 hD1 hK1
  clear ht; generalize H1 = H at hPx hPm hPo hS ⊢
  refine lv_pop hx hb dL_law_1708 rfl ?_
  refine lv_goto (tgt := 1941) hx hb dL_law_1709 (by decide) ?_
  have hRn : lr_R tp vi1 vf1 vm1 vn1 := ⟨by rw [kx2 0 (by decide), km2 0 (by decide)]; exact hR.1, lr_keep (fun k9 h9 => kx1 k9 (kp_dis (by decide) h9)) (fun k9 h8 h9 => kx1 k9 (kp_out (a := 57) (b := 152) (by decide) h8 h9)) (fun k9 h9 => kx2 k9 (kp_dis (by decide) h9)) (fun k9 h8 h9 => kx2 k9 (kp_out (a := 23) (b := 61) (by decide) h8 h9)) (fun k9 h9 => km1 k9 (kp_dis (by decide) h9)) (fun k9 h9 => km2 k9 (kp_dis (by decide) h9)) hR.2⟩
  exact kk _ _ _ _ _ (Nat.le_add_right _ _) (Nat.le_add_right _ _) ⟨tp, _, _, _, _, _, _, _, _, _, hIX, hIM, hRn, hKx, hKm, hPx, hPm, hPo, hDx, hDm, hDo, jxm, jxo, jmo⟩ hS (lv_sub hl [0, 1, 2, 3, 4] rfl)

set_option maxHeartbeats 4000000 in
set_option maxRecDepth 100000 in
theorem lc_48 {p : Program} {l : Launch} {e : Env} {s : State} {m : MethodId} {below : List Frame} {meth : Method} {c : Code} {b L : Nat} {xs : Nat → Int32} {A : Nat → Prop} {dC : Nat → ClassId} {dI : Nat → Nat → Nat} (hl0 : l.stackTraces = false) (hL : L ≤ 3072) (hA : ∀ q, s.heap.size ≤ q → A q) (hA2 : ∀ q, A q → s.heap.size ≤ q) (C0 : lw_At p s m meth c b L xs) (sd : Nat → Nat) (sa : Nat) (hE : lg_E A sd sa s) (x mo oa : Nat) (ko : ClassId) (hKo : va_K (dC, dI) vwCl [(ko, .long)] s) (i : Int32) (hi0 : (0 : Int) ≤ i.toInt) (hi6 : i.toInt + 6 ≤ (L : Int)) {H : Heap} {locs : List Loc} {cells slots : Nat} (hc9 : cells + 1 ≤ 601024) (hs9 : slots + 6 ≤ 7293034) (hG : lg_S dC dI A s x mo oa ko H) (hS : va_S A s.heap H locs) {ls : Array Slot} (hl : lv_has ls 7 [(4, .int i), (3, .ref oa), (2, .ref mo), (1, .ref x), (0, .ref b)])
    (kk : ∀ (H : Heap) (locs : List Loc) (ls : Array Slot) (k9 n9 : Nat), k9 ≤ cells + 1 → n9 ≤ slots + 6 → lg_S dC dI A s x mo oa ko H → va_S A s.heap H locs → lv_has ls 7 [(4, .int i), (3, .ref oa), (2, .ref mo), (1, .ref x), (0, .ref b)] → W p l e room_1 s m #[Value.ref b] below meth c H locs k9 n9 (lw_Z below #[Value.ref b] s) (F0 m 1941 ls [])) : W p l e room_1 s m #[Value.ref b] below meth c H locs cells slots (lw_Z below #[Value.ref b] s) (F0 m 1712 ls []) := by
  obtain ⟨hx, hb, hr, hml, hown0, htl, hX, hbl, hlocks, hgv⟩ := id C0
  have hown : s.vm.findClass RL = some m.cls := hown0
  have hts : ∀ w ∈ wlT, w.before #[Value.ref b] s = true := fun w h => htl w (wlT_in w h)
  have hbA : ¬ A b := fun h => absurd (hA2 b h) (Nat.not_le.mpr hbl)
  obtain ⟨tp, wx, wm, tx, tm, fo, vi, vf, vm, vn, hIX, hIM, hR, hKx, hKm, hPx, hPm, hPo, hDx, hDm, hDo, jxm, jxo, jmo⟩ := hG
  have hiM : i.toInt ≤ (3066 : Int) := by omega
  have hcc : cells ≤ 601024 := by omega
  have hss : slots ≤ 7293034 := by omega
  have htpb := ix_tp hIX
  have hMo := im_mo hIM
  refine lv_aload_n hx hb dL_law_1712 rfl (lv_at hl 3 rfl) ?_
  refine lv_aload_n hx hb dL_law_1713 rfl (lv_at hl 4 rfl) ?_
  refine lv_iload hx hb dL_law_1714 (lv_at hl 0 rfl) ?_
  refine lv_iconst (v := 1) hx hb dL_law_1716 zk_iconst_1 ?_
  refine lv_iadd hx hb dL_law_1717 ?_
  refine lv_topi (fun ix1 eix1 => ?_)
  have qix1 : ix1.toInt = i.toInt + 1 := ai_add eix1 ⟨hi0, hiM⟩ ⟨zq1, zq0⟩ (by decide) (by decide)
  refine va_sld (L := L) (i := ix1) hx hb hX hbl hbA hS (vp_in_iff.mpr ⟨by omega, by omega⟩) dL_law_1718 ?_
  refine lv_topi (fun vix1 evix1 => ?_)
  refine lv_aload_n hx hb dL_law_1719 rfl (lv_at hl 4 rfl) ?_
  refine lv_iload hx hb dL_law_1720 (lv_at hl 0 rfl) ?_
  refine lv_iconst (v := 2) hx hb dL_law_1722 zk_iconst_2 ?_
  refine lv_iadd hx hb dL_law_1723 ?_
  refine lv_topi (fun ix2 eix2 => ?_)
  have qix2 : ix2.toInt = i.toInt + 2 := ai_add eix2 ⟨hi0, hiM⟩ ⟨zq12, zq13⟩ (by decide) (by decide)
  refine va_sld (L := L) (i := ix2) hx hb hX hbl hbA hS (vp_in_iff.mpr ⟨by omega, by omega⟩) dL_law_1724 ?_
  refine lv_topi (fun vix2 evix2 => ?_)
  have hFc := lg_free hDx hS hA
  obtain ⟨fs1725, hfs1725⟩ := ix_recv hIX
  refine va_calli (va_runV (As := [.int vix1, .int vix2]) (rest := []) ⟨hx, hb, hml, hown, hts⟩ (k_X7_firstShut l dC dI H.size x tp vi vf wx tx hIX vix1 vix2) (cwV 2 hts gd_X7_firstShut rfl rfl rfl (by decide +kernel) ⟨Nat.le_of_ble_eq_true rfl, Nat.le_of_ble_eq_true rfl⟩) ⟨ax_blind (fun _ _ _ _ _ => trivial), va_recv hKx hPx (ci := 7) (q0 := 0) rfl hfs1725, ax_preE hPx hKx hDx (fun _ _ _ => trivial)⟩ rfl rfl hl.1 rfl (lv_room (Nat.le_of_ble_eq_true rfl)) dL_law_1725 ⟨hcc, hss⟩) hS (fun q _ h => hFc q h) hFc (fun r1725 u t H1 locs ht hvm hw1725 hB hz1 hk1 hS => ?_)
  obtain ⟨wxn, txn, ⟨vi1, vf1, kx1, kx2, hI1⟩, hP1, hK1, hD1⟩ := hB
  rw [ht] at hP1
  have hK1 := va_K.moved hvm.symm hK1
  obtain ⟨hPm, jxm⟩ := lg_step hPm jxm hk1 hD1
  obtain ⟨hPo, jxo⟩ := lg_step hPo jxo hk1 hD1
  have hD1 := hD1.weaken (fun _ _ _ h9 => hFc _ h9)
  clear hPx hDx hKx hFc hk1 hz1 hfs1725
  have hIX := hI1; have hPx := hP1; have hDx := hD1; have hKx := hK1; clear hI1 hP1 hD1 hK1
  clear ht; generalize H1 = H at hPx hPm hPo hS ⊢
  refine lv_pop hx hb dL_law_1728 rfl ?_
  refine lv_aload_n hx hb dL_law_1729 rfl (lv_at hl 2 rfl) ?_
  refine lv_aload_n hx hb dL_law_1730 rfl (lv_at hl 4 rfl) ?_
  refine lv_iload hx hb dL_law_1731 (lv_at hl 0 rfl) ?_
  refine lv_iconst (v := 1) hx hb dL_law_1733 zk_iconst_1 ?_
  refine lv_iadd hx hb dL_law_1734 ?_
  refine ax_ti ix1 eix1.symm ?_
  refine va_sld (L := L) (i := ix1) hx hb hX hbl hbA hS (vp_in_iff.mpr ⟨by omega, by omega⟩) dL_law_1735 ?_
  refine ax_ti vix1 evix1.symm ?_
  refine lv_aload_n hx hb dL_law_1736 rfl (lv_at hl 4 rfl) ?_
  refine lv_iload hx hb dL_law_1737 (lv_at hl 0 rfl) ?_
  refine lv_iconst (v := 2) hx hb dL_law_1739 zk_iconst_2 ?_
  refine lv_iadd hx hb dL_law_1740 ?_
  refine ax_ti ix2 eix2.symm ?_
  refine va_sld (L := L) (i := ix2) hx hb hX hbl hbA hS (vp_in_iff.mpr ⟨by omega, by omega⟩) dL_law_1741 ?_
  refine ax_ti vix2 evix2.symm ?_
  have hFc := lg_free hDm hS hA
  obtain ⟨fs1742, hfs1742⟩ := im_recv hIM
  refine va_calli (va_runV (As := [.int vix1, .int vix2]) (rest := []) ⟨hx, hb, hml, hown, hts⟩ (k_X8_firstShut l dC dI H.size mo tp vm vn wm tm hIM vix1 vix2) (cwV 2 hts gd_X8_firstShut rfl rfl rfl (by decide +kernel) ⟨Nat.le_of_ble_eq_true rfl, Nat.le_of_ble_eq_true rfl⟩) ⟨ax_blind (fun _ _ _ _ _ => trivial), va_recv hKm hPm (ci := 8) (q0 := 0) rfl hfs1742, ax_preE hPm hKm hDm (fun _ _ _ => trivial)⟩ rfl rfl hl.1 rfl (lv_room (Nat.le_of_ble_eq_true rfl)) dL_law_1742 ⟨hcc, hss⟩) hS (fun q _ h => hFc q h) hFc (fun r1742 u t H1 locs ht hvm hw1742 hB hz1 hk1 hS => ?_)
  obtain ⟨wmn, tmn, ⟨vm1, vn1, km1, km2, hI1⟩, hP1, hK1, hD1⟩ := hB
  rw [ht] at hP1
  have hK1 := va_K.moved hvm.symm hK1
  obtain ⟨hPx, jmx⟩ := lg_step hPx (dj_symm jxm) hk1 hD1
  have jxm := dj_symm jmx
  obtain ⟨hPo, jmo⟩ := lg_step hPo jmo hk1 hD1
  have hD1 := hD1.weaken (fun _ _ _ h9 => hFc _ h9)
  clear hPm hDm hKm hFc hk1 hz1 hfs1742
  have hIM := hI1; have hPm := hP1; have hDm := hD1; have hKm := hK1; clear hI1 hP1 hD1 hK1
  clear ht; generalize H1 = H at hPx hPm hPo hS ⊢
  refine lv_pop hx hb dL_law_1745 rfl ?_
  refine lv_goto (tgt := 1941) hx hb dL_law_1746 (by decide) ?_
  have hRn : lr_R tp vi1 vf1 vm1 vn1 := ⟨by rw [kx2 0 (by decide), km2 0 (by decide)]; exact hR.1, lr_keep (fun k9 h9 => kx1 k9 (kp_dis (by decide) h9)) (fun k9 h8 h9 => kx1 k9 (kp_out (a := 57) (b := 152) (by decide) h8 h9)) (fun k9 h9 => kx2 k9 (kp_dis (by decide) h9)) (fun k9 h8 h9 => kx2 k9 (kp_out (a := 23) (b := 61) (by decide) h8 h9)) (fun k9 h9 => km1 k9 (kp_dis (by decide) h9)) (fun k9 h9 => km2 k9 (kp_dis (by decide) h9)) hR.2⟩
  exact kk _ _ _ _ _ (Nat.le_add_right _ _) (Nat.le_add_right _ _) ⟨tp, _, _, _, _, _, _, _, _, _, hIX, hIM, hRn, hKx, hKm, hPx, hPm, hPo, hDx, hDm, hDo, jxm, jxo, jmo⟩ hS (lv_sub hl [0, 1, 2, 3, 4] rfl)

set_option maxHeartbeats 4000000 in
set_option maxRecDepth 100000 in
theorem lc_49 {p : Program} {l : Launch} {e : Env} {s : State} {m : MethodId} {below : List Frame} {meth : Method} {c : Code} {b L : Nat} {xs : Nat → Int32} {A : Nat → Prop} {dC : Nat → ClassId} {dI : Nat → Nat → Nat} (hl0 : l.stackTraces = false) (hL : L ≤ 3072) (hA : ∀ q, s.heap.size ≤ q → A q) (hA2 : ∀ q, A q → s.heap.size ≤ q) (C0 : lw_At p s m meth c b L xs) (sd : Nat → Nat) (sa : Nat) (hE : lg_E A sd sa s) (x mo oa : Nat) (ko : ClassId) (hKo : va_K (dC, dI) vwCl [(ko, .long)] s) (i : Int32) (hi0 : (0 : Int) ≤ i.toInt) (hi6 : i.toInt + 6 ≤ (L : Int)) {H : Heap} {locs : List Loc} {cells slots : Nat} (hc9 : cells + 1 ≤ 601024) (hs9 : slots + 6 ≤ 7293034) (hG : lg_S dC dI A s x mo oa ko H) (hS : va_S A s.heap H locs) {ls : Array Slot} (hl : lv_has ls 7 [(4, .int i), (3, .ref oa), (2, .ref mo), (1, .ref x), (0, .ref b)])
    (kk : ∀ (H : Heap) (locs : List Loc) (ls : Array Slot) (k9 n9 : Nat), k9 ≤ cells + 1 → n9 ≤ slots + 6 → lg_S dC dI A s x mo oa ko H → va_S A s.heap H locs → lv_has ls 7 [(4, .int i), (3, .ref oa), (2, .ref mo), (1, .ref x), (0, .ref b)] → W p l e room_1 s m #[Value.ref b] below meth c H locs k9 n9 (lw_Z below #[Value.ref b] s) (F0 m 1941 ls [])) : W p l e room_1 s m #[Value.ref b] below meth c H locs cells slots (lw_Z below #[Value.ref b] s) (F0 m 1749 ls []) := by
  obtain ⟨hx, hb, hr, hml, hown0, htl, hX, hbl, hlocks, hgv⟩ := id C0
  have hown : s.vm.findClass RL = some m.cls := hown0
  have hts : ∀ w ∈ wlT, w.before #[Value.ref b] s = true := fun w h => htl w (wlT_in w h)
  have hbA : ¬ A b := fun h => absurd (hA2 b h) (Nat.not_le.mpr hbl)
  obtain ⟨tp, wx, wm, tx, tm, fo, vi, vf, vm, vn, hIX, hIM, hR, hKx, hKm, hPx, hPm, hPo, hDx, hDm, hDo, jxm, jxo, jmo⟩ := hG
  have hiM : i.toInt ≤ (3066 : Int) := by omega
  have hcc : cells ≤ 601024 := by omega
  have hss : slots ≤ 7293034 := by omega
  have htpb := ix_tp hIX
  have hMo := im_mo hIM
  refine lv_aload_n hx hb dL_law_1749 rfl (lv_at hl 3 rfl) ?_
  refine lv_aload_n hx hb dL_law_1750 rfl (lv_at hl 4 rfl) ?_
  refine lv_iload hx hb dL_law_1751 (lv_at hl 0 rfl) ?_
  refine lv_iconst (v := 1) hx hb dL_law_1753 zk_iconst_1 ?_
  refine lv_iadd hx hb dL_law_1754 ?_
  refine lv_topi (fun ix1 eix1 => ?_)
  have qix1 : ix1.toInt = i.toInt + 1 := ai_add eix1 ⟨hi0, hiM⟩ ⟨zq1, zq0⟩ (by decide) (by decide)
  refine va_sld (L := L) (i := ix1) hx hb hX hbl hbA hS (vp_in_iff.mpr ⟨by omega, by omega⟩) dL_law_1755 ?_
  refine lv_topi (fun vix1 evix1 => ?_)
  have hFc := lg_free hDx hS hA
  obtain ⟨fs1756, hfs1756⟩ := ix_recv hIX
  refine va_calli (va_runV (As := [.int vix1]) (rest := []) ⟨hx, hb, hml, hown, hts⟩ (k_X7_go l dC dI H.size x tp vi vf wx tx hIX vix1) (cwV 1 hts gd_X7_go rfl rfl rfl (by decide +kernel) ⟨Nat.le_of_ble_eq_true rfl, Nat.le_of_ble_eq_true rfl⟩) ⟨ax_blind (fun _ _ _ _ hq => ⟨va_Nw.same rfl rfl (hq.1), va_Nw.same rfl rfl (hq.2.1), va_Nw.same rfl rfl (hq.2.2)⟩), va_recv hKx hPx (ci := 7) (q0 := 0) rfl hfs1756, ax_preE hPx hKx hDx (fun U hU hW => ⟨va_Nw.warmM hW (hE.2.2.2.1), va_Nw.warmM hW (hE.2.2.1), va_Nw.warmM hW (hE.2.2.2.2.1)⟩)⟩ rfl rfl hl.1 rfl (lv_room (Nat.le_of_ble_eq_true rfl)) dL_law_1756 ⟨hcc, hss⟩) hS (fun q _ h => hFc q h) hFc (fun r1756 u t H1 locs ht hvm hw1756 hB hz1 hk1 hS => ?_)
  obtain ⟨wxn, txn, ⟨vi1, vf1, kx1, kx2, hax, hI1⟩, hP1, hK1, hD1⟩ := hB
  rw [ht] at hP1
  have hK1 := va_K.moved hvm.symm hK1
  obtain ⟨hPm, jxm⟩ := lg_step hPm jxm hk1 hD1
  obtain ⟨hPo, jxo⟩ := lg_step hPo jxo hk1 hD1
  have hD1 := hD1.weaken (fun _ _ _ h9 => hFc _ h9)
  clear hPx hDx hKx hFc hk1 hz1 hfs1756
  have hIX := hI1; have hPx := hP1; have hDx := hD1; have hKx := hK1; clear hI1 hP1 hD1 hK1
  clear ht; generalize H1 = H at hPx hPm hPo hS ⊢
  refine lv_pop hx hb dL_law_1759 rfl ?_
  refine lv_aload_n hx hb dL_law_1760 rfl (lv_at hl 2 rfl) ?_
  refine lv_aload_n hx hb dL_law_1761 rfl (lv_at hl 4 rfl) ?_
  refine lv_iload hx hb dL_law_1762 (lv_at hl 0 rfl) ?_
  refine lv_iconst (v := 1) hx hb dL_law_1764 zk_iconst_1 ?_
  refine lv_iadd hx hb dL_law_1765 ?_
  refine ax_ti ix1 eix1.symm ?_
  refine va_sld (L := L) (i := ix1) hx hb hX hbl hbA hS (vp_in_iff.mpr ⟨by omega, by omega⟩) dL_law_1766 ?_
  refine ax_ti vix1 evix1.symm ?_
  have hFc := lg_free hDm hS hA
  obtain ⟨fs1767, hfs1767⟩ := im_recv hIM
  refine va_calli (va_runV (As := [.int vix1]) (rest := []) ⟨hx, hb, hml, hown, hts⟩ (k_X8_go l dC dI H.size mo tp vm vn wm tm hIM vix1) (cwV 1 hts gd_X8_go rfl rfl rfl (by decide +kernel) ⟨Nat.le_of_ble_eq_true rfl, Nat.le_of_ble_eq_true rfl⟩) ⟨ax_blind (fun _ _ _ _ _ => trivial), va_recv hKm hPm (ci := 8) (q0 := 0) rfl hfs1767, ax_preE hPm hKm hDm (fun _ _ _ => trivial)⟩ rfl rfl hl.1 rfl (lv_room (Nat.le_of_ble_eq_true rfl)) dL_law_1767 ⟨hcc, hss⟩) hS (fun q _ h => hFc q h) hFc (fun r1767 u t H1 locs ht hvm hw1767 hB hz1 hk1 hS => ?_)
  obtain ⟨wmn, tmn, ⟨vm1, vn1, km1, km2, ham, hI1⟩, hP1, hK1, hD1⟩ := hB
  rw [ht] at hP1
  have hK1 := va_K.moved hvm.symm hK1
  obtain ⟨hPx, jmx⟩ := lg_step hPx (dj_symm jxm) hk1 hD1
  have jxm := dj_symm jmx
  obtain ⟨hPo, jmo⟩ := lg_step hPo jmo hk1 hD1
  have hD1 := hD1.weaken (fun _ _ _ h9 => hFc _ h9)
  clear hPm hDm hKm hFc hk1 hz1 hfs1767
  have hIM := hI1; have hPm := hP1; have hDm := hD1; have hKm := hK1; clear hI1 hP1 hD1 hK1
  clear ht; generalize H1 = H at hPx hPm hPo hS ⊢
  refine lv_pop hx hb dL_law_1770 rfl ?_
  refine lv_goto (tgt := 1941) hx hb dL_law_1771 (by decide) ?_
  have hRn : lr_R tp vi1 vf1 vm1 vn1 := ⟨by rw [kx2 0 (by decide), km2 0 (by decide)]; exact hR.1, lr_go hR hMo _ kx1 kx2 km1 km2 hax ham⟩
  exact kk _ _ _ _ _ (Nat.le_add_right _ _) (Nat.le_add_right _ _) ⟨tp, _, _, _, _, _, _, _, _, _, hIX, hIM, hRn, hKx, hKm, hPx, hPm, hPo, hDx, hDm, hDo, jxm, jxo, jmo⟩ hS (lv_sub hl [0, 1, 2, 3, 4] rfl)

set_option maxHeartbeats 4000000 in
set_option maxRecDepth 100000 in
theorem lc_50 {p : Program} {l : Launch} {e : Env} {s : State} {m : MethodId} {below : List Frame} {meth : Method} {c : Code} {b L : Nat} {xs : Nat → Int32} {A : Nat → Prop} {dC : Nat → ClassId} {dI : Nat → Nat → Nat} (hl0 : l.stackTraces = false) (hL : L ≤ 3072) (hA : ∀ q, s.heap.size ≤ q → A q) (hA2 : ∀ q, A q → s.heap.size ≤ q) (C0 : lw_At p s m meth c b L xs) (sd : Nat → Nat) (sa : Nat) (hE : lg_E A sd sa s) (x mo oa : Nat) (ko : ClassId) (hKo : va_K (dC, dI) vwCl [(ko, .long)] s) (i : Int32) (hi0 : (0 : Int) ≤ i.toInt) (hi6 : i.toInt + 6 ≤ (L : Int)) {H : Heap} {locs : List Loc} {cells slots : Nat} (hc9 : cells + 1 ≤ 601024) (hs9 : slots + 6 ≤ 7293034) (hG : lg_S dC dI A s x mo oa ko H) (hS : va_S A s.heap H locs) {ls : Array Slot} (hl : lv_has ls 7 [(4, .int i), (3, .ref oa), (2, .ref mo), (1, .ref x), (0, .ref b)])
    (kk : ∀ (H : Heap) (locs : List Loc) (ls : Array Slot) (k9 n9 : Nat), k9 ≤ cells + 1 → n9 ≤ slots + 6 → lg_S dC dI A s x mo oa ko H → va_S A s.heap H locs → lv_has ls 7 [(4, .int i), (3, .ref oa), (2, .ref mo), (1, .ref x), (0, .ref b)] → W p l e room_1 s m #[Value.ref b] below meth c H locs k9 n9 (lw_Z below #[Value.ref b] s) (F0 m 1941 ls [])) : W p l e room_1 s m #[Value.ref b] below meth c H locs cells slots (lw_Z below #[Value.ref b] s) (F0 m 1774 ls []) := by
  obtain ⟨hx, hb, hr, hml, hown0, htl, hX, hbl, hlocks, hgv⟩ := id C0
  have hown : s.vm.findClass RL = some m.cls := hown0
  have hts : ∀ w ∈ wlT, w.before #[Value.ref b] s = true := fun w h => htl w (wlT_in w h)
  have hbA : ¬ A b := fun h => absurd (hA2 b h) (Nat.not_le.mpr hbl)
  obtain ⟨tp, wx, wm, tx, tm, fo, vi, vf, vm, vn, hIX, hIM, hR, hKx, hKm, hPx, hPm, hPo, hDx, hDm, hDo, jxm, jxo, jmo⟩ := hG
  have hiM : i.toInt ≤ (3066 : Int) := by omega
  have hcc : cells ≤ 601024 := by omega
  have hss : slots ≤ 7293034 := by omega
  have htpb := ix_tp hIX
  have hMo := im_mo hIM
  refine lv_aload_n hx hb dL_law_1774 rfl (lv_at hl 3 rfl) ?_
  refine lv_aload_n hx hb dL_law_1775 rfl (lv_at hl 4 rfl) ?_
  refine lv_iload hx hb dL_law_1776 (lv_at hl 0 rfl) ?_
  refine lv_iconst (v := 1) hx hb dL_law_1778 zk_iconst_1 ?_
  refine lv_iadd hx hb dL_law_1779 ?_
  refine lv_topi (fun ix1 eix1 => ?_)
  have qix1 : ix1.toInt = i.toInt + 1 := ai_add eix1 ⟨hi0, hiM⟩ ⟨zq1, zq0⟩ (by decide) (by decide)
  refine va_sld (L := L) (i := ix1) hx hb hX hbl hbA hS (vp_in_iff.mpr ⟨by omega, by omega⟩) dL_law_1780 ?_
  refine lv_topi (fun vix1 evix1 => ?_)
  have hFc := lg_free hDx hS hA
  obtain ⟨fs1781, hfs1781⟩ := ix_recv hIX
  refine va_calli (va_runV (As := [.int vix1]) (rest := []) ⟨hx, hb, hml, hown, hts⟩ (k_X7_put l dC dI H.size x tp vi vf wx tx hIX vix1) (cwV 1 hts gd_X7_put rfl rfl rfl (by decide +kernel) ⟨Nat.le_of_ble_eq_true rfl, Nat.le_of_ble_eq_true rfl⟩) ⟨ax_blind (fun _ _ _ _ hq => va_Nw.same rfl rfl (hq)), va_recv hKx hPx (ci := 7) (q0 := 0) rfl hfs1781, ax_preE hPx hKx hDx (fun U hU hW => va_Nw.warmM hW (hE.2.2.1))⟩ rfl rfl hl.1 rfl (lv_room (Nat.le_of_ble_eq_true rfl)) dL_law_1781 ⟨hcc, hss⟩) hS (fun q _ h => hFc q h) hFc (fun r1781 u t H1 locs ht hvm hw1781 hB hz1 hk1 hS => ?_)
  obtain ⟨wxn, txn, ⟨vi1, vf1, kx1, kx2, hax, hI1⟩, hP1, hK1, hD1⟩ := hB
  rw [ht] at hP1
  have hK1 := va_K.moved hvm.symm hK1
  obtain ⟨hPm, jxm⟩ := lg_step hPm jxm hk1 hD1
  obtain ⟨hPo, jxo⟩ := lg_step hPo jxo hk1 hD1
  have hD1 := hD1.weaken (fun _ _ _ h9 => hFc _ h9)
  clear hPx hDx hKx hFc hk1 hz1 hfs1781
  have hIX := hI1; have hPx := hP1; have hDx := hD1; have hKx := hK1; clear hI1 hP1 hD1 hK1
  clear ht; generalize H1 = H at hPx hPm hPo hS ⊢
  refine lv_pop hx hb dL_law_1784 rfl ?_
  refine lv_aload_n hx hb dL_law_1785 rfl (lv_at hl 2 rfl) ?_
  refine lv_aload_n hx hb dL_law_1786 rfl (lv_at hl 4 rfl) ?_
  refine lv_iload hx hb dL_law_1787 (lv_at hl 0 rfl) ?_
  refine lv_iconst (v := 1) hx hb dL_law_1789 zk_iconst_1 ?_
  refine lv_iadd hx hb dL_law_1790 ?_
  refine ax_ti ix1 eix1.symm ?_
  refine va_sld (L := L) (i := ix1) hx hb hX hbl hbA hS (vp_in_iff.mpr ⟨by omega, by omega⟩) dL_law_1791 ?_
  refine ax_ti vix1 evix1.symm ?_
  have hFc := lg_free hDm hS hA
  obtain ⟨fs1792, hfs1792⟩ := im_recv hIM
  refine va_calli (va_runV (As := [.int vix1]) (rest := []) ⟨hx, hb, hml, hown, hts⟩ (k_X8_put l dC dI H.size mo tp vm vn wm tm hIM vix1) (cwV 1 hts gd_X8_put rfl rfl rfl (by decide +kernel) ⟨Nat.le_of_ble_eq_true rfl, Nat.le_of_ble_eq_true rfl⟩) ⟨ax_blind (fun _ _ _ _ _ => trivial), va_recv hKm hPm (ci := 8) (q0 := 0) rfl hfs1792, ax_preE hPm hKm hDm (fun _ _ _ => trivial)⟩ rfl rfl hl.1 rfl (lv_room (Nat.le_of_ble_eq_true rfl)) dL_law_1792 ⟨hcc, hss⟩) hS (fun q _ h => hFc q h) hFc (fun r1792 u t H1 locs ht hvm hw1792 hB hz1 hk1 hS => ?_)
  obtain ⟨wmn, tmn, ⟨vm1, vn1, km1, km2, ham, hI1⟩, hP1, hK1, hD1⟩ := hB
  rw [ht] at hP1
  have hK1 := va_K.moved hvm.symm hK1
  obtain ⟨hPx, jmx⟩ := lg_step hPx (dj_symm jxm) hk1 hD1
  have jxm := dj_symm jmx
  obtain ⟨hPo, jmo⟩ := lg_step hPo jmo hk1 hD1
  have hD1 := hD1.weaken (fun _ _ _ h9 => hFc _ h9)
  clear hPm hDm hKm hFc hk1 hz1 hfs1792
  have hIM := hI1; have hPm := hP1; have hDm := hD1; have hKm := hK1; clear hI1 hP1 hD1 hK1
  clear ht; generalize H1 = H at hPx hPm hPo hS ⊢
  refine lv_pop hx hb dL_law_1795 rfl ?_
  refine lv_goto (tgt := 1941) hx hb dL_law_1796 (by decide) ?_
  have hRn : lr_R tp vi1 vf1 vm1 vn1 := ⟨by rw [kx2 0 (by decide), km2 0 (by decide)]; exact hR.1, lr_put hR hMo _ kx1 kx2 km1 km2 hax ham⟩
  exact kk _ _ _ _ _ (Nat.le_add_right _ _) (Nat.le_add_right _ _) ⟨tp, _, _, _, _, _, _, _, _, _, hIX, hIM, hRn, hKx, hKm, hPx, hPm, hPo, hDx, hDm, hDo, jxm, jxo, jmo⟩ hS (lv_sub hl [0, 1, 2, 3, 4] rfl)

set_option maxHeartbeats 4000000 in
set_option maxRecDepth 100000 in
theorem lc_51 {p : Program} {l : Launch} {e : Env} {s : State} {m : MethodId} {below : List Frame} {meth : Method} {c : Code} {b L : Nat} {xs : Nat → Int32} {A : Nat → Prop} {dC : Nat → ClassId} {dI : Nat → Nat → Nat} (hl0 : l.stackTraces = false) (hL : L ≤ 3072) (hA : ∀ q, s.heap.size ≤ q → A q) (hA2 : ∀ q, A q → s.heap.size ≤ q) (C0 : lw_At p s m meth c b L xs) (sd : Nat → Nat) (sa : Nat) (hE : lg_E A sd sa s) (x mo oa : Nat) (ko : ClassId) (hKo : va_K (dC, dI) vwCl [(ko, .long)] s) (i : Int32) (hi0 : (0 : Int) ≤ i.toInt) (hi6 : i.toInt + 6 ≤ (L : Int)) {H : Heap} {locs : List Loc} {cells slots : Nat} (hc9 : cells + 1 ≤ 601024) (hs9 : slots + 6 ≤ 7293034) (hG : lg_S dC dI A s x mo oa ko H) (hS : va_S A s.heap H locs) {ls : Array Slot} (hl : lv_has ls 7 [(4, .int i), (3, .ref oa), (2, .ref mo), (1, .ref x), (0, .ref b)])
    (kk : ∀ (H : Heap) (locs : List Loc) (ls : Array Slot) (k9 n9 : Nat), k9 ≤ cells + 1 → n9 ≤ slots + 6 → lg_S dC dI A s x mo oa ko H → va_S A s.heap H locs → lv_has ls 7 [(4, .int i), (3, .ref oa), (2, .ref mo), (1, .ref x), (0, .ref b)] → W p l e room_1 s m #[Value.ref b] below meth c H locs k9 n9 (lw_Z below #[Value.ref b] s) (F0 m 1941 ls [])) : W p l e room_1 s m #[Value.ref b] below meth c H locs cells slots (lw_Z below #[Value.ref b] s) (F0 m 1799 ls []) := by
  obtain ⟨hx, hb, hr, hml, hown0, htl, hX, hbl, hlocks, hgv⟩ := id C0
  have hown : s.vm.findClass RL = some m.cls := hown0
  have hts : ∀ w ∈ wlT, w.before #[Value.ref b] s = true := fun w h => htl w (wlT_in w h)
  have hbA : ¬ A b := fun h => absurd (hA2 b h) (Nat.not_le.mpr hbl)
  obtain ⟨tp, wx, wm, tx, tm, fo, vi, vf, vm, vn, hIX, hIM, hR, hKx, hKm, hPx, hPm, hPo, hDx, hDm, hDo, jxm, jxo, jmo⟩ := hG
  have hiM : i.toInt ≤ (3066 : Int) := by omega
  have hcc : cells ≤ 601024 := by omega
  have hss : slots ≤ 7293034 := by omega
  have htpb := ix_tp hIX
  have hMo := im_mo hIM
  refine lv_aload_n hx hb dL_law_1799 rfl (lv_at hl 3 rfl) ?_
  refine lv_aload_n hx hb dL_law_1800 rfl (lv_at hl 4 rfl) ?_
  refine lv_iload hx hb dL_law_1801 (lv_at hl 0 rfl) ?_
  refine lv_iconst (v := 1) hx hb dL_law_1803 zk_iconst_1 ?_
  refine lv_iadd hx hb dL_law_1804 ?_
  refine lv_topi (fun ix1 eix1 => ?_)
  have qix1 : ix1.toInt = i.toInt + 1 := ai_add eix1 ⟨hi0, hiM⟩ ⟨zq1, zq0⟩ (by decide) (by decide)
  refine va_sld (L := L) (i := ix1) hx hb hX hbl hbA hS (vp_in_iff.mpr ⟨by omega, by omega⟩) dL_law_1805 ?_
  refine lv_topi (fun vix1 evix1 => ?_)
  have hFc := lg_free hDx hS hA
  obtain ⟨fs1806, hfs1806⟩ := ix_recv hIX
  refine va_calli (va_runV (As := [.int vix1]) (rest := []) ⟨hx, hb, hml, hown, hts⟩ (k_X7_wind l dC dI H.size x tp vi vf wx tx hIX vix1) (cwV 1 hts gd_X7_wind rfl rfl rfl (by decide +kernel) ⟨Nat.le_of_ble_eq_true rfl, Nat.le_of_ble_eq_true rfl⟩) ⟨ax_blind (fun _ _ _ _ _ => trivial), va_recv hKx hPx (ci := 7) (q0 := 0) rfl hfs1806, ax_preE hPx hKx hDx (fun _ _ _ => trivial)⟩ rfl rfl hl.1 rfl (lv_room (Nat.le_of_ble_eq_true rfl)) dL_law_1806 ⟨hcc, hss⟩) hS (fun q _ h => hFc q h) hFc (fun r1806 u t H1 locs ht hvm hw1806 hB hz1 hk1 hS => ?_)
  obtain ⟨wxn, txn, ⟨vi1, vf1, kx1, kx2, hax, hI1⟩, hP1, hK1, hD1⟩ := hB
  rw [ht] at hP1
  have hK1 := va_K.moved hvm.symm hK1
  obtain ⟨hPm, jxm⟩ := lg_step hPm jxm hk1 hD1
  obtain ⟨hPo, jxo⟩ := lg_step hPo jxo hk1 hD1
  have hD1 := hD1.weaken (fun _ _ _ h9 => hFc _ h9)
  clear hPx hDx hKx hFc hk1 hz1 hfs1806
  have hIX := hI1; have hPx := hP1; have hDx := hD1; have hKx := hK1; clear hI1 hP1 hD1 hK1
  clear ht; generalize H1 = H at hPx hPm hPo hS ⊢
  refine lv_pop hx hb dL_law_1809 rfl ?_
  refine lv_aload_n hx hb dL_law_1810 rfl (lv_at hl 2 rfl) ?_
  refine lv_aload_n hx hb dL_law_1811 rfl (lv_at hl 4 rfl) ?_
  refine lv_iload hx hb dL_law_1812 (lv_at hl 0 rfl) ?_
  refine lv_iconst (v := 1) hx hb dL_law_1814 zk_iconst_1 ?_
  refine lv_iadd hx hb dL_law_1815 ?_
  refine ax_ti ix1 eix1.symm ?_
  refine va_sld (L := L) (i := ix1) hx hb hX hbl hbA hS (vp_in_iff.mpr ⟨by omega, by omega⟩) dL_law_1816 ?_
  refine ax_ti vix1 evix1.symm ?_
  have hFc := lg_free hDm hS hA
  obtain ⟨fs1817, hfs1817⟩ := im_recv hIM
  refine va_calli (va_runV (As := [.int vix1]) (rest := []) ⟨hx, hb, hml, hown, hts⟩ (k_X8_wind l dC dI H.size mo tp vm vn wm tm hIM vix1) (cwV 1 hts gd_X8_wind rfl rfl rfl (by decide +kernel) ⟨Nat.le_of_ble_eq_true rfl, Nat.le_of_ble_eq_true rfl⟩) ⟨ax_blind (fun _ _ _ _ _ => trivial), va_recv hKm hPm (ci := 8) (q0 := 0) rfl hfs1817, ax_preE hPm hKm hDm (fun _ _ _ => trivial)⟩ rfl rfl hl.1 rfl (lv_room (Nat.le_of_ble_eq_true rfl)) dL_law_1817 ⟨hcc, hss⟩) hS (fun q _ h => hFc q h) hFc (fun r1817 u t H1 locs ht hvm hw1817 hB hz1 hk1 hS => ?_)
  obtain ⟨wmn, tmn, ⟨vm1, vn1, km1, km2, ham, hI1⟩, hP1, hK1, hD1⟩ := hB
  rw [ht] at hP1
  have hK1 := va_K.moved hvm.symm hK1
  obtain ⟨hPx, jmx⟩ := lg_step hPx (dj_symm jxm) hk1 hD1
  have jxm := dj_symm jmx
  obtain ⟨hPo, jmo⟩ := lg_step hPo jmo hk1 hD1
  have hD1 := hD1.weaken (fun _ _ _ h9 => hFc _ h9)
  clear hPm hDm hKm hFc hk1 hz1 hfs1817
  have hIM := hI1; have hPm := hP1; have hDm := hD1; have hKm := hK1; clear hI1 hP1 hD1 hK1
  clear ht; generalize H1 = H at hPx hPm hPo hS ⊢
  refine lv_pop hx hb dL_law_1820 rfl ?_
  refine lv_goto (tgt := 1941) hx hb dL_law_1821 (by decide) ?_
  have hRn : lr_R tp vi1 vf1 vm1 vn1 := ⟨by rw [kx2 0 (by decide), km2 0 (by decide)]; exact hR.1, lr_wind hR hMo _ kx1 kx2 km1 km2 hax ham⟩
  exact kk _ _ _ _ _ (Nat.le_add_right _ _) (Nat.le_add_right _ _) ⟨tp, _, _, _, _, _, _, _, _, _, hIX, hIM, hRn, hKx, hKm, hPx, hPm, hPo, hDx, hDm, hDo, jxm, jxo, jmo⟩ hS (lv_sub hl [0, 1, 2, 3, 4] rfl)

set_option maxHeartbeats 4000000 in
set_option maxRecDepth 100000 in
theorem lc_52 {p : Program} {l : Launch} {e : Env} {s : State} {m : MethodId} {below : List Frame} {meth : Method} {c : Code} {b L : Nat} {xs : Nat → Int32} {A : Nat → Prop} {dC : Nat → ClassId} {dI : Nat → Nat → Nat} (hl0 : l.stackTraces = false) (hL : L ≤ 3072) (hA : ∀ q, s.heap.size ≤ q → A q) (hA2 : ∀ q, A q → s.heap.size ≤ q) (C0 : lw_At p s m meth c b L xs) (sd : Nat → Nat) (sa : Nat) (hE : lg_E A sd sa s) (x mo oa : Nat) (ko : ClassId) (hKo : va_K (dC, dI) vwCl [(ko, .long)] s) (i : Int32) (hi0 : (0 : Int) ≤ i.toInt) (hi6 : i.toInt + 6 ≤ (L : Int)) {H : Heap} {locs : List Loc} {cells slots : Nat} (hc9 : cells + 1 ≤ 601024) (hs9 : slots + 6 ≤ 7293034) (hG : lg_S dC dI A s x mo oa ko H) (hS : va_S A s.heap H locs) {ls : Array Slot} (hl : lv_has ls 7 [(4, .int i), (3, .ref oa), (2, .ref mo), (1, .ref x), (0, .ref b)])
    (kk : ∀ (H : Heap) (locs : List Loc) (ls : Array Slot) (k9 n9 : Nat), k9 ≤ cells + 1 → n9 ≤ slots + 6 → lg_S dC dI A s x mo oa ko H → va_S A s.heap H locs → lv_has ls 7 [(4, .int i), (3, .ref oa), (2, .ref mo), (1, .ref x), (0, .ref b)] → W p l e room_1 s m #[Value.ref b] below meth c H locs k9 n9 (lw_Z below #[Value.ref b] s) (F0 m 1941 ls [])) : W p l e room_1 s m #[Value.ref b] below meth c H locs cells slots (lw_Z below #[Value.ref b] s) (F0 m 1824 ls []) := by
  obtain ⟨hx, hb, hr, hml, hown0, htl, hX, hbl, hlocks, hgv⟩ := id C0
  have hown : s.vm.findClass RL = some m.cls := hown0
  have hts : ∀ w ∈ wlT, w.before #[Value.ref b] s = true := fun w h => htl w (wlT_in w h)
  have hbA : ¬ A b := fun h => absurd (hA2 b h) (Nat.not_le.mpr hbl)
  obtain ⟨tp, wx, wm, tx, tm, fo, vi, vf, vm, vn, hIX, hIM, hR, hKx, hKm, hPx, hPm, hPo, hDx, hDm, hDo, jxm, jxo, jmo⟩ := hG
  have hiM : i.toInt ≤ (3066 : Int) := by omega
  have hcc : cells ≤ 601024 := by omega
  have hss : slots ≤ 7293034 := by omega
  have htpb := ix_tp hIX
  have hMo := im_mo hIM
  refine lv_aload_n hx hb dL_law_1824 rfl (lv_at hl 3 rfl) ?_
  have hFc := lg_free hDx hS hA
  obtain ⟨fs1825, hfs1825⟩ := ix_recv hIX
  refine va_calli (va_runV (As := []) (rest := []) ⟨hx, hb, hml, hown, hts⟩ (k_X7_undo l dC dI H.size x tp vi vf wx tx hIX ) (cwV 0 hts gd_X7_undo rfl rfl rfl (by decide +kernel) ⟨Nat.le_of_ble_eq_true rfl, Nat.le_of_ble_eq_true rfl⟩) ⟨ax_blind (fun _ _ _ _ _ => trivial), va_recv hKx hPx (ci := 7) (q0 := 0) rfl hfs1825, ax_preE hPx hKx hDx (fun _ _ _ => trivial)⟩ rfl rfl hl.1 rfl (lv_room (Nat.le_of_ble_eq_true rfl)) dL_law_1825 ⟨hcc, hss⟩) hS (fun q _ h => hFc q h) hFc (fun r1825 u t H1 locs ht hvm hw1825 hB hz1 hk1 hS => ?_)
  obtain ⟨wxn, txn, ⟨vi1, vf1, kx1, kx2, hax, hI1⟩, hP1, hK1, hD1⟩ := hB
  rw [ht] at hP1
  have hK1 := va_K.moved hvm.symm hK1
  obtain ⟨hPm, jxm⟩ := lg_step hPm jxm hk1 hD1
  obtain ⟨hPo, jxo⟩ := lg_step hPo jxo hk1 hD1
  have hD1 := hD1.weaken (fun _ _ _ h9 => hFc _ h9)
  clear hPx hDx hKx hFc hk1 hz1 hfs1825
  have hIX := hI1; have hPx := hP1; have hDx := hD1; have hKx := hK1; clear hI1 hP1 hD1 hK1
  clear ht; generalize H1 = H at hPx hPm hPo hS ⊢
  refine lv_pop hx hb dL_law_1828 rfl ?_
  refine lv_aload_n hx hb dL_law_1829 rfl (lv_at hl 2 rfl) ?_
  have hFc := lg_free hDm hS hA
  obtain ⟨fs1830, hfs1830⟩ := im_recv hIM
  refine va_calli (va_runV (As := []) (rest := []) ⟨hx, hb, hml, hown, hts⟩ (k_X8_undo l dC dI H.size mo tp vm vn wm tm hIM ) (cwV 0 hts gd_X8_undo rfl rfl rfl (by decide +kernel) ⟨Nat.le_of_ble_eq_true rfl, Nat.le_of_ble_eq_true rfl⟩) ⟨ax_blind (fun _ _ _ _ _ => trivial), va_recv hKm hPm (ci := 8) (q0 := 0) rfl hfs1830, ax_preE hPm hKm hDm (fun _ _ _ => trivial)⟩ rfl rfl hl.1 rfl (lv_room (Nat.le_of_ble_eq_true rfl)) dL_law_1830 ⟨hcc, hss⟩) hS (fun q _ h => hFc q h) hFc (fun r1830 u t H1 locs ht hvm hw1830 hB hz1 hk1 hS => ?_)
  obtain ⟨wmn, tmn, ⟨vm1, vn1, km1, km2, ham, hI1⟩, hP1, hK1, hD1⟩ := hB
  rw [ht] at hP1
  have hK1 := va_K.moved hvm.symm hK1
  obtain ⟨hPx, jmx⟩ := lg_step hPx (dj_symm jxm) hk1 hD1
  have jxm := dj_symm jmx
  obtain ⟨hPo, jmo⟩ := lg_step hPo jmo hk1 hD1
  have hD1 := hD1.weaken (fun _ _ _ h9 => hFc _ h9)
  clear hPm hDm hKm hFc hk1 hz1 hfs1830
  have hIM := hI1; have hPm := hP1; have hDm := hD1; have hKm := hK1; clear hI1 hP1 hD1 hK1
  clear ht; generalize H1 = H at hPx hPm hPo hS ⊢
  refine lv_pop hx hb dL_law_1833 rfl ?_
  refine lv_goto (tgt := 1941) hx hb dL_law_1834 (by decide) ?_
  have hRn : lr_R tp vi1 vf1 vm1 vn1 := ⟨by rw [kx2 0 (by decide), km2 0 (by decide)]; exact hR.1, lr_undo hR hMo kx1 kx2 km1 km2 hax ham⟩
  exact kk _ _ _ _ _ (Nat.le_add_right _ _) (Nat.le_add_right _ _) ⟨tp, _, _, _, _, _, _, _, _, _, hIX, hIM, hRn, hKx, hKm, hPx, hPm, hPo, hDx, hDm, hDo, jxm, jxo, jmo⟩ hS (lv_sub hl [0, 1, 2, 3, 4] rfl)

set_option maxHeartbeats 4000000 in
set_option maxRecDepth 100000 in
theorem lc_53 {p : Program} {l : Launch} {e : Env} {s : State} {m : MethodId} {below : List Frame} {meth : Method} {c : Code} {b L : Nat} {xs : Nat → Int32} {A : Nat → Prop} {dC : Nat → ClassId} {dI : Nat → Nat → Nat} (hl0 : l.stackTraces = false) (hL : L ≤ 3072) (hA : ∀ q, s.heap.size ≤ q → A q) (hA2 : ∀ q, A q → s.heap.size ≤ q) (C0 : lw_At p s m meth c b L xs) (sd : Nat → Nat) (sa : Nat) (hE : lg_E A sd sa s) (x mo oa : Nat) (ko : ClassId) (hKo : va_K (dC, dI) vwCl [(ko, .long)] s) (i : Int32) (hi0 : (0 : Int) ≤ i.toInt) (hi6 : i.toInt + 6 ≤ (L : Int)) {H : Heap} {locs : List Loc} {cells slots : Nat} (hc9 : cells + 1 ≤ 601024) (hs9 : slots + 6 ≤ 7293034) (hG : lg_S dC dI A s x mo oa ko H) (hS : va_S A s.heap H locs) {ls : Array Slot} (hl : lv_has ls 7 [(4, .int i), (3, .ref oa), (2, .ref mo), (1, .ref x), (0, .ref b)])
    (kk : ∀ (H : Heap) (locs : List Loc) (ls : Array Slot) (k9 n9 : Nat), k9 ≤ cells + 1 → n9 ≤ slots + 6 → lg_S dC dI A s x mo oa ko H → va_S A s.heap H locs → lv_has ls 7 [(4, .int i), (3, .ref oa), (2, .ref mo), (1, .ref x), (0, .ref b)] → W p l e room_1 s m #[Value.ref b] below meth c H locs k9 n9 (lw_Z below #[Value.ref b] s) (F0 m 1941 ls [])) : W p l e room_1 s m #[Value.ref b] below meth c H locs cells slots (lw_Z below #[Value.ref b] s) (F0 m 1837 ls []) := by
  obtain ⟨hx, hb, hr, hml, hown0, htl, hX, hbl, hlocks, hgv⟩ := id C0
  have hown : s.vm.findClass RL = some m.cls := hown0
  have hts : ∀ w ∈ wlT, w.before #[Value.ref b] s = true := fun w h => htl w (wlT_in w h)
  have hbA : ¬ A b := fun h => absurd (hA2 b h) (Nat.not_le.mpr hbl)
  obtain ⟨tp, wx, wm, tx, tm, fo, vi, vf, vm, vn, hIX, hIM, hR, hKx, hKm, hPx, hPm, hPo, hDx, hDm, hDo, jxm, jxo, jmo⟩ := hG
  have hiM : i.toInt ≤ (3066 : Int) := by omega
  have hcc : cells ≤ 601024 := by omega
  have hss : slots ≤ 7293034 := by omega
  have htpb := ix_tp hIX
  have hMo := im_mo hIM
  refine lv_aload_n hx hb dL_law_1837 rfl (lv_at hl 3 rfl) ?_
  have hFc := lg_free hDx hS hA
  obtain ⟨fs1838, hfs1838⟩ := ix_recv hIX
  refine va_calli (va_runV (As := []) (rest := []) ⟨hx, hb, hml, hown, hts⟩ (k_X7_image l dC dI H.size x tp vi vf wx tx hIX ) (cwV 0 hts gd_X7_image rfl rfl rfl (by decide +kernel) ⟨Nat.le_of_ble_eq_true rfl, Nat.le_of_ble_eq_true rfl⟩) ⟨ax_blind (fun _ _ _ _ _ => trivial), va_recv hKx hPx (ci := 7) (q0 := 0) rfl hfs1838, ax_preE hPx hKx hDx (fun _ _ _ => trivial)⟩ rfl rfl hl.1 rfl (lv_room (Nat.le_of_ble_eq_true rfl)) dL_law_1838 ⟨hcc, hss⟩) hS (fun q _ h => hFc q h) hFc (fun r1838 u t H1 locs ht hvm hw1838 hB hz1 hk1 hS => ?_)
  obtain ⟨wxn, txn, ⟨vi1, vf1, kx1, kx2, hax, hI1⟩, hP1, hK1, hD1⟩ := hB
  rw [ht] at hP1
  have hK1 := va_K.moved hvm.symm hK1
  obtain ⟨hPm, jxm⟩ := lg_step hPm jxm hk1 hD1
  obtain ⟨hPo, jxo⟩ := lg_step hPo jxo hk1 hD1
  have hD1 := hD1.weaken (fun _ _ _ h9 => hFc _ h9)
  clear hPx hDx hKx hFc hk1 hz1 hfs1838
  have hIX := hI1; have hPx := hP1; have hDx := hD1; have hKx := hK1; clear hI1 hP1 hD1 hK1
  clear ht; generalize H1 = H at hPx hPm hPo hS ⊢
  refine lv_pop hx hb dL_law_1841 rfl ?_
  refine lv_aload_n hx hb dL_law_1842 rfl (lv_at hl 2 rfl) ?_
  have hFc := lg_free hDm hS hA
  obtain ⟨fs1843, hfs1843⟩ := im_recv hIM
  refine va_calli (va_runV (As := []) (rest := []) ⟨hx, hb, hml, hown, hts⟩ (k_X8_image l dC dI H.size mo tp vm vn wm tm hIM ) (cwV 0 hts gd_X8_image rfl rfl rfl (by decide +kernel) ⟨Nat.le_of_ble_eq_true rfl, Nat.le_of_ble_eq_true rfl⟩) ⟨ax_blind (fun _ _ _ _ _ => trivial), va_recv hKm hPm (ci := 8) (q0 := 0) rfl hfs1843, ax_preE hPm hKm hDm (fun _ _ _ => trivial)⟩ rfl rfl hl.1 rfl (lv_room (Nat.le_of_ble_eq_true rfl)) dL_law_1843 ⟨hcc, hss⟩) hS (fun q _ h => hFc q h) hFc (fun r1843 u t H1 locs ht hvm hw1843 hB hz1 hk1 hS => ?_)
  obtain ⟨wmn, tmn, ⟨vm1, vn1, km1, km2, ham, hI1⟩, hP1, hK1, hD1⟩ := hB
  rw [ht] at hP1
  have hK1 := va_K.moved hvm.symm hK1
  obtain ⟨hPx, jmx⟩ := lg_step hPx (dj_symm jxm) hk1 hD1
  have jxm := dj_symm jmx
  obtain ⟨hPo, jmo⟩ := lg_step hPo jmo hk1 hD1
  have hD1 := hD1.weaken (fun _ _ _ h9 => hFc _ h9)
  clear hPm hDm hKm hFc hk1 hz1 hfs1843
  have hIM := hI1; have hPm := hP1; have hDm := hD1; have hKm := hK1; clear hI1 hP1 hD1 hK1
  clear ht; generalize H1 = H at hPx hPm hPo hS ⊢
  refine lv_pop hx hb dL_law_1846 rfl ?_
  refine lv_goto (tgt := 1941) hx hb dL_law_1847 (by decide) ?_
  have hRn : lr_R tp vi1 vf1 vm1 vn1 := ⟨by rw [kx2 0 (by decide), km2 0 (by decide)]; exact hR.1, lr_image hR hMo kx1 kx2 km1 km2 hax ham⟩
  exact kk _ _ _ _ _ (Nat.le_add_right _ _) (Nat.le_add_right _ _) ⟨tp, _, _, _, _, _, _, _, _, _, hIX, hIM, hRn, hKx, hKm, hPx, hPm, hPo, hDx, hDm, hDo, jxm, jxo, jmo⟩ hS (lv_sub hl [0, 1, 2, 3, 4] rfl)

set_option maxHeartbeats 4000000 in
set_option maxRecDepth 100000 in
theorem lc_54 {p : Program} {l : Launch} {e : Env} {s : State} {m : MethodId} {below : List Frame} {meth : Method} {c : Code} {b L : Nat} {xs : Nat → Int32} {A : Nat → Prop} {dC : Nat → ClassId} {dI : Nat → Nat → Nat} (hl0 : l.stackTraces = false) (hL : L ≤ 3072) (hA : ∀ q, s.heap.size ≤ q → A q) (hA2 : ∀ q, A q → s.heap.size ≤ q) (C0 : lw_At p s m meth c b L xs) (sd : Nat → Nat) (sa : Nat) (hE : lg_E A sd sa s) (x mo oa : Nat) (ko : ClassId) (hKo : va_K (dC, dI) vwCl [(ko, .long)] s) (i : Int32) (hi0 : (0 : Int) ≤ i.toInt) (hi6 : i.toInt + 6 ≤ (L : Int)) {H : Heap} {locs : List Loc} {cells slots : Nat} (hc9 : cells + 1 ≤ 601024) (hs9 : slots + 6 ≤ 7293034) (hG : lg_S dC dI A s x mo oa ko H) (hS : va_S A s.heap H locs) {ls : Array Slot} (hl : lv_has ls 7 [(4, .int i), (3, .ref oa), (2, .ref mo), (1, .ref x), (0, .ref b)])
    (kk : ∀ (H : Heap) (locs : List Loc) (ls : Array Slot) (k9 n9 : Nat), k9 ≤ cells + 1 → n9 ≤ slots + 6 → lg_S dC dI A s x mo oa ko H → va_S A s.heap H locs → lv_has ls 7 [(4, .int i), (3, .ref oa), (2, .ref mo), (1, .ref x), (0, .ref b)] → W p l e room_1 s m #[Value.ref b] below meth c H locs k9 n9 (lw_Z below #[Value.ref b] s) (F0 m 1941 ls [])) : W p l e room_1 s m #[Value.ref b] below meth c H locs cells slots (lw_Z below #[Value.ref b] s) (F0 m 1850 ls []) := by
  obtain ⟨hx, hb, hr, hml, hown0, htl, hX, hbl, hlocks, hgv⟩ := id C0
  have hown : s.vm.findClass RL = some m.cls := hown0
  have hts : ∀ w ∈ wlT, w.before #[Value.ref b] s = true := fun w h => htl w (wlT_in w h)
  have hbA : ¬ A b := fun h => absurd (hA2 b h) (Nat.not_le.mpr hbl)
  obtain ⟨tp, wx, wm, tx, tm, fo, vi, vf, vm, vn, hIX, hIM, hR, hKx, hKm, hPx, hPm, hPo, hDx, hDm, hDo, jxm, jxo, jmo⟩ := hG
  have hiM : i.toInt ≤ (3066 : Int) := by omega
  have hcc : cells ≤ 601024 := by omega
  have hss : slots ≤ 7293034 := by omega
  have htpb := ix_tp hIX
  have hMo := im_mo hIM
  refine lv_aload_n hx hb dL_law_1850 rfl (lv_at hl 3 rfl) ?_
  refine lv_aload_n hx hb dL_law_1851 rfl (lv_at hl 4 rfl) ?_
  refine lv_iload hx hb dL_law_1852 (lv_at hl 0 rfl) ?_
  refine lv_iconst (v := 1) hx hb dL_law_1854 zk_iconst_1 ?_
  refine lv_iadd hx hb dL_law_1855 ?_
  refine lv_topi (fun ix1 eix1 => ?_)
  have qix1 : ix1.toInt = i.toInt + 1 := ai_add eix1 ⟨hi0, hiM⟩ ⟨zq1, zq0⟩ (by decide) (by decide)
  refine va_sld (L := L) (i := ix1) hx hb hX hbl hbA hS (vp_in_iff.mpr ⟨by omega, by omega⟩) dL_law_1856 ?_
  refine lv_topi (fun vix1 evix1 => ?_)
  have hFc := lg_free hDx hS hA
  obtain ⟨fs1857, hfs1857⟩ := ix_recv hIX
  refine va_calli (va_runV (As := [.int vix1]) (rest := []) ⟨hx, hb, hml, hown, hts⟩ (k_X7_back l dC dI H.size x tp vi vf wx tx hIX vix1) (cwV 1 hts gd_X7_back rfl rfl rfl (by decide +kernel) ⟨Nat.le_of_ble_eq_true rfl, Nat.le_of_ble_eq_true rfl⟩) ⟨ax_blind (fun _ _ _ _ hq => va_Nw.same rfl rfl (hq)), va_recv hKx hPx (ci := 7) (q0 := 0) rfl hfs1857, ax_preE hPx hKx hDx (fun U hU hW => va_Nw.warmM hW (hE.2.2.2.2.2.2.2.1))⟩ rfl rfl hl.1 rfl (lv_room (Nat.le_of_ble_eq_true rfl)) dL_law_1857 ⟨hcc, hss⟩) hS (fun q _ h => hFc q h) hFc (fun r1857 u t H1 locs ht hvm hw1857 hB hz1 hk1 hS => ?_)
  obtain ⟨wxn, txn, ⟨vi1, vf1, kx1, kx2, hax, hI1⟩, hP1, hK1, hD1⟩ := hB
  rw [ht] at hP1
  have hK1 := va_K.moved hvm.symm hK1
  obtain ⟨hPm, jxm⟩ := lg_step hPm jxm hk1 hD1
  obtain ⟨hPo, jxo⟩ := lg_step hPo jxo hk1 hD1
  have hD1 := hD1.weaken (fun _ _ _ h9 => hFc _ h9)
  clear hPx hDx hKx hFc hk1 hz1 hfs1857
  have hIX := hI1; have hPx := hP1; have hDx := hD1; have hKx := hK1; clear hI1 hP1 hD1 hK1
  clear ht; generalize H1 = H at hPx hPm hPo hS ⊢
  refine lv_pop hx hb dL_law_1860 rfl ?_
  refine lv_aload_n hx hb dL_law_1861 rfl (lv_at hl 2 rfl) ?_
  refine lv_aload_n hx hb dL_law_1862 rfl (lv_at hl 4 rfl) ?_
  refine lv_iload hx hb dL_law_1863 (lv_at hl 0 rfl) ?_
  refine lv_iconst (v := 1) hx hb dL_law_1865 zk_iconst_1 ?_
  refine lv_iadd hx hb dL_law_1866 ?_
  refine ax_ti ix1 eix1.symm ?_
  refine va_sld (L := L) (i := ix1) hx hb hX hbl hbA hS (vp_in_iff.mpr ⟨by omega, by omega⟩) dL_law_1867 ?_
  refine ax_ti vix1 evix1.symm ?_
  have hFc := lg_free hDm hS hA
  obtain ⟨fs1868, hfs1868⟩ := im_recv hIM
  refine va_calli (va_runV (As := [.int vix1]) (rest := []) ⟨hx, hb, hml, hown, hts⟩ (k_X8_back l dC dI H.size mo tp vm vn wm tm hIM vix1) (cwV 1 hts gd_X8_back rfl rfl rfl (by decide +kernel) ⟨Nat.le_of_ble_eq_true rfl, Nat.le_of_ble_eq_true rfl⟩) ⟨ax_blind (fun _ _ _ _ _ => trivial), va_recv hKm hPm (ci := 8) (q0 := 0) rfl hfs1868, ax_preE hPm hKm hDm (fun _ _ _ => trivial)⟩ rfl rfl hl.1 rfl (lv_room (Nat.le_of_ble_eq_true rfl)) dL_law_1868 ⟨hcc, hss⟩) hS (fun q _ h => hFc q h) hFc (fun r1868 u t H1 locs ht hvm hw1868 hB hz1 hk1 hS => ?_)
  obtain ⟨wmn, tmn, ⟨vm1, vn1, km1, km2, ham, hI1⟩, hP1, hK1, hD1⟩ := hB
  rw [ht] at hP1
  have hK1 := va_K.moved hvm.symm hK1
  obtain ⟨hPx, jmx⟩ := lg_step hPx (dj_symm jxm) hk1 hD1
  have jxm := dj_symm jmx
  obtain ⟨hPo, jmo⟩ := lg_step hPo jmo hk1 hD1
  have hD1 := hD1.weaken (fun _ _ _ h9 => hFc _ h9)
  clear hPm hDm hKm hFc hk1 hz1 hfs1868
  have hIM := hI1; have hPm := hP1; have hDm := hD1; have hKm := hK1; clear hI1 hP1 hD1 hK1
  clear ht; generalize H1 = H at hPx hPm hPo hS ⊢
  refine lv_pop hx hb dL_law_1871 rfl ?_
  refine lv_goto (tgt := 1941) hx hb dL_law_1872 (by decide) ?_
  have hRn : lr_R tp vi1 vf1 vm1 vn1 := ⟨by rw [kx2 0 (by decide), km2 0 (by decide)]; exact hR.1, lr_back hR hMo _ kx1 kx2 km1 km2 hax ham⟩
  exact kk _ _ _ _ _ (Nat.le_add_right _ _) (Nat.le_add_right _ _) ⟨tp, _, _, _, _, _, _, _, _, _, hIX, hIM, hRn, hKx, hKm, hPx, hPm, hPo, hDx, hDm, hDo, jxm, jxo, jmo⟩ hS (lv_sub hl [0, 1, 2, 3, 4] rfl)

set_option maxHeartbeats 4000000 in
set_option maxRecDepth 100000 in
theorem lc_55 {p : Program} {l : Launch} {e : Env} {s : State} {m : MethodId} {below : List Frame} {meth : Method} {c : Code} {b L : Nat} {xs : Nat → Int32} {A : Nat → Prop} {dC : Nat → ClassId} {dI : Nat → Nat → Nat} (hl0 : l.stackTraces = false) (hL : L ≤ 3072) (hA : ∀ q, s.heap.size ≤ q → A q) (hA2 : ∀ q, A q → s.heap.size ≤ q) (C0 : lw_At p s m meth c b L xs) (sd : Nat → Nat) (sa : Nat) (hE : lg_E A sd sa s) (x mo oa : Nat) (ko : ClassId) (hKo : va_K (dC, dI) vwCl [(ko, .long)] s) (i : Int32) (hi0 : (0 : Int) ≤ i.toInt) (hi6 : i.toInt + 6 ≤ (L : Int)) {H : Heap} {locs : List Loc} {cells slots : Nat} (hc9 : cells + 1 ≤ 601024) (hs9 : slots + 6 ≤ 7293034) (hG : lg_S dC dI A s x mo oa ko H) (hS : va_S A s.heap H locs) {ls : Array Slot} (hl : lv_has ls 7 [(4, .int i), (3, .ref oa), (2, .ref mo), (1, .ref x), (0, .ref b)])
    (kk : ∀ (H : Heap) (locs : List Loc) (ls : Array Slot) (k9 n9 : Nat), k9 ≤ cells + 1 → n9 ≤ slots + 6 → lg_S dC dI A s x mo oa ko H → va_S A s.heap H locs → lv_has ls 7 [(4, .int i), (3, .ref oa), (2, .ref mo), (1, .ref x), (0, .ref b)] → W p l e room_1 s m #[Value.ref b] below meth c H locs k9 n9 (lw_Z below #[Value.ref b] s) (F0 m 1941 ls [])) : W p l e room_1 s m #[Value.ref b] below meth c H locs cells slots (lw_Z below #[Value.ref b] s) (F0 m 1875 ls []) := by
  obtain ⟨hx, hb, hr, hml, hown0, htl, hX, hbl, hlocks, hgv⟩ := id C0
  have hown : s.vm.findClass RL = some m.cls := hown0
  have hts : ∀ w ∈ wlT, w.before #[Value.ref b] s = true := fun w h => htl w (wlT_in w h)
  have hbA : ¬ A b := fun h => absurd (hA2 b h) (Nat.not_le.mpr hbl)
  obtain ⟨tp, wx, wm, tx, tm, fo, vi, vf, vm, vn, hIX, hIM, hR, hKx, hKm, hPx, hPm, hPo, hDx, hDm, hDo, jxm, jxo, jmo⟩ := hG
  have hiM : i.toInt ≤ (3066 : Int) := by omega
  have hcc : cells ≤ 601024 := by omega
  have hss : slots ≤ 7293034 := by omega
  have htpb := ix_tp hIX
  have hMo := im_mo hIM
  refine lv_aload_n hx hb dL_law_1875 rfl (lv_at hl 3 rfl) ?_
  refine lv_aload_n hx hb dL_law_1876 rfl (lv_at hl 4 rfl) ?_
  refine lv_iload hx hb dL_law_1877 (lv_at hl 0 rfl) ?_
  refine lv_iconst (v := 1) hx hb dL_law_1879 zk_iconst_1 ?_
  refine lv_iadd hx hb dL_law_1880 ?_
  refine lv_topi (fun ix1 eix1 => ?_)
  have qix1 : ix1.toInt = i.toInt + 1 := ai_add eix1 ⟨hi0, hiM⟩ ⟨zq1, zq0⟩ (by decide) (by decide)
  refine va_sld (L := L) (i := ix1) hx hb hX hbl hbA hS (vp_in_iff.mpr ⟨by omega, by omega⟩) dL_law_1881 ?_
  refine lv_topi (fun vix1 evix1 => ?_)
  refine lv_aload_n hx hb dL_law_1882 rfl (lv_at hl 1 rfl) ?_
  obtain ⟨ad, kc, vl, fl, rfl, rfl, F0, F1, F2, F3, F4, F5, F6, F7, F8, F9, F10, F11, F12, F13, F14, F15, F16, F17, F18, F19, F20, F21, F22, F23, F24, F25, F26, F27, F28, F29, F30, F31, F32, F33, F34, F35, F36, F37, F38, F39, F40, F41, F42, F43, F44, F45, F46, F47, F48, F49, F50, F51, F52, F53, F54, F55, F56, F57⟩ := id hIX
  have hPc := hPx.sub (ws' := [(x, .inr (7, [.ref (ad 0), .ref (ad 1), .ref (ad 2), .ref (ad 3), .ref (ad 4), .ref (ad 5), .ref (ad 6), .ref (ad 7), .int (vi 0), .int (vi 1), .int (vi 2)])), ((ad 7), .inr (0, [.int (vi 33), .int (vi 34), .int (vi 35), .int (vi 36), .int (vi 37), .int (vi 38), .int (vi 39), .int (vi 40), .int (vi 41), .int (vi 42), .ref (ad 23), .ref (ad 24), .ref (ad 25), .ref (ad 26), .ref (ad 27)])), ((ad 1), .inr (5, [.int (vi 12), .int (vi 13), .int (vi 14), .int (vi 15), .int (vi 16), .ref (ad 11), .ref (ad 12)])), ((ad 11), .inl ((kc 2), 9, .inl ((vf 1))))]) [0, 8, 2, 12] rfl
  have hDc := hDx.sub (ws' := [(x, .inr (7, [.ref (ad 0), .ref (ad 1), .ref (ad 2), .ref (ad 3), .ref (ad 4), .ref (ad 5), .ref (ad 6), .ref (ad 7), .int (vi 0), .int (vi 1), .int (vi 2)])), ((ad 7), .inr (0, [.int (vi 33), .int (vi 34), .int (vi 35), .int (vi 36), .int (vi 37), .int (vi 38), .int (vi 39), .int (vi 40), .int (vi 41), .int (vi 42), .ref (ad 23), .ref (ad 24), .ref (ad 25), .ref (ad 26), .ref (ad 27)])), ((ad 1), .inr (5, [.int (vi 12), .int (vi 13), .int (vi 14), .int (vi 15), .int (vi 16), .ref (ad 11), .ref (ad 12)])), ((ad 11), .inl ((kc 2), 9, .inl ((vf 1))))]) [0, 8, 2, 12] (by decide) rfl
  have hKc := hKx.sub (tys' := [((kc 2), .int)]) [2] rfl
  have hPl := va_P.app hPc hPo
  have hjc : dj [(x, .inr (7, [.ref (ad 0), .ref (ad 1), .ref (ad 2), .ref (ad 3), .ref (ad 4), .ref (ad 5), .ref (ad 6), .ref (ad 7), .int (vi 0), .int (vi 1), .int (vi 2)])), ((ad 7), .inr (0, [.int (vi 33), .int (vi 34), .int (vi 35), .int (vi 36), .int (vi 37), .int (vi 38), .int (vi 39), .int (vi 40), .int (vi 41), .int (vi 42), .ref (ad 23), .ref (ad 24), .ref (ad 25), .ref (ad 26), .ref (ad 27)])), ((ad 1), .inr (5, [.int (vi 12), .int (vi 13), .int (vi 14), .int (vi 15), .int (vi 16), .ref (ad 11), .ref (ad 12)])), ((ad 11), .inl ((kc 2), 9, .inl ((vf 1))))] [(oa, .inl (ko, 1, .inr (.inl fo)))] := dj_sub (wc := [(x, .inr (7, [.ref (ad 0), .ref (ad 1), .ref (ad 2), .ref (ad 3), .ref (ad 4), .ref (ad 5), .ref (ad 6), .ref (ad 7), .int (vi 0), .int (vi 1), .int (vi 2)])), ((ad 7), .inr (0, [.int (vi 33), .int (vi 34), .int (vi 35), .int (vi 36), .int (vi 37), .int (vi 38), .int (vi 39), .int (vi 40), .int (vi 41), .int (vi 42), .ref (ad 23), .ref (ad 24), .ref (ad 25), .ref (ad 26), .ref (ad 27)])), ((ad 1), .inr (5, [.int (vi 12), .int (vi 13), .int (vi 14), .int (vi 15), .int (vi 16), .ref (ad 11), .ref (ad 12)])), ((ad 11), .inl ((kc 2), 9, .inl ((vf 1))))]) (is := [0, 8, 2, 12]) rfl jxo
  have hDl := va_D.app hDc hDo hjc
  have hKl := hKc.app hKo
  have hFl := lg_free hDl hS hA
  refine vx_calli (vx_runSX (As := [.ref x, .int vix1, .ref oa]) (rest := []) ⟨hx, hb, hml, hown, hts⟩ (c_L_led l hl0 sa oa ko fo dC dI H.size x vix1 (.ref (ad 0)) (.ref (ad 2)) (.ref (ad 3)) (.ref (ad 4)) (.ref (ad 5)) (.ref (ad 6)) (.int (vi 0)) (.int (vi 1)) (.int (vi 2)) (ad 1) (ad 7) (vi 33) (.int (vi 34)) (.int (vi 35)) (.int (vi 36)) (.int (vi 37)) (.int (vi 38)) (.int (vi 39)) (.int (vi 40)) (.int (vi 41)) (.int (vi 42)) (.ref (ad 23)) (.ref (ad 24)) (.ref (ad 25)) (.ref (ad 26)) (.ref (ad 27)) (.int (vi 12)) (.int (vi 13)) (.int (vi 14)) (.int (vi 15)) (.int (vi 16)) (.ref (ad 12)) (ad 11) (kc 2) (vf 1) F16.1 F16.2) (vx_cwSW 3 hts gd_L_led rfl rfl rfl (by decide +kernel) ⟨Nat.le_of_ble_eq_true rfl, Nat.le_of_ble_eq_true rfl⟩) ⟨ax_blind ax_EL_same, ax_preE hPl hKl hDl (fun U hU hW => ax_EL_to hE.2.1 hS.2.1 hFl hU hW)⟩ rfl rfl hl.1 rfl (lv_room (Nat.le_of_ble_eq_true rfl)) dL_law_1883 ⟨by show cells + 1 ≤ 601024; omega, by show slots + 6 ≤ 7293034; omega⟩) hS (fun q _ h => hFl q h) hFl (fun q _ h => h.elim) (fun E ce q9 u t H1 locs ht hvm hpx _ _ _ _ _ _ _ => hpx.elim) (fun r1883 u t H1 locs ht hvm hw hB hz1 hk1 hS => ?_)
  obtain ⟨f9, hP1, hK1, hD1⟩ := hB
  rw [ht] at hP1
  obtain ⟨hPm, jlm⟩ := lg_step hPm (dj_app (dj_sub (wc := [(x, .inr (7, [.ref (ad 0), .ref (ad 1), .ref (ad 2), .ref (ad 3), .ref (ad 4), .ref (ad 5), .ref (ad 6), .ref (ad 7), .int (vi 0), .int (vi 1), .int (vi 2)])), ((ad 7), .inr (0, [.int (vi 33), .int (vi 34), .int (vi 35), .int (vi 36), .int (vi 37), .int (vi 38), .int (vi 39), .int (vi 40), .int (vi 41), .int (vi 42), .ref (ad 23), .ref (ad 24), .ref (ad 25), .ref (ad 26), .ref (ad 27)])), ((ad 1), .inr (5, [.int (vi 12), .int (vi 13), .int (vi 14), .int (vi 15), .int (vi 16), .ref (ad 11), .ref (ad 12)])), ((ad 11), .inl ((kc 2), 9, .inl ((vf 1))))]) (is := [0, 8, 2, 12]) rfl jxm) (dj_symm jmo)) hk1 hD1
  have hPx : va_P (dC, dI) vwCl (ixW x tp ad kc vi vf vl fl) H1 := lg_led (wc := [(x, .inr (7, [.ref (ad 0), .ref (ad 1), .ref (ad 2), .ref (ad 3), .ref (ad 4), .ref (ad 5), .ref (ad 6), .ref (ad 7), .int (vi 0), .int (vi 1), .int (vi 2)])), ((ad 7), .inr (0, [.int (vi 33), .int (vi 34), .int (vi 35), .int (vi 36), .int (vi 37), .int (vi 38), .int (vi 39), .int (vi 40), .int (vi 41), .int (vi 42), .ref (ad 23), .ref (ad 24), .ref (ad 25), .ref (ad 26), .ref (ad 27)])), ((ad 1), .inr (5, [.int (vi 12), .int (vi 13), .int (vi 14), .int (vi 15), .int (vi 16), .ref (ad 11), .ref (ad 12)])), ((ad 11), .inl ((kc 2), 9, .inl ((vf 1))))]) [0, 8, 2, 12] rfl hPx hDx jxo hk1 (hP1.sub (ws' := [(x, .inr (7, [.ref (ad 0), .ref (ad 1), .ref (ad 2), .ref (ad 3), .ref (ad 4), .ref (ad 5), .ref (ad 6), .ref (ad 7), .int (vi 0), .int (vi 1), .int (vi 2)])), ((ad 7), .inr (0, [.int (vi 33), .int (vi 34), .int (vi 35), .int (vi 36), .int (vi 37), .int (vi 38), .int (vi 39), .int (vi 40), .int (vi 41), .int (vi 42), .ref (ad 23), .ref (ad 24), .ref (ad 25), .ref (ad 26), .ref (ad 27)])), ((ad 1), .inr (5, [.int (vi 12), .int (vi 13), .int (vi 14), .int (vi 15), .int (vi 16), .ref (ad 11), .ref (ad 12)])), ((ad 11), .inl ((kc 2), 9, .inl ((vf 1))))]) [0, 1, 2, 3] rfl)
  have hPo : va_P (dC, dI) vwCl [(oa, .inl (ko, 1, .inr (.inl f9)))] H1 := hP1.sub [4] rfl
  have jxo := dj_o (fp := f9) jxo
  have jmo := dj_o (fp := f9) jmo
  have hDo := va_D_o (fp := f9) hDo
  clear ht; generalize H1 = H at hPx hPm hPo hS ⊢
  have hcc : cells + 1 ≤ 601024 := by omega
  have hss : slots + 6 ≤ 7293034 := by omega
  refine lv_istore (lv' := [(5, .int r1883), (4, .int i), (3, .ref oa), (2, .ref mo), (1, .ref x), (0, .ref b)]) hx hb dL_law_1886 hl (by decide) rfl (fun ls hl => ?_)
  refine lv_aload_n hx hb dL_law_1888 rfl (lv_at hl 3 rfl) ?_
  refine lv_aload_n hx hb dL_law_1889 rfl (lv_at hl 5 rfl) ?_
  refine lv_iload hx hb dL_law_1890 (lv_at hl 1 rfl) ?_
  refine lv_iconst (v := 1) hx hb dL_law_1892 zk_iconst_1 ?_
  refine lv_iadd hx hb dL_law_1893 ?_
  refine ax_ti ix1 eix1.symm ?_
  refine va_sld (L := L) (i := ix1) hx hb hX hbl hbA hS (vp_in_iff.mpr ⟨by omega, by omega⟩) dL_law_1894 ?_
  refine ax_ti vix1 evix1.symm ?_
  have hFc := lg_free hDm hS hA
  obtain ⟨fs1895, hfs1895⟩ := im_recv hIM
  refine va_calli (va_runV (As := [.int vix1]) (rest := []) ⟨hx, hb, hml, hown, hts⟩ (k_X8_led l dC dI H.size mo tp vm vn wm tm hIM vix1) (cwV 1 hts gd_X8_led rfl rfl rfl (by decide +kernel) ⟨Nat.le_of_ble_eq_true rfl, Nat.le_of_ble_eq_true rfl⟩) ⟨ax_blind (fun _ _ _ _ _ => trivial), va_recv hKm hPm (ci := 8) (q0 := 0) rfl hfs1895, ax_preE hPm hKm hDm (fun _ _ _ => trivial)⟩ rfl rfl hl.1 rfl (lv_room (Nat.le_of_ble_eq_true rfl)) dL_law_1895 ⟨hcc, hss⟩) hS (fun q _ h => hFc q h) hFc (fun r1895 u t H1 locs ht hvm hw1895 hB hz1 hk1 hS => ?_)
  obtain ⟨wmn, tmn, ⟨vm1, vn1, km1, km2, hI1⟩, hP1, hK1, hD1⟩ := hB
  rw [ht] at hP1
  have hK1 := va_K.moved hvm.symm hK1
  obtain ⟨hPx, jmx⟩ := lg_step hPx (dj_symm jxm) hk1 hD1
  have jxm := dj_symm jmx
  obtain ⟨hPo, jmo⟩ := lg_step hPo jmo hk1 hD1
  have hD1 := hD1.weaken (fun _ _ _ h9 => hFc _ h9)
  clear hPm hDm hKm hFc hk1 hz1 hfs1895
  have hIM := hI1; have hPm := hP1; have hDm := hD1; have hKm := hK1; clear hI1 hP1 hD1 hK1
  clear ht; generalize H1 = H at hPx hPm hPo hS ⊢
  refine lv_istore (lv' := [(6, .int r1895), (5, .int r1883), (4, .int i), (3, .ref oa), (2, .ref mo), (1, .ref x), (0, .ref b)]) hx hb dL_law_1898 hl (by decide) rfl (fun ls hl => ?_)
  refine lv_goto (tgt := 1941) hx hb dL_law_1900 (by decide) ?_
  have hRn : lr_R tp vi vf vm1 vn1 := ⟨by rw [km2 0 (by decide)]; exact hR.1, lr_keep (fun _ _ => rfl) (fun _ _ _ => rfl) (fun _ _ => rfl) (fun _ _ _ => rfl) (fun k9 h9 => km1 k9 (kp_dis (by decide) h9)) (fun k9 h9 => km2 k9 (kp_dis (by decide) h9)) hR.2⟩
  exact kk _ _ _ _ _ (Nat.le_refl _) (Nat.le_refl _) ⟨tp, _, _, _, _, _, _, _, _, _, hIX, hIM, hRn, hKx, hKm, hPx, hPm, hPo, hDx, hDm, hDo, jxm, jxo, jmo⟩ hS (lv_sub hl [2, 3, 4, 5, 6] rfl)

set_option maxHeartbeats 4000000 in
set_option maxRecDepth 100000 in
theorem lc_56 {p : Program} {l : Launch} {e : Env} {s : State} {m : MethodId} {below : List Frame} {meth : Method} {c : Code} {b L : Nat} {xs : Nat → Int32} {A : Nat → Prop} {dC : Nat → ClassId} {dI : Nat → Nat → Nat} (hl0 : l.stackTraces = false) (hL : L ≤ 3072) (hA : ∀ q, s.heap.size ≤ q → A q) (hA2 : ∀ q, A q → s.heap.size ≤ q) (C0 : lw_At p s m meth c b L xs) (sd : Nat → Nat) (sa : Nat) (hE : lg_E A sd sa s) (x mo oa : Nat) (ko : ClassId) (hKo : va_K (dC, dI) vwCl [(ko, .long)] s) (i : Int32) (hi0 : (0 : Int) ≤ i.toInt) (hi6 : i.toInt + 6 ≤ (L : Int)) {H : Heap} {locs : List Loc} {cells slots : Nat} (hc9 : cells + 1 ≤ 601024) (hs9 : slots + 6 ≤ 7293034) (hG : lg_S dC dI A s x mo oa ko H) (hS : va_S A s.heap H locs) {ls : Array Slot} (hl : lv_has ls 7 [(4, .int i), (3, .ref oa), (2, .ref mo), (1, .ref x), (0, .ref b)])
    (kk : ∀ (H : Heap) (locs : List Loc) (ls : Array Slot) (k9 n9 : Nat), k9 ≤ cells + 1 → n9 ≤ slots + 6 → lg_S dC dI A s x mo oa ko H → va_S A s.heap H locs → lv_has ls 7 [(4, .int i), (3, .ref oa), (2, .ref mo), (1, .ref x), (0, .ref b)] → W p l e room_1 s m #[Value.ref b] below meth c H locs k9 n9 (lw_Z below #[Value.ref b] s) (F0 m 1941 ls [])) : W p l e room_1 s m #[Value.ref b] below meth c H locs cells slots (lw_Z below #[Value.ref b] s) (F0 m 1903 ls []) := by
  obtain ⟨hx, hb, hr, hml, hown0, htl, hX, hbl, hlocks, hgv⟩ := id C0
  have hown : s.vm.findClass RL = some m.cls := hown0
  have hts : ∀ w ∈ wlT, w.before #[Value.ref b] s = true := fun w h => htl w (wlT_in w h)
  have hbA : ¬ A b := fun h => absurd (hA2 b h) (Nat.not_le.mpr hbl)
  obtain ⟨tp, wx, wm, tx, tm, fo, vi, vf, vm, vn, hIX, hIM, hR, hKx, hKm, hPx, hPm, hPo, hDx, hDm, hDo, jxm, jxo, jmo⟩ := hG
  have hiM : i.toInt ≤ (3066 : Int) := by omega
  have hcc : cells ≤ 601024 := by omega
  have hss : slots ≤ 7293034 := by omega
  have htpb := ix_tp hIX
  have hMo := im_mo hIM
  refine lv_aload_n hx hb dL_law_1903 rfl (lv_at hl 3 rfl) ?_
  refine lv_aload_n hx hb dL_law_1904 rfl (lv_at hl 4 rfl) ?_
  refine lv_iload hx hb dL_law_1905 (lv_at hl 0 rfl) ?_
  refine lv_iconst (v := 1) hx hb dL_law_1907 zk_iconst_1 ?_
  refine lv_iadd hx hb dL_law_1908 ?_
  refine lv_topi (fun ix1 eix1 => ?_)
  have qix1 : ix1.toInt = i.toInt + 1 := ai_add eix1 ⟨hi0, hiM⟩ ⟨zq1, zq0⟩ (by decide) (by decide)
  refine va_sld (L := L) (i := ix1) hx hb hX hbl hbA hS (vp_in_iff.mpr ⟨by omega, by omega⟩) dL_law_1909 ?_
  refine lv_topi (fun vix1 evix1 => ?_)
  have hFc := lg_free hDx hS hA
  obtain ⟨fs1910, hfs1910⟩ := ix_recv hIX
  refine va_calli (va_runV (As := [.int vix1]) (rest := []) ⟨hx, hb, hml, hown, hts⟩ (k_X7_size l dC dI H.size x tp vi vf wx tx hIX vix1) (cwV 1 hts gd_X7_size rfl rfl rfl (by decide +kernel) ⟨Nat.le_of_ble_eq_true rfl, Nat.le_of_ble_eq_true rfl⟩) ⟨ax_blind (fun _ _ _ _ _ => trivial), va_recv hKx hPx (ci := 7) (q0 := 0) rfl hfs1910, ax_preE hPx hKx hDx (fun _ _ _ => trivial)⟩ rfl rfl hl.1 rfl (lv_room (Nat.le_of_ble_eq_true rfl)) dL_law_1910 ⟨hcc, hss⟩) hS (fun q _ h => hFc q h) hFc (fun r1910 u t H1 locs ht hvm hw1910 hB hz1 hk1 hS => ?_)
  obtain ⟨wxn, txn, ⟨vi1, vf1, kx1, kx2, hI1⟩, hP1, hK1, hD1⟩ := hB
  rw [ht] at hP1
  have hK1 := va_K.moved hvm.symm hK1
  obtain ⟨hPm, jxm⟩ := lg_step hPm jxm hk1 hD1
  obtain ⟨hPo, jxo⟩ := lg_step hPo jxo hk1 hD1
  have hD1 := hD1.weaken (fun _ _ _ h9 => hFc _ h9)
  clear hPx hDx hKx hFc hk1 hz1 hfs1910
  have hIX := hI1; have hPx := hP1; have hDx := hD1; have hKx := hK1; clear hI1 hP1 hD1 hK1
  clear ht; generalize H1 = H at hPx hPm hPo hS ⊢
  refine lv_pop hx hb dL_law_1913 rfl ?_
  refine lv_aload_n hx hb dL_law_1914 rfl (lv_at hl 2 rfl) ?_
  refine lv_aload_n hx hb dL_law_1915 rfl (lv_at hl 4 rfl) ?_
  refine lv_iload hx hb dL_law_1916 (lv_at hl 0 rfl) ?_
  refine lv_iconst (v := 1) hx hb dL_law_1918 zk_iconst_1 ?_
  refine lv_iadd hx hb dL_law_1919 ?_
  refine ax_ti ix1 eix1.symm ?_
  refine va_sld (L := L) (i := ix1) hx hb hX hbl hbA hS (vp_in_iff.mpr ⟨by omega, by omega⟩) dL_law_1920 ?_
  refine ax_ti vix1 evix1.symm ?_
  have hFc := lg_free hDm hS hA
  obtain ⟨fs1921, hfs1921⟩ := im_recv hIM
  refine va_calli (va_runV (As := [.int vix1]) (rest := []) ⟨hx, hb, hml, hown, hts⟩ (k_X8_size l dC dI H.size mo tp vm vn wm tm hIM vix1) (cwV 1 hts gd_X8_size rfl rfl rfl (by decide +kernel) ⟨Nat.le_of_ble_eq_true rfl, Nat.le_of_ble_eq_true rfl⟩) ⟨ax_blind (fun _ _ _ _ _ => trivial), va_recv hKm hPm (ci := 8) (q0 := 0) rfl hfs1921, ax_preE hPm hKm hDm (fun _ _ _ => trivial)⟩ rfl rfl hl.1 rfl (lv_room (Nat.le_of_ble_eq_true rfl)) dL_law_1921 ⟨hcc, hss⟩) hS (fun q _ h => hFc q h) hFc (fun r1921 u t H1 locs ht hvm hw1921 hB hz1 hk1 hS => ?_)
  obtain ⟨wmn, tmn, ⟨vm1, vn1, km1, km2, hI1⟩, hP1, hK1, hD1⟩ := hB
  rw [ht] at hP1
  have hK1 := va_K.moved hvm.symm hK1
  obtain ⟨hPx, jmx⟩ := lg_step hPx (dj_symm jxm) hk1 hD1
  have jxm := dj_symm jmx
  obtain ⟨hPo, jmo⟩ := lg_step hPo jmo hk1 hD1
  have hD1 := hD1.weaken (fun _ _ _ h9 => hFc _ h9)
  clear hPm hDm hKm hFc hk1 hz1 hfs1921
  have hIM := hI1; have hPm := hP1; have hDm := hD1; have hKm := hK1; clear hI1 hP1 hD1 hK1
  clear ht; generalize H1 = H at hPx hPm hPo hS ⊢
  refine lv_pop hx hb dL_law_1924 rfl ?_
  refine lv_goto (tgt := 1941) hx hb dL_law_1925 (by decide) ?_
  have hRn : lr_R tp vi1 vf1 vm1 vn1 := ⟨by rw [kx2 0 (by decide), km2 0 (by decide)]; exact hR.1, lr_keep (fun k9 h9 => kx1 k9 (kp_dis (by decide) h9)) (fun k9 h8 h9 => kx1 k9 (kp_out (a := 57) (b := 152) (by decide) h8 h9)) (fun k9 h9 => kx2 k9 (kp_dis (by decide) h9)) (fun k9 h8 h9 => kx2 k9 (kp_out (a := 23) (b := 61) (by decide) h8 h9)) (fun k9 h9 => km1 k9 (kp_dis (by decide) h9)) (fun k9 h9 => km2 k9 (kp_dis (by decide) h9)) hR.2⟩
  exact kk _ _ _ _ _ (Nat.le_add_right _ _) (Nat.le_add_right _ _) ⟨tp, _, _, _, _, _, _, _, _, _, hIX, hIM, hRn, hKx, hKm, hPx, hPm, hPo, hDx, hDm, hDo, jxm, jxo, jmo⟩ hS (lv_sub hl [0, 1, 2, 3, 4] rfl)

set_option maxHeartbeats 4000000 in
set_option maxRecDepth 100000 in
theorem lc_57 {p : Program} {l : Launch} {e : Env} {s : State} {m : MethodId} {below : List Frame} {meth : Method} {c : Code} {b L : Nat} {xs : Nat → Int32} {A : Nat → Prop} {dC : Nat → ClassId} {dI : Nat → Nat → Nat} (hl0 : l.stackTraces = false) (hL : L ≤ 3072) (hA : ∀ q, s.heap.size ≤ q → A q) (hA2 : ∀ q, A q → s.heap.size ≤ q) (C0 : lw_At p s m meth c b L xs) (sd : Nat → Nat) (sa : Nat) (hE : lg_E A sd sa s) (x mo oa : Nat) (ko : ClassId) (hKo : va_K (dC, dI) vwCl [(ko, .long)] s) (i : Int32) (hi0 : (0 : Int) ≤ i.toInt) (hi6 : i.toInt + 6 ≤ (L : Int)) {H : Heap} {locs : List Loc} {cells slots : Nat} (hc9 : cells + 1 ≤ 601024) (hs9 : slots + 6 ≤ 7293034) (hG : lg_S dC dI A s x mo oa ko H) (hS : va_S A s.heap H locs) {ls : Array Slot} (hl : lv_has ls 7 [(4, .int i), (3, .ref oa), (2, .ref mo), (1, .ref x), (0, .ref b)])
    (kk : ∀ (H : Heap) (locs : List Loc) (ls : Array Slot) (k9 n9 : Nat), k9 ≤ cells + 1 → n9 ≤ slots + 6 → lg_S dC dI A s x mo oa ko H → va_S A s.heap H locs → lv_has ls 7 [(4, .int i), (3, .ref oa), (2, .ref mo), (1, .ref x), (0, .ref b)] → W p l e room_1 s m #[Value.ref b] below meth c H locs k9 n9 (lw_Z below #[Value.ref b] s) (F0 m 1941 ls [])) : W p l e room_1 s m #[Value.ref b] below meth c H locs cells slots (lw_Z below #[Value.ref b] s) (F0 m 1928 ls []) := by
  obtain ⟨hx, hb, hr, hml, hown0, htl, hX, hbl, hlocks, hgv⟩ := id C0
  have hown : s.vm.findClass RL = some m.cls := hown0
  have hts : ∀ w ∈ wlT, w.before #[Value.ref b] s = true := fun w h => htl w (wlT_in w h)
  have hbA : ¬ A b := fun h => absurd (hA2 b h) (Nat.not_le.mpr hbl)
  obtain ⟨tp, wx, wm, tx, tm, fo, vi, vf, vm, vn, hIX, hIM, hR, hKx, hKm, hPx, hPm, hPo, hDx, hDm, hDo, jxm, jxo, jmo⟩ := hG
  have hiM : i.toInt ≤ (3066 : Int) := by omega
  have hcc : cells ≤ 601024 := by omega
  have hss : slots ≤ 7293034 := by omega
  have htpb := ix_tp hIX
  have hMo := im_mo hIM
  refine lv_aload_n hx hb dL_law_1928 rfl (lv_at hl 3 rfl) ?_
  have hFc := lg_free hDx hS hA
  obtain ⟨fs1929, hfs1929⟩ := ix_recv hIX
  refine va_calli (va_runV (As := []) (rest := []) ⟨hx, hb, hml, hown, hts⟩ (k_X7_trouble l dC dI H.size x tp vi vf wx tx hIX ) (cwV 0 hts gd_X7_trouble rfl rfl rfl (by decide +kernel) ⟨Nat.le_of_ble_eq_true rfl, Nat.le_of_ble_eq_true rfl⟩) ⟨ax_blind (fun _ _ _ _ _ => trivial), va_recv hKx hPx (ci := 7) (q0 := 0) rfl hfs1929, ax_preE hPx hKx hDx (fun _ _ _ => trivial)⟩ rfl rfl hl.1 rfl (lv_room (Nat.le_of_ble_eq_true rfl)) dL_law_1929 ⟨hcc, hss⟩) hS (fun q _ h => hFc q h) hFc (fun r1929 u t H1 locs ht hvm hw1929 hB hz1 hk1 hS => ?_)
  obtain ⟨wxn, txn, ⟨vi1, vf1, kx1, kx2, hI1⟩, hP1, hK1, hD1⟩ := hB
  rw [ht] at hP1
  have hK1 := va_K.moved hvm.symm hK1
  obtain ⟨hPm, jxm⟩ := lg_step hPm jxm hk1 hD1
  obtain ⟨hPo, jxo⟩ := lg_step hPo jxo hk1 hD1
  have hD1 := hD1.weaken (fun _ _ _ h9 => hFc _ h9)
  clear hPx hDx hKx hFc hk1 hz1 hfs1929
  have hIX := hI1; have hPx := hP1; have hDx := hD1; have hKx := hK1; clear hI1 hP1 hD1 hK1
  clear ht; generalize H1 = H at hPx hPm hPo hS ⊢
  refine lv_pop hx hb dL_law_1932 rfl ?_
  refine lv_aload_n hx hb dL_law_1933 rfl (lv_at hl 2 rfl) ?_
  have hFc := lg_free hDm hS hA
  obtain ⟨fs1934, hfs1934⟩ := im_recv hIM
  refine va_calli (va_runV (As := []) (rest := []) ⟨hx, hb, hml, hown, hts⟩ (k_X8_trouble l dC dI H.size mo tp vm vn wm tm hIM ) (cwV 0 hts gd_X8_trouble rfl rfl rfl (by decide +kernel) ⟨Nat.le_of_ble_eq_true rfl, Nat.le_of_ble_eq_true rfl⟩) ⟨ax_blind (fun _ _ _ _ _ => trivial), va_recv hKm hPm (ci := 8) (q0 := 0) rfl hfs1934, ax_preE hPm hKm hDm (fun _ _ _ => trivial)⟩ rfl rfl hl.1 rfl (lv_room (Nat.le_of_ble_eq_true rfl)) dL_law_1934 ⟨hcc, hss⟩) hS (fun q _ h => hFc q h) hFc (fun r1934 u t H1 locs ht hvm hw1934 hB hz1 hk1 hS => ?_)
  obtain ⟨wmn, tmn, ⟨vm1, vn1, km1, km2, hI1⟩, hP1, hK1, hD1⟩ := hB
  rw [ht] at hP1
  have hK1 := va_K.moved hvm.symm hK1
  obtain ⟨hPx, jmx⟩ := lg_step hPx (dj_symm jxm) hk1 hD1
  have jxm := dj_symm jmx
  obtain ⟨hPo, jmo⟩ := lg_step hPo jmo hk1 hD1
  have hD1 := hD1.weaken (fun _ _ _ h9 => hFc _ h9)
  clear hPm hDm hKm hFc hk1 hz1 hfs1934
  have hIM := hI1; have hPm := hP1; have hDm := hD1; have hKm := hK1; clear hI1 hP1 hD1 hK1
  clear ht; generalize H1 = H at hPx hPm hPo hS ⊢
  refine lv_pop hx hb dL_law_1937 rfl ?_
  refine lv_goto (tgt := 1941) hx hb dL_law_1938 (by decide) ?_
  have hRn : lr_R tp vi1 vf1 vm1 vn1 := ⟨by rw [kx2 0 (by decide), km2 0 (by decide)]; exact hR.1, lr_keep (fun k9 h9 => kx1 k9 (kp_dis (by decide) h9)) (fun k9 h8 h9 => kx1 k9 (kp_out (a := 57) (b := 152) (by decide) h8 h9)) (fun k9 h9 => kx2 k9 (kp_dis (by decide) h9)) (fun k9 h8 h9 => kx2 k9 (kp_out (a := 23) (b := 61) (by decide) h8 h9)) (fun k9 h9 => km1 k9 (kp_dis (by decide) h9)) (fun k9 h9 => km2 k9 (kp_dis (by decide) h9)) hR.2⟩
  exact kk _ _ _ _ _ (Nat.le_add_right _ _) (Nat.le_add_right _ _) ⟨tp, _, _, _, _, _, _, _, _, _, hIX, hIM, hRn, hKx, hKm, hPx, hPm, hPo, hDx, hDm, hDo, jxm, jxo, jmo⟩ hS (lv_sub hl [0, 1, 2, 3, 4] rfl)
end P443_cases_3
