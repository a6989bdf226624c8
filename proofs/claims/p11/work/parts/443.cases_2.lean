set_option maxHeartbeats 4000000 in
set_option maxRecDepth 100000 in
theorem lc_30 {p : Program} {l : Launch} {e : Env} {s : State} {m : MethodId} {below : List Frame} {meth : Method} {c : Code} {b L : Nat} {xs : Nat → Int32} {A : Nat → Prop} {dC : Nat → ClassId} {dI : Nat → Nat → Nat} (hl0 : l.stackTraces = false) (hL : L ≤ 3072) (hA : ∀ q, s.heap.size ≤ q → A q) (hA2 : ∀ q, A q → s.heap.size ≤ q) (C0 : lw_At p s m meth c b L xs) (sd : Nat → Nat) (sa : Nat) (hE : lg_E A sd sa s) (x mo oa : Nat) (ko : ClassId) (hKo : va_K (dC, dI) vwCl [(ko, .long)] s) (i : Int32) (hi0 : (0 : Int) ≤ i.toInt) (hi6 : i.toInt + 6 ≤ (L : Int)) {H : Heap} {locs : List Loc} {cells slots : Nat} (hc9 : cells + 1 ≤ 601024) (hs9 : slots + 6 ≤ 7293034) (hG : lg_S dC dI A s x mo oa ko H) (hS : va_S A s.heap H locs) {ls : Array Slot} (hl : lv_has ls 7 [(4, .int i), (3, .ref oa), (2, .ref mo), (1, .ref x), (0, .ref b)])
    (kk : ∀ (H : Heap) (locs : List Loc) (ls : Array Slot) (k9 n9 : Nat), k9 ≤ cells + 1 → n9 ≤ slots + 6 → lg_S dC dI A s x mo oa ko H → va_S A s.heap H locs → lv_has ls 7 [(4, .int i), (3, .ref oa), (2, .ref mo), (1, .ref x), (0, .ref b)] → W p l e room_1 s m #[Value.ref b] below meth c H locs k9 n9 (lw_Z below #[Value.ref b] s) (F0 m 1941 ls [])) : W p l e room_1 s m #[Value.ref b] below meth c H locs cells slots (lw_Z below #[Value.ref b] s) (F0 m 1110 ls []) := by
  obtain ⟨hx, hb, hr, hml, hown0, htl, hX, hbl, hlocks, hgv⟩ := id C0
  have hown : s.vm.findClass RL = some m.cls := hown0
  have hts : ∀ w ∈ wlT, w.before #[Value.ref b] s = true := fun w h => htl w (wlT_in w h)
  have hbA : ¬ A b := fun h => absurd (hA2 b h) (Nat.not_le.mpr hbl)
  obtain ⟨tp, wx, wm, tx, tm, fo, vi, vf, vm, vn, hIX, hIM, hR, hKx, hKm, hPx, hPm, hPo, hDx, hDm, hDo, jxm, jxo, jmo⟩ := hG
  have hiM : i.toInt ≤ (3066 : Int) := by omega
  have hcc : cells ≤ 601024 := by omega
  have hss : slots ≤ 7293034 := by omega
  have htpb := ix_tp hIX
  have hMo := im_mo hIM
  refine lv_aload_n hx hb dL_law_1110 rfl (lv_at hl 3 rfl) ?_
  refine lv_aload_n hx hb dL_law_1111 rfl (lv_at hl 4 rfl) ?_
  refine lv_iload hx hb dL_law_1112 (lv_at hl 0 rfl) ?_
  refine lv_iconst (v := 1) hx hb dL_law_1114 zk_iconst_1 ?_
  refine lv_iadd hx hb dL_law_1115 ?_
  refine lv_topi (fun ix1 eix1 => ?_)
  have qix1 : ix1.toInt = i.toInt + 1 := ai_add eix1 ⟨hi0, hiM⟩ ⟨zq1, zq0⟩ (by decide) (by decide)
  refine va_sld (L := L) (i := ix1) hx hb hX hbl hbA hS (vp_in_iff.mpr ⟨by omega, by omega⟩) dL_law_1116 ?_
  refine lv_topi (fun vix1 evix1 => ?_)
  have hFc := lg_free hDx hS hA
  obtain ⟨fs1117, hfs1117⟩ := ix_recv hIX
  refine va_calli (va_runV (As := [.int vix1]) (rest := []) ⟨hx, hb, hml, hown, hts⟩ (k_X7_guard l dC dI H.size x tp vi vf wx tx hIX vix1) (cwV 1 hts gd_X7_guard rfl rfl rfl (by decide +kernel) ⟨Nat.le_of_ble_eq_true rfl, Nat.le_of_ble_eq_true rfl⟩) ⟨ax_blind (fun _ _ _ _ hq => ⟨va_Nw.same rfl rfl (hq.1), va_Nw.same rfl rfl (hq.2.1), va_Nw.same rfl rfl (hq.2.2)⟩), va_recv hKx hPx (ci := 7) (q0 := 0) rfl hfs1117, ax_preE hPx hKx hDx (fun U hU hW => ⟨va_Nw.warmM hW (hE.2.2.2.1), va_Nw.warmM hW (hE.2.2.1), va_Nw.warmM hW (hE.2.2.2.2.1)⟩)⟩ rfl rfl hl.1 rfl (lv_room (Nat.le_of_ble_eq_true rfl)) dL_law_1117 ⟨hcc, hss⟩) hS (fun q _ h => hFc q h) hFc (fun r1117 u t H1 locs ht hvm hw1117 hB hz1 hk1 hS => ?_)
  obtain ⟨wxn, txn, ⟨vi1, vf1, kx1, kx2, hI1⟩, hP1, hK1, hD1⟩ := hB
  rw [ht] at hP1
  have hK1 := va_K.moved hvm.symm hK1
  obtain ⟨hPm, jxm⟩ := lg_step hPm jxm hk1 hD1
  obtain ⟨hPo, jxo⟩ := lg_step hPo jxo hk1 hD1
  have hD1 := hD1.weaken (fun _ _ _ h9 => hFc _ h9)
  clear hPx hDx hKx hFc hk1 hz1 hfs1117
  have hIX := hI1; have hPx := hP1; have hDx := hD1; have hKx := hK1; clear hI1 hP1 hD1 hK1
  clear ht; generalize H1 = H at hPx hPm hPo hS ⊢
  refine lv_pop hx hb dL_law_1120 rfl ?_
  refine lv_aload_n hx hb dL_law_1121 rfl (lv_at hl 2 rfl) ?_
  refine lv_aload_n hx hb dL_law_1122 rfl (lv_at hl 4 rfl) ?_
  refine lv_iload hx hb dL_law_1123 (lv_at hl 0 rfl) ?_
  refine lv_iconst (v := 1) hx hb dL_law_1125 zk_iconst_1 ?_
  refine lv_iadd hx hb dL_law_1126 ?_
  refine ax_ti ix1 eix1.symm ?_
  refine va_sld (L := L) (i := ix1) hx hb hX hbl hbA hS (vp_in_iff.mpr ⟨by omega, by omega⟩) dL_law_1127 ?_
  refine ax_ti vix1 evix1.symm ?_
  have hFc := lg_free hDm hS hA
  obtain ⟨fs1128, hfs1128⟩ := im_recv hIM
  refine va_calli (va_runV (As := [.int vix1]) (rest := []) ⟨hx, hb, hml, hown, hts⟩ (k_X8_guard l dC dI H.size mo tp vm vn wm tm hIM vix1) (cwV 1 hts gd_X8_guard rfl rfl rfl (by decide +kernel) ⟨Nat.le_of_ble_eq_true rfl, Nat.le_of_ble_eq_true rfl⟩) ⟨ax_blind (fun _ _ _ _ _ => trivial), va_recv hKm hPm (ci := 8) (q0 := 0) rfl hfs1128, ax_preE hPm hKm hDm (fun _ _ _ => trivial)⟩ rfl rfl hl.1 rfl (lv_room (Nat.le_of_ble_eq_true rfl)) dL_law_1128 ⟨hcc, hss⟩) hS (fun q _ h => hFc q h) hFc (fun r1128 u t H1 locs ht hvm hw1128 hB hz1 hk1 hS => ?_)
  obtain ⟨wmn, tmn, ⟨vm1, vn1, km1, km2, hI1⟩, hP1, hK1, hD1⟩ := hB
  rw [ht] at hP1
  have hK1 := va_K.moved hvm.symm hK1
  obtain ⟨hPx, jmx⟩ := lg_step hPx (dj_symm jxm) hk1 hD1
  have jxm := dj_symm jmx
  obtain ⟨hPo, jmo⟩ := lg_step hPo jmo hk1 hD1
  have hD1 := hD1.weaken (fun _ _ _ h9 => hFc _ h9)
  clear hPm hDm hKm hFc hk1 hz1 hfs1128
  have hIM := hI1; have hPm := hP1; have hDm := hD1; have hKm := hK1; clear hI1 hP1 hD1 hK1
  clear ht; generalize H1 = H at hPx hPm hPo hS ⊢
  refine lv_pop hx hb dL_law_1131 rfl ?_
  refine lv_goto (tgt := 1941) hx hb dL_law_1132 (by decide) ?_
  have hRn : lr_R tp vi1 vf1 vm1 vn1 := ⟨by rw [kx2 0 (by decide), km2 0 (by decide)]; exact hR.1, lr_keep (fun k9 h9 => kx1 k9 (kp_dis (by decide) h9)) (fun k9 h8 h9 => kx1 k9 (kp_out (a := 57) (b := 152) (by decide) h8 h9)) (fun k9 h9 => kx2 k9 (kp_dis (by decide) h9)) (fun k9 h8 h9 => kx2 k9 (kp_out (a := 23) (b := 61) (by decide) h8 h9)) (fun k9 h9 => km1 k9 (kp_dis (by decide) h9)) (fun k9 h9 => km2 k9 (kp_dis (by decide) h9)) hR.2⟩
  exact kk _ _ _ _ _ (Nat.le_add_right _ _) (Nat.le_add_right _ _) ⟨tp, _, _, _, _, _, _, _, _, _, hIX, hIM, hRn, hKx, hKm, hPx, hPm, hPo, hDx, hDm, hDo, jxm, jxo, jmo⟩ hS (lv_sub hl [0, 1, 2, 3, 4] rfl)

set_option maxHeartbeats 4000000 in
set_option maxRecDepth 100000 in
theorem lc_31 {p : Program} {l : Launch} {e : Env} {s : State} {m : MethodId} {below : List Frame} {meth : Method} {c : Code} {b L : Nat} {xs : Nat → Int32} {A : Nat → Prop} {dC : Nat → ClassId} {dI : Nat → Nat → Nat} (hl0 : l.stackTraces = false) (hL : L ≤ 3072) (hA : ∀ q, s.heap.size ≤ q → A q) (hA2 : ∀ q, A q → s.heap.size ≤ q) (C0 : lw_At p s m meth c b L xs) (sd : Nat → Nat) (sa : Nat) (hE : lg_E A sd sa s) (x mo oa : Nat) (ko : ClassId) (hKo : va_K (dC, dI) vwCl [(ko, .long)] s) (i : Int32) (hi0 : (0 : Int) ≤ i.toInt) (hi6 : i.toInt + 6 ≤ (L : Int)) {H : Heap} {locs : List Loc} {cells slots : Nat} (hc9 : cells + 1 ≤ 601024) (hs9 : slots + 6 ≤ 7293034) (hG : lg_S dC dI A s x mo oa ko H) (hS : va_S A s.heap H locs) {ls : Array Slot} (hl : lv_has ls 7 [(4, .int i), (3, .ref oa), (2, .ref mo), (1, .ref x), (0, .ref b)])
    (kk : ∀ (H : Heap) (locs : List Loc) (ls : Array Slot) (k9 n9 : Nat), k9 ≤ cells + 1 → n9 ≤ slots + 6 → lg_S dC dI A s x mo oa ko H → va_S A s.heap H locs → lv_has ls 7 [(4, .int i), (3, .ref oa), (2, .ref mo), (1, .ref x), (0, .ref b)] → W p l e room_1 s m #[Value.ref b] below meth c H locs k9 n9 (lw_Z below #[Value.ref b] s) (F0 m 1941 ls [])) : W p l e room_1 s m #[Value.ref b] below meth c H locs cells slots (lw_Z below #[Value.ref b] s) (F0 m 1135 ls []) := by
  obtain ⟨hx, hb, hr, hml, hown0, htl, hX, hbl, hlocks, hgv⟩ := id C0
  have hown : s.vm.findClass RL = some m.cls := hown0
  have hts : ∀ w ∈ wlT, w.before #[Value.ref b] s = true := fun w h => htl w (wlT_in w h)
  have hbA : ¬ A b := fun h => absurd (hA2 b h) (Nat.not_le.mpr hbl)
  obtain ⟨tp, wx, wm, tx, tm, fo, vi, vf, vm, vn, hIX, hIM, hR, hKx, hKm, hPx, hPm, hPo, hDx, hDm, hDo, jxm, jxo, jmo⟩ := hG
  have hiM : i.toInt ≤ (3066 : Int) := by omega
  have hcc : cells ≤ 601024 := by omega
  have hss : slots ≤ 7293034 := by omega
  have htpb := ix_tp hIX
  have hMo := im_mo hIM
  refine lv_aload_n hx hb dL_law_1135 rfl (lv_at hl 3 rfl) ?_
  have hFc := lg_free hDx hS hA
  obtain ⟨fs1136, hfs1136⟩ := ix_recv hIX
  refine va_calli (va_runV (As := []) (rest := []) ⟨hx, hb, hml, hown, hts⟩ (k_X7_windBest l dC dI H.size x tp vi vf wx tx hIX ) (cwV 0 hts gd_X7_windBest rfl rfl rfl (by decide +kernel) ⟨Nat.le_of_ble_eq_true rfl, Nat.le_of_ble_eq_true rfl⟩) ⟨ax_blind (fun _ _ _ _ hq => ⟨va_Nw.same rfl rfl (hq.1), va_Nw.same rfl rfl (hq.2.1), va_Nw.same rfl rfl (hq.2.2)⟩), va_recv hKx hPx (ci := 7) (q0 := 0) rfl hfs1136, ax_preE hPx hKx hDx (fun U hU hW => ⟨va_Nw.warmM hW (hE.2.2.2.1), va_Nw.warmM hW (hE.2.2.1), va_Nw.warmM hW (hE.2.2.2.2.1)⟩)⟩ rfl rfl hl.1 rfl (lv_room (Nat.le_of_ble_eq_true rfl)) dL_law_1136 ⟨hcc, hss⟩) hS (fun q _ h => hFc q h) hFc (fun r1136 u t H1 locs ht hvm hw1136 hB hz1 hk1 hS => ?_)
  obtain ⟨wxn, txn, ⟨vi1, vf1, kx1, kx2, hI1⟩, hP1, hK1, hD1⟩ := hB
  rw [ht] at hP1
  have hK1 := va_K.moved hvm.symm hK1
  obtain ⟨hPm, jxm⟩ := lg_step hPm jxm hk1 hD1
  obtain ⟨hPo, jxo⟩ := lg_step hPo jxo hk1 hD1
  have hD1 := hD1.weaken (fun _ _ _ h9 => hFc _ h9)
  clear hPx hDx hKx hFc hk1 hz1 hfs1136
  have hIX := hI1; have hPx := hP1; have hDx := hD1; have hKx := hK1; clear hI1 hP1 hD1 hK1
  clear ht; generalize H1 = H at hPx hPm hPo hS ⊢
  refine lv_pop hx hb dL_law_1139 rfl ?_
  refine lv_aload_n hx hb dL_law_1140 rfl (lv_at hl 2 rfl) ?_
  have hFc := lg_free hDm hS hA
  obtain ⟨fs1141, hfs1141⟩ := im_recv hIM
  refine va_calli (va_runV (As := []) (rest := []) ⟨hx, hb, hml, hown, hts⟩ (k_X8_windBest l dC dI H.size mo tp vm vn wm tm hIM ) (cwV 0 hts gd_X8_windBest rfl rfl rfl (by decide +kernel) ⟨Nat.le_of_ble_eq_true rfl, Nat.le_of_ble_eq_true rfl⟩) ⟨ax_blind (fun _ _ _ _ _ => trivial), va_recv hKm hPm (ci := 8) (q0 := 0) rfl hfs1141, ax_preE hPm hKm hDm (fun _ _ _ => trivial)⟩ rfl rfl hl.1 rfl (lv_room (Nat.le_of_ble_eq_true rfl)) dL_law_1141 ⟨hcc, hss⟩) hS (fun q _ h => hFc q h) hFc (fun r1141 u t H1 locs ht hvm hw1141 hB hz1 hk1 hS => ?_)
  obtain ⟨wmn, tmn, ⟨vm1, vn1, km1, km2, hI1⟩, hP1, hK1, hD1⟩ := hB
  rw [ht] at hP1
  have hK1 := va_K.moved hvm.symm hK1
  obtain ⟨hPx, jmx⟩ := lg_step hPx (dj_symm jxm) hk1 hD1
  have jxm := dj_symm jmx
  obtain ⟨hPo, jmo⟩ := lg_step hPo jmo hk1 hD1
  have hD1 := hD1.weaken (fun _ _ _ h9 => hFc _ h9)
  clear hPm hDm hKm hFc hk1 hz1 hfs1141
  have hIM := hI1; have hPm := hP1; have hDm := hD1; have hKm := hK1; clear hI1 hP1 hD1 hK1
  clear ht; generalize H1 = H at hPx hPm hPo hS ⊢
  refine lv_pop hx hb dL_law_1144 rfl ?_
  refine lv_goto (tgt := 1941) hx hb dL_law_1145 (by decide) ?_
  have hRn : lr_R tp vi1 vf1 vm1 vn1 := ⟨by rw [kx2 0 (by decide), km2 0 (by decide)]; exact hR.1, lr_keep (fun k9 h9 => kx1 k9 (kp_dis (by decide) h9)) (fun k9 h8 h9 => kx1 k9 (kp_out (a := 57) (b := 152) (by decide) h8 h9)) (fun k9 h9 => kx2 k9 (kp_dis (by decide) h9)) (fun k9 h8 h9 => kx2 k9 (kp_out (a := 23) (b := 61) (by decide) h8 h9)) (fun k9 h9 => km1 k9 (kp_dis (by decide) h9)) (fun k9 h9 => km2 k9 (kp_dis (by decide) h9)) hR.2⟩
  exact kk _ _ _ _ _ (Nat.le_add_right _ _) (Nat.le_add_right _ _) ⟨tp, _, _, _, _, _, _, _, _, _, hIX, hIM, hRn, hKx, hKm, hPx, hPm, hPo, hDx, hDm, hDo, jxm, jxo, jmo⟩ hS (lv_sub hl [0, 1, 2, 3, 4] rfl)

set_option maxHeartbeats 4000000 in
set_option maxRecDepth 100000 in
theorem lc_32 {p : Program} {l : Launch} {e : Env} {s : State} {m : MethodId} {below : List Frame} {meth : Method} {c : Code} {b L : Nat} {xs : Nat → Int32} {A : Nat → Prop} {dC : Nat → ClassId} {dI : Nat → Nat → Nat} (hl0 : l.stackTraces = false) (hL : L ≤ 3072) (hA : ∀ q, s.heap.size ≤ q → A q) (hA2 : ∀ q, A q → s.heap.size ≤ q) (C0 : lw_At p s m meth c b L xs) (sd : Nat → Nat) (sa : Nat) (hE : lg_E A sd sa s) (x mo oa : Nat) (ko : ClassId) (hKo : va_K (dC, dI) vwCl [(ko, .long)] s) (i : Int32) (hi0 : (0 : Int) ≤ i.toInt) (hi6 : i.toInt + 6 ≤ (L : Int)) {H : Heap} {locs : List Loc} {cells slots : Nat} (hc9 : cells + 1 ≤ 601024) (hs9 : slots + 6 ≤ 7293034) (hG : lg_S dC dI A s x mo oa ko H) (hS : va_S A s.heap H locs) {ls : Array Slot} (hl : lv_has ls 7 [(4, .int i), (3, .ref oa), (2, .ref mo), (1, .ref x), (0, .ref b)])
    (kk : ∀ (H : Heap) (locs : List Loc) (ls : Array Slot) (k9 n9 : Nat), k9 ≤ cells + 1 → n9 ≤ slots + 6 → lg_S dC dI A s x mo oa ko H → va_S A s.heap H locs → lv_has ls 7 [(4, .int i), (3, .ref oa), (2, .ref mo), (1, .ref x), (0, .ref b)] → W p l e room_1 s m #[Value.ref b] below meth c H locs k9 n9 (lw_Z below #[Value.ref b] s) (F0 m 1941 ls [])) : W p l e room_1 s m #[Value.ref b] below meth c H locs cells slots (lw_Z below #[Value.ref b] s) (F0 m 1148 ls []) := by
  obtain ⟨hx, hb, hr, hml, hown0, htl, hX, hbl, hlocks, hgv⟩ := id C0
  have hown : s.vm.findClass RL = some m.cls := hown0
  have hts : ∀ w ∈ wlT, w.before #[Value.ref b] s = true := fun w h => htl w (wlT_in w h)
  have hbA : ¬ A b := fun h => absurd (hA2 b h) (Nat.not_le.mpr hbl)
  obtain ⟨tp, wx, wm, tx, tm, fo, vi, vf, vm, vn, hIX, hIM, hR, hKx, hKm, hPx, hPm, hPo, hDx, hDm, hDo, jxm, jxo, jmo⟩ := hG
  have hiM : i.toInt ≤ (3066 : Int) := by omega
  have hcc : cells ≤ 601024 := by omega
  have hss : slots ≤ 7293034 := by omega
  have htpb := ix_tp hIX
  have hMo := im_mo hIM
  refine lv_aload_n hx hb dL_law_1148 rfl (lv_at hl 3 rfl) ?_
  refine lv_aload_n hx hb dL_law_1149 rfl (lv_at hl 4 rfl) ?_
  refine lv_iload hx hb dL_law_1150 (lv_at hl 0 rfl) ?_
  refine lv_iconst (v := 1) hx hb dL_law_1152 zk_iconst_1 ?_
  refine lv_iadd hx hb dL_law_1153 ?_
  refine lv_topi (fun ix1 eix1 => ?_)
  have qix1 : ix1.toInt = i.toInt + 1 := ai_add eix1 ⟨hi0, hiM⟩ ⟨zq1, zq0⟩ (by decide) (by decide)
  refine va_sld (L := L) (i := ix1) hx hb hX hbl hbA hS (vp_in_iff.mpr ⟨by omega, by omega⟩) dL_law_1154 ?_
  refine lv_topi (fun vix1 evix1 => ?_)
  refine lv_aload_n hx hb dL_law_1155 rfl (lv_at hl 4 rfl) ?_
  refine lv_iload hx hb dL_law_1156 (lv_at hl 0 rfl) ?_
  refine lv_iconst (v := 2) hx hb dL_law_1158 zk_iconst_2 ?_
  refine lv_iadd hx hb dL_law_1159 ?_
  refine lv_topi (fun ix2 eix2 => ?_)
  have qix2 : ix2.toInt = i.toInt + 2 := ai_add eix2 ⟨hi0, hiM⟩ ⟨zq12, zq13⟩ (by decide) (by decide)
  refine va_sld (L := L) (i := ix2) hx hb hX hbl hbA hS (vp_in_iff.mpr ⟨by omega, by omega⟩) dL_law_1160 ?_
  refine lv_topi (fun vix2 evix2 => ?_)
  have hFc := lg_free hDx hS hA
  obtain ⟨fs1161, hfs1161⟩ := ix_recv hIX
  refine va_calli (va_runV (As := [.int vix1, .int vix2]) (rest := []) ⟨hx, hb, hml, hown, hts⟩ (k_X7_patrol l dC dI H.size x tp vi vf wx tx hIX vix1 vix2) (cwV 2 hts gd_X7_patrol rfl rfl rfl (by decide +kernel) ⟨Nat.le_of_ble_eq_true rfl, Nat.le_of_ble_eq_true rfl⟩) ⟨ax_blind (fun _ _ _ _ hq => ⟨va_Nw.same rfl rfl (hq.1), va_Nw.same rfl rfl (hq.2.1), va_Nw.same rfl rfl (hq.2.2)⟩), va_recv hKx hPx (ci := 7) (q0 := 0) rfl hfs1161, ax_preE hPx hKx hDx (fun U hU hW => ⟨va_Nw.warmM hW (hE.2.2.2.1), va_Nw.warmM hW (hE.2.2.1), va_Nw.warmM hW (hE.2.2.2.2.1)⟩)⟩ rfl rfl hl.1 rfl (lv_room (Nat.le_of_ble_eq_true rfl)) dL_law_1161 ⟨hcc, hss⟩) hS (fun q _ h => hFc q h) hFc (fun r1161 u t H1 locs ht hvm hw1161 hB hz1 hk1 hS => ?_)
  obtain ⟨wxn, txn, ⟨vi1, vf1, kx1, kx2, hI1⟩, hP1, hK1, hD1⟩ := hB
  rw [ht] at hP1
  have hK1 := va_K.moved hvm.symm hK1
  obtain ⟨hPm, jxm⟩ := lg_step hPm jxm hk1 hD1
  obtain ⟨hPo, jxo⟩ := lg_step hPo jxo hk1 hD1
  have hD1 := hD1.weaken (fun _ _ _ h9 => hFc _ h9)
  clear hPx hDx hKx hFc hk1 hz1 hfs1161
  have hIX := hI1; have hPx := hP1; have hDx := hD1; have hKx := hK1; clear hI1 hP1 hD1 hK1
  clear ht; generalize H1 = H at hPx hPm hPo hS ⊢
  refine lv_pop hx hb dL_law_1164 rfl ?_
  refine lv_aload_n hx hb dL_law_1165 rfl (lv_at hl 2 rfl) ?_
  refine lv_aload_n hx hb dL_law_1166 rfl (lv_at hl 4 rfl) ?_
  refine lv_iload hx hb dL_law_1167 (lv_at hl 0 rfl) ?_
  refine lv_iconst (v := 1) hx hb dL_law_1169 zk_iconst_1 ?_
  refine lv_iadd hx hb dL_law_1170 ?_
  refine ax_ti ix1 eix1.symm ?_
  refine va_sld (L := L) (i := ix1) hx hb hX hbl hbA hS (vp_in_iff.mpr ⟨by omega, by omega⟩) dL_law_1171 ?_
  refine ax_ti vix1 evix1.symm ?_
  refine lv_aload_n hx hb dL_law_1172 rfl (lv_at hl 4 rfl) ?_
  refine lv_iload hx hb dL_law_1173 (lv_at hl 0 rfl) ?_
  refine lv_iconst (v := 2) hx hb dL_law_1175 zk_iconst_2 ?_
  refine lv_iadd hx hb dL_law_1176 ?_
  refine ax_ti ix2 eix2.symm ?_
  refine va_sld (L := L) (i := ix2) hx hb hX hbl hbA hS (vp_in_iff.mpr ⟨by omega, by omega⟩) dL_law_1177 ?_
  refine ax_ti vix2 evix2.symm ?_
  have hFc := lg_free hDm hS hA
  obtain ⟨fs1178, hfs1178⟩ := im_recv hIM
  refine va_calli (va_runV (As := [.int vix1, .int vix2]) (rest := []) ⟨hx, hb, hml, hown, hts⟩ (k_X8_patrol l dC dI H.size mo tp vm vn wm tm hIM vix1 vix2) (cwV 2 hts gd_X8_patrol rfl rfl rfl (by decide +kernel) ⟨Nat.le_of_ble_eq_true rfl, Nat.le_of_ble_eq_true rfl⟩) ⟨ax_blind (fun _ _ _ _ _ => trivial), va_recv hKm hPm (ci := 8) (q0 := 0) rfl hfs1178, ax_preE hPm hKm hDm (fun _ _ _ => trivial)⟩ rfl rfl hl.1 rfl (lv_room (Nat.le_of_ble_eq_true rfl)) dL_law_1178 ⟨hcc, hss⟩) hS (fun q _ h => hFc q h) hFc (fun r1178 u t H1 locs ht hvm hw1178 hB hz1 hk1 hS => ?_)
  obtain ⟨wmn, tmn, ⟨vm1, vn1, km1, km2, hI1⟩, hP1, hK1, hD1⟩ := hB
  rw [ht] at hP1
  have hK1 := va_K.moved hvm.symm hK1
  obtain ⟨hPx, jmx⟩ := lg_step hPx (dj_symm jxm) hk1 hD1
  have jxm := dj_symm jmx
  obtain ⟨hPo, jmo⟩ := lg_step hPo jmo hk1 hD1
  have hD1 := hD1.weaken (fun _ _ _ h9 => hFc _ h9)
  clear hPm hDm hKm hFc hk1 hz1 hfs1178
  have hIM := hI1; have hPm := hP1; have hDm := hD1; have hKm := hK1; clear hI1 hP1 hD1 hK1
  clear ht; generalize H1 = H at hPx hPm hPo hS ⊢
  refine lv_pop hx hb dL_law_1181 rfl ?_
  refine lv_goto (tgt := 1941) hx hb dL_law_1182 (by decide) ?_
  have hRn : lr_R tp vi1 vf1 vm1 vn1 := ⟨by rw [kx2 0 (by decide), km2 0 (by decide)]; exact hR.1, lr_keep (fun k9 h9 => kx1 k9 (kp_dis (by decide) h9)) (fun k9 h8 h9 => kx1 k9 (kp_out (a := 57) (b := 152) (by decide) h8 h9)) (fun k9 h9 => kx2 k9 (kp_dis (by decide) h9)) (fun k9 h8 h9 => kx2 k9 (kp_out (a := 23) (b := 61) (by decide) h8 h9)) (fun k9 h9 => km1 k9 (kp_dis (by decide) h9)) (fun k9 h9 => km2 k9 (kp_dis (by decide) h9)) hR.2⟩
  exact kk _ _ _ _ _ (Nat.le_add_right _ _) (Nat.le_add_right _ _) ⟨tp, _, _, _, _, _, _, _, _, _, hIX, hIM, hRn, hKx, hKm, hPx, hPm, hPo, hDx, hDm, hDo, jxm, jxo, jmo⟩ hS (lv_sub hl [0, 1, 2, 3, 4] rfl)

set_option maxHeartbeats 4000000 in
set_option maxRecDepth 100000 in
theorem lc_33 {p : Program} {l : Launch} {e : Env} {s : State} {m : MethodId} {below : List Frame} {meth : Method} {c : Code} {b L : Nat} {xs : Nat → Int32} {A : Nat → Prop} {dC : Nat → ClassId} {dI : Nat → Nat → Nat} (hl0 : l.stackTraces = false) (hL : L ≤ 3072) (hA : ∀ q, s.heap.size ≤ q → A q) (hA2 : ∀ q, A q → s.heap.size ≤ q) (C0 : lw_At p s m meth c b L xs) (sd : Nat → Nat) (sa : Nat) (hE : lg_E A sd sa s) (x mo oa : Nat) (ko : ClassId) (hKo : va_K (dC, dI) vwCl [(ko, .long)] s) (i : Int32) (hi0 : (0 : Int) ≤ i.toInt) (hi6 : i.toInt + 6 ≤ (L : Int)) {H : Heap} {locs : List Loc} {cells slots : Nat} (hc9 : cells + 1 ≤ 601024) (hs9 : slots + 6 ≤ 7293034) (hG : lg_S dC dI A s x mo oa ko H) (hS : va_S A s.heap H locs) {ls : Array Slot} (hl : lv_has ls 7 [(4, .int i), (3, .ref oa), (2, .ref mo), (1, .ref x), (0, .ref b)])
    (kk : ∀ (H : Heap) (locs : List Loc) (ls : Array Slot) (k9 n9 : Nat), k9 ≤ cells + 1 → n9 ≤ slots + 6 → lg_S dC dI A s x mo oa ko H → va_S A s.heap H locs → lv_has ls 7 [(4, .int i), (3, .ref oa), (2, .ref mo), (1, .ref x), (0, .ref b)] → W p l e room_1 s m #[Value.ref b] below meth c H locs k9 n9 (lw_Z below #[Value.ref b] s) (F0 m 1941 ls [])) : W p l e room_1 s m #[Value.ref b] below meth c H locs cells slots (lw_Z below #[Value.ref b] s) (F0 m 1185 ls []) := by
  obtain ⟨hx, hb, hr, hml, hown0, htl, hX, hbl, hlocks, hgv⟩ := id C0
  have hown : s.vm.findClass RL = some m.cls := hown0
  have hts : ∀ w ∈ wlT, w.before #[Value.ref b] s = true := fun w h => htl w (wlT_in w h)
  have hbA : ¬ A b := fun h => absurd (hA2 b h) (Nat.not_le.mpr hbl)
  obtain ⟨tp, wx, wm, tx, tm, fo, vi, vf, vm, vn, hIX, hIM, hR, hKx, hKm, hPx, hPm, hPo, hDx, hDm, hDo, jxm, jxo, jmo⟩ := hG
  have hiM : i.toInt ≤ (3066 : Int) := by omega
  have hcc : cells ≤ 601024 := by omega
  have hss : slots ≤ 7293034 := by omega
  have htpb := ix_tp hIX
  have hMo := im_mo hIM
  refine lv_aload_n hx hb dL_law_1185 rfl (lv_at hl 3 rfl) ?_
  have hFc := lg_free hDx hS hA
  obtain ⟨fs1186, hfs1186⟩ := ix_recv hIX
  refine va_calli (va_runV (As := []) (rest := []) ⟨hx, hb, hml, hown, hts⟩ (k_X7_fits l dC dI H.size x tp vi vf wx tx hIX ) (cwV 0 hts gd_X7_fits rfl rfl rfl (by decide +kernel) ⟨Nat.le_of_ble_eq_true rfl, Nat.le_of_ble_eq_true rfl⟩) ⟨ax_blind (fun _ _ _ _ hq => va_Nw.same rfl rfl (hq)), va_recv hKx hPx (ci := 7) (q0 := 0) rfl hfs1186, ax_preE hPx hKx hDx (fun U hU hW => va_Nw.warmM hW (hE.2.2.2.2.2.2.1))⟩ rfl rfl hl.1 rfl (lv_room (Nat.le_of_ble_eq_true rfl)) dL_law_1186 ⟨hcc, hss⟩) hS (fun q _ h => hFc q h) hFc (fun r1186 u t H1 locs ht hvm hw1186 hB hz1 hk1 hS => ?_)
  obtain ⟨wxn, txn, ⟨vi1, vf1, kx1, kx2, hI1⟩, hP1, hK1, hD1⟩ := hB
  rw [ht] at hP1
  have hK1 := va_K.moved hvm.symm hK1
  obtain ⟨hPm, jxm⟩ := lg_step hPm jxm hk1 hD1
  obtain ⟨hPo, jxo⟩ := lg_step hPo jxo hk1 hD1
  have hD1 := hD1.weaken (fun _ _ _ h9 => hFc _ h9)
  clear hPx hDx hKx hFc hk1 hz1 hfs1186
  have hIX := hI1; have hPx := hP1; have hDx := hD1; have hKx := hK1; clear hI1 hP1 hD1 hK1
  clear ht; generalize H1 = H at hPx hPm hPo hS ⊢
  refine lv_pop hx hb dL_law_1189 rfl ?_
  refine lv_aload_n hx hb dL_law_1190 rfl (lv_at hl 2 rfl) ?_
  have hFc := lg_free hDm hS hA
  obtain ⟨fs1191, hfs1191⟩ := im_recv hIM
  refine va_calli (va_runV (As := []) (rest := []) ⟨hx, hb, hml, hown, hts⟩ (k_X8_fits l dC dI H.size mo tp vm vn wm tm hIM ) (cwV 0 hts gd_X8_fits rfl rfl rfl (by decide +kernel) ⟨Nat.le_of_ble_eq_true rfl, Nat.le_of_ble_eq_true rfl⟩) ⟨ax_blind (fun _ _ _ _ _ => trivial), va_recv hKm hPm (ci := 8) (q0 := 0) rfl hfs1191, ax_preE hPm hKm hDm (fun _ _ _ => trivial)⟩ rfl rfl hl.1 rfl (lv_room (Nat.le_of_ble_eq_true rfl)) dL_law_1191 ⟨hcc, hss⟩) hS (fun q _ h => hFc q h) hFc (fun r1191 u t H1 locs ht hvm hw1191 hB hz1 hk1 hS => ?_)
  obtain ⟨wmn, tmn, ⟨vm1, vn1, km1, km2, hI1⟩, hP1, hK1, hD1⟩ := hB
  rw [ht] at hP1
  have hK1 := va_K.moved hvm.symm hK1
  obtain ⟨hPx, jmx⟩ := lg_step hPx (dj_symm jxm) hk1 hD1
  have jxm := dj_symm jmx
  obtain ⟨hPo, jmo⟩ := lg_step hPo jmo hk1 hD1
  have hD1 := hD1.weaken (fun _ _ _ h9 => hFc _ h9)
  clear hPm hDm hKm hFc hk1 hz1 hfs1191
  have hIM := hI1; have hPm := hP1; have hDm := hD1; have hKm := hK1; clear hI1 hP1 hD1 hK1
  clear ht; generalize H1 = H at hPx hPm hPo hS ⊢
  refine lv_pop hx hb dL_law_1194 rfl ?_
  refine lv_goto (tgt := 1941) hx hb dL_law_1195 (by decide) ?_
  have hRn : lr_R tp vi1 vf1 vm1 vn1 := ⟨by rw [kx2 0 (by decide), km2 0 (by decide)]; exact hR.1, lr_keep (fun k9 h9 => kx1 k9 (kp_dis (by decide) h9)) (fun k9 h8 h9 => kx1 k9 (kp_out (a := 57) (b := 152) (by decide) h8 h9)) (fun k9 h9 => kx2 k9 (kp_dis (by decide) h9)) (fun k9 h8 h9 => kx2 k9 (kp_out (a := 23) (b := 61) (by decide) h8 h9)) (fun k9 h9 => km1 k9 (kp_dis (by decide) h9)) (fun k9 h9 => km2 k9 (kp_dis (by decide) h9)) hR.2⟩
  exact kk _ _ _ _ _ (Nat.le_add_right _ _) (Nat.le_add_right _ _) ⟨tp, _, _, _, _, _, _, _, _, _, hIX, hIM, hRn, hKx, hKm, hPx, hPm, hPo, hDx, hDm, hDo, jxm, jxo, jmo⟩ hS (lv_sub hl [0, 1, 2, 3, 4] rfl)

set_option maxHeartbeats 4000000 in
set_option maxRecDepth 100000 in
theorem lc_34 {p : Program} {l : Launch} {e : Env} {s : State} {m : MethodId} {below : List Frame} {meth : Method} {c : Code} {b L : Nat} {xs : Nat → Int32} {A : Nat → Prop} {dC : Nat → ClassId} {dI : Nat → Nat → Nat} (hl0 : l.stackTraces = false) (hL : L ≤ 3072) (hA : ∀ q, s.heap.size ≤ q → A q) (hA2 : ∀ q, A q → s.heap.size ≤ q) (C0 : lw_At p s m meth c b L xs) (sd : Nat → Nat) (sa : Nat) (hE : lg_E A sd sa s) (x mo oa : Nat) (ko : ClassId) (hKo : va_K (dC, dI) vwCl [(ko, .long)] s) (i : Int32) (hi0 : (0 : Int) ≤ i.toInt) (hi6 : i.toInt + 6 ≤ (L : Int)) {H : Heap} {locs : List Loc} {cells slots : Nat} (hc9 : cells + 1 ≤ 601024) (hs9 : slots + 6 ≤ 7293034) (hG : lg_S dC dI A s x mo oa ko H) (hS : va_S A s.heap H locs) {ls : Array Slot} (hl : lv_has ls 7 [(4, .int i), (3, .ref oa), (2, .ref mo), (1, .ref x), (0, .ref b)])
    (kk : ∀ (H : Heap) (locs : List Loc) (ls : Array Slot) (k9 n9 : Nat), k9 ≤ cells + 1 → n9 ≤ slots + 6 → lg_S dC dI A s x mo oa ko H → va_S A s.heap H locs → lv_has ls 7 [(4, .int i), (3, .ref oa), (2, .ref mo), (1, .ref x), (0, .ref b)] → W p l e room_1 s m #[Value.ref b] below meth c H locs k9 n9 (lw_Z below #[Value.ref b] s) (F0 m 1941 ls [])) : W p l e room_1 s m #[Value.ref b] below meth c H locs cells slots (lw_Z below #[Value.ref b] s) (F0 m 1198 ls []) := by
  obtain ⟨hx, hb, hr, hml, hown0, htl, hX, hbl, hlocks, hgv⟩ := id C0
  have hown : s.vm.findClass RL = some m.cls := hown0
  have hts : ∀ w ∈ wlT, w.before #[Value.ref b] s = true := fun w h => htl w (wlT_in w h)
  have hbA : ¬ A b := fun h => absurd (hA2 b h) (Nat.not_le.mpr hbl)
  obtain ⟨tp, wx, wm, tx, tm, fo, vi, vf, vm, vn, hIX, hIM, hR, hKx, hKm, hPx, hPm, hPo, hDx, hDm, hDo, jxm, jxo, jmo⟩ := hG
  have hiM : i.toInt ≤ (3066 : Int) := by omega
  have hcc : cells ≤ 601024 := by omega
  have hss : slots ≤ 7293034 := by omega
  have htpb := ix_tp hIX
  have hMo := im_mo hIM
  refine lv_aload_n hx hb dL_law_1198 rfl (lv_at hl 3 rfl) ?_
  refine lv_aload_n hx hb dL_law_1199 rfl (lv_at hl 4 rfl) ?_
  refine lv_iload hx hb dL_law_1200 (lv_at hl 0 rfl) ?_
  refine lv_iconst (v := 1) hx hb dL_law_1202 zk_iconst_1 ?_
  refine lv_iadd hx hb dL_law_1203 ?_
  refine lv_topi (fun ix1 eix1 => ?_)
  have qix1 : ix1.toInt = i.toInt + 1 := ai_add eix1 ⟨hi0, hiM⟩ ⟨zq1, zq0⟩ (by decide) (by decide)
  refine va_sld (L := L) (i := ix1) hx hb hX hbl hbA hS (vp_in_iff.mpr ⟨by omega, by omega⟩) dL_law_1204 ?_
  refine lv_topi (fun vix1 evix1 => ?_)
  have hFc := lg_free hDx hS hA
  obtain ⟨fs1205, hfs1205⟩ := ix_recv hIX
  refine va_calli (va_runV (As := [.int vix1]) (rest := []) ⟨hx, hb, hml, hown, hts⟩ (k_X7_fitAt l dC dI H.size x tp vi vf wx tx hIX vix1) (cwV 1 hts gd_X7_fitAt rfl rfl rfl (by decide +kernel) ⟨Nat.le_of_ble_eq_true rfl, Nat.le_of_ble_eq_true rfl⟩) ⟨ax_blind (fun _ _ _ _ hq => va_Nw.same rfl rfl (hq)), va_recv hKx hPx (ci := 7) (q0 := 0) rfl hfs1205, ax_preE hPx hKx hDx (fun U hU hW => va_Nw.warmM hW (hE.2.2.2.2.2.2.1))⟩ rfl rfl hl.1 rfl (lv_room (Nat.le_of_ble_eq_true rfl)) dL_law_1205 ⟨hcc, hss⟩) hS (fun q _ h => hFc q h) hFc (fun r1205 u t H1 locs ht hvm hw1205 hB hz1 hk1 hS => ?_)
  obtain ⟨wxn, txn, ⟨vi1, vf1, kx1, kx2, hI1⟩, hP1, hK1, hD1⟩ := hB
  rw [ht] at hP1
  have hK1 := va_K.moved hvm.symm hK1
  obtain ⟨hPm, jxm⟩ := lg_step hPm jxm hk1 hD1
  obtain ⟨hPo, jxo⟩ := lg_step hPo jxo hk1 hD1
  have hD1 := hD1.weaken (fun _ _ _ h9 => hFc _ h9)
  clear hPx hDx hKx hFc hk1 hz1 hfs1205
  have hIX := hI1; have hPx := hP1; have hDx := hD1; have hKx := hK1; clear hI1 hP1 hD1 hK1
  clear ht; generalize H1 = H at hPx hPm hPo hS ⊢
  refine lv_pop hx hb dL_law_1208 rfl ?_
  refine lv_aload_n hx hb dL_law_1209 rfl (lv_at hl 2 rfl) ?_
  refine lv_aload_n hx hb dL_law_1210 rfl (lv_at hl 4 rfl) ?_
  refine lv_iload hx hb dL_law_1211 (lv_at hl 0 rfl) ?_
  refine lv_iconst (v := 1) hx hb dL_law_1213 zk_iconst_1 ?_
  refine lv_iadd hx hb dL_law_1214 ?_
  refine ax_ti ix1 eix1.symm ?_
  refine va_sld (L := L) (i := ix1) hx hb hX hbl hbA hS (vp_in_iff.mpr ⟨by omega, by omega⟩) dL_law_1215 ?_
  refine ax_ti vix1 evix1.symm ?_
  have hFc := lg_free hDm hS hA
  obtain ⟨fs1216, hfs1216⟩ := im_recv hIM
  refine va_calli (va_runV (As := [.int vix1]) (rest := []) ⟨hx, hb, hml, hown, hts⟩ (k_X8_fitAt l dC dI H.size mo tp vm vn wm tm hIM vix1) (cwV 1 hts gd_X8_fitAt rfl rfl rfl (by decide +kernel) ⟨Nat.le_of_ble_eq_true rfl, Nat.le_of_ble_eq_true rfl⟩) ⟨ax_blind (fun _ _ _ _ _ => trivial), va_recv hKm hPm (ci := 8) (q0 := 0) rfl hfs1216, ax_preE hPm hKm hDm (fun _ _ _ => trivial)⟩ rfl rfl hl.1 rfl (lv_room (Nat.le_of_ble_eq_true rfl)) dL_law_1216 ⟨hcc, hss⟩) hS (fun q _ h => hFc q h) hFc (fun r1216 u t H1 locs ht hvm hw1216 hB hz1 hk1 hS => ?_)
  obtain ⟨wmn, tmn, ⟨vm1, vn1, km1, km2, hI1⟩, hP1, hK1, hD1⟩ := hB
  rw [ht] at hP1
  have hK1 := va_K.moved hvm.symm hK1
  obtain ⟨hPx, jmx⟩ := lg_step hPx (dj_symm jxm) hk1 hD1
  have jxm := dj_symm jmx
  obtain ⟨hPo, jmo⟩ := lg_step hPo jmo hk1 hD1
  have hD1 := hD1.weaken (fun _ _ _ h9 => hFc _ h9)
  clear hPm hDm hKm hFc hk1 hz1 hfs1216
  have hIM := hI1; have hPm := hP1; have hDm := hD1; have hKm := hK1; clear hI1 hP1 hD1 hK1
  clear ht; generalize H1 = H at hPx hPm hPo hS ⊢
  refine lv_pop hx hb dL_law_1219 rfl ?_
  refine lv_goto (tgt := 1941) hx hb dL_law_1220 (by decide) ?_
  have hRn : lr_R tp vi1 vf1 vm1 vn1 := ⟨by rw [kx2 0 (by decide), km2 0 (by decide)]; exact hR.1, lr_keep (fun k9 h9 => kx1 k9 (kp_dis (by decide) h9)) (fun k9 h8 h9 => kx1 k9 (kp_out (a := 57) (b := 152) (by decide) h8 h9)) (fun k9 h9 => kx2 k9 (kp_dis (by decide) h9)) (fun k9 h8 h9 => kx2 k9 (kp_out (a := 23) (b := 61) (by decide) h8 h9)) (fun k9 h9 => km1 k9 (kp_dis (by decide) h9)) (fun k9 h9 => km2 k9 (kp_dis (by decide) h9)) hR.2⟩
  exact kk _ _ _ _ _ (Nat.le_add_right _ _) (Nat.le_add_right _ _) ⟨tp, _, _, _, _, _, _, _, _, _, hIX, hIM, hRn, hKx, hKm, hPx, hPm, hPo, hDx, hDm, hDo, jxm, jxo, jmo⟩ hS (lv_sub hl [0, 1, 2, 3, 4] rfl)

set_option maxHeartbeats 4000000 in
set_option maxRecDepth 100000 in
theorem lc_35 {p : Program} {l : Launch} {e : Env} {s : State} {m : MethodId} {below : List Frame} {meth : Method} {c : Code} {b L : Nat} {xs : Nat → Int32} {A : Nat → Prop} {dC : Nat → ClassId} {dI : Nat → Nat → Nat} (hl0 : l.stackTraces = false) (hL : L ≤ 3072) (hA : ∀ q, s.heap.size ≤ q → A q) (hA2 : ∀ q, A q → s.heap.size ≤ q) (C0 : lw_At p s m meth c b L xs) (sd : Nat → Nat) (sa : Nat) (hE : lg_E A sd sa s) (x mo oa : Nat) (ko : ClassId) (hKo : va_K (dC, dI) vwCl [(ko, .long)] s) (i : Int32) (hi0 : (0 : Int) ≤ i.toInt) (hi6 : i.toInt + 6 ≤ (L : Int)) {H : Heap} {locs : List Loc} {cells slots : Nat} (hc9 : cells + 1 ≤ 601024) (hs9 : slots + 6 ≤ 7293034) (hG : lg_S dC dI A s x mo oa ko H) (hS : va_S A s.heap H locs) {ls : Array Slot} (hl : lv_has ls 7 [(4, .int i), (3, .ref oa), (2, .ref mo), (1, .ref x), (0, .ref b)])
    (kk : ∀ (H : Heap) (locs : List Loc) (ls : Array Slot) (k9 n9 : Nat), k9 ≤ cells + 1 → n9 ≤ slots + 6 → lg_S dC dI A s x mo oa ko H → va_S A s.heap H locs → lv_has ls 7 [(4, .int i), (3, .ref oa), (2, .ref mo), (1, .ref x), (0, .ref b)] → W p l e room_1 s m #[Value.ref b] below meth c H locs k9 n9 (lw_Z below #[Value.ref b] s) (F0 m 1941 ls [])) : W p l e room_1 s m #[Value.ref b] below meth c H locs cells slots (lw_Z below #[Value.ref b] s) (F0 m 1223 ls []) := by
  obtain ⟨hx, hb, hr, hml, hown0, htl, hX, hbl, hlocks, hgv⟩ := id C0
  have hown : s.vm.findClass RL = some m.cls := hown0
  have hts : ∀ w ∈ wlT, w.before #[Value.ref b] s = true := fun w h => htl w (wlT_in w h)
  have hbA : ¬ A b := fun h => absurd (hA2 b h) (Nat.not_le.mpr hbl)
  obtain ⟨tp, wx, wm, tx, tm, fo, vi, vf, vm, vn, hIX, hIM, hR, hKx, hKm, hPx, hPm, hPo, hDx, hDm, hDo, jxm, jxo, jmo⟩ := hG
  have hiM : i.toInt ≤ (3066 : Int) := by omega
  have hcc : cells ≤ 601024 := by omega
  have hss : slots ≤ 7293034 := by omega
  have htpb := ix_tp hIX
  have hMo := im_mo hIM
  refine lv_aload_n hx hb dL_law_1223 rfl (lv_at hl 3 rfl) ?_
  refine lv_aload_n hx hb dL_law_1224 rfl (lv_at hl 4 rfl) ?_
  refine lv_iload hx hb dL_law_1225 (lv_at hl 0 rfl) ?_
  refine lv_iconst (v := 1) hx hb dL_law_1227 zk_iconst_1 ?_
  refine lv_iadd hx hb dL_law_1228 ?_
  refine lv_topi (fun ix1 eix1 => ?_)
  have qix1 : ix1.toInt = i.toInt + 1 := ai_add eix1 ⟨hi0, hiM⟩ ⟨zq1, zq0⟩ (by decide) (by decide)
  refine va_sld (L := L) (i := ix1) hx hb hX hbl hbA hS (vp_in_iff.mpr ⟨by omega, by omega⟩) dL_law_1229 ?_
  refine lv_topi (fun vix1 evix1 => ?_)
  have hFc := lg_free hDx hS hA
  obtain ⟨fs1230, hfs1230⟩ := ix_recv hIX
  refine va_calli (va_runV (As := [.int vix1]) (rest := []) ⟨hx, hb, hml, hown, hts⟩ (k_X7_could l dC dI H.size x tp vi vf wx tx hIX vix1) (cwV 1 hts gd_X7_could rfl rfl rfl (by decide +kernel) ⟨Nat.le_of_ble_eq_true rfl, Nat.le_of_ble_eq_true rfl⟩) ⟨ax_blind (fun _ _ _ _ hq => va_Nw.same rfl rfl (hq)), va_recv hKx hPx (ci := 7) (q0 := 0) rfl hfs1230, ax_preE hPx hKx hDx (fun U hU hW => va_Nw.warmM hW (hE.2.2.2.2.2.2.1))⟩ rfl rfl hl.1 rfl (lv_room (Nat.le_of_ble_eq_true rfl)) dL_law_1230 ⟨hcc, hss⟩) hS (fun q _ h => hFc q h) hFc (fun r1230 u t H1 locs ht hvm hw1230 hB hz1 hk1 hS => ?_)
  obtain ⟨wxn, txn, ⟨vi1, vf1, kx1, kx2, hI1⟩, hP1, hK1, hD1⟩ := hB
  rw [ht] at hP1
  have hK1 := va_K.moved hvm.symm hK1
  obtain ⟨hPm, jxm⟩ := lg_step hPm jxm hk1 hD1
  obtain ⟨hPo, jxo⟩ := lg_step hPo jxo hk1 hD1
  have hD1 := hD1.weaken (fun _ _ _ h9 => hFc _ h9)
  clear hPx hDx hKx hFc hk1 hz1 hfs1230
  have hIX := hI1; have hPx := hP1; have hDx := hD1; have hKx := hK1; clear hI1 hP1 hD1 hK1
  clear ht; generalize H1 = H at hPx hPm hPo hS ⊢
  refine lv_pop hx hb dL_law_1233 rfl ?_
  refine lv_aload_n hx hb dL_law_1234 rfl (lv_at hl 2 rfl) ?_
  refine lv_aload_n hx hb dL_law_1235 rfl (lv_at hl 4 rfl) ?_
  refine lv_iload hx hb dL_law_1236 (lv_at hl 0 rfl) ?_
  refine lv_iconst (v := 1) hx hb dL_law_1238 zk_iconst_1 ?_
  refine lv_iadd hx hb dL_law_1239 ?_
  refine ax_ti ix1 eix1.symm ?_
  refine va_sld (L := L) (i := ix1) hx hb hX hbl hbA hS (vp_in_iff.mpr ⟨by omega, by omega⟩) dL_law_1240 ?_
  refine ax_ti vix1 evix1.symm ?_
  have hFc := lg_free hDm hS hA
  obtain ⟨fs1241, hfs1241⟩ := im_recv hIM
  refine va_calli (va_runV (As := [.int vix1]) (rest := []) ⟨hx, hb, hml, hown, hts⟩ (k_X8_could l dC dI H.size mo tp vm vn wm tm hIM vix1) (cwV 1 hts gd_X8_could rfl rfl rfl (by decide +kernel) ⟨Nat.le_of_ble_eq_true rfl, Nat.le_of_ble_eq_true rfl⟩) ⟨ax_blind (fun _ _ _ _ _ => trivial), va_recv hKm hPm (ci := 8) (q0 := 0) rfl hfs1241, ax_preE hPm hKm hDm (fun _ _ _ => trivial)⟩ rfl rfl hl.1 rfl (lv_room (Nat.le_of_ble_eq_true rfl)) dL_law_1241 ⟨hcc, hss⟩) hS (fun q _ h => hFc q h) hFc (fun r1241 u t H1 locs ht hvm hw1241 hB hz1 hk1 hS => ?_)
  obtain ⟨wmn, tmn, ⟨vm1, vn1, km1, km2, hI1⟩, hP1, hK1, hD1⟩ := hB
  rw [ht] at hP1
  have hK1 := va_K.moved hvm.symm hK1
  obtain ⟨hPx, jmx⟩ := lg_step hPx (dj_symm jxm) hk1 hD1
  have jxm := dj_symm jmx
  obtain ⟨hPo, jmo⟩ := lg_step hPo jmo hk1 hD1
  have hD1 := hD1.weaken (fun _ _ _ h9 => hFc _ h9)
  clear hPm hDm hKm hFc hk1 hz1 hfs1241
  have hIM := hI1; have hPm := hP1; have hDm := hD1; have hKm := hK1; clear hI1 hP1 hD1 hK1
  clear ht; generalize H1 = H at hPx hPm hPo hS ⊢
  refine lv_pop hx hb dL_law_1244 rfl ?_
  refine lv_goto (tgt := 1941) hx hb dL_law_1245 (by decide) ?_
  have hRn : lr_R tp vi1 vf1 vm1 vn1 := ⟨by rw [kx2 0 (by decide), km2 0 (by decide)]; exact hR.1, lr_keep (fun k9 h9 => kx1 k9 (kp_dis (by decide) h9)) (fun k9 h8 h9 => kx1 k9 (kp_out (a := 57) (b := 152) (by decide) h8 h9)) (fun k9 h9 => kx2 k9 (kp_dis (by decide) h9)) (fun k9 h8 h9 => kx2 k9 (kp_out (a := 23) (b := 61) (by decide) h8 h9)) (fun k9 h9 => km1 k9 (kp_dis (by decide) h9)) (fun k9 h9 => km2 k9 (kp_dis (by decide) h9)) hR.2⟩
  exact kk _ _ _ _ _ (Nat.le_add_right _ _) (Nat.le_add_right _ _) ⟨tp, _, _, _, _, _, _, _, _, _, hIX, hIM, hRn, hKx, hKm, hPx, hPm, hPo, hDx, hDm, hDo, jxm, jxo, jmo⟩ hS (lv_sub hl [0, 1, 2, 3, 4] rfl)

set_option maxHeartbeats 4000000 in
set_option maxRecDepth 100000 in
theorem lc_36 {p : Program} {l : Launch} {e : Env} {s : State} {m : MethodId} {below : List Frame} {meth : Method} {c : Code} {b L : Nat} {xs : Nat → Int32} {A : Nat → Prop} {dC : Nat → ClassId} {dI : Nat → Nat → Nat} (hl0 : l.stackTraces = false) (hL : L ≤ 3072) (hA : ∀ q, s.heap.size ≤ q → A q) (hA2 : ∀ q, A q → s.heap.size ≤ q) (C0 : lw_At p s m meth c b L xs) (sd : Nat → Nat) (sa : Nat) (hE : lg_E A sd sa s) (x mo oa : Nat) (ko : ClassId) (hKo : va_K (dC, dI) vwCl [(ko, .long)] s) (i : Int32) (hi0 : (0 : Int) ≤ i.toInt) (hi6 : i.toInt + 6 ≤ (L : Int)) {H : Heap} {locs : List Loc} {cells slots : Nat} (hc9 : cells + 1 ≤ 601024) (hs9 : slots + 6 ≤ 7293034) (hG : lg_S dC dI A s x mo oa ko H) (hS : va_S A s.heap H locs) {ls : Array Slot} (hl : lv_has ls 7 [(4, .int i), (3, .ref oa), (2, .ref mo), (1, .ref x), (0, .ref b)])
    (kk : ∀ (H : Heap) (locs : List Loc) (ls : Array Slot) (k9 n9 : Nat), k9 ≤ cells + 1 → n9 ≤ slots + 6 → lg_S dC dI A s x mo oa ko H → va_S A s.heap H locs → lv_has ls 7 [(4, .int i), (3, .ref oa), (2, .ref mo), (1, .ref x), (0, .ref b)] → W p l e room_1 s m #[Value.ref b] below meth c H locs k9 n9 (lw_Z below #[Value.ref b] s) (F0 m 1941 ls [])) : W p l e room_1 s m #[Value.ref b] below meth c H locs cells slots (lw_Z below #[Value.ref b] s) (F0 m 1248 ls []) := by
  obtain ⟨hx, hb, hr, hml, hown0, htl, hX, hbl, hlocks, hgv⟩ := id C0
  have hown : s.vm.findClass RL = some m.cls := hown0
  have hts : ∀ w ∈ wlT, w.before #[Value.ref b] s = true := fun w h => htl w (wlT_in w h)
  have hbA : ¬ A b := fun h => absurd (hA2 b h) (Nat.not_le.mpr hbl)
  obtain ⟨tp, wx, wm, tx, tm, fo, vi, vf, vm, vn, hIX, hIM, hR, hKx, hKm, hPx, hPm, hPo, hDx, hDm, hDo, jxm, jxo, jmo⟩ := hG
  have hiM : i.toInt ≤ (3066 : Int) := by omega
  have hcc : cells ≤ 601024 := by omega
  have hss : slots ≤ 7293034 := by omega
  have htpb := ix_tp hIX
  have hMo := im_mo hIM
  refine lv_aload_n hx hb dL_law_1248 rfl (lv_at hl 3 rfl) ?_
  refine lv_aload_n hx hb dL_law_1249 rfl (lv_at hl 4 rfl) ?_
  refine lv_iload hx hb dL_law_1250 (lv_at hl 0 rfl) ?_
  refine lv_iconst (v := 1) hx hb dL_law_1252 zk_iconst_1 ?_
  refine lv_iadd hx hb dL_law_1253 ?_
  refine lv_topi (fun ix1 eix1 => ?_)
  have qix1 : ix1.toInt = i.toInt + 1 := ai_add eix1 ⟨hi0, hiM⟩ ⟨zq1, zq0⟩ (by decide) (by decide)
  refine va_sld (L := L) (i := ix1) hx hb hX hbl hbA hS (vp_in_iff.mpr ⟨by omega, by omega⟩) dL_law_1254 ?_
  refine lv_topi (fun vix1 evix1 => ?_)
  refine lv_aload_n hx hb dL_law_1255 rfl (lv_at hl 4 rfl) ?_
  refine lv_iload hx hb dL_law_1256 (lv_at hl 0 rfl) ?_
  refine lv_iconst (v := 2) hx hb dL_law_1258 zk_iconst_2 ?_
  refine lv_iadd hx hb dL_law_1259 ?_
  refine lv_topi (fun ix2 eix2 => ?_)
  have qix2 : ix2.toInt = i.toInt + 2 := ai_add eix2 ⟨hi0, hiM⟩ ⟨zq12, zq13⟩ (by decide) (by decide)
  refine va_sld (L := L) (i := ix2) hx hb hX hbl hbA hS (vp_in_iff.mpr ⟨by omega, by omega⟩) dL_law_1260 ?_
  refine lv_topi (fun vix2 evix2 => ?_)
  have hFc := lg_free hDx hS hA
  obtain ⟨fs1261, hfs1261⟩ := ix_recv hIX
  refine va_calli (va_runV (As := [.int vix1, .int vix2]) (rest := []) ⟨hx, hb, hml, hown, hts⟩ (k_X7_aliveBy l dC dI H.size x tp vi vf wx tx hIX vix1 vix2) (cwV 2 hts gd_X7_aliveBy rfl rfl rfl (by decide +kernel) ⟨Nat.le_of_ble_eq_true rfl, Nat.le_of_ble_eq_true rfl⟩) ⟨ax_blind (fun _ _ _ _ hq => va_Nw.same rfl rfl (hq)), va_recv hKx hPx (ci := 7) (q0 := 0) rfl hfs1261, ax_preE hPx hKx hDx (fun U hU hW => va_Nw.warmM hW (hE.2.2.2.2.2.2.1))⟩ rfl rfl hl.1 rfl (lv_room (Nat.le_of_ble_eq_true rfl)) dL_law_1261 ⟨hcc, hss⟩) hS (fun q _ h => hFc q h) hFc (fun r1261 u t H1 locs ht hvm hw1261 hB hz1 hk1 hS => ?_)
  obtain ⟨wxn, txn, ⟨vi1, vf1, kx1, kx2, hI1⟩, hP1, hK1, hD1⟩ := hB
  rw [ht] at hP1
  have hK1 := va_K.moved hvm.symm hK1
  obtain ⟨hPm, jxm⟩ := lg_step hPm jxm hk1 hD1
  obtain ⟨hPo, jxo⟩ := lg_step hPo jxo hk1 hD1
  have hD1 := hD1.weaken (fun _ _ _ h9 => hFc _ h9)
  clear hPx hDx hKx hFc hk1 hz1 hfs1261
  have hIX := hI1; have hPx := hP1; have hDx := hD1; have hKx := hK1; clear hI1 hP1 hD1 hK1
  clear ht; generalize H1 = H at hPx hPm hPo hS ⊢
  refine lv_pop hx hb dL_law_1264 rfl ?_
  refine lv_aload_n hx hb dL_law_1265 rfl (lv_at hl 2 rfl) ?_
  refine lv_aload_n hx hb dL_law_1266 rfl (lv_at hl 4 rfl) ?_
  refine lv_iload hx hb dL_law_1267 (lv_at hl 0 rfl) ?_
  refine lv_iconst (v := 1) hx hb dL_law_1269 zk_iconst_1 ?_
  refine lv_iadd hx hb dL_law_1270 ?_
  refine ax_ti ix1 eix1.symm ?_
  refine va_sld (L := L) (i := ix1) hx hb hX hbl hbA hS (vp_in_iff.mpr ⟨by omega, by omega⟩) dL_law_1271 ?_
  refine ax_ti vix1 evix1.symm ?_
  refine lv_aload_n hx hb dL_law_1272 rfl (lv_at hl 4 rfl) ?_
  refine lv_iload hx hb dL_law_1273 (lv_at hl 0 rfl) ?_
  refine lv_iconst (v := 2) hx hb dL_law_1275 zk_iconst_2 ?_
  refine lv_iadd hx hb dL_law_1276 ?_
  refine ax_ti ix2 eix2.symm ?_
  refine va_sld (L := L) (i := ix2) hx hb hX hbl hbA hS (vp_in_iff.mpr ⟨by omega, by omega⟩) dL_law_1277 ?_
  refine ax_ti vix2 evix2.symm ?_
  have hFc := lg_free hDm hS hA
  obtain ⟨fs1278, hfs1278⟩ := im_recv hIM
  refine va_calli (va_runV (As := [.int vix1, .int vix2]) (rest := []) ⟨hx, hb, hml, hown, hts⟩ (k_X8_aliveBy l dC dI H.size mo tp vm vn wm tm hIM vix1 vix2) (cwV 2 hts gd_X8_aliveBy rfl rfl rfl (by decide +kernel) ⟨Nat.le_of_ble_eq_true rfl, Nat.le_of_ble_eq_true rfl⟩) ⟨ax_blind (fun _ _ _ _ _ => trivial), va_recv hKm hPm (ci := 8) (q0 := 0) rfl hfs1278, ax_preE hPm hKm hDm (fun _ _ _ => trivial)⟩ rfl rfl hl.1 rfl (lv_room (Nat.le_of_ble_eq_true rfl)) dL_law_1278 ⟨hcc, hss⟩) hS (fun q _ h => hFc q h) hFc (fun r1278 u t H1 locs ht hvm hw1278 hB hz1 hk1 hS => ?_)
  obtain ⟨wmn, tmn, ⟨vm1, vn1, km1, km2, hI1⟩, hP1, hK1, hD1⟩ := hB
  rw [ht] at hP1
  have hK1 := va_K.moved hvm.symm hK1
  obtain ⟨hPx, jmx⟩ := lg_step hPx (dj_symm jxm) hk1 hD1
  have jxm := dj_symm jmx
  obtain ⟨hPo, jmo⟩ := lg_step hPo jmo hk1 hD1
  have hD1 := hD1.weaken (fun _ _ _ h9 => hFc _ h9)
  clear hPm hDm hKm hFc hk1 hz1 hfs1278
  have hIM := hI1; have hPm := hP1; have hDm := hD1; have hKm := hK1; clear hI1 hP1 hD1 hK1
  clear ht; generalize H1 = H at hPx hPm hPo hS ⊢
  refine lv_pop hx hb dL_law_1281 rfl ?_
  refine lv_goto (tgt := 1941) hx hb dL_law_1282 (by decide) ?_
  have hRn : lr_R tp vi1 vf1 vm1 vn1 := ⟨by rw [kx2 0 (by decide), km2 0 (by decide)]; exact hR.1, lr_keep (fun k9 h9 => kx1 k9 (kp_dis (by decide) h9)) (fun k9 h8 h9 => kx1 k9 (kp_out (a := 57) (b := 152) (by decide) h8 h9)) (fun k9 h9 => kx2 k9 (kp_dis (by decide) h9)) (fun k9 h8 h9 => kx2 k9 (kp_out (a := 23) (b := 61) (by decide) h8 h9)) (fun k9 h9 => km1 k9 (kp_dis (by decide) h9)) (fun k9 h9 => km2 k9 (kp_dis (by decide) h9)) hR.2⟩
  exact kk _ _ _ _ _ (Nat.le_add_right _ _) (Nat.le_add_right _ _) ⟨tp, _, _, _, _, _, _, _, _, _, hIX, hIM, hRn, hKx, hKm, hPx, hPm, hPo, hDx, hDm, hDo, jxm, jxo, jmo⟩ hS (lv_sub hl [0, 1, 2, 3, 4] rfl)

set_option maxHeartbeats 4000000 in
set_option maxRecDepth 100000 in
theorem lc_37 {p : Program} {l : Launch} {e : Env} {s : State} {m : MethodId} {below : List Frame} {meth : Method} {c : Code} {b L : Nat} {xs : Nat → Int32} {A : Nat → Prop} {dC : Nat → ClassId} {dI : Nat → Nat → Nat} (hl0 : l.stackTraces = false) (hL : L ≤ 3072) (hA : ∀ q, s.heap.size ≤ q → A q) (hA2 : ∀ q, A q → s.heap.size ≤ q) (C0 : lw_At p s m meth c b L xs) (sd : Nat → Nat) (sa : Nat) (hE : lg_E A sd sa s) (x mo oa : Nat) (ko : ClassId) (hKo : va_K (dC, dI) vwCl [(ko, .long)] s) (i : Int32) (hi0 : (0 : Int) ≤ i.toInt) (hi6 : i.toInt + 6 ≤ (L : Int)) {H : Heap} {locs : List Loc} {cells slots : Nat} (hc9 : cells + 1 ≤ 601024) (hs9 : slots + 6 ≤ 7293034) (hG : lg_S dC dI A s x mo oa ko H) (hS : va_S A s.heap H locs) {ls : Array Slot} (hl : lv_has ls 7 [(4, .int i), (3, .ref oa), (2, .ref mo), (1, .ref x), (0, .ref b)])
    (kk : ∀ (H : Heap) (locs : List Loc) (ls : Array Slot) (k9 n9 : Nat), k9 ≤ cells + 1 → n9 ≤ slots + 6 → lg_S dC dI A s x mo oa ko H → va_S A s.heap H locs → lv_has ls 7 [(4, .int i), (3, .ref oa), (2, .ref mo), (1, .ref x), (0, .ref b)] → W p l e room_1 s m #[Value.ref b] below meth c H locs k9 n9 (lw_Z below #[Value.ref b] s) (F0 m 1941 ls [])) : W p l e room_1 s m #[Value.ref b] below meth c H locs cells slots (lw_Z below #[Value.ref b] s) (F0 m 1285 ls []) := by
  obtain ⟨hx, hb, hr, hml, hown0, htl, hX, hbl, hlocks, hgv⟩ := id C0
  have hown : s.vm.findClass RL = some m.cls := hown0
  have hts : ∀ w ∈ wlT, w.before #[Value.ref b] s = true := fun w h => htl w (wlT_in w h)
  have hbA : ¬ A b := fun h => absurd (hA2 b h) (Nat.not_le.mpr hbl)
  obtain ⟨tp, wx, wm, tx, tm, fo, vi, vf, vm, vn, hIX, hIM, hR, hKx, hKm, hPx, hPm, hPo, hDx, hDm, hDo, jxm, jxo, jmo⟩ := hG
  have hiM : i.toInt ≤ (3066 : Int) := by omega
  have hcc : cells ≤ 601024 := by omega
  have hss : slots ≤ 7293034 := by omega
  have htpb := ix_tp hIX
  have hMo := im_mo hIM
  refine lv_aload_n hx hb dL_law_1285 rfl (lv_at hl 3 rfl) ?_
  have hFc := lg_free hDx hS hA
  obtain ⟨fs1286, hfs1286⟩ := ix_recv hIX
  refine va_calli (va_runV (As := []) (rest := []) ⟨hx, hb, hml, hown, hts⟩ (k_X7_look l dC dI H.size x tp vi vf wx tx hIX ) (cwV 0 hts gd_X7_look rfl rfl rfl (by decide +kernel) ⟨Nat.le_of_ble_eq_true rfl, Nat.le_of_ble_eq_true rfl⟩) ⟨ax_blind (fun _ _ _ _ hq => va_Nw.same rfl rfl (hq)), va_recv hKx hPx (ci := 7) (q0 := 0) rfl hfs1286, ax_preE hPx hKx hDx (fun U hU hW => va_Nw.warmM hW (hE.2.2.2.2.2.2.1))⟩ rfl rfl hl.1 rfl (lv_room (Nat.le_of_ble_eq_true rfl)) dL_law_1286 ⟨hcc, hss⟩) hS (fun q _ h => hFc q h) hFc (fun r1286 u t H1 locs ht hvm hw1286 hB hz1 hk1 hS => ?_)
  obtain ⟨wxn, txn, ⟨vi1, vf1, kx1, kx2, hI1⟩, hP1, hK1, hD1⟩ := hB
  rw [ht] at hP1
  have hK1 := va_K.moved hvm.symm hK1
  obtain ⟨hPm, jxm⟩ := lg_step hPm jxm hk1 hD1
  obtain ⟨hPo, jxo⟩ := lg_step hPo jxo hk1 hD1
  have hD1 := hD1.weaken (fun _ _ _ h9 => hFc _ h9)
  clear hPx hDx hKx hFc hk1 hz1 hfs1286
  have hIX := hI1; have hPx := hP1; have hDx := hD1; have hKx := hK1; clear hI1 hP1 hD1 hK1
  clear ht; generalize H1 = H at hPx hPm hPo hS ⊢
  refine lv_pop hx hb dL_law_1289 rfl ?_
  refine lv_aload_n hx hb dL_law_1290 rfl (lv_at hl 2 rfl) ?_
  have hFc := lg_free hDm hS hA
  obtain ⟨fs1291, hfs1291⟩ := im_recv hIM
  refine va_calli (va_runV (As := []) (rest := []) ⟨hx, hb, hml, hown, hts⟩ (k_X8_look l dC dI H.size mo tp vm vn wm tm hIM ) (cwV 0 hts gd_X8_look rfl rfl rfl (by decide +kernel) ⟨Nat.le_of_ble_eq_true rfl, Nat.le_of_ble_eq_true rfl⟩) ⟨ax_blind (fun _ _ _ _ _ => trivial), va_recv hKm hPm (ci := 8) (q0 := 0) rfl hfs1291, ax_preE hPm hKm hDm (fun _ _ _ => trivial)⟩ rfl rfl hl.1 rfl (lv_room (Nat.le_of_ble_eq_true rfl)) dL_law_1291 ⟨hcc, hss⟩) hS (fun q _ h => hFc q h) hFc (fun r1291 u t H1 locs ht hvm hw1291 hB hz1 hk1 hS => ?_)
  obtain ⟨wmn, tmn, ⟨vm1, vn1, km1, km2, hI1⟩, hP1, hK1, hD1⟩ := hB
  rw [ht] at hP1
  have hK1 := va_K.moved hvm.symm hK1
  obtain ⟨hPx, jmx⟩ := lg_step hPx (dj_symm jxm) hk1 hD1
  have jxm := dj_symm jmx
  obtain ⟨hPo, jmo⟩ := lg_step hPo jmo hk1 hD1
  have hD1 := hD1.weaken (fun _ _ _ h9 => hFc _ h9)
  clear hPm hDm hKm hFc hk1 hz1 hfs1291
  have hIM := hI1; have hPm := hP1; have hDm := hD1; have hKm := hK1; clear hI1 hP1 hD1 hK1
  clear ht; generalize H1 = H at hPx hPm hPo hS ⊢
  refine lv_pop hx hb dL_law_1294 rfl ?_
  refine lv_goto (tgt := 1941) hx hb dL_law_1295 (by decide) ?_
  have hRn : lr_R tp vi1 vf1 vm1 vn1 := ⟨by rw [kx2 0 (by decide), km2 0 (by decide)]; exact hR.1, lr_keep (fun k9 h9 => kx1 k9 (kp_dis (by decide) h9)) (fun k9 h8 h9 => kx1 k9 (kp_out (a := 57) (b := 152) (by decide) h8 h9)) (fun k9 h9 => kx2 k9 (kp_dis (by decide) h9)) (fun k9 h8 h9 => kx2 k9 (kp_out (a := 23) (b := 61) (by decide) h8 h9)) (fun k9 h9 => km1 k9 (kp_dis (by decide) h9)) (fun k9 h9 => km2 k9 (kp_dis (by decide) h9)) hR.2⟩
  exact kk _ _ _ _ _ (Nat.le_add_right _ _) (Nat.le_add_right _ _) ⟨tp, _, _, _, _, _, _, _, _, _, hIX, hIM, hRn, hKx, hKm, hPx, hPm, hPo, hDx, hDm, hDo, jxm, jxo, jmo⟩ hS (lv_sub hl [0, 1, 2, 3, 4] rfl)

set_option maxHeartbeats 4000000 in
set_option maxRecDepth 100000 in
theorem lc_38 {p : Program} {l : Launch} {e : Env} {s : State} {m : MethodId} {below : List Frame} {meth : Method} {c : Code} {b L : Nat} {xs : Nat → Int32} {A : Nat → Prop} {dC : Nat → ClassId} {dI : Nat → Nat → Nat} (hl0 : l.stackTraces = false) (hL : L ≤ 3072) (hA : ∀ q, s.heap.size ≤ q → A q) (hA2 : ∀ q, A q → s.heap.size ≤ q) (C0 : lw_At p s m meth c b L xs) (sd : Nat → Nat) (sa : Nat) (hE : lg_E A sd sa s) (x mo oa : Nat) (ko : ClassId) (hKo : va_K (dC, dI) vwCl [(ko, .long)] s) (i : Int32) (hi0 : (0 : Int) ≤ i.toInt) (hi6 : i.toInt + 6 ≤ (L : Int)) {H : Heap} {locs : List Loc} {cells slots : Nat} (hc9 : cells + 1 ≤ 601024) (hs9 : slots + 6 ≤ 7293034) (hG : lg_S dC dI A s x mo oa ko H) (hS : va_S A s.heap H locs) {ls : Array Slot} (hl : lv_has ls 7 [(4, .int i), (3, .ref oa), (2, .ref mo), (1, .ref x), (0, .ref b)])
    (kk : ∀ (H : Heap) (locs : List Loc) (ls : Array Slot) (k9 n9 : Nat), k9 ≤ cells + 1 → n9 ≤ slots + 6 → lg_S dC dI A s x mo oa ko H → va_S A s.heap H locs → lv_has ls 7 [(4, .int i), (3, .ref oa), (2, .ref mo), (1, .ref x), (0, .ref b)] → W p l e room_1 s m #[Value.ref b] below meth c H locs k9 n9 (lw_Z below #[Value.ref b] s) (F0 m 1941 ls [])) : W p l e room_1 s m #[Value.ref b] below meth c H locs cells slots (lw_Z below #[Value.ref b] s) (F0 m 1298 ls []) := by
  obtain ⟨hx, hb, hr, hml, hown0, htl, hX, hbl, hlocks, hgv⟩ := id C0
  have hown : s.vm.findClass RL = some m.cls := hown0
  have hts : ∀ w ∈ wlT, w.before #[Value.ref b] s = true := fun w h => htl w (wlT_in w h)
  have hbA : ¬ A b := fun h => absurd (hA2 b h) (Nat.not_le.mpr hbl)
  obtain ⟨tp, wx, wm, tx, tm, fo, vi, vf, vm, vn, hIX, hIM, hR, hKx, hKm, hPx, hPm, hPo, hDx, hDm, hDo, jxm, jxo, jmo⟩ := hG
  have hiM : i.toInt ≤ (3066 : Int) := by omega
  have hcc : cells ≤ 601024 := by omega
  have hss : slots ≤ 7293034 := by omega
  have htpb := ix_tp hIX
  have hMo := im_mo hIM
  refine lv_aload_n hx hb dL_law_1298 rfl (lv_at hl 3 rfl) ?_
  have hFc := lg_free hDx hS hA
  obtain ⟨fs1299, hfs1299⟩ := ix_recv hIX
  refine va_calli (va_runV (As := []) (rest := []) ⟨hx, hb, hml, hown, hts⟩ (k_X7_lookLeaves l dC dI H.size x tp vi vf wx tx hIX ) (cwV 0 hts gd_X7_lookLeaves rfl rfl rfl (by decide +kernel) ⟨Nat.le_of_ble_eq_true rfl, Nat.le_of_ble_eq_true rfl⟩) ⟨ax_blind (fun _ _ _ _ hq => va_Nw.same rfl rfl (hq)), va_recv hKx hPx (ci := 7) (q0 := 0) rfl hfs1299, ax_preE hPx hKx hDx (fun U hU hW => va_Nw.warmM hW (hE.2.2.2.2.2.2.1))⟩ rfl rfl hl.1 rfl (lv_room (Nat.le_of_ble_eq_true rfl)) dL_law_1299 ⟨hcc, hss⟩) hS (fun q _ h => hFc q h) hFc (fun r1299 u t H1 locs ht hvm hw1299 hB hz1 hk1 hS => ?_)
  obtain ⟨wxn, txn, ⟨vi1, vf1, kx1, kx2, hI1⟩, hP1, hK1, hD1⟩ := hB
  rw [ht] at hP1
  have hK1 := va_K.moved hvm.symm hK1
  obtain ⟨hPm, jxm⟩ := lg_step hPm jxm hk1 hD1
  obtain ⟨hPo, jxo⟩ := lg_step hPo jxo hk1 hD1
  have hD1 := hD1.weaken (fun _ _ _ h9 => hFc _ h9)
  clear hPx hDx hKx hFc hk1 hz1 hfs1299
  have hIX := hI1; have hPx := hP1; have hDx := hD1; have hKx := hK1; clear hI1 hP1 hD1 hK1
  clear ht; generalize H1 = H at hPx hPm hPo hS ⊢
  refine lv_pop hx hb dL_law_1302 rfl ?_
  refine lv_aload_n hx hb dL_law_1303 rfl (lv_at hl 2 rfl) ?_
  have hFc := lg_free hDm hS hA
  obtain ⟨fs1304, hfs1304⟩ := im_recv hIM
  refine va_calli (va_runV (As := []) (rest := []) ⟨hx, hb, hml, hown, hts⟩ (k_X8_lookLeaves l dC dI H.size mo tp vm vn wm tm hIM ) (cwV 0 hts gd_X8_lookLeaves rfl rfl rfl (by decide +kernel) ⟨Nat.le_of_ble_eq_true rfl, Nat.le_of_ble_eq_true rfl⟩) ⟨ax_blind (fun _ _ _ _ _ => trivial), va_recv hKm hPm (ci := 8) (q0 := 0) rfl hfs1304, ax_preE hPm hKm hDm (fun _ _ _ => trivial)⟩ rfl rfl hl.1 rfl (lv_room (Nat.le_of_ble_eq_true rfl)) dL_law_1304 ⟨hcc, hss⟩) hS (fun q _ h => hFc q h) hFc (fun r1304 u t H1 locs ht hvm hw1304 hB hz1 hk1 hS => ?_)
  obtain ⟨wmn, tmn, ⟨vm1, vn1, km1, km2, hI1⟩, hP1, hK1, hD1⟩ := hB
  rw [ht] at hP1
  have hK1 := va_K.moved hvm.symm hK1
  obtain ⟨hPx, jmx⟩ := lg_step hPx (dj_symm jxm) hk1 hD1
  have jxm := dj_symm jmx
  obtain ⟨hPo, jmo⟩ := lg_step hPo jmo hk1 hD1
  have hD1 := hD1.weaken (fun _ _ _ h9 => hFc _ h9)
  clear hPm hDm hKm hFc hk1 hz1 hfs1304
  have hIM := hI1; have hPm := hP1; have hDm := hD1; have hKm := hK1; clear hI1 hP1 hD1 hK1
  clear ht; generalize H1 = H at hPx hPm hPo hS ⊢
  refine lv_pop hx hb dL_law_1307 rfl ?_
  refine lv_goto (tgt := 1941) hx hb dL_law_1308 (by decide) ?_
  have hRn : lr_R tp vi1 vf1 vm1 vn1 := ⟨by rw [kx2 0 (by decide), km2 0 (by decide)]; exact hR.1, lr_keep (fun k9 h9 => kx1 k9 (kp_dis (by decide) h9)) (fun k9 h8 h9 => kx1 k9 (kp_out (a := 57) (b := 152) (by decide) h8 h9)) (fun k9 h9 => kx2 k9 (kp_dis (by decide) h9)) (fun k9 h8 h9 => kx2 k9 (kp_out (a := 23) (b := 61) (by decide) h8 h9)) (fun k9 h9 => km1 k9 (kp_dis (by decide) h9)) (fun k9 h9 => km2 k9 (kp_dis (by decide) h9)) hR.2⟩
  exact kk _ _ _ _ _ (Nat.le_add_right _ _) (Nat.le_add_right _ _) ⟨tp, _, _, _, _, _, _, _, _, _, hIX, hIM, hRn, hKx, hKm, hPx, hPm, hPo, hDx, hDm, hDo, jxm, jxo, jmo⟩ hS (lv_sub hl [0, 1, 2, 3, 4] rfl)

set_option maxHeartbeats 4000000 in
set_option maxRecDepth 100000 in
theorem lc_39 {p : Program} {l : Launch} {e : Env} {s : State} {m : MethodId} {below : List Frame} {meth : Method} {c : Code} {b L : Nat} {xs : Nat → Int32} {A : Nat → Prop} {dC : Nat → ClassId} {dI : Nat → Nat → Nat} (hl0 : l.stackTraces = false) (hL : L ≤ 3072) (hA : ∀ q, s.heap.size ≤ q → A q) (hA2 : ∀ q, A q → s.heap.size ≤ q) (C0 : lw_At p s m meth c b L xs) (sd : Nat → Nat) (sa : Nat) (hE : lg_E A sd sa s) (x mo oa : Nat) (ko : ClassId) (hKo : va_K (dC, dI) vwCl [(ko, .long)] s) (i : Int32) (hi0 : (0 : Int) ≤ i.toInt) (hi6 : i.toInt + 6 ≤ (L : Int)) {H : Heap} {locs : List Loc} {cells slots : Nat} (hc9 : cells + 1 ≤ 601024) (hs9 : slots + 6 ≤ 7293034) (hG : lg_S dC dI A s x mo oa ko H) (hS : va_S A s.heap H locs) {ls : Array Slot} (hl : lv_has ls 7 [(4, .int i), (3, .ref oa), (2, .ref mo), (1, .ref x), (0, .ref b)])
    (kk : ∀ (H : Heap) (locs : List Loc) (ls : Array Slot) (k9 n9 : Nat), k9 ≤ cells + 1 → n9 ≤ slots + 6 → lg_S dC dI A s x mo oa ko H → va_S A s.heap H locs → lv_has ls 7 [(4, .int i), (3, .ref oa), (2, .ref mo), (1, .ref x), (0, .ref b)] → W p l e room_1 s m #[Value.ref b] below meth c H locs k9 n9 (lw_Z below #[Value.ref b] s) (F0 m 1941 ls [])) : W p l e room_1 s m #[Value.ref b] below meth c H locs cells slots (lw_Z below #[Value.ref b] s) (F0 m 1311 ls []) := by
  obtain ⟨hx, hb, hr, hml, hown0, htl, hX, hbl, hlocks, hgv⟩ := id C0
  have hown : s.vm.findClass RL = some m.cls := hown0
  have hts : ∀ w ∈ wlT, w.before #[Value.ref b] s = true := fun w h => htl w (wlT_in w h)
  have hbA : ¬ A b := fun h => absurd (hA2 b h) (Nat.not_le.mpr hbl)
  obtain ⟨tp, wx, wm, tx, tm, fo, vi, vf, vm, vn, hIX, hIM, hR, hKx, hKm, hPx, hPm, hPo, hDx, hDm, hDo, jxm, jxo, jmo⟩ := hG
  have hiM : i.toInt ≤ (3066 : Int) := by omega
  have hcc : cells ≤ 601024 := by omega
  have hss : slots ≤ 7293034 := by omega
  have htpb := ix_tp hIX
  have hMo := im_mo hIM
  refine lv_aload_n hx hb dL_law_1311 rfl (lv_at hl 3 rfl) ?_
  have hFc := lg_free hDx hS hA
  obtain ⟨fs1312, hfs1312⟩ := ix_recv hIX
  refine va_calli (va_runV (As := []) (rest := []) ⟨hx, hb, hml, hown, hts⟩ (k_X7_lawsLike l dC dI H.size x tp vi vf wx tx hIX ) (cwV 0 hts gd_X7_lawsLike rfl rfl rfl (by decide +kernel) ⟨Nat.le_of_ble_eq_true rfl, Nat.le_of_ble_eq_true rfl⟩) ⟨ax_blind (fun _ _ _ _ _ => trivial), va_recv hKx hPx (ci := 7) (q0 := 0) rfl hfs1312, ax_preE hPx hKx hDx (fun _ _ _ => trivial)⟩ rfl rfl hl.1 rfl (lv_room (Nat.le_of_ble_eq_true rfl)) dL_law_1312 ⟨hcc, hss⟩) hS (fun q _ h => hFc q h) hFc (fun r1312 u t H1 locs ht hvm hw1312 hB hz1 hk1 hS => ?_)
  obtain ⟨wxn, txn, ⟨vi1, vf1, kx1, kx2, hI1⟩, hP1, hK1, hD1⟩ := hB
  rw [ht] at hP1
  have hK1 := va_K.moved hvm.symm hK1
  obtain ⟨hPm, jxm⟩ := lg_step hPm jxm hk1 hD1
  obtain ⟨hPo, jxo⟩ := lg_step hPo jxo hk1 hD1
  have hD1 := hD1.weaken (fun _ _ _ h9 => hFc _ h9)
  clear hPx hDx hKx hFc hk1 hz1 hfs1312
  have hIX := hI1; have hPx := hP1; have hDx := hD1; have hKx := hK1; clear hI1 hP1 hD1 hK1
  clear ht; generalize H1 = H at hPx hPm hPo hS ⊢
  refine lv_pop hx hb dL_law_1315 rfl ?_
  refine lv_aload_n hx hb dL_law_1316 rfl (lv_at hl 2 rfl) ?_
  have hFc := lg_free hDm hS hA
  obtain ⟨fs1317, hfs1317⟩ := im_recv hIM
  refine va_calli (va_runV (As := []) (rest := []) ⟨hx, hb, hml, hown, hts⟩ (k_X8_lawsLike l dC dI H.size mo tp vm vn wm tm hIM ) (cwV 0 hts gd_X8_lawsLike rfl rfl rfl (by decide +kernel) ⟨Nat.le_of_ble_eq_true rfl, Nat.le_of_ble_eq_true rfl⟩) ⟨ax_blind (fun _ _ _ _ _ => trivial), va_recv hKm hPm (ci := 8) (q0 := 0) rfl hfs1317, ax_preE hPm hKm hDm (fun _ _ _ => trivial)⟩ rfl rfl hl.1 rfl (lv_room (Nat.le_of_ble_eq_true rfl)) dL_law_1317 ⟨hcc, hss⟩) hS (fun q _ h => hFc q h) hFc (fun r1317 u t H1 locs ht hvm hw1317 hB hz1 hk1 hS => ?_)
  obtain ⟨wmn, tmn, ⟨vm1, vn1, km1, km2, hI1⟩, hP1, hK1, hD1⟩ := hB
  rw [ht] at hP1
  have hK1 := va_K.moved hvm.symm hK1
  obtain ⟨hPx, jmx⟩ := lg_step hPx (dj_symm jxm) hk1 hD1
  have jxm := dj_symm jmx
  obtain ⟨hPo, jmo⟩ := lg_step hPo jmo hk1 hD1
  have hD1 := hD1.weaken (fun _ _ _ h9 => hFc _ h9)
  clear hPm hDm hKm hFc hk1 hz1 hfs1317
  have hIM := hI1; have hPm := hP1; have hDm := hD1; have hKm := hK1; clear hI1 hP1 hD1 hK1
  clear ht; generalize H1 = H at hPx hPm hPo hS ⊢
  refine lv_pop hx hb dL_law_1320 rfl ?_
  refine lv_goto (tgt := 1941) hx hb dL_law_1321 (by decide) ?_
  have hRn : lr_R tp vi1 vf1 vm1 vn1 := ⟨by rw [kx2 0 (by decide), km2 0 (by decide)]; exact hR.1, lr_keep (fun k9 h9 => kx1 k9 (kp_dis (by decide) h9)) (fun k9 h8 h9 => kx1 k9 (kp_out (a := 57) (b := 152) (by decide) h8 h9)) (fun k9 h9 => kx2 k9 (kp_dis (by decide) h9)) (fun k9 h8 h9 => kx2 k9 (kp_out (a := 23) (b := 61) (by decide) h8 h9)) (fun k9 h9 => km1 k9 (kp_dis (by decide) h9)) (fun k9 h9 => km2 k9 (kp_dis (by decide) h9)) hR.2⟩
  exact kk _ _ _ _ _ (Nat.le_add_right _ _) (Nat.le_add_right _ _) ⟨tp, _, _, _, _, _, _, _, _, _, hIX, hIM, hRn, hKx, hKm, hPx, hPm, hPo, hDx, hDm, hDo, jxm, jxo, jmo⟩ hS (lv_sub hl [0, 1, 2, 3, 4] rfl)

set_option maxHeartbeats 4000000 in
set_option maxRecDepth 100000 in
theorem lc_40 {p : Program} {l : Launch} {e : Env} {s : State} {m : MethodId} {below : List Frame} {meth : Method} {c : Code} {b L : Nat} {xs : Nat → Int32} {A : Nat → Prop} {dC : Nat → ClassId} {dI : Nat → Nat → Nat} (hl0 : l.stackTraces = false) (hL : L ≤ 3072) (hA : ∀ q, s.heap.size ≤ q → A q) (hA2 : ∀ q, A q → s.heap.size ≤ q) (C0 : lw_At p s m meth c b L xs) (sd : Nat → Nat) (sa : Nat) (hE : lg_E A sd sa s) (x mo oa : Nat) (ko : ClassId) (hKo : va_K (dC, dI) vwCl [(ko, .long)] s) (i : Int32) (hi0 : (0 : Int) ≤ i.toInt) (hi6 : i.toInt + 6 ≤ (L : Int)) {H : Heap} {locs : List Loc} {cells slots : Nat} (hc9 : cells + 1 ≤ 601024) (hs9 : slots + 6 ≤ 7293034) (hG : lg_S dC dI A s x mo oa ko H) (hS : va_S A s.heap H locs) {ls : Array Slot} (hl : lv_has ls 7 [(4, .int i), (3, .ref oa), (2, .ref mo), (1, .ref x), (0, .ref b)])
    (kk : ∀ (H : Heap) (locs : List Loc) (ls : Array Slot) (k9 n9 : Nat), k9 ≤ cells + 1 → n9 ≤ slots + 6 → lg_S dC dI A s x mo oa ko H → va_S A s.heap H locs → lv_has ls 7 [(4, .int i), (3, .ref oa), (2, .ref mo), (1, .ref x), (0, .ref b)] → W p l e room_1 s m #[Value.ref b] below meth c H locs k9 n9 (lw_Z below #[Value.ref b] s) (F0 m 1941 ls [])) : W p l e room_1 s m #[Value.ref b] below meth c H locs cells slots (lw_Z below #[Value.ref b] s) (F0 m 1324 ls []) := by
  obtain ⟨hx, hb, hr, hml, hown0, htl, hX, hbl, hlocks, hgv⟩ := id C0
  have hown : s.vm.findClass RL = some m.cls := hown0
  have hts : ∀ w ∈ wlT, w.before #[Value.ref b] s = true := fun w h => htl w (wlT_in w h)
  have hbA : ¬ A b := fun h => absurd (hA2 b h) (Nat.not_le.mpr hbl)
  obtain ⟨tp, wx, wm, tx, tm, fo, vi, vf, vm, vn, hIX, hIM, hR, hKx, hKm, hPx, hPm, hPo, hDx, hDm, hDo, jxm, jxo, jmo⟩ := hG
  have hiM : i.toInt ≤ (3066 : Int) := by omega
  have hcc : cells ≤ 601024 := by omega
  have hss : slots ≤ 7293034 := by omega
  have htpb := ix_tp hIX
  have hMo := im_mo hIM
  refine lv_aload_n hx hb dL_law_1324 rfl (lv_at hl 3 rfl) ?_
  refine lv_aload_n hx hb dL_law_1325 rfl (lv_at hl 4 rfl) ?_
  refine lv_iload hx hb dL_law_1326 (lv_at hl 0 rfl) ?_
  refine lv_iconst (v := 1) hx hb dL_law_1328 zk_iconst_1 ?_
  refine lv_iadd hx hb dL_law_1329 ?_
  refine lv_topi (fun ix1 eix1 => ?_)
  have qix1 : ix1.toInt = i.toInt + 1 := ai_add eix1 ⟨hi0, hiM⟩ ⟨zq1, zq0⟩ (by decide) (by decide)
  refine va_sld (L := L) (i := ix1) hx hb hX hbl hbA hS (vp_in_iff.mpr ⟨by omega, by omega⟩) dL_law_1330 ?_
  refine lv_topi (fun vix1 evix1 => ?_)
  refine lv_aload_n hx hb dL_law_1331 rfl (lv_at hl 4 rfl) ?_
  refine lv_iload hx hb dL_law_1332 (lv_at hl 0 rfl) ?_
  refine lv_iconst (v := 2) hx hb dL_law_1334 zk_iconst_2 ?_
  refine lv_iadd hx hb dL_law_1335 ?_
  refine lv_topi (fun ix2 eix2 => ?_)
  have qix2 : ix2.toInt = i.toInt + 2 := ai_add eix2 ⟨hi0, hiM⟩ ⟨zq12, zq13⟩ (by decide) (by decide)
  refine va_sld (L := L) (i := ix2) hx hb hX hbl hbA hS (vp_in_iff.mpr ⟨by omega, by omega⟩) dL_law_1336 ?_
  refine lv_topi (fun vix2 evix2 => ?_)
  have hFc := lg_free hDx hS hA
  obtain ⟨fs1337, hfs1337⟩ := ix_recv hIX
  refine va_calli (va_runV (As := [.int vix1, .int vix2]) (rest := []) ⟨hx, hb, hml, hown, hts⟩ (k_X7_lawFor l dC dI H.size x tp vi vf wx tx hIX vix1 vix2) (cwV 2 hts gd_X7_lawFor rfl rfl rfl (by decide +kernel) ⟨Nat.le_of_ble_eq_true rfl, Nat.le_of_ble_eq_true rfl⟩) ⟨ax_blind (fun _ _ _ _ _ => trivial), va_recv hKx hPx (ci := 7) (q0 := 0) rfl hfs1337, ax_preE hPx hKx hDx (fun _ _ _ => trivial)⟩ rfl rfl hl.1 rfl (lv_room (Nat.le_of_ble_eq_true rfl)) dL_law_1337 ⟨hcc, hss⟩) hS (fun q _ h => hFc q h) hFc (fun r1337 u t H1 locs ht hvm hw1337 hB hz1 hk1 hS => ?_)
  obtain ⟨wxn, txn, ⟨vi1, vf1, kx1, kx2, hI1⟩, hP1, hK1, hD1⟩ := hB
  rw [ht] at hP1
  have hK1 := va_K.moved hvm.symm hK1
  obtain ⟨hPm, jxm⟩ := lg_step hPm jxm hk1 hD1
  obtain ⟨hPo, jxo⟩ := lg_step hPo jxo hk1 hD1
  have hD1 := hD1.weaken (fun _ _ _ h9 => hFc _ h9)
  clear hPx hDx hKx hFc hk1 hz1 hfs1337
  have hIX := hI1; have hPx := hP1; have hDx := hD1; have hKx := hK1; clear hI1 hP1 hD1 hK1
  clear ht; generalize H1 = H at hPx hPm hPo hS ⊢
  refine lv_pop hx hb dL_law_1340 rfl ?_
  refine lv_aload_n hx hb dL_law_1341 rfl (lv_at hl 2 rfl) ?_
  refine lv_aload_n hx hb dL_law_1342 rfl (lv_at hl 4 rfl) ?_
  refine lv_iload hx hb dL_law_1343 (lv_at hl 0 rfl) ?_
  refine lv_iconst (v := 1) hx hb dL_law_1345 zk_iconst_1 ?_
  refine lv_iadd hx hb dL_law_1346 ?_
  refine ax_ti ix1 eix1.symm ?_
  refine va_sld (L := L) (i := ix1) hx hb hX hbl hbA hS (vp_in_iff.mpr ⟨by omega, by omega⟩) dL_law_1347 ?_
  refine ax_ti vix1 evix1.symm ?_
  refine lv_aload_n hx hb dL_law_1348 rfl (lv_at hl 4 rfl) ?_
  refine lv_iload hx hb dL_law_1349 (lv_at hl 0 rfl) ?_
  refine lv_iconst (v := 2) hx hb dL_law_1351 zk_iconst_2 ?_
  refine lv_iadd hx hb dL_law_1352 ?_
  refine ax_ti ix2 eix2.symm ?_
  refine va_sld (L := L) (i := ix2) hx hb hX hbl hbA hS (vp_in_iff.mpr ⟨by omega, by omega⟩) dL_law_1353 ?_
  refine ax_ti vix2 evix2.symm ?_
  have hFc := lg_free hDm hS hA
  obtain ⟨fs1354, hfs1354⟩ := im_recv hIM
  refine va_calli (va_runV (As := [.int vix1, .int vix2]) (rest := []) ⟨hx, hb, hml, hown, hts⟩ (k_X8_lawFor l dC dI H.size mo tp vm vn wm tm hIM vix1 vix2) (cwV 2 hts gd_X8_lawFor rfl rfl rfl (by decide +kernel) ⟨Nat.le_of_ble_eq_true rfl, Nat.le_of_ble_eq_true rfl⟩) ⟨ax_blind (fun _ _ _ _ _ => trivial), va_recv hKm hPm (ci := 8) (q0 := 0) rfl hfs1354, ax_preE hPm hKm hDm (fun _ _ _ => trivial)⟩ rfl rfl hl.1 rfl (lv_room (Nat.le_of_ble_eq_true rfl)) dL_law_1354 ⟨hcc, hss⟩) hS (fun q _ h => hFc q h) hFc (fun r1354 u t H1 locs ht hvm hw1354 hB hz1 hk1 hS => ?_)
  obtain ⟨wmn, tmn, ⟨vm1, vn1, km1, km2, hI1⟩, hP1, hK1, hD1⟩ := hB
  rw [ht] at hP1
  have hK1 := va_K.moved hvm.symm hK1
  obtain ⟨hPx, jmx⟩ := lg_step hPx (dj_symm jxm) hk1 hD1
  have jxm := dj_symm jmx
  obtain ⟨hPo, jmo⟩ := lg_step hPo jmo hk1 hD1
  have hD1 := hD1.weaken (fun _ _ _ h9 => hFc _ h9)
  clear hPm hDm hKm hFc hk1 hz1 hfs1354
  have hIM := hI1; have hPm := hP1; have hDm := hD1; have hKm := hK1; clear hI1 hP1 hD1 hK1
  clear ht; generalize H1 = H at hPx hPm hPo hS ⊢
  refine lv_pop hx hb dL_law_1357 rfl ?_
  refine lv_goto (tgt := 1941) hx hb dL_law_1358 (by decide) ?_
  have hRn : lr_R tp vi1 vf1 vm1 vn1 := ⟨by rw [kx2 0 (by decide), km2 0 (by decide)]; exact hR.1, lr_keep (fun k9 h9 => kx1 k9 (kp_dis (by decide) h9)) (fun k9 h8 h9 => kx1 k9 (kp_out (a := 57) (b := 152) (by decide) h8 h9)) (fun k9 h9 => kx2 k9 (kp_dis (by decide) h9)) (fun k9 h8 h9 => kx2 k9 (kp_out (a := 23) (b := 61) (by decide) h8 h9)) (fun k9 h9 => km1 k9 (kp_dis (by decide) h9)) (fun k9 h9 => km2 k9 (kp_dis (by decide) h9)) hR.2⟩
  exact kk _ _ _ _ _ (Nat.le_add_right _ _) (Nat.le_add_right _ _) ⟨tp, _, _, _, _, _, _, _, _, _, hIX, hIM, hRn, hKx, hKm, hPx, hPm, hPo, hDx, hDm, hDo, jxm, jxo, jmo⟩ hS (lv_sub hl [0, 1, 2, 3, 4] rfl)

set_option maxHeartbeats 4000000 in
set_option maxRecDepth 100000 in
theorem lc_41 {p : Program} {l : Launch} {e : Env} {s : State} {m : MethodId} {below : List Frame} {meth : Method} {c : Code} {b L : Nat} {xs : Nat → Int32} {A : Nat → Prop} {dC : Nat → ClassId} {dI : Nat → Nat → Nat} (hl0 : l.stackTraces = false) (hL : L ≤ 3072) (hA : ∀ q, s.heap.size ≤ q → A q) (hA2 : ∀ q, A q → s.heap.size ≤ q) (C0 : lw_At p s m meth c b L xs) (sd : Nat → Nat) (sa : Nat) (hE : lg_E A sd sa s) (x mo oa : Nat) (ko : ClassId) (hKo : va_K (dC, dI) vwCl [(ko, .long)] s) (i : Int32) (hi0 : (0 : Int) ≤ i.toInt) (hi6 : i.toInt + 6 ≤ (L : Int)) {H : Heap} {locs : List Loc} {cells slots : Nat} (hc9 : cells + 1 ≤ 601024) (hs9 : slots + 6 ≤ 7293034) (hG : lg_S dC dI A s x mo oa ko H) (hS : va_S A s.heap H locs) {ls : Array Slot} (hl : lv_has ls 7 [(4, .int i), (3, .ref oa), (2, .ref mo), (1, .ref x), (0, .ref b)])
    (kk : ∀ (H : Heap) (locs : List Loc) (ls : Array Slot) (k9 n9 : Nat), k9 ≤ cells + 1 → n9 ≤ slots + 6 → lg_S dC dI A s x mo oa ko H → va_S A s.heap H locs → lv_has ls 7 [(4, .int i), (3, .ref oa), (2, .ref mo), (1, .ref x), (0, .ref b)] → W p l e room_1 s m #[Value.ref b] below meth c H locs k9 n9 (lw_Z below #[Value.ref b] s) (F0 m 1941 ls [])) : W p l e room_1 s m #[Value.ref b] below meth c H locs cells slots (lw_Z below #[Value.ref b] s) (F0 m 1361 ls []) := by
  obtain ⟨hx, hb, hr, hml, hown0, htl, hX, hbl, hlocks, hgv⟩ := id C0
  have hown : s.vm.findClass RL = some m.cls := hown0
  have hts : ∀ w ∈ wlT, w.before #[Value.ref b] s = true := fun w h => htl w (wlT_in w h)
  have hbA : ¬ A b := fun h => absurd (hA2 b h) (Nat.not_le.mpr hbl)
  obtain ⟨tp, wx, wm, tx, tm, fo, vi, vf, vm, vn, hIX, hIM, hR, hKx, hKm, hPx, hPm, hPo, hDx, hDm, hDo, jxm, jxo, jmo⟩ := hG
  have hiM : i.toInt ≤ (3066 : Int) := by omega
  have hcc : cells ≤ 601024 := by omega
  have hss : slots ≤ 7293034 := by omega
  have htpb := ix_tp hIX
  have hMo := im_mo hIM
  refine lv_aload_n hx hb dL_law_1361 rfl (lv_at hl 3 rfl) ?_
  have hFc := lg_free hDx hS hA
  obtain ⟨fs1362, hfs1362⟩ := ix_recv hIX
  refine va_calli (va_runV (As := []) (rest := []) ⟨hx, hb, hml, hown, hts⟩ (k_X7_judge l dC dI H.size x tp vi vf wx tx hIX ) (cwV 0 hts gd_X7_judge rfl rfl rfl (by decide +kernel) ⟨Nat.le_of_ble_eq_true rfl, Nat.le_of_ble_eq_true rfl⟩) ⟨ax_blind (fun _ _ _ _ hq => va_Nw.same rfl rfl (hq)), va_recv hKx hPx (ci := 7) (q0 := 0) rfl hfs1362, ax_preE hPx hKx hDx (fun U hU hW => va_Nw.warmM hW (hE.2.2.2.2.2.2.1))⟩ rfl rfl hl.1 rfl (lv_room (Nat.le_of_ble_eq_true rfl)) dL_law_1362 ⟨hcc, hss⟩) hS (fun q _ h => hFc q h) hFc (fun r1362 u t H1 locs ht hvm hw1362 hB hz1 hk1 hS => ?_)
  obtain ⟨wxn, txn, ⟨vi1, vf1, kx1, kx2, hI1⟩, hP1, hK1, hD1⟩ := hB
  rw [ht] at hP1
  have hK1 := va_K.moved hvm.symm hK1
  obtain ⟨hPm, jxm⟩ := lg_step hPm jxm hk1 hD1
  obtain ⟨hPo, jxo⟩ := lg_step hPo jxo hk1 hD1
  have hD1 := hD1.weaken (fun _ _ _ h9 => hFc _ h9)
  clear hPx hDx hKx hFc hk1 hz1 hfs1362
  have hIX := hI1; have hPx := hP1; have hDx := hD1; have hKx := hK1; clear hI1 hP1 hD1 hK1
  clear ht; generalize H1 = H at hPx hPm hPo hS ⊢
  refine lv_pop hx hb dL_law_1365 rfl ?_
  refine lv_aload_n hx hb dL_law_1366 rfl (lv_at hl 2 rfl) ?_
  have hFc := lg_free hDm hS hA
  obtain ⟨fs1367, hfs1367⟩ := im_recv hIM
  refine va_calli (va_runV (As := []) (rest := []) ⟨hx, hb, hml, hown, hts⟩ (k_X8_judge l dC dI H.size mo tp vm vn wm tm hIM ) (cwV 0 hts gd_X8_judge rfl rfl rfl (by decide +kernel) ⟨Nat.le_of_ble_eq_true rfl, Nat.le_of_ble_eq_true rfl⟩) ⟨ax_blind (fun _ _ _ _ _ => trivial), va_recv hKm hPm (ci := 8) (q0 := 0) rfl hfs1367, ax_preE hPm hKm hDm (fun _ _ _ => trivial)⟩ rfl rfl hl.1 rfl (lv_room (Nat.le_of_ble_eq_true rfl)) dL_law_1367 ⟨hcc, hss⟩) hS (fun q _ h => hFc q h) hFc (fun r1367 u t H1 locs ht hvm hw1367 hB hz1 hk1 hS => ?_)
  obtain ⟨wmn, tmn, ⟨vm1, vn1, km1, km2, hI1⟩, hP1, hK1, hD1⟩ := hB
  rw [ht] at hP1
  have hK1 := va_K.moved hvm.symm hK1
  obtain ⟨hPx, jmx⟩ := lg_step hPx (dj_symm jxm) hk1 hD1
  have jxm := dj_symm jmx
  obtain ⟨hPo, jmo⟩ := lg_step hPo jmo hk1 hD1
  have hD1 := hD1.weaken (fun _ _ _ h9 => hFc _ h9)
  clear hPm hDm hKm hFc hk1 hz1 hfs1367
  have hIM := hI1; have hPm := hP1; have hDm := hD1; have hKm := hK1; clear hI1 hP1 hD1 hK1
  clear ht; generalize H1 = H at hPx hPm hPo hS ⊢
  refine lv_pop hx hb dL_law_1370 rfl ?_
  refine lv_goto (tgt := 1941) hx hb dL_law_1371 (by decide) ?_
  have hRn : lr_R tp vi1 vf1 vm1 vn1 := ⟨by rw [kx2 0 (by decide), km2 0 (by decide)]; exact hR.1, lr_keep (fun k9 h9 => kx1 k9 (kp_dis (by decide) h9)) (fun k9 h8 h9 => kx1 k9 (kp_out (a := 57) (b := 152) (by decide) h8 h9)) (fun k9 h9 => kx2 k9 (kp_dis (by decide) h9)) (fun k9 h8 h9 => kx2 k9 (kp_out (a := 23) (b := 61) (by decide) h8 h9)) (fun k9 h9 => km1 k9 (kp_dis (by decide) h9)) (fun k9 h9 => km2 k9 (kp_dis (by decide) h9)) hR.2⟩
  exact kk _ _ _ _ _ (Nat.le_add_right _ _) (Nat.le_add_right _ _) ⟨tp, _, _, _, _, _, _, _, _, _, hIX, hIM, hRn, hKx, hKm, hPx, hPm, hPo, hDx, hDm, hDo, jxm, jxo, jmo⟩ hS (lv_sub hl [0, 1, 2, 3, 4] rfl)

set_option maxHeartbeats 4000000 in
set_option maxRecDepth 100000 in
theorem lc_42 {p : Program} {l : Launch} {e : Env} {s : State} {m : MethodId} {below : List Frame} {meth : Method} {c : Code} {b L : Nat} {xs : Nat → Int32} {A : Nat → Prop} {dC : Nat → ClassId} {dI : Nat → Nat → Nat} (hl0 : l.stackTraces = false) (hL : L ≤ 3072) (hA : ∀ q, s.heap.size ≤ q → A q) (hA2 : ∀ q, A q → s.heap.size ≤ q) (C0 : lw_At p s m meth c b L xs) (sd : Nat → Nat) (sa : Nat) (hE : lg_E A sd sa s) (x mo oa : Nat) (ko : ClassId) (hKo : va_K (dC, dI) vwCl [(ko, .long)] s) (i : Int32) (hi0 : (0 : Int) ≤ i.toInt) (hi6 : i.toInt + 6 ≤ (L : Int)) {H : Heap} {locs : List Loc} {cells slots : Nat} (hc9 : cells + 1 ≤ 601024) (hs9 : slots + 6 ≤ 7293034) (hG : lg_S dC dI A s x mo oa ko H) (hS : va_S A s.heap H locs) {ls : Array Slot} (hl : lv_has ls 7 [(4, .int i), (3, .ref oa), (2, .ref mo), (1, .ref x), (0, .ref b)])
    (kk : ∀ (H : Heap) (locs : List Loc) (ls : Array Slot) (k9 n9 : Nat), k9 ≤ cells + 1 → n9 ≤ slots + 6 → lg_S dC dI A s x mo oa ko H → va_S A s.heap H locs → lv_has ls 7 [(4, .int i), (3, .ref oa), (2, .ref mo), (1, .ref x), (0, .ref b)] → W p l e room_1 s m #[Value.ref b] below meth c H locs k9 n9 (lw_Z below #[Value.ref b] s) (F0 m 1941 ls [])) : W p l e room_1 s m #[Value.ref b] below meth c H locs cells slots (lw_Z below #[Value.ref b] s) (F0 m 1374 ls []) := by
  obtain ⟨hx, hb, hr, hml, hown0, htl, hX, hbl, hlocks, hgv⟩ := id C0
  have hown : s.vm.findClass RL = some m.cls := hown0
  have hts : ∀ w ∈ wlT, w.before #[Value.ref b] s = true := fun w h => htl w (wlT_in w h)
  have hbA : ¬ A b := fun h => absurd (hA2 b h) (Nat.not_le.mpr hbl)
  obtain ⟨tp, wx, wm, tx, tm, fo, vi, vf, vm, vn, hIX, hIM, hR, hKx, hKm, hPx, hPm, hPo, hDx, hDm, hDo, jxm, jxo, jmo⟩ := hG
  have hiM : i.toInt ≤ (3066 : Int) := by omega
  have hcc : cells ≤ 601024 := by omega
  have hss : slots ≤ 7293034 := by omega
  have htpb := ix_tp hIX
  have hMo := im_mo hIM
  refine lv_aload_n hx hb dL_law_1374 rfl (lv_at hl 3 rfl) ?_
  refine lv_aload_n hx hb dL_law_1375 rfl (lv_at hl 4 rfl) ?_
  refine lv_iload hx hb dL_law_1376 (lv_at hl 0 rfl) ?_
  refine lv_iconst (v := 1) hx hb dL_law_1378 zk_iconst_1 ?_
  refine lv_iadd hx hb dL_law_1379 ?_
  refine lv_topi (fun ix1 eix1 => ?_)
  have qix1 : ix1.toInt = i.toInt + 1 := ai_add eix1 ⟨hi0, hiM⟩ ⟨zq1, zq0⟩ (by decide) (by decide)
  refine va_sld (L := L) (i := ix1) hx hb hX hbl hbA hS (vp_in_iff.mpr ⟨by omega, by omega⟩) dL_law_1380 ?_
  refine lv_topi (fun vix1 evix1 => ?_)
  refine lv_aload_n hx hb dL_law_1381 rfl (lv_at hl 4 rfl) ?_
  refine lv_iload hx hb dL_law_1382 (lv_at hl 0 rfl) ?_
  refine lv_iconst (v := 2) hx hb dL_law_1384 zk_iconst_2 ?_
  refine lv_iadd hx hb dL_law_1385 ?_
  refine lv_topi (fun ix2 eix2 => ?_)
  have qix2 : ix2.toInt = i.toInt + 2 := ai_add eix2 ⟨hi0, hiM⟩ ⟨zq12, zq13⟩ (by decide) (by decide)
  refine va_sld (L := L) (i := ix2) hx hb hX hbl hbA hS (vp_in_iff.mpr ⟨by omega, by omega⟩) dL_law_1386 ?_
  refine lv_topi (fun vix2 evix2 => ?_)
  refine lv_if_eq (tgt := 1394) hx hb dL_law_1387 (by decide) (fun c_1 => ?_) (fun c_1 => ?_)
  · refine lv_iconst (v := 0) hx hb dL_law_1394 zk_iconst_0 ?_
    refine lv_aload_n hx hb dL_law_1395 rfl (lv_at hl 4 rfl) ?_
    refine lv_iload hx hb dL_law_1396 (lv_at hl 0 rfl) ?_
    refine lv_iconst (v := 3) hx hb dL_law_1398 zk_iconst_3 ?_
    refine lv_iadd hx hb dL_law_1399 ?_
    refine lv_topi (fun ix3 eix3 => ?_)
    have qix3 : ix3.toInt = i.toInt + 3 := ai_add eix3 ⟨hi0, hiM⟩ ⟨zq8, zq9⟩ (by decide) (by decide)
    refine va_sld (L := L) (i := ix3) hx hb hX hbl hbA hS (vp_in_iff.mpr ⟨by omega, by omega⟩) dL_law_1400 ?_
    refine lv_topi (fun vix3 evix3 => ?_)
    refine lv_if_eq (tgt := 1408) hx hb dL_law_1401 (by decide) (fun c_2 => ?_) (fun c_2 => ?_)
    · refine lv_iconst (v := 0) hx hb dL_law_1408 zk_iconst_0 ?_
      refine lv_aload_n hx hb dL_law_1409 rfl (lv_at hl 4 rfl) ?_
      refine lv_iload hx hb dL_law_1410 (lv_at hl 0 rfl) ?_
      refine lv_iconst (v := 4) hx hb dL_law_1412 zk_iconst_4 ?_
      refine lv_iadd hx hb dL_law_1413 ?_
      refine lv_topi (fun ix4 eix4 => ?_)
      have qix4 : ix4.toInt = i.toInt + 4 := ai_add eix4 ⟨hi0, hiM⟩ ⟨zq68, zq67⟩ (by decide) (by decide)
      refine va_sld (L := L) (i := ix4) hx hb hX hbl hbA hS (vp_in_iff.mpr ⟨by omega, by omega⟩) dL_law_1414 ?_
      refine lv_topi (fun vix4 evix4 => ?_)
      refine lv_if_eq (tgt := 1422) hx hb dL_law_1415 (by decide) (fun c_3 => ?_) (fun c_3 => ?_)
      · refine lv_iconst (v := 0) hx hb dL_law_1422 zk_iconst_0 ?_
        have hFc := lg_free hDx hS hA
        obtain ⟨fs1423, hfs1423⟩ := ix_recv hIX
        refine va_calli (va_runV (As := [.int vix1, .int 0, .int 0, .int 0]) (rest := []) ⟨hx, hb, hml, hown, hts⟩ (k_X7_dares l dC dI H.size x tp vi vf wx tx hIX vix1 0 0 0) (cwV 4 hts gd_X7_dares rfl rfl rfl (by decide +kernel) ⟨Nat.le_of_ble_eq_true rfl, Nat.le_of_ble_eq_true rfl⟩) ⟨ax_blind (fun _ _ _ _ _ => trivial), va_recv hKx hPx (ci := 7) (q0 := 0) rfl hfs1423, ax_preE hPx hKx hDx (fun _ _ _ => trivial)⟩ rfl rfl hl.1 rfl (lv_room (Nat.le_of_ble_eq_true rfl)) dL_law_1423 ⟨hcc, hss⟩) hS (fun q _ h => hFc q h) hFc (fun r1423 u t H1 locs ht hvm hw1423 hB hz1 hk1 hS => ?_)
        obtain ⟨wxn, txn, ⟨vi1, vf1, kx1, kx2, hI1⟩, hP1, hK1, hD1⟩ := hB
        rw [ht] at hP1
        have hK1 := va_K.moved hvm.symm hK1
        obtain ⟨hPm, jxm⟩ := lg_step hPm jxm hk1 hD1
        obtain ⟨hPo, jxo⟩ := lg_step hPo jxo hk1 hD1
        have hD1 := hD1.weaken (fun _ _ _ h9 => hFc _ h9)
        clear hPx hDx hKx hFc hk1 hz1 hfs1423
        have hIX := hI1; have hPx := hP1; have hDx := hD1; have hKx := hK1; clear hI1 hP1 hD1 hK1
        clear ht; generalize H1 = H at hPx hPm hPo hS ⊢
        refine lv_pop hx hb dL_law_1426 rfl ?_
        refine lv_aload_n hx hb dL_law_1427 rfl (lv_at hl 2 rfl) ?_
        refine lv_aload_n hx hb dL_law_1428 rfl (lv_at hl 4 rfl) ?_
        refine lv_iload hx hb dL_law_1429 (lv_at hl 0 rfl) ?_
        refine lv_iconst (v := 1) hx hb dL_law_1431 zk_iconst_1 ?_
        refine lv_iadd hx hb dL_law_1432 ?_
        refine ax_ti ix1 eix1.symm ?_
        refine va_sld (L := L) (i := ix1) hx hb hX hbl hbA hS (vp_in_iff.mpr ⟨by omega, by omega⟩) dL_law_1433 ?_
        refine ax_ti vix1 evix1.symm ?_
        refine lv_aload_n hx hb dL_law_1434 rfl (lv_at hl 4 rfl) ?_
        refine lv_iload hx hb dL_law_1435 (lv_at hl 0 rfl) ?_
        refine lv_iconst (v := 2) hx hb dL_law_1437 zk_iconst_2 ?_
        refine lv_iadd hx hb dL_law_1438 ?_
        refine ax_ti ix2 eix2.symm ?_
        refine va_sld (L := L) (i := ix2) hx hb hX hbl hbA hS (vp_in_iff.mpr ⟨by omega, by omega⟩) dL_law_1439 ?_
        refine ax_ti vix2 evix2.symm ?_
        refine lv_if_eq (tgt := 1447) hx hb dL_law_1440 (by decide) (fun _ => ?_) (fun c_4 => absurd c_1 c_4)
        refine lv_iconst (v := 0) hx hb dL_law_1447 zk_iconst_0 ?_
        refine lv_aload_n hx hb dL_law_1448 rfl (lv_at hl 4 rfl) ?_
        refine lv_iload hx hb dL_law_1449 (lv_at hl 0 rfl) ?_
        refine lv_iconst (v := 3) hx hb dL_law_1451 zk_iconst_3 ?_
        refine lv_iadd hx hb dL_law_1452 ?_
        refine ax_ti ix3 eix3.symm ?_
        refine va_sld (L := L) (i := ix3) hx hb hX hbl hbA hS (vp_in_iff.mpr ⟨by omega, by omega⟩) dL_law_1453 ?_
        refine ax_ti vix3 evix3.symm ?_
        refine lv_if_eq (tgt := 1461) hx hb dL_law_1454 (by decide) (fun _ => ?_) (fun c_5 => absurd c_2 c_5)
        refine lv_iconst (v := 0) hx hb dL_law_1461 zk_iconst_0 ?_
        refine lv_aload_n hx hb dL_law_1462 rfl (lv_at hl 4 rfl) ?_
        refine lv_iload hx hb dL_law_1463 (lv_at hl 0 rfl) ?_
        refine lv_iconst (v := 4) hx hb dL_law_1465 zk_iconst_4 ?_
        refine lv_iadd hx hb dL_law_1466 ?_
        refine ax_ti ix4 eix4.symm ?_
        refine va_sld (L := L) (i := ix4) hx hb hX hbl hbA hS (vp_in_iff.mpr ⟨by omega, by omega⟩) dL_law_1467 ?_
        refine ax_ti vix4 evix4.symm ?_
        refine lv_if_eq (tgt := 1475) hx hb dL_law_1468 (by decide) (fun _ => ?_) (fun c_6 => absurd c_3 c_6)
        refine lv_iconst (v := 0) hx hb dL_law_1475 zk_iconst_0 ?_
        have hFc := lg_free hDm hS hA
        obtain ⟨fs1476, hfs1476⟩ := im_recv hIM
        refine va_calli (va_runV (As := [.int vix1, .int 0, .int 0, .int 0]) (rest := []) ⟨hx, hb, hml, hown, hts⟩ (k_X8_dares l dC dI H.size mo tp vm vn wm tm hIM vix1 0 0 0) (cwV 4 hts gd_X8_dares rfl rfl rfl (by decide +kernel) ⟨Nat.le_of_ble_eq_true rfl, Nat.le_of_ble_eq_true rfl⟩) ⟨ax_blind (fun _ _ _ _ _ => trivial), va_recv hKm hPm (ci := 8) (q0 := 0) rfl hfs1476, ax_preE hPm hKm hDm (fun _ _ _ => trivial)⟩ rfl rfl hl.1 rfl (lv_room (Nat.le_of_ble_eq_true rfl)) dL_law_1476 ⟨hcc, hss⟩) hS (fun q _ h => hFc q h) hFc (fun r1476 u t H1 locs ht hvm hw1476 hB hz1 hk1 hS => ?_)
        obtain ⟨wmn, tmn, ⟨vm1, vn1, km1, km2, hI1⟩, hP1, hK1, hD1⟩ := hB
        rw [ht] at hP1
        have hK1 := va_K.moved hvm.symm hK1
        obtain ⟨hPx, jmx⟩ := lg_step hPx (dj_symm jxm) hk1 hD1
        have jxm := dj_symm jmx
        obtain ⟨hPo, jmo⟩ := lg_step hPo jmo hk1 hD1
        have hD1 := hD1.weaken (fun _ _ _ h9 => hFc _ h9)
        clear hPm hDm hKm hFc hk1 hz1 hfs1476
        have hIM := hI1; have hPm := hP1; have hDm := hD1; have hKm := hK1; clear hI1 hP1 hD1 hK1
        clear ht; generalize H1 = H at hPx hPm hPo hS ⊢
        refine lv_pop hx hb dL_law_1479 rfl ?_
        refine lv_goto (tgt := 1941) hx hb dL_law_1480 (by decide) ?_
        have hRn : lr_R tp vi1 vf1 vm1 vn1 := ⟨by rw [kx2 0 (by decide), km2 0 (by decide)]; exact hR.1, lr_keep (fun k9 h9 => kx1 k9 (kp_dis (by decide) h9)) (fun k9 h8 h9 => kx1 k9 (kp_out (a := 57) (b := 152) (by decide) h8 h9)) (fun k9 h9 => kx2 k9 (kp_dis (by decide) h9)) (fun k9 h8 h9 => kx2 k9 (kp_out (a := 23) (b := 61) (by decide) h8 h9)) (fun k9 h9 => km1 k9 (kp_dis (by decide) h9)) (fun k9 h9 => km2 k9 (kp_dis (by decide) h9)) hR.2⟩
        exact kk _ _ _ _ _ (Nat.le_add_right _ _) (Nat.le_add_right _ _) ⟨tp, _, _, _, _, _, _, _, _, _, hIX, hIM, hRn, hKx, hKm, hPx, hPm, hPo, hDx, hDm, hDo, jxm, jxo, jmo⟩ hS (lv_sub hl [0, 1, 2, 3, 4] rfl)
      · refine lv_iconst (v := 1) hx hb dL_law_1418 zk_iconst_1 ?_
        refine lv_goto (tgt := 1423) hx hb dL_law_1419 (by decide) ?_
        have hFc := lg_free hDx hS hA
        obtain ⟨fs1423, hfs1423⟩ := ix_recv hIX
        refine va_calli (va_runV (As := [.int vix1, .int 0, .int 0, .int 1]) (rest := []) ⟨hx, hb, hml, hown, hts⟩ (k_X7_dares l dC dI H.size x tp vi vf wx tx hIX vix1 0 0 1) (cwV 4 hts gd_X7_dares rfl rfl rfl (by decide +kernel) ⟨Nat.le_of_ble_eq_true rfl, Nat.le_of_ble_eq_true rfl⟩) ⟨ax_blind (fun _ _ _ _ _ => trivial), va_recv hKx hPx (ci := 7) (q0 := 0) rfl hfs1423, ax_preE hPx hKx hDx (fun _ _ _ => trivial)⟩ rfl rfl hl.1 rfl (lv_room (Nat.le_of_ble_eq_true rfl)) dL_law_1423 ⟨hcc, hss⟩) hS (fun q _ h => hFc q h) hFc (fun r1423 u t H1 locs ht hvm hw1423 hB hz1 hk1 hS => ?_)
        obtain ⟨wxn, txn, ⟨vi1, vf1, kx1, kx2, hI1⟩, hP1, hK1, hD1⟩ := hB
        rw [ht] at hP1
        have hK1 := va_K.moved hvm.symm hK1
        obtain ⟨hPm, jxm⟩ := lg_step hPm jxm hk1 hD1
        obtain ⟨hPo, jxo⟩ := lg_step hPo jxo hk1 hD1
        have hD1 := hD1.weaken (fun _ _ _ h9 => hFc _ h9)
        clear hPx hDx hKx hFc hk1 hz1 hfs1423
        have hIX := hI1; have hPx := hP1; have hDx := hD1; have hKx := hK1; clear hI1 hP1 hD1 hK1
        clear ht; generalize H1 = H at hPx hPm hPo hS ⊢
        refine lv_pop hx hb dL_law_1426 rfl ?_
        refine lv_aload_n hx hb dL_law_1427 rfl (lv_at hl 2 rfl) ?_
        refine lv_aload_n hx hb dL_law_1428 rfl (lv_at hl 4 rfl) ?_
        refine lv_iload hx hb dL_law_1429 (lv_at hl 0 rfl) ?_
        refine lv_iconst (v := 1) hx hb dL_law_1431 zk_iconst_1 ?_
        refine lv_iadd hx hb dL_law_1432 ?_
        refine ax_ti ix1 eix1.symm ?_
        refine va_sld (L := L) (i := ix1) hx hb hX hbl hbA hS (vp_in_iff.mpr ⟨by omega, by omega⟩) dL_law_1433 ?_
        refine ax_ti vix1 evix1.symm ?_
        refine lv_aload_n hx hb dL_law_1434 rfl (lv_at hl 4 rfl) ?_
        refine lv_iload hx hb dL_law_1435 (lv_at hl 0 rfl) ?_
        refine lv_iconst (v := 2) hx hb dL_law_1437 zk_iconst_2 ?_
        refine lv_iadd hx hb dL_law_1438 ?_
        refine ax_ti ix2 eix2.symm ?_
        refine va_sld (L := L) (i := ix2) hx hb hX hbl hbA hS (vp_in_iff.mpr ⟨by omega, by omega⟩) dL_law_1439 ?_
        refine ax_ti vix2 evix2.symm ?_
        refine lv_if_eq (tgt := 1447) hx hb dL_law_1440 (by decide) (fun _ => ?_) (fun c_7 => absurd c_1 c_7)
        refine lv_iconst (v := 0) hx hb dL_law_1447 zk_iconst_0 ?_
        refine lv_aload_n hx hb dL_law_1448 rfl (lv_at hl 4 rfl) ?_
        refine lv_iload hx hb dL_law_1449 (lv_at hl 0 rfl) ?_
        refine lv_iconst (v := 3) hx hb dL_law_1451 zk_iconst_3 ?_
        refine lv_iadd hx hb dL_law_1452 ?_
        refine ax_ti ix3 eix3.symm ?_
        refine va_sld (L := L) (i := ix3) hx hb hX hbl hbA hS (vp_in_iff.mpr ⟨by omega, by omega⟩) dL_law_1453 ?_
        refine ax_ti vix3 evix3.symm ?_
        refine lv_if_eq (tgt := 1461) hx hb dL_law_1454 (by decide) (fun _ => ?_) (fun c_8 => absurd c_2 c_8)
        refine lv_iconst (v := 0) hx hb dL_law_1461 zk_iconst_0 ?_
        refine lv_aload_n hx hb dL_law_1462 rfl (lv_at hl 4 rfl) ?_
        refine lv_iload hx hb dL_law_1463 (lv_at hl 0 rfl) ?_
        refine lv_iconst (v := 4) hx hb dL_law_1465 zk_iconst_4 ?_
        refine lv_iadd hx hb dL_law_1466 ?_
        refine ax_ti ix4 eix4.symm ?_
        refine va_sld (L := L) (i := ix4) hx hb hX hbl hbA hS (vp_in_iff.mpr ⟨by omega, by omega⟩) dL_law_1467 ?_
        refine ax_ti vix4 evix4.symm ?_
        refine lv_if_eq (tgt := 1475) hx hb dL_law_1468 (by decide) (fun c_9 => absurd c_9 c_3) (fun _ => ?_)
        refine lv_iconst (v := 1) hx hb dL_law_1471 zk_iconst_1 ?_
        refine lv_goto (tgt := 1476) hx hb dL_law_1472 (by decide) ?_
        have hFc := lg_free hDm hS hA
        obtain ⟨fs1476, hfs1476⟩ := im_recv hIM
        refine va_calli (va_runV (As := [.int vix1, .int 0, .int 0, .int 1]) (rest := []) ⟨hx, hb, hml, hown, hts⟩ (k_X8_dares l dC dI H.size mo tp vm vn wm tm hIM vix1 0 0 1) (cwV 4 hts gd_X8_dares rfl rfl rfl (by decide +kernel) ⟨Nat.le_of_ble_eq_true rfl, Nat.le_of_ble_eq_true rfl⟩) ⟨ax_blind (fun _ _ _ _ _ => trivial), va_recv hKm hPm (ci := 8) (q0 := 0) rfl hfs1476, ax_preE hPm hKm hDm (fun _ _ _ => trivial)⟩ rfl rfl hl.1 rfl (lv_room (Nat.le_of_ble_eq_true rfl)) dL_law_1476 ⟨hcc, hss⟩) hS (fun q _ h => hFc q h) hFc (fun r1476 u t H1 locs ht hvm hw1476 hB hz1 hk1 hS => ?_)
        obtain ⟨wmn, tmn, ⟨vm1, vn1, km1, km2, hI1⟩, hP1, hK1, hD1⟩ := hB
        rw [ht] at hP1
        have hK1 := va_K.moved hvm.symm hK1
        obtain ⟨hPx, jmx⟩ := lg_step hPx (dj_symm jxm) hk1 hD1
        have jxm := dj_symm jmx
        obtain ⟨hPo, jmo⟩ := lg_step hPo jmo hk1 hD1
        have hD1 := hD1.weaken (fun _ _ _ h9 => hFc _ h9)
        clear hPm hDm hKm hFc hk1 hz1 hfs1476
        have hIM := hI1; have hPm := hP1; have hDm := hD1; have hKm := hK1; clear hI1 hP1 hD1 hK1
        clear ht; generalize H1 = H at hPx hPm hPo hS ⊢
        refine lv_pop hx hb dL_law_1479 rfl ?_
        refine lv_goto (tgt := 1941) hx hb dL_law_1480 (by decide) ?_
        have hRn : lr_R tp vi1 vf1 vm1 vn1 := ⟨by rw [kx2 0 (by decide), km2 0 (by decide)]; exact hR.1, lr_keep (fun k9 h9 => kx1 k9 (kp_dis (by decide) h9)) (fun k9 h8 h9 => kx1 k9 (kp_out (a := 57) (b := 152) (by decide) h8 h9)) (fun k9 h9 => kx2 k9 (kp_dis (by decide) h9)) (fun k9 h8 h9 => kx2 k9 (kp_out (a := 23) (b := 61) (by decide) h8 h9)) (fun k9 h9 => km1 k9 (kp_dis (by decide) h9)) (fun k9 h9 => km2 k9 (kp_dis (by decide) h9)) hR.2⟩
        exact kk _ _ _ _ _ (Nat.le_add_right _ _) (Nat.le_add_right _ _) ⟨tp, _, _, _, _, _, _, _, _, _, hIX, hIM, hRn, hKx, hKm, hPx, hPm, hPo, hDx, hDm, hDo, jxm, jxo, jmo⟩ hS (lv_sub hl [0, 1, 2, 3, 4] rfl)
    · refine lv_iconst (v := 1) hx hb dL_law_1404 zk_iconst_1 ?_
      refine lv_goto (tgt := 1409) hx hb dL_law_1405 (by decide) ?_
      refine lv_aload_n hx hb dL_law_1409 rfl (lv_at hl 4 rfl) ?_
      refine lv_iload hx hb dL_law_1410 (lv_at hl 0 rfl) ?_
      refine lv_iconst (v := 4) hx hb dL_law_1412 zk_iconst_4 ?_
      refine lv_iadd hx hb dL_law_1413 ?_
      refine lv_topi (fun ix4 eix4 => ?_)
      have qix4 : ix4.toInt = i.toInt + 4 := ai_add eix4 ⟨hi0, hiM⟩ ⟨zq68, zq67⟩ (by decide) (by decide)
      refine va_sld (L := L) (i := ix4) hx hb hX hbl hbA hS (vp_in_iff.mpr ⟨by omega, by omega⟩) dL_law_1414 ?_
      refine lv_topi (fun vix4 evix4 => ?_)
      refine lv_if_eq (tgt := 1422) hx hb dL_law_1415 (by decide) (fun c_10 => ?_) (fun c_10 => ?_)
      · refine lv_iconst (v := 0) hx hb dL_law_1422 zk_iconst_0 ?_
        have hFc := lg_free hDx hS hA
        obtain ⟨fs1423, hfs1423⟩ := ix_recv hIX
        refine va_calli (va_runV (As := [.int vix1, .int 0, .int 1, .int 0]) (rest := []) ⟨hx, hb, hml, hown, hts⟩ (k_X7_dares l dC dI H.size x tp vi vf wx tx hIX vix1 0 1 0) (cwV 4 hts gd_X7_dares rfl rfl rfl (by decide +kernel) ⟨Nat.le_of_ble_eq_true rfl, Nat.le_of_ble_eq_true rfl⟩) ⟨ax_blind (fun _ _ _ _ _ => trivial), va_recv hKx hPx (ci := 7) (q0 := 0) rfl hfs1423, ax_preE hPx hKx hDx (fun _ _ _ => trivial)⟩ rfl rfl hl.1 rfl (lv_room (Nat.le_of_ble_eq_true rfl)) dL_law_1423 ⟨hcc, hss⟩) hS (fun q _ h => hFc q h) hFc (fun r1423 u t H1 locs ht hvm hw1423 hB hz1 hk1 hS => ?_)
        obtain ⟨wxn, txn, ⟨vi1, vf1, kx1, kx2, hI1⟩, hP1, hK1, hD1⟩ := hB
        rw [ht] at hP1
        have hK1 := va_K.moved hvm.symm hK1
        obtain ⟨hPm, jxm⟩ := lg_step hPm jxm hk1 hD1
        obtain ⟨hPo, jxo⟩ := lg_step hPo jxo hk1 hD1
        have hD1 := hD1.weaken (fun _ _ _ h9 => hFc _ h9)
        clear hPx hDx hKx hFc hk1 hz1 hfs1423
        have hIX := hI1; have hPx := hP1; have hDx := hD1; have hKx := hK1; clear hI1 hP1 hD1 hK1
        clear ht; generalize H1 = H at hPx hPm hPo hS ⊢
        refine lv_pop hx hb dL_law_1426 rfl ?_
        refine lv_aload_n hx hb dL_law_1427 rfl (lv_at hl 2 rfl) ?_
        refine lv_aload_n hx hb dL_law_1428 rfl (lv_at hl 4 rfl) ?_
        refine lv_iload hx hb dL_law_1429 (lv_at hl 0 rfl) ?_
        refine lv_iconst (v := 1) hx hb dL_law_1431 zk_iconst_1 ?_
        refine lv_iadd hx hb dL_law_1432 ?_
        refine ax_ti ix1 eix1.symm ?_
        refine va_sld (L := L) (i := ix1) hx hb hX hbl hbA hS (vp_in_iff.mpr ⟨by omega, by omega⟩) dL_law_1433 ?_
        refine ax_ti vix1 evix1.symm ?_
        refine lv_aload_n hx hb dL_law_1434 rfl (lv_at hl 4 rfl) ?_
        refine lv_iload hx hb dL_law_1435 (lv_at hl 0 rfl) ?_
        refine lv_iconst (v := 2) hx hb dL_law_1437 zk_iconst_2 ?_
        refine lv_iadd hx hb dL_law_1438 ?_
        refine ax_ti ix2 eix2.symm ?_
        refine va_sld (L := L) (i := ix2) hx hb hX hbl hbA hS (vp_in_iff.mpr ⟨by omega, by omega⟩) dL_law_1439 ?_
        refine ax_ti vix2 evix2.symm ?_
        refine lv_if_eq (tgt := 1447) hx hb dL_law_1440 (by decide) (fun _ => ?_) (fun c_11 => absurd c_1 c_11)
        refine lv_iconst (v := 0) hx hb dL_law_1447 zk_iconst_0 ?_
        refine lv_aload_n hx hb dL_law_1448 rfl (lv_at hl 4 rfl) ?_
        refine lv_iload hx hb dL_law_1449 (lv_at hl 0 rfl) ?_
        refine lv_iconst (v := 3) hx hb dL_law_1451 zk_iconst_3 ?_
        refine lv_iadd hx hb dL_law_1452 ?_
        refine ax_ti ix3 eix3.symm ?_
        refine va_sld (L := L) (i := ix3) hx hb hX hbl hbA hS (vp_in_iff.mpr ⟨by omega, by omega⟩) dL_law_1453 ?_
        refine ax_ti vix3 evix3.symm ?_
        refine lv_if_eq (tgt := 1461) hx hb dL_law_1454 (by decide) (fun c_12 => absurd c_12 c_2) (fun _ => ?_)
        refine lv_iconst (v := 1) hx hb dL_law_1457 zk_iconst_1 ?_
        refine lv_goto (tgt := 1462) hx hb dL_law_1458 (by decide) ?_
        refine lv_aload_n hx hb dL_law_1462 rfl (lv_at hl 4 rfl) ?_
        refine lv_iload hx hb dL_law_1463 (lv_at hl 0 rfl) ?_
        refine lv_iconst (v := 4) hx hb dL_law_1465 zk_iconst_4 ?_
        refine lv_iadd hx hb dL_law_1466 ?_
        refine ax_ti ix4 eix4.symm ?_
        refine va_sld (L := L) (i := ix4) hx hb hX hbl hbA hS (vp_in_iff.mpr ⟨by omega, by omega⟩) dL_law_1467 ?_
        refine ax_ti vix4 evix4.symm ?_
        refine lv_if_eq (tgt := 1475) hx hb dL_law_1468 (by decide) (fun _ => ?_) (fun c_13 => absurd c_10 c_13)
        refine lv_iconst (v := 0) hx hb dL_law_1475 zk_iconst_0 ?_
        have hFc := lg_free hDm hS hA
        obtain ⟨fs1476, hfs1476⟩ := im_recv hIM
        refine va_calli (va_runV (As := [.int vix1, .int 0, .int 1, .int 0]) (rest := []) ⟨hx, hb, hml, hown, hts⟩ (k_X8_dares l dC dI H.size mo tp vm vn wm tm hIM vix1 0 1 0) (cwV 4 hts gd_X8_dares rfl rfl rfl (by decide +kernel) ⟨Nat.le_of_ble_eq_true rfl, Nat.le_of_ble_eq_true rfl⟩) ⟨ax_blind (fun _ _ _ _ _ => trivial), va_recv hKm hPm (ci := 8) (q0 := 0) rfl hfs1476, ax_preE hPm hKm hDm (fun _ _ _ => trivial)⟩ rfl rfl hl.1 rfl (lv_room (Nat.le_of_ble_eq_true rfl)) dL_law_1476 ⟨hcc, hss⟩) hS (fun q _ h => hFc q h) hFc (fun r1476 u t H1 locs ht hvm hw1476 hB hz1 hk1 hS => ?_)
        obtain ⟨wmn, tmn, ⟨vm1, vn1, km1, km2, hI1⟩, hP1, hK1, hD1⟩ := hB
        rw [ht] at hP1
        have hK1 := va_K.moved hvm.symm hK1
        obtain ⟨hPx, jmx⟩ := lg_step hPx (dj_symm jxm) hk1 hD1
        have jxm := dj_symm jmx
        obtain ⟨hPo, jmo⟩ := lg_step hPo jmo hk1 hD1
        have hD1 := hD1.weaken (fun _ _ _ h9 => hFc _ h9)
        clear hPm hDm hKm hFc hk1 hz1 hfs1476
        have hIM := hI1; have hPm := hP1; have hDm := hD1; have hKm := hK1; clear hI1 hP1 hD1 hK1
        clear ht; generalize H1 = H at hPx hPm hPo hS ⊢
        refine lv_pop hx hb dL_law_1479 rfl ?_
        refine lv_goto (tgt := 1941) hx hb dL_law_1480 (by decide) ?_
        have hRn : lr_R tp vi1 vf1 vm1 vn1 := ⟨by rw [kx2 0 (by decide), km2 0 (by decide)]; exact hR.1, lr_keep (fun k9 h9 => kx1 k9 (kp_dis (by decide) h9)) (fun k9 h8 h9 => kx1 k9 (kp_out (a := 57) (b := 152) (by decide) h8 h9)) (fun k9 h9 => kx2 k9 (kp_dis (by decide) h9)) (fun k9 h8 h9 => kx2 k9 (kp_out (a := 23) (b := 61) (by decide) h8 h9)) (fun k9 h9 => km1 k9 (kp_dis (by decide) h9)) (fun k9 h9 => km2 k9 (kp_dis (by decide) h9)) hR.2⟩
        exact kk _ _ _ _ _ (Nat.le_add_right _ _) (Nat.le_add_right _ _) ⟨tp, _, _, _, _, _, _, _, _, _, hIX, hIM, hRn, hKx, hKm, hPx, hPm, hPo, hDx, hDm, hDo, jxm, jxo, jmo⟩ hS (lv_sub hl [0, 1, 2, 3, 4] rfl)
      · refine lv_iconst (v := 1) hx hb dL_law_1418 zk_iconst_1 ?_
        refine lv_goto (tgt := 1423) hx hb dL_law_1419 (by decide) ?_
        have hFc := lg_free hDx hS hA
        obtain ⟨fs1423, hfs1423⟩ := ix_recv hIX
        refine va_calli (va_runV (As := [.int vix1, .int 0, .int 1, .int 1]) (rest := []) ⟨hx, hb, hml, hown, hts⟩ (k_X7_dares l dC dI H.size x tp vi vf wx tx hIX vix1 0 1 1) (cwV 4 hts gd_X7_dares rfl rfl rfl (by decide +kernel) ⟨Nat.le_of_ble_eq_true rfl, Nat.le_of_ble_eq_true rfl⟩) ⟨ax_blind (fun _ _ _ _ _ => trivial), va_recv hKx hPx (ci := 7) (q0 := 0) rfl hfs1423, ax_preE hPx hKx hDx (fun _ _ _ => trivial)⟩ rfl rfl hl.1 rfl (lv_room (Nat.le_of_ble_eq_true rfl)) dL_law_1423 ⟨hcc, hss⟩) hS (fun q _ h => hFc q h) hFc (fun r1423 u t H1 locs ht hvm hw1423 hB hz1 hk1 hS => ?_)
        obtain ⟨wxn, txn, ⟨vi1, vf1, kx1, kx2, hI1⟩, hP1, hK1, hD1⟩ := hB
        rw [ht] at hP1
        have hK1 := va_K.moved hvm.symm hK1
        obtain ⟨hPm, jxm⟩ := lg_step hPm jxm hk1 hD1
        obtain ⟨hPo, jxo⟩ := lg_step hPo jxo hk1 hD1
        have hD1 := hD1.weaken (fun _ _ _ h9 => hFc _ h9)
        clear hPx hDx hKx hFc hk1 hz1 hfs1423
        have hIX := hI1; have hPx := hP1; have hDx := hD1; have hKx := hK1; clear hI1 hP1 hD1 hK1
        clear ht; generalize H1 = H at hPx hPm hPo hS ⊢
        refine lv_pop hx hb dL_law_1426 rfl ?_
        refine lv_aload_n hx hb dL_law_1427 rfl (lv_at hl 2 rfl) ?_
        refine lv_aload_n hx hb dL_law_1428 rfl (lv_at hl 4 rfl) ?_
        refine lv_iload hx hb dL_law_1429 (lv_at hl 0 rfl) ?_
        refine lv_iconst (v := 1) hx hb dL_law_1431 zk_iconst_1 ?_
        refine lv_iadd hx hb dL_law_1432 ?_
        refine ax_ti ix1 eix1.symm ?_
        refine va_sld (L := L) (i := ix1) hx hb hX hbl hbA hS (vp_in_iff.mpr ⟨by omega, by omega⟩) dL_law_1433 ?_
        refine ax_ti vix1 evix1.symm ?_
        refine lv_aload_n hx hb dL_law_1434 rfl (lv_at hl 4 rfl) ?_
        refine lv_iload hx hb dL_law_1435 (lv_at hl 0 rfl) ?_
        refine lv_iconst (v := 2) hx hb dL_law_1437 zk_iconst_2 ?_
        refine lv_iadd hx hb dL_law_1438 ?_
        refine ax_ti ix2 eix2.symm ?_
        refine va_sld (L := L) (i := ix2) hx hb hX hbl hbA hS (vp_in_iff.mpr ⟨by omega, by omega⟩) dL_law_1439 ?_
        refine ax_ti vix2 evix2.symm ?_
        refine lv_if_eq (tgt := 1447) hx hb dL_law_1440 (by decide) (fun _ => ?_) (fun c_14 => absurd c_1 c_14)
        refine lv_iconst (v := 0) hx hb dL_law_1447 zk_iconst_0 ?_
        refine lv_aload_n hx hb dL_law_1448 rfl (lv_at hl 4 rfl) ?_
        refine lv_iload hx hb dL_law_1449 (lv_at hl 0 rfl) ?_
        refine lv_iconst (v := 3) hx hb dL_law_1451 zk_iconst_3 ?_
        refine lv_iadd hx hb dL_law_1452 ?_
        refine ax_ti ix3 eix3.symm ?_
        refine va_sld (L := L) (i := ix3) hx hb hX hbl hbA hS (vp_in_iff.mpr ⟨by omega, by omega⟩) dL_law_1453 ?_
        refine ax_ti vix3 evix3.symm ?_
        refine lv_if_eq (tgt := 1461) hx hb dL_law_1454 (by decide) (fun c_15 => absurd c_15 c_2) (fun _ => ?_)
        refine lv_iconst (v := 1) hx hb dL_law_1457 zk_iconst_1 ?_
        refine lv_goto (tgt := 1462) hx hb dL_law_1458 (by decide) ?_
        refine lv_aload_n hx hb dL_law_1462 rfl (lv_at hl 4 rfl) ?_
        refine lv_iload hx hb dL_law_1463 (lv_at hl 0 rfl) ?_
        refine lv_iconst (v := 4) hx hb dL_law_1465 zk_iconst_4 ?_
        refine lv_iadd hx hb dL_law_1466 ?_
        refine ax_ti ix4 eix4.symm ?_
        refine va_sld (L := L) (i := ix4) hx hb hX hbl hbA hS (vp_in_iff.mpr ⟨by omega, by omega⟩) dL_law_1467 ?_
        refine ax_ti vix4 evix4.symm ?_
        refine lv_if_eq (tgt := 1475) hx hb dL_law_1468 (by decide) (fun c_16 => absurd c_16 c_10) (fun _ => ?_)
        refine lv_iconst (v := 1) hx hb dL_law_1471 zk_iconst_1 ?_
        refine lv_goto (tgt := 1476) hx hb dL_law_1472 (by decide) ?_
        have hFc := lg_free hDm hS hA
        obtain ⟨fs1476, hfs1476⟩ := im_recv hIM
        refine va_calli (va_runV (As := [.int vix1, .int 0, .int 1, .int 1]) (rest := []) ⟨hx, hb, hml, hown, hts⟩ (k_X8_dares l dC dI H.size mo tp vm vn wm tm hIM vix1 0 1 1) (cwV 4 hts gd_X8_dares rfl rfl rfl (by decide +kernel) ⟨Nat.le_of_ble_eq_true rfl, Nat.le_of_ble_eq_true rfl⟩) ⟨ax_blind (fun _ _ _ _ _ => trivial), va_recv hKm hPm (ci := 8) (q0 := 0) rfl hfs1476, ax_preE hPm hKm hDm (fun _ _ _ => trivial)⟩ rfl rfl hl.1 rfl (lv_room (Nat.le_of_ble_eq_true rfl)) dL_law_1476 ⟨hcc, hss⟩) hS (fun q _ h => hFc q h) hFc (fun r1476 u t H1 locs ht hvm hw1476 hB hz1 hk1 hS => ?_)
        obtain ⟨wmn, tmn, ⟨vm1, vn1, km1, km2, hI1⟩, hP1, hK1, hD1⟩ := hB
        rw [ht] at hP1
        have hK1 := va_K.moved hvm.symm hK1
        obtain ⟨hPx, jmx⟩ := lg_step hPx (dj_symm jxm) hk1 hD1
        have jxm := dj_symm jmx
        obtain ⟨hPo, jmo⟩ := lg_step hPo jmo hk1 hD1
        have hD1 := hD1.weaken (fun _ _ _ h9 => hFc _ h9)
        clear hPm hDm hKm hFc hk1 hz1 hfs1476
        have hIM := hI1; have hPm := hP1; have hDm := hD1; have hKm := hK1; clear hI1 hP1 hD1 hK1
        clear ht; generalize H1 = H at hPx hPm hPo hS ⊢
        refine lv_pop hx hb dL_law_1479 rfl ?_
        refine lv_goto (tgt := 1941) hx hb dL_law_1480 (by decide) ?_
        have hRn : lr_R tp vi1 vf1 vm1 vn1 := ⟨by rw [kx2 0 (by decide), km2 0 (by decide)]; exact hR.1, lr_keep (fun k9 h9 => kx1 k9 (kp_dis (by decide) h9)) (fun k9 h8 h9 => kx1 k9 (kp_out (a := 57) (b := 152) (by decide) h8 h9)) (fun k9 h9 => kx2 k9 (kp_dis (by decide) h9)) (fun k9 h8 h9 => kx2 k9 (kp_out (a := 23) (b := 61) (by decide) h8 h9)) (fun k9 h9 => km1 k9 (kp_dis (by decide) h9)) (fun k9 h9 => km2 k9 (kp_dis (by decide) h9)) hR.2⟩
        exact kk _ _ _ _ _ (Nat.le_add_right _ _) (Nat.le_add_right _ _) ⟨tp, _, _, _, _, _, _, _, _, _, hIX, hIM, hRn, hKx, hKm, hPx, hPm, hPo, hDx, hDm, hDo, jxm, jxo, jmo⟩ hS (lv_sub hl [0, 1, 2, 3, 4] rfl)
  · refine lv_iconst (v := 1) hx hb dL_law_1390 zk_iconst_1 ?_
    refine lv_goto (tgt := 1395) hx hb dL_law_1391 (by decide) ?_
    refine lv_aload_n hx hb dL_law_1395 rfl (lv_at hl 4 rfl) ?_
    refine lv_iload hx hb dL_law_1396 (lv_at hl 0 rfl) ?_
    refine lv_iconst (v := 3) hx hb dL_law_1398 zk_iconst_3 ?_
    refine lv_iadd hx hb dL_law_1399 ?_
    refine lv_topi (fun ix3 eix3 => ?_)
    have qix3 : ix3.toInt = i.toInt + 3 := ai_add eix3 ⟨hi0, hiM⟩ ⟨zq8, zq9⟩ (by decide) (by decide)
    refine va_sld (L := L) (i := ix3) hx hb hX hbl hbA hS (vp_in_iff.mpr ⟨by omega, by omega⟩) dL_law_1400 ?_
    refine lv_topi (fun vix3 evix3 => ?_)
    refine lv_if_eq (tgt := 1408) hx hb dL_law_1401 (by decide) (fun c_17 => ?_) (fun c_17 => ?_)
    · refine lv_iconst (v := 0) hx hb dL_law_1408 zk_iconst_0 ?_
      refine lv_aload_n hx hb dL_law_1409 rfl (lv_at hl 4 rfl) ?_
      refine lv_iload hx hb dL_law_1410 (lv_at hl 0 rfl) ?_
      refine lv_iconst (v := 4) hx hb dL_law_1412 zk_iconst_4 ?_
      refine lv_iadd hx hb dL_law_1413 ?_
      refine lv_topi (fun ix4 eix4 => ?_)
      have qix4 : ix4.toInt = i.toInt + 4 := ai_add eix4 ⟨hi0, hiM⟩ ⟨zq68, zq67⟩ (by decide) (by decide)
      refine va_sld (L := L) (i := ix4) hx hb hX hbl hbA hS (vp_in_iff.mpr ⟨by omega, by omega⟩) dL_law_1414 ?_
      refine lv_topi (fun vix4 evix4 => ?_)
      refine lv_if_eq (tgt := 1422) hx hb dL_law_1415 (by decide) (fun c_18 => ?_) (fun c_18 => ?_)
      · refine lv_iconst (v := 0) hx hb dL_law_1422 zk_iconst_0 ?_
        have hFc := lg_free hDx hS hA
        obtain ⟨fs1423, hfs1423⟩ := ix_recv hIX
        refine va_calli (va_runV (As := [.int vix1, .int 1, .int 0, .int 0]) (rest := []) ⟨hx, hb, hml, hown, hts⟩ (k_X7_dares l dC dI H.size x tp vi vf wx tx hIX vix1 1 0 0) (cwV 4 hts gd_X7_dares rfl rfl rfl (by decide +kernel) ⟨Nat.le_of_ble_eq_true rfl, Nat.le_of_ble_eq_true rfl⟩) ⟨ax_blind (fun _ _ _ _ _ => trivial), va_recv hKx hPx (ci := 7) (q0 := 0) rfl hfs1423, ax_preE hPx hKx hDx (fun _ _ _ => trivial)⟩ rfl rfl hl.1 rfl (lv_room (Nat.le_of_ble_eq_true rfl)) dL_law_1423 ⟨hcc, hss⟩) hS (fun q _ h => hFc q h) hFc (fun r1423 u t H1 locs ht hvm hw1423 hB hz1 hk1 hS => ?_)
        obtain ⟨wxn, txn, ⟨vi1, vf1, kx1, kx2, hI1⟩, hP1, hK1, hD1⟩ := hB
        rw [ht] at hP1
        have hK1 := va_K.moved hvm.symm hK1
        obtain ⟨hPm, jxm⟩ := lg_step hPm jxm hk1 hD1
        obtain ⟨hPo, jxo⟩ := lg_step hPo jxo hk1 hD1
        have hD1 := hD1.weaken (fun _ _ _ h9 => hFc _ h9)
        clear hPx hDx hKx hFc hk1 hz1 hfs1423
        have hIX := hI1; have hPx := hP1; have hDx := hD1; have hKx := hK1; clear hI1 hP1 hD1 hK1
        clear ht; generalize H1 = H at hPx hPm hPo hS ⊢
        refine lv_pop hx hb dL_law_1426 rfl ?_
        refine lv_aload_n hx hb dL_law_1427 rfl (lv_at hl 2 rfl) ?_
        refine lv_aload_n hx hb dL_law_1428 rfl (lv_at hl 4 rfl) ?_
        refine lv_iload hx hb dL_law_1429 (lv_at hl 0 rfl) ?_
        refine lv_iconst (v := 1) hx hb dL_law_1431 zk_iconst_1 ?_
        refine lv_iadd hx hb dL_law_1432 ?_
        refine ax_ti ix1 eix1.symm ?_
        refine va_sld (L := L) (i := ix1) hx hb hX hbl hbA hS (vp_in_iff.mpr ⟨by omega, by omega⟩) dL_law_1433 ?_
        refine ax_ti vix1 evix1.symm ?_
        refine lv_aload_n hx hb dL_law_1434 rfl (lv_at hl 4 rfl) ?_
        refine lv_iload hx hb dL_law_1435 (lv_at hl 0 rfl) ?_
        refine lv_iconst (v := 2) hx hb dL_law_1437 zk_iconst_2 ?_
        refine lv_iadd hx hb dL_law_1438 ?_
        refine ax_ti ix2 eix2.symm ?_
        refine va_sld (L := L) (i := ix2) hx hb hX hbl hbA hS (vp_in_iff.mpr ⟨by omega, by omega⟩) dL_law_1439 ?_
        refine ax_ti vix2 evix2.symm ?_
        refine lv_if_eq (tgt := 1447) hx hb dL_law_1440 (by decide) (fun c_19 => absurd c_19 c_1) (fun _ => ?_)
        refine lv_iconst (v := 1) hx hb dL_law_1443 zk_iconst_1 ?_
        refine lv_goto (tgt := 1448) hx hb dL_law_1444 (by decide) ?_
        refine lv_aload_n hx hb dL_law_1448 rfl (lv_at hl 4 rfl) ?_
        refine lv_iload hx hb dL_law_1449 (lv_at hl 0 rfl) ?_
        refine lv_iconst (v := 3) hx hb dL_law_1451 zk_iconst_3 ?_
        refine lv_iadd hx hb dL_law_1452 ?_
        refine ax_ti ix3 eix3.symm ?_
        refine va_sld (L := L) (i := ix3) hx hb hX hbl hbA hS (vp_in_iff.mpr ⟨by omega, by omega⟩) dL_law_1453 ?_
        refine ax_ti vix3 evix3.symm ?_
        refine lv_if_eq (tgt := 1461) hx hb dL_law_1454 (by decide) (fun _ => ?_) (fun c_20 => absurd c_17 c_20)
        refine lv_iconst (v := 0) hx hb dL_law_1461 zk_iconst_0 ?_
        refine lv_aload_n hx hb dL_law_1462 rfl (lv_at hl 4 rfl) ?_
        refine lv_iload hx hb dL_law_1463 (lv_at hl 0 rfl) ?_
        refine lv_iconst (v := 4) hx hb dL_law_1465 zk_iconst_4 ?_
        refine lv_iadd hx hb dL_law_1466 ?_
        refine ax_ti ix4 eix4.symm ?_
        refine va_sld (L := L) (i := ix4) hx hb hX hbl hbA hS (vp_in_iff.mpr ⟨by omega, by omega⟩) dL_law_1467 ?_
        refine ax_ti vix4 evix4.symm ?_
        refine lv_if_eq (tgt := 1475) hx hb dL_law_1468 (by decide) (fun _ => ?_) (fun c_21 => absurd c_18 c_21)
        refine lv_iconst (v := 0) hx hb dL_law_1475 zk_iconst_0 ?_
        have hFc := lg_free hDm hS hA
        obtain ⟨fs1476, hfs1476⟩ := im_recv hIM
        refine va_calli (va_runV (As := [.int vix1, .int 1, .int 0, .int 0]) (rest := []) ⟨hx, hb, hml, hown, hts⟩ (k_X8_dares l dC dI H.size mo tp vm vn wm tm hIM vix1 1 0 0) (cwV 4 hts gd_X8_dares rfl rfl rfl (by decide +kernel) ⟨Nat.le_of_ble_eq_true rfl, Nat.le_of_ble_eq_true rfl⟩) ⟨ax_blind (fun _ _ _ _ _ => trivial), va_recv hKm hPm (ci := 8) (q0 := 0) rfl hfs1476, ax_preE hPm hKm hDm (fun _ _ _ => trivial)⟩ rfl rfl hl.1 rfl (lv_room (Nat.le_of_ble_eq_true rfl)) dL_law_1476 ⟨hcc, hss⟩) hS (fun q _ h => hFc q h) hFc (fun r1476 u t H1 locs ht hvm hw1476 hB hz1 hk1 hS => ?_)
        obtain ⟨wmn, tmn, ⟨vm1, vn1, km1, km2, hI1⟩, hP1, hK1, hD1⟩ := hB
        rw [ht] at hP1
        have hK1 := va_K.moved hvm.symm hK1
        obtain ⟨hPx, jmx⟩ := lg_step hPx (dj_symm jxm) hk1 hD1
        have jxm := dj_symm jmx
        obtain ⟨hPo, jmo⟩ := lg_step hPo jmo hk1 hD1
        have hD1 := hD1.weaken (fun _ _ _ h9 => hFc _ h9)
        clear hPm hDm hKm hFc hk1 hz1 hfs1476
        have hIM := hI1; have hPm := hP1; have hDm := hD1; have hKm := hK1; clear hI1 hP1 hD1 hK1
        clear ht; generalize H1 = H at hPx hPm hPo hS ⊢
        refine lv_pop hx hb dL_law_1479 rfl ?_
        refine lv_goto (tgt := 1941) hx hb dL_law_1480 (by decide) ?_
        have hRn : lr_R tp vi1 vf1 vm1 vn1 := ⟨by rw [kx2 0 (by decide), km2 0 (by decide)]; exact hR.1, lr_keep (fun k9 h9 => kx1 k9 (kp_dis (by decide) h9)) (fun k9 h8 h9 => kx1 k9 (kp_out (a := 57) (b := 152) (by decide) h8 h9)) (fun k9 h9 => kx2 k9 (kp_dis (by decide) h9)) (fun k9 h8 h9 => kx2 k9 (kp_out (a := 23) (b := 61) (by decide) h8 h9)) (fun k9 h9 => km1 k9 (kp_dis (by decide) h9)) (fun k9 h9 => km2 k9 (kp_dis (by decide) h9)) hR.2⟩
        exact kk _ _ _ _ _ (Nat.le_add_right _ _) (Nat.le_add_right _ _) ⟨tp, _, _, _, _, _, _, _, _, _, hIX, hIM, hRn, hKx, hKm, hPx, hPm, hPo, hDx, hDm, hDo, jxm, jxo, jmo⟩ hS (lv_sub hl [0, 1, 2, 3, 4] rfl)
      · refine lv_iconst (v := 1) hx hb dL_law_1418 zk_iconst_1 ?_
        refine lv_goto (tgt := 1423) hx hb dL_law_1419 (by decide) ?_
        have hFc := lg_free hDx hS hA
        obtain ⟨fs1423, hfs1423⟩ := ix_recv hIX
        refine va_calli (va_runV (As := [.int vix1, .int 1, .int 0, .int 1]) (rest := []) ⟨hx, hb, hml, hown, hts⟩ (k_X7_dares l dC dI H.size x tp vi vf wx tx hIX vix1 1 0 1) (cwV 4 hts gd_X7_dares rfl rfl rfl (by decide +kernel) ⟨Nat.le_of_ble_eq_true rfl, Nat.le_of_ble_eq_true rfl⟩) ⟨ax_blind (fun _ _ _ _ _ => trivial), va_recv hKx hPx (ci := 7) (q0 := 0) rfl hfs1423, ax_preE hPx hKx hDx (fun _ _ _ => trivial)⟩ rfl rfl hl.1 rfl (lv_room (Nat.le_of_ble_eq_true rfl)) dL_law_1423 ⟨hcc, hss⟩) hS (fun q _ h => hFc q h) hFc (fun r1423 u t H1 locs ht hvm hw1423 hB hz1 hk1 hS => ?_)
        obtain ⟨wxn, txn, ⟨vi1, vf1, kx1, kx2, hI1⟩, hP1, hK1, hD1⟩ := hB
        rw [ht] at hP1
        have hK1 := va_K.moved hvm.symm hK1
        obtain ⟨hPm, jxm⟩ := lg_step hPm jxm hk1 hD1
        obtain ⟨hPo, jxo⟩ := lg_step hPo jxo hk1 hD1
        have hD1 := hD1.weaken (fun _ _ _ h9 => hFc _ h9)
        clear hPx hDx hKx hFc hk1 hz1 hfs1423
        have hIX := hI1; have hPx := hP1; have hDx := hD1; have hKx := hK1; clear hI1 hP1 hD1 hK1
        clear ht; generalize H1 = H at hPx hPm hPo hS ⊢
        refine lv_pop hx hb dL_law_1426 rfl ?_
        refine lv_aload_n hx hb dL_law_1427 rfl (lv_at hl 2 rfl) ?_
        refine lv_aload_n hx hb dL_law_1428 rfl (lv_at hl 4 rfl) ?_
        refine lv_iload hx hb dL_law_1429 (lv_at hl 0 rfl) ?_
        refine lv_iconst (v := 1) hx hb dL_law_1431 zk_iconst_1 ?_
        refine lv_iadd hx hb dL_law_1432 ?_
        refine ax_ti ix1 eix1.symm ?_
        refine va_sld (L := L) (i := ix1) hx hb hX hbl hbA hS (vp_in_iff.mpr ⟨by omega, by omega⟩) dL_law_1433 ?_
        refine ax_ti vix1 evix1.symm ?_
        refine lv_aload_n hx hb dL_law_1434 rfl (lv_at hl 4 rfl) ?_
        refine lv_iload hx hb dL_law_1435 (lv_at hl 0 rfl) ?_
        refine lv_iconst (v := 2) hx hb dL_law_1437 zk_iconst_2 ?_
        refine lv_iadd hx hb dL_law_1438 ?_
        refine ax_ti ix2 eix2.symm ?_
        refine va_sld (L := L) (i := ix2) hx hb hX hbl hbA hS (vp_in_iff.mpr ⟨by omega, by omega⟩) dL_law_1439 ?_
        refine ax_ti vix2 evix2.symm ?_
        refine lv_if_eq (tgt := 1447) hx hb dL_law_1440 (by decide) (fun c_22 => absurd c_22 c_1) (fun _ => ?_)
        refine lv_iconst (v := 1) hx hb dL_law_1443 zk_iconst_1 ?_
        refine lv_goto (tgt := 1448) hx hb dL_law_1444 (by decide) ?_
        refine lv_aload_n hx hb dL_law_1448 rfl (lv_at hl 4 rfl) ?_
        refine lv_iload hx hb dL_law_1449 (lv_at hl 0 rfl) ?_
        refine lv_iconst (v := 3) hx hb dL_law_1451 zk_iconst_3 ?_
        refine lv_iadd hx hb dL_law_1452 ?_
        refine ax_ti ix3 eix3.symm ?_
        refine va_sld (L := L) (i := ix3) hx hb hX hbl hbA hS (vp_in_iff.mpr ⟨by omega, by omega⟩) dL_law_1453 ?_
        refine ax_ti vix3 evix3.symm ?_
        refine lv_if_eq (tgt := 1461) hx hb dL_law_1454 (by decide) (fun _ => ?_) (fun c_23 => absurd c_17 c_23)
        refine lv_iconst (v := 0) hx hb dL_law_1461 zk_iconst_0 ?_
        refine lv_aload_n hx hb dL_law_1462 rfl (lv_at hl 4 rfl) ?_
        refine lv_iload hx hb dL_law_1463 (lv_at hl 0 rfl) ?_
        refine lv_iconst (v := 4) hx hb dL_law_1465 zk_iconst_4 ?_
        refine lv_iadd hx hb dL_law_1466 ?_
        refine ax_ti ix4 eix4.symm ?_
        refine va_sld (L := L) (i := ix4) hx hb hX hbl hbA hS (vp_in_iff.mpr ⟨by omega, by omega⟩) dL_law_1467 ?_
        refine ax_ti vix4 evix4.symm ?_
        refine lv_if_eq (tgt := 1475) hx hb dL_law_1468 (by decide) (fun c_24 => absurd c_24 c_18) (fun _ => ?_)
        refine lv_iconst (v := 1) hx hb dL_law_1471 zk_iconst_1 ?_
        refine lv_goto (tgt := 1476) hx hb dL_law_1472 (by decide) ?_
        have hFc := lg_free hDm hS hA
        obtain ⟨fs1476, hfs1476⟩ := im_recv hIM
        refine va_calli (va_runV (As := [.int vix1, .int 1, .int 0, .int 1]) (rest := []) ⟨hx, hb, hml, hown, hts⟩ (k_X8_dares l dC dI H.size mo tp vm vn wm tm hIM vix1 1 0 1) (cwV 4 hts gd_X8_dares rfl rfl rfl (by decide +kernel) ⟨Nat.le_of_ble_eq_true rfl, Nat.le_of_ble_eq_true rfl⟩) ⟨ax_blind (fun _ _ _ _ _ => trivial), va_recv hKm hPm (ci := 8) (q0 := 0) rfl hfs1476, ax_preE hPm hKm hDm (fun _ _ _ => trivial)⟩ rfl rfl hl.1 rfl (lv_room (Nat.le_of_ble_eq_true rfl)) dL_law_1476 ⟨hcc, hss⟩) hS (fun q _ h => hFc q h) hFc (fun r1476 u t H1 locs ht hvm hw1476 hB hz1 hk1 hS => ?_)
        obtain ⟨wmn, tmn, ⟨vm1, vn1, km1, km2, hI1⟩, hP1, hK1, hD1⟩ := hB
        rw [ht] at hP1
        have hK1 := va_K.moved hvm.symm hK1
        obtain ⟨hPx, jmx⟩ := lg_step hPx (dj_symm jxm) hk1 hD1
        have jxm := dj_symm jmx
        obtain ⟨hPo, jmo⟩ := lg_step hPo jmo hk1 hD1
        have hD1 := hD1.weaken (fun _ _ _ h9 => hFc _ h9)
        clear hPm hDm hKm hFc hk1 hz1 hfs1476
        have hIM := hI1; have hPm := hP1; have hDm := hD1; have hKm := hK1; clear hI1 hP1 hD1 hK1
        clear ht; generalize H1 = H at hPx hPm hPo hS ⊢
        refine lv_pop hx hb dL_law_1479 rfl ?_
        refine lv_goto (tgt := 1941) hx hb dL_law_1480 (by decide) ?_
        have hRn : lr_R tp vi1 vf1 vm1 vn1 := ⟨by rw [kx2 0 (by decide), km2 0 (by decide)]; exact hR.1, lr_keep (fun k9 h9 => kx1 k9 (kp_dis (by decide) h9)) (fun k9 h8 h9 => kx1 k9 (kp_out (a := 57) (b := 152) (by decide) h8 h9)) (fun k9 h9 => kx2 k9 (kp_dis (by decide) h9)) (fun k9 h8 h9 => kx2 k9 (kp_out (a := 23) (b := 61) (by decide) h8 h9)) (fun k9 h9 => km1 k9 (kp_dis (by decide) h9)) (fun k9 h9 => km2 k9 (kp_dis (by decide) h9)) hR.2⟩
        exact kk _ _ _ _ _ (Nat.le_add_right _ _) (Nat.le_add_right _ _) ⟨tp, _, _, _, _, _, _, _, _, _, hIX, hIM, hRn, hKx, hKm, hPx, hPm, hPo, hDx, hDm, hDo, jxm, jxo, jmo⟩ hS (lv_sub hl [0, 1, 2, 3, 4] rfl)
    · refine lv_iconst (v := 1) hx hb dL_law_1404 zk_iconst_1 ?_
      refine lv_goto (tgt := 1409) hx hb dL_law_1405 (by decide) ?_
      refine lv_aload_n hx hb dL_law_1409 rfl (lv_at hl 4 rfl) ?_
      refine lv_iload hx hb dL_law_1410 (lv_at hl 0 rfl) ?_
      refine lv_iconst (v := 4) hx hb dL_law_1412 zk_iconst_4 ?_
      refine lv_iadd hx hb dL_law_1413 ?_
      refine lv_topi (fun ix4 eix4 => ?_)
      have qix4 : ix4.toInt = i.toInt + 4 := ai_add eix4 ⟨hi0, hiM⟩ ⟨zq68, zq67⟩ (by decide) (by decide)
      refine va_sld (L := L) (i := ix4) hx hb hX hbl hbA hS (vp_in_iff.mpr ⟨by omega, by omega⟩) dL_law_1414 ?_
      refine lv_topi (fun vix4 evix4 => ?_)
      refine lv_if_eq (tgt := 1422) hx hb dL_law_1415 (by decide) (fun c_25 => ?_) (fun c_25 => ?_)
      · refine lv_iconst (v := 0) hx hb dL_law_1422 zk_iconst_0 ?_
        have hFc := lg_free hDx hS hA
        obtain ⟨fs1423, hfs1423⟩ := ix_recv hIX
        refine va_calli (va_runV (As := [.int vix1, .int 1, .int 1, .int 0]) (rest := []) ⟨hx, hb, hml, hown, hts⟩ (k_X7_dares l dC dI H.size x tp vi vf wx tx hIX vix1 1 1 0) (cwV 4 hts gd_X7_dares rfl rfl rfl (by decide +kernel) ⟨Nat.le_of_ble_eq_true rfl, Nat.le_of_ble_eq_true rfl⟩) ⟨ax_blind (fun _ _ _ _ _ => trivial), va_recv hKx hPx (ci := 7) (q0 := 0) rfl hfs1423, ax_preE hPx hKx hDx (fun _ _ _ => trivial)⟩ rfl rfl hl.1 rfl (lv_room (Nat.le_of_ble_eq_true rfl)) dL_law_1423 ⟨hcc, hss⟩) hS (fun q _ h => hFc q h) hFc (fun r1423 u t H1 locs ht hvm hw1423 hB hz1 hk1 hS => ?_)
        obtain ⟨wxn, txn, ⟨vi1, vf1, kx1, kx2, hI1⟩, hP1, hK1, hD1⟩ := hB
        rw [ht] at hP1
        have hK1 := va_K.moved hvm.symm hK1
        obtain ⟨hPm, jxm⟩ := lg_step hPm jxm hk1 hD1
        obtain ⟨hPo, jxo⟩ := lg_step hPo jxo hk1 hD1
        have hD1 := hD1.weaken (fun _ _ _ h9 => hFc _ h9)
        clear hPx hDx hKx hFc hk1 hz1 hfs1423
        have hIX := hI1; have hPx := hP1; have hDx := hD1; have hKx := hK1; clear hI1 hP1 hD1 hK1
        clear ht; generalize H1 = H at hPx hPm hPo hS ⊢
        refine lv_pop hx hb dL_law_1426 rfl ?_
        refine lv_aload_n hx hb dL_law_1427 rfl (lv_at hl 2 rfl) ?_
        refine lv_aload_n hx hb dL_law_1428 rfl (lv_at hl 4 rfl) ?_
        refine lv_iload hx hb dL_law_1429 (lv_at hl 0 rfl) ?_
        refine lv_iconst (v := 1) hx hb dL_law_1431 zk_iconst_1 ?_
        refine lv_iadd hx hb dL_law_1432 ?_
        refine ax_ti ix1 eix1.symm ?_
        refine va_sld (L := L) (i := ix1) hx hb hX hbl hbA hS (vp_in_iff.mpr ⟨by omega, by omega⟩) dL_law_1433 ?_
        refine ax_ti vix1 evix1.symm ?_
        refine lv_aload_n hx hb dL_law_1434 rfl (lv_at hl 4 rfl) ?_
        refine lv_iload hx hb dL_law_1435 (lv_at hl 0 rfl) ?_
        refine lv_iconst (v := 2) hx hb dL_law_1437 zk_iconst_2 ?_
        refine lv_iadd hx hb dL_law_1438 ?_
        refine ax_ti ix2 eix2.symm ?_
        refine va_sld (L := L) (i := ix2) hx hb hX hbl hbA hS (vp_in_iff.mpr ⟨by omega, by omega⟩) dL_law_1439 ?_
        refine ax_ti vix2 evix2.symm ?_
        refine lv_if_eq (tgt := 1447) hx hb dL_law_1440 (by decide) (fun c_26 => absurd c_26 c_1) (fun _ => ?_)
        refine lv_iconst (v := 1) hx hb dL_law_1443 zk_iconst_1 ?_
        refine lv_goto (tgt := 1448) hx hb dL_law_1444 (by decide) ?_
        refine lv_aload_n hx hb dL_law_1448 rfl (lv_at hl 4 rfl) ?_
        refine lv_iload hx hb dL_law_1449 (lv_at hl 0 rfl) ?_
        refine lv_iconst (v := 3) hx hb dL_law_1451 zk_iconst_3 ?_
        refine lv_iadd hx hb dL_law_1452 ?_
        refine ax_ti ix3 eix3.symm ?_
        refine va_sld (L := L) (i := ix3) hx hb hX hbl hbA hS (vp_in_iff.mpr ⟨by omega, by omega⟩) dL_law_1453 ?_
        refine ax_ti vix3 evix3.symm ?_
        refine lv_if_eq (tgt := 1461) hx hb dL_law_1454 (by decide) (fun c_27 => absurd c_27 c_17) (fun _ => ?_)
        refine lv_iconst (v := 1) hx hb dL_law_1457 zk_iconst_1 ?_
        refine lv_goto (tgt := 1462) hx hb dL_law_1458 (by decide) ?_
        refine lv_aload_n hx hb dL_law_1462 rfl (lv_at hl 4 rfl) ?_
        refine lv_iload hx hb dL_law_1463 (lv_at hl 0 rfl) ?_
        refine lv_iconst (v := 4) hx hb dL_law_1465 zk_iconst_4 ?_
        refine lv_iadd hx hb dL_law_1466 ?_
        refine ax_ti ix4 eix4.symm ?_
        refine va_sld (L := L) (i := ix4) hx hb hX hbl hbA hS (vp_in_iff.mpr ⟨by omega, by omega⟩) dL_law_1467 ?_
        refine ax_ti vix4 evix4.symm ?_
        refine lv_if_eq (tgt := 1475) hx hb dL_law_1468 (by decide) (fun _ => ?_) (fun c_28 => absurd c_25 c_28)
        refine lv_iconst (v := 0) hx hb dL_law_1475 zk_iconst_0 ?_
        have hFc := lg_free hDm hS hA
        obtain ⟨fs1476, hfs1476⟩ := im_recv hIM
        refine va_calli (va_runV (As := [.int vix1, .int 1, .int 1, .int 0]) (rest := []) ⟨hx, hb, hml, hown, hts⟩ (k_X8_dares l dC dI H.size mo tp vm vn wm tm hIM vix1 1 1 0) (cwV 4 hts gd_X8_dares rfl rfl rfl (by decide +kernel) ⟨Nat.le_of_ble_eq_true rfl, Nat.le_of_ble_eq_true rfl⟩) ⟨ax_blind (fun _ _ _ _ _ => trivial), va_recv hKm hPm (ci := 8) (q0 := 0) rfl hfs1476, ax_preE hPm hKm hDm (fun _ _ _ => trivial)⟩ rfl rfl hl.1 rfl (lv_room (Nat.le_of_ble_eq_true rfl)) dL_law_1476 ⟨hcc, hss⟩) hS (fun q _ h => hFc q h) hFc (fun r1476 u t H1 locs ht hvm hw1476 hB hz1 hk1 hS => ?_)
        obtain ⟨wmn, tmn, ⟨vm1, vn1, km1, km2, hI1⟩, hP1, hK1, hD1⟩ := hB
        rw [ht] at hP1
        have hK1 := va_K.moved hvm.symm hK1
        obtain ⟨hPx, jmx⟩ := lg_step hPx (dj_symm jxm) hk1 hD1
        have jxm := dj_symm jmx
        obtain ⟨hPo, jmo⟩ := lg_step hPo jmo hk1 hD1
        have hD1 := hD1.weaken (fun _ _ _ h9 => hFc _ h9)
        clear hPm hDm hKm hFc hk1 hz1 hfs1476
        have hIM := hI1; have hPm := hP1; have hDm := hD1; have hKm := hK1; clear hI1 hP1 hD1 hK1
        clear ht; generalize H1 = H at hPx hPm hPo hS ⊢
        refine lv_pop hx hb dL_law_1479 rfl ?_
        refine lv_goto (tgt := 1941) hx hb dL_law_1480 (by decide) ?_
        have hRn : lr_R tp vi1 vf1 vm1 vn1 := ⟨by rw [kx2 0 (by decide), km2 0 (by decide)]; exact hR.1, lr_keep (fun k9 h9 => kx1 k9 (kp_dis (by decide) h9)) (fun k9 h8 h9 => kx1 k9 (kp_out (a := 57) (b := 152) (by decide) h8 h9)) (fun k9 h9 => kx2 k9 (kp_dis (by decide) h9)) (fun k9 h8 h9 => kx2 k9 (kp_out (a := 23) (b := 61) (by decide) h8 h9)) (fun k9 h9 => km1 k9 (kp_dis (by decide) h9)) (fun k9 h9 => km2 k9 (kp_dis (by decide) h9)) hR.2⟩
        exact kk _ _ _ _ _ (Nat.le_add_right _ _) (Nat.le_add_right _ _) ⟨tp, _, _, _, _, _, _, _, _, _, hIX, hIM, hRn, hKx, hKm, hPx, hPm, hPo, hDx, hDm, hDo, jxm, jxo, jmo⟩ hS (lv_sub hl [0, 1, 2, 3, 4] rfl)
      · refine lv_iconst (v := 1) hx hb dL_law_1418 zk_iconst_1 ?_
        refine lv_goto (tgt := 1423) hx hb dL_law_1419 (by decide) ?_
        have hFc := lg_free hDx hS hA
        obtain ⟨fs1423, hfs1423⟩ := ix_recv hIX
        refine va_calli (va_runV (As := [.int vix1, .int 1, .int 1, .int 1]) (rest := []) ⟨hx, hb, hml, hown, hts⟩ (k_X7_dares l dC dI H.size x tp vi vf wx tx hIX vix1 1 1 1) (cwV 4 hts gd_X7_dares rfl rfl rfl (by decide +kernel) ⟨Nat.le_of_ble_eq_true rfl, Nat.le_of_ble_eq_true rfl⟩) ⟨ax_blind (fun _ _ _ _ _ => trivial), va_recv hKx hPx (ci := 7) (q0 := 0) rfl hfs1423, ax_preE hPx hKx hDx (fun _ _ _ => trivial)⟩ rfl rfl hl.1 rfl (lv_room (Nat.le_of_ble_eq_true rfl)) dL_law_1423 ⟨hcc, hss⟩) hS (fun q _ h => hFc q h) hFc (fun r1423 u t H1 locs ht hvm hw1423 hB hz1 hk1 hS => ?_)
        obtain ⟨wxn, txn, ⟨vi1, vf1, kx1, kx2, hI1⟩, hP1, hK1, hD1⟩ := hB
        rw [ht] at hP1
        have hK1 := va_K.moved hvm.symm hK1
        obtain ⟨hPm, jxm⟩ := lg_step hPm jxm hk1 hD1
        obtain ⟨hPo, jxo⟩ := lg_step hPo jxo hk1 hD1
        have hD1 := hD1.weaken (fun _ _ _ h9 => hFc _ h9)
        clear hPx hDx hKx hFc hk1 hz1 hfs1423
        have hIX := hI1; have hPx := hP1; have hDx := hD1; have hKx := hK1; clear hI1 hP1 hD1 hK1
        clear ht; generalize H1 = H at hPx hPm hPo hS ⊢
        refine lv_pop hx hb dL_law_1426 rfl ?_
        refine lv_aload_n hx hb dL_law_1427 rfl (lv_at hl 2 rfl) ?_
        refine lv_aload_n hx hb dL_law_1428 rfl (lv_at hl 4 rfl) ?_
        refine lv_iload hx hb dL_law_1429 (lv_at hl 0 rfl) ?_
        refine lv_iconst (v := 1) hx hb dL_law_1431 zk_iconst_1 ?_
        refine lv_iadd hx hb dL_law_1432 ?_
        refine ax_ti ix1 eix1.symm ?_
        refine va_sld (L := L) (i := ix1) hx hb hX hbl hbA hS (vp_in_iff.mpr ⟨by omega, by omega⟩) dL_law_1433 ?_
        refine ax_ti vix1 evix1.symm ?_
        refine lv_aload_n hx hb dL_law_1434 rfl (lv_at hl 4 rfl) ?_
        refine lv_iload hx hb dL_law_1435 (lv_at hl 0 rfl) ?_
        refine lv_iconst (v := 2) hx hb dL_law_1437 zk_iconst_2 ?_
        refine lv_iadd hx hb dL_law_1438 ?_
        refine ax_ti ix2 eix2.symm ?_
        refine va_sld (L := L) (i := ix2) hx hb hX hbl hbA hS (vp_in_iff.mpr ⟨by omega, by omega⟩) dL_law_1439 ?_
        refine ax_ti vix2 evix2.symm ?_
        refine lv_if_eq (tgt := 1447) hx hb dL_law_1440 (by decide) (fun c_29 => absurd c_29 c_1) (fun _ => ?_)
        refine lv_iconst (v := 1) hx hb dL_law_1443 zk_iconst_1 ?_
        refine lv_goto (tgt := 1448) hx hb dL_law_1444 (by decide) ?_
        refine lv_aload_n hx hb dL_law_1448 rfl (lv_at hl 4 rfl) ?_
        refine lv_iload hx hb dL_law_1449 (lv_at hl 0 rfl) ?_
        refine lv_iconst (v := 3) hx hb dL_law_1451 zk_iconst_3 ?_
        refine lv_iadd hx hb dL_law_1452 ?_
        refine ax_ti ix3 eix3.symm ?_
        refine va_sld (L := L) (i := ix3) hx hb hX hbl hbA hS (vp_in_iff.mpr ⟨by omega, by omega⟩) dL_law_1453 ?_
        refine ax_ti vix3 evix3.symm ?_
        refine lv_if_eq (tgt := 1461) hx hb dL_law_1454 (by decide) (fun c_30 => absurd c_30 c_17) (fun _ => ?_)
        refine lv_iconst (v := 1) hx hb dL_law_1457 zk_iconst_1 ?_
        refine lv_goto (tgt := 1462) hx hb dL_law_1458 (by decide) ?_
        refine lv_aload_n hx hb dL_law_1462 rfl (lv_at hl 4 rfl) ?_
        refine lv_iload hx hb dL_law_1463 (lv_at hl 0 rfl) ?_
        refine lv_iconst (v := 4) hx hb dL_law_1465 zk_iconst_4 ?_
        refine lv_iadd hx hb dL_law_1466 ?_
        refine ax_ti ix4 eix4.symm ?_
        refine va_sld (L := L) (i := ix4) hx hb hX hbl hbA hS (vp_in_iff.mpr ⟨by omega, by omega⟩) dL_law_1467 ?_
        refine ax_ti vix4 evix4.symm ?_
        refine lv_if_eq (tgt := 1475) hx hb dL_law_1468 (by decide) (fun c_31 => absurd c_31 c_25) (fun _ => ?_)
        refine lv_iconst (v := 1) hx hb dL_law_1471 zk_iconst_1 ?_
        refine lv_goto (tgt := 1476) hx hb dL_law_1472 (by decide) ?_
        have hFc := lg_free hDm hS hA
        obtain ⟨fs1476, hfs1476⟩ := im_recv hIM
        refine va_calli (va_runV (As := [.int vix1, .int 1, .int 1, .int 1]) (rest := []) ⟨hx, hb, hml, hown, hts⟩ (k_X8_dares l dC dI H.size mo tp vm vn wm tm hIM vix1 1 1 1) (cwV 4 hts gd_X8_dares rfl rfl rfl (by decide +kernel) ⟨Nat.le_of_ble_eq_true rfl, Nat.le_of_ble_eq_true rfl⟩) ⟨ax_blind (fun _ _ _ _ _ => trivial), va_recv hKm hPm (ci := 8) (q0 := 0) rfl hfs1476, ax_preE hPm hKm hDm (fun _ _ _ => trivial)⟩ rfl rfl hl.1 rfl (lv_room (Nat.le_of_ble_eq_true rfl)) dL_law_1476 ⟨hcc, hss⟩) hS (fun q _ h => hFc q h) hFc (fun r1476 u t H1 locs ht hvm hw1476 hB hz1 hk1 hS => ?_)
        obtain ⟨wmn, tmn, ⟨vm1, vn1, km1, km2, hI1⟩, hP1, hK1, hD1⟩ := hB
        rw [ht] at hP1
        have hK1 := va_K.moved hvm.symm hK1
        obtain ⟨hPx, jmx⟩ := lg_step hPx (dj_symm jxm) hk1 hD1
        have jxm := dj_symm jmx
        obtain ⟨hPo, jmo⟩ := lg_step hPo jmo hk1 hD1
        have hD1 := hD1.weaken (fun _ _ _ h9 => hFc _ h9)
        clear hPm hDm hKm hFc hk1 hz1 hfs1476
        have hIM := hI1; have hPm := hP1; have hDm := hD1; have hKm := hK1; clear hI1 hP1 hD1 hK1
        clear ht; generalize H1 = H at hPx hPm hPo hS ⊢
        refine lv_pop hx hb dL_law_1479 rfl ?_
        refine lv_goto (tgt := 1941) hx hb dL_law_1480 (by decide) ?_
        have hRn : lr_R tp vi1 vf1 vm1 vn1 := ⟨by rw [kx2 0 (by decide), km2 0 (by decide)]; exact hR.1, lr_keep (fun k9 h9 => kx1 k9 (kp_dis (by decide) h9)) (fun k9 h8 h9 => kx1 k9 (kp_out (a := 57) (b := 152) (by decide) h8 h9)) (fun k9 h9 => kx2 k9 (kp_dis (by decide) h9)) (fun k9 h8 h9 => kx2 k9 (kp_out (a := 23) (b := 61) (by decide) h8 h9)) (fun k9 h9 => km1 k9 (kp_dis (by decide) h9)) (fun k9 h9 => km2 k9 (kp_dis (by decide) h9)) hR.2⟩
        exact kk _ _ _ _ _ (Nat.le_add_right _ _) (Nat.le_add_right _ _) ⟨tp, _, _, _, _, _, _, _, _, _, hIX, hIM, hRn, hKx, hKm, hPx, hPm, hPo, hDx, hDm, hDo, jxm, jxo, jmo⟩ hS (lv_sub hl [0, 1, 2, 3, 4] rfl)

set_option maxHeartbeats 4000000 in
set_option maxRecDepth 100000 in
theorem lc_43 {p : Program} {l : Launch} {e : Env} {s : State} {m : MethodId} {below : List Frame} {meth : Method} {c : Code} {b L : Nat} {xs : Nat → Int32} {A : Nat → Prop} {dC : Nat → ClassId} {dI : Nat → Nat → Nat} (hl0 : l.stackTraces = false) (hL : L ≤ 3072) (hA : ∀ q, s.heap.size ≤ q → A q) (hA2 : ∀ q, A q → s.heap.size ≤ q) (C0 : lw_At p s m meth c b L xs) (sd : Nat → Nat) (sa : Nat) (hE : lg_E A sd sa s) (x mo oa : Nat) (ko : ClassId) (hKo : va_K (dC, dI) vwCl [(ko, .long)] s) (i : Int32) (hi0 : (0 : Int) ≤ i.toInt) (hi6 : i.toInt + 6 ≤ (L : Int)) {H : Heap} {locs : List Loc} {cells slots : Nat} (hc9 : cells + 1 ≤ 601024) (hs9 : slots + 6 ≤ 7293034) (hG : lg_S dC dI A s x mo oa ko H) (hS : va_S A s.heap H locs) {ls : Array Slot} (hl : lv_has ls 7 [(4, .int i), (3, .ref oa), (2, .ref mo), (1, .ref x), (0, .ref b)])
    (kk : ∀ (H : Heap) (locs : List Loc) (ls : Array Slot) (k9 n9 : Nat), k9 ≤ cells + 1 → n9 ≤ slots + 6 → lg_S dC dI A s x mo oa ko H → va_S A s.heap H locs → lv_has ls 7 [(4, .int i), (3, .ref oa), (2, .ref mo), (1, .ref x), (0, .ref b)] → W p l e room_1 s m #[Value.ref b] below meth c H locs k9 n9 (lw_Z below #[Value.ref b] s) (F0 m 1941 ls [])) : W p l e room_1 s m #[Value.ref b] below meth c H locs cells slots (lw_Z below #[Value.ref b] s) (F0 m 1483 ls []) := by
  obtain ⟨hx, hb, hr, hml, hown0, htl, hX, hbl, hlocks, hgv⟩ := id C0
  have hown : s.vm.findClass RL = some m.cls := hown0
  have hts : ∀ w ∈ wlT, w.before #[Value.ref b] s = true := fun w h => htl w (wlT_in w h)
  have hbA : ¬ A b := fun h => absurd (hA2 b h) (Nat.not_le.mpr hbl)
  obtain ⟨tp, wx, wm, tx, tm, fo, vi, vf, vm, vn, hIX, hIM, hR, hKx, hKm, hPx, hPm, hPo, hDx, hDm, hDo, jxm, jxo, jmo⟩ := hG
  have hiM : i.toInt ≤ (3066 : Int) := by omega
  have hcc : cells ≤ 601024 := by omega
  have hss : slots ≤ 7293034 := by omega
  have htpb := ix_tp hIX
  have hMo := im_mo hIM
  refine lv_aload_n hx hb dL_law_1483 rfl (lv_at hl 3 rfl) ?_
  refine lv_aload_n hx hb dL_law_1484 rfl (lv_at hl 4 rfl) ?_
  refine lv_iload hx hb dL_law_1485 (lv_at hl 0 rfl) ?_
  refine lv_iconst (v := 1) hx hb dL_law_1487 zk_iconst_1 ?_
  refine lv_iadd hx hb dL_law_1488 ?_
  refine lv_topi (fun ix1 eix1 => ?_)
  have qix1 : ix1.toInt = i.toInt + 1 := ai_add eix1 ⟨hi0, hiM⟩ ⟨zq1, zq0⟩ (by decide) (by decide)
  refine va_sld (L := L) (i := ix1) hx hb hX hbl hbA hS (vp_in_iff.mpr ⟨by omega, by omega⟩) dL_law_1489 ?_
  refine lv_topi (fun vix1 evix1 => ?_)
  have hFc := lg_free hDx hS hA
  obtain ⟨fs1490, hfs1490⟩ := ix_recv hIX
  refine va_calli (va_runV (As := [.int vix1]) (rest := []) ⟨hx, hb, hml, hown, hts⟩ (k_X7_rests l dC dI H.size x tp vi vf wx tx hIX vix1) (cwV 1 hts gd_X7_rests rfl rfl rfl (by decide +kernel) ⟨Nat.le_of_ble_eq_true rfl, Nat.le_of_ble_eq_true rfl⟩) ⟨ax_blind (fun _ _ _ _ _ => trivial), va_recv hKx hPx (ci := 7) (q0 := 0) rfl hfs1490, ax_preE hPx hKx hDx (fun _ _ _ => trivial)⟩ rfl rfl hl.1 rfl (lv_room (Nat.le_of_ble_eq_true rfl)) dL_law_1490 ⟨hcc, hss⟩) hS (fun q _ h => hFc q h) hFc (fun r1490 u t H1 locs ht hvm hw1490 hB hz1 hk1 hS => ?_)
  obtain ⟨wxn, txn, ⟨vi1, vf1, kx1, kx2, hI1⟩, hP1, hK1, hD1⟩ := hB
  rw [ht] at hP1
  have hK1 := va_K.moved hvm.symm hK1
  obtain ⟨hPm, jxm⟩ := lg_step hPm jxm hk1 hD1
  obtain ⟨hPo, jxo⟩ := lg_step hPo jxo hk1 hD1
  have hD1 := hD1.weaken (fun _ _ _ h9 => hFc _ h9)
  clear hPx hDx hKx hFc hk1 hz1 hfs1490
  have hIX := hI1; have hPx := hP1; have hDx := hD1; have hKx := hK1; clear hI1 hP1 hD1 hK1
  clear ht; generalize H1 = H at hPx hPm hPo hS ⊢
  refine lv_pop hx hb dL_law_1493 rfl ?_
  refine lv_aload_n hx hb dL_law_1494 rfl (lv_at hl 2 rfl) ?_
  refine lv_aload_n hx hb dL_law_1495 rfl (lv_at hl 4 rfl) ?_
  refine lv_iload hx hb dL_law_1496 (lv_at hl 0 rfl) ?_
  refine lv_iconst (v := 1) hx hb dL_law_1498 zk_iconst_1 ?_
  refine lv_iadd hx hb dL_law_1499 ?_
  refine ax_ti ix1 eix1.symm ?_
  refine va_sld (L := L) (i := ix1) hx hb hX hbl hbA hS (vp_in_iff.mpr ⟨by omega, by omega⟩) dL_law_1500 ?_
  refine ax_ti vix1 evix1.symm ?_
  have hFc := lg_free hDm hS hA
  obtain ⟨fs1501, hfs1501⟩ := im_recv hIM
  refine va_calli (va_runV (As := [.int vix1]) (rest := []) ⟨hx, hb, hml, hown, hts⟩ (k_X8_rests l dC dI H.size mo tp vm vn wm tm hIM vix1) (cwV 1 hts gd_X8_rests rfl rfl rfl (by decide +kernel) ⟨Nat.le_of_ble_eq_true rfl, Nat.le_of_ble_eq_true rfl⟩) ⟨ax_blind (fun _ _ _ _ _ => trivial), va_recv hKm hPm (ci := 8) (q0 := 0) rfl hfs1501, ax_preE hPm hKm hDm (fun _ _ _ => trivial)⟩ rfl rfl hl.1 rfl (lv_room (Nat.le_of_ble_eq_true rfl)) dL_law_1501 ⟨hcc, hss⟩) hS (fun q _ h => hFc q h) hFc (fun r1501 u t H1 locs ht hvm hw1501 hB hz1 hk1 hS => ?_)
  obtain ⟨wmn, tmn, ⟨vm1, vn1, km1, km2, hI1⟩, hP1, hK1, hD1⟩ := hB
  rw [ht] at hP1
  have hK1 := va_K.moved hvm.symm hK1
  obtain ⟨hPx, jmx⟩ := lg_step hPx (dj_symm jxm) hk1 hD1
  have jxm := dj_symm jmx
  obtain ⟨hPo, jmo⟩ := lg_step hPo jmo hk1 hD1
  have hD1 := hD1.weaken (fun _ _ _ h9 => hFc _ h9)
  clear hPm hDm hKm hFc hk1 hz1 hfs1501
  have hIM := hI1; have hPm := hP1; have hDm := hD1; have hKm := hK1; clear hI1 hP1 hD1 hK1
  clear ht; generalize H1 = H at hPx hPm hPo hS ⊢
  refine lv_pop hx hb dL_law_1504 rfl ?_
  refine lv_goto (tgt := 1941) hx hb dL_law_1505 (by decide) ?_
  have hRn : lr_R tp vi1 vf1 vm1 vn1 := ⟨by rw [kx2 0 (by decide), km2 0 (by decide)]; exact hR.1, lr_keep (fun k9 h9 => kx1 k9 (kp_dis (by decide) h9)) (fun k9 h8 h9 => kx1 k9 (kp_out (a := 57) (b := 152) (by decide) h8 h9)) (fun k9 h9 => kx2 k9 (kp_dis (by decide) h9)) (fun k9 h8 h9 => kx2 k9 (kp_out (a := 23) (b := 61) (by decide) h8 h9)) (fun k9 h9 => km1 k9 (kp_dis (by decide) h9)) (fun k9 h9 => km2 k9 (kp_dis (by decide) h9)) hR.2⟩
  exact kk _ _ _ _ _ (Nat.le_add_right _ _) (Nat.le_add_right _ _) ⟨tp, _, _, _, _, _, _, _, _, _, hIX, hIM, hRn, hKx, hKm, hPx, hPm, hPo, hDx, hDm, hDo, jxm, jxo, jmo⟩ hS (lv_sub hl [0, 1, 2, 3, 4] rfl)

set_option maxHeartbeats 4000000 in
set_option maxRecDepth 100000 in
theorem lc_44 {p : Program} {l : Launch} {e : Env} {s : State} {m : MethodId} {below : List Frame} {meth : Method} {c : Code} {b L : Nat} {xs : Nat → Int32} {A : Nat → Prop} {dC : Nat → ClassId} {dI : Nat → Nat → Nat} (hl0 : l.stackTraces = false) (hL : L ≤ 3072) (hA : ∀ q, s.heap.size ≤ q → A q) (hA2 : ∀ q, A q → s.heap.size ≤ q) (C0 : lw_At p s m meth c b L xs) (sd : Nat → Nat) (sa : Nat) (hE : lg_E A sd sa s) (x mo oa : Nat) (ko : ClassId) (hKo : va_K (dC, dI) vwCl [(ko, .long)] s) (i : Int32) (hi0 : (0 : Int) ≤ i.toInt) (hi6 : i.toInt + 6 ≤ (L : Int)) {H : Heap} {locs : List Loc} {cells slots : Nat} (hc9 : cells + 1 ≤ 601024) (hs9 : slots + 6 ≤ 7293034) (hG : lg_S dC dI A s x mo oa ko H) (hS : va_S A s.heap H locs) {ls : Array Slot} (hl : lv_has ls 7 [(4, .int i), (3, .ref oa), (2, .ref mo), (1, .ref x), (0, .ref b)])
    (kk : ∀ (H : Heap) (locs : List Loc) (ls : Array Slot) (k9 n9 : Nat), k9 ≤ cells + 1 → n9 ≤ slots + 6 → lg_S dC dI A s x mo oa ko H → va_S A s.heap H locs → lv_has ls 7 [(4, .int i), (3, .ref oa), (2, .ref mo), (1, .ref x), (0, .ref b)] → W p l e room_1 s m #[Value.ref b] below meth c H locs k9 n9 (lw_Z below #[Value.ref b] s) (F0 m 1941 ls [])) : W p l e room_1 s m #[Value.ref b] below meth c H locs cells slots (lw_Z below #[Value.ref b] s) (F0 m 1508 ls []) := by
  obtain ⟨hx, hb, hr, hml, hown0, htl, hX, hbl, hlocks, hgv⟩ := id C0
  have hown : s.vm.findClass RL = some m.cls := hown0
  have hts : ∀ w ∈ wlT, w.before #[Value.ref b] s = true := fun w h => htl w (wlT_in w h)
  have hbA : ¬ A b := fun h => absurd (hA2 b h) (Nat.not_le.mpr hbl)
  obtain ⟨tp, wx, wm, tx, tm, fo, vi, vf, vm, vn, hIX, hIM, hR, hKx, hKm, hPx, hPm, hPo, hDx, hDm, hDo, jxm, jxo, jmo⟩ := hG
  have hiM : i.toInt ≤ (3066 : Int) := by omega
  have hcc : cells ≤ 601024 := by omega
  have hss : slots ≤ 7293034 := by omega
  have htpb := ix_tp hIX
  have hMo := im_mo hIM
  refine lv_aload_n hx hb dL_law_1508 rfl (lv_at hl 3 rfl) ?_
  refine lv_aload_n hx hb dL_law_1509 rfl (lv_at hl 4 rfl) ?_
  refine lv_iload hx hb dL_law_1510 (lv_at hl 0 rfl) ?_
  refine lv_iconst (v := 1) hx hb dL_law_1512 zk_iconst_1 ?_
  refine lv_iadd hx hb dL_law_1513 ?_
  refine lv_topi (fun ix1 eix1 => ?_)
  have qix1 : ix1.toInt = i.toInt + 1 := ai_add eix1 ⟨hi0, hiM⟩ ⟨zq1, zq0⟩ (by decide) (by decide)
  refine va_sld (L := L) (i := ix1) hx hb hX hbl hbA hS (vp_in_iff.mpr ⟨by omega, by omega⟩) dL_law_1514 ?_
  refine lv_topi (fun vix1 evix1 => ?_)
  have hFc := lg_free hDx hS hA
  obtain ⟨fs1515, hfs1515⟩ := ix_recv hIX
  refine va_calli (va_runV (As := [.int vix1]) (rest := []) ⟨hx, hb, hml, hown, hts⟩ (k_X7_rest l dC dI H.size x tp vi vf wx tx hIX vix1) (cwV 1 hts gd_X7_rest rfl rfl rfl (by decide +kernel) ⟨Nat.le_of_ble_eq_true rfl, Nat.le_of_ble_eq_true rfl⟩) ⟨ax_blind (fun _ _ _ _ _ => trivial), va_recv hKx hPx (ci := 7) (q0 := 0) rfl hfs1515, ax_preE hPx hKx hDx (fun _ _ _ => trivial)⟩ rfl rfl hl.1 rfl (lv_room (Nat.le_of_ble_eq_true rfl)) dL_law_1515 ⟨hcc, hss⟩) hS (fun q _ h => hFc q h) hFc (fun r1515 u t H1 locs ht hvm hw1515 hB hz1 hk1 hS => ?_)
  obtain ⟨wxn, txn, ⟨vi1, vf1, kx1, kx2, hI1⟩, hP1, hK1, hD1⟩ := hB
  rw [ht] at hP1
  have hK1 := va_K.moved hvm.symm hK1
  obtain ⟨hPm, jxm⟩ := lg_step hPm jxm hk1 hD1
  obtain ⟨hPo, jxo⟩ := lg_step hPo jxo hk1 hD1
  have hD1 := hD1.weaken (fun _ _ _ h9 => hFc _ h9)
  clear hPx hDx hKx hFc hk1 hz1 hfs1515
  have hIX := hI1; have hPx := hP1; have hDx := hD1; have hKx := hK1; clear hI1 hP1 hD1 hK1
  clear ht; generalize H1 = H at hPx hPm hPo hS ⊢
  refine lv_pop hx hb dL_law_1518 rfl ?_
  refine lv_aload_n hx hb dL_law_1519 rfl (lv_at hl 2 rfl) ?_
  refine lv_aload_n hx hb dL_law_1520 rfl (lv_at hl 4 rfl) ?_
  refine lv_iload hx hb dL_law_1521 (lv_at hl 0 rfl) ?_
  refine lv_iconst (v := 1) hx hb dL_law_1523 zk_iconst_1 ?_
  refine lv_iadd hx hb dL_law_1524 ?_
  refine ax_ti ix1 eix1.symm ?_
  refine va_sld (L := L) (i := ix1) hx hb hX hbl hbA hS (vp_in_iff.mpr ⟨by omega, by omega⟩) dL_law_1525 ?_
  refine ax_ti vix1 evix1.symm ?_
  have hFc := lg_free hDm hS hA
  obtain ⟨fs1526, hfs1526⟩ := im_recv hIM
  refine va_calli (va_runV (As := [.int vix1]) (rest := []) ⟨hx, hb, hml, hown, hts⟩ (k_X8_rest l dC dI H.size mo tp vm vn wm tm hIM vix1) (cwV 1 hts gd_X8_rest rfl rfl rfl (by decide +kernel) ⟨Nat.le_of_ble_eq_true rfl, Nat.le_of_ble_eq_true rfl⟩) ⟨ax_blind (fun _ _ _ _ _ => trivial), va_recv hKm hPm (ci := 8) (q0 := 0) rfl hfs1526, ax_preE hPm hKm hDm (fun _ _ _ => trivial)⟩ rfl rfl hl.1 rfl (lv_room (Nat.le_of_ble_eq_true rfl)) dL_law_1526 ⟨hcc, hss⟩) hS (fun q _ h => hFc q h) hFc (fun r1526 u t H1 locs ht hvm hw1526 hB hz1 hk1 hS => ?_)
  obtain ⟨wmn, tmn, ⟨vm1, vn1, km1, km2, hI1⟩, hP1, hK1, hD1⟩ := hB
  rw [ht] at hP1
  have hK1 := va_K.moved hvm.symm hK1
  obtain ⟨hPx, jmx⟩ := lg_step hPx (dj_symm jxm) hk1 hD1
  have jxm := dj_symm jmx
  obtain ⟨hPo, jmo⟩ := lg_step hPo jmo hk1 hD1
  have hD1 := hD1.weaken (fun _ _ _ h9 => hFc _ h9)
  clear hPm hDm hKm hFc hk1 hz1 hfs1526
  have hIM := hI1; have hPm := hP1; have hDm := hD1; have hKm := hK1; clear hI1 hP1 hD1 hK1
  clear ht; generalize H1 = H at hPx hPm hPo hS ⊢
  refine lv_pop hx hb dL_law_1529 rfl ?_
  refine lv_goto (tgt := 1941) hx hb dL_law_1530 (by decide) ?_
  have hRn : lr_R tp vi1 vf1 vm1 vn1 := ⟨by rw [kx2 0 (by decide), km2 0 (by decide)]; exact hR.1, lr_keep (fun k9 h9 => kx1 k9 (kp_dis (by decide) h9)) (fun k9 h8 h9 => kx1 k9 (kp_out (a := 57) (b := 152) (by decide) h8 h9)) (fun k9 h9 => kx2 k9 (kp_dis (by decide) h9)) (fun k9 h8 h9 => kx2 k9 (kp_out (a := 23) (b := 61) (by decide) h8 h9)) (fun k9 h9 => km1 k9 (kp_dis (by decide) h9)) (fun k9 h9 => km2 k9 (kp_dis (by decide) h9)) hR.2⟩
  exact kk _ _ _ _ _ (Nat.le_add_right _ _) (Nat.le_add_right _ _) ⟨tp, _, _, _, _, _, _, _, _, _, hIX, hIM, hRn, hKx, hKm, hPx, hPm, hPo, hDx, hDm, hDo, jxm, jxo, jmo⟩ hS (lv_sub hl [0, 1, 2, 3, 4] rfl)
