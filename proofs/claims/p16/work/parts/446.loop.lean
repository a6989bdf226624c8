section P446_loop
set_option maxHeartbeats 4000000 in
set_option maxRecDepth 100000 in
theorem lg_loop {p : Program} {l : Launch} {e : Env} {s : State} {m : MethodId} {below : List Frame} {meth : Method} {c : Code} {b L : Nat} {xs : Nat → Int32} {A : Nat → Prop} {dC : Nat → ClassId} {dI : Nat → Nat → Nat} (hl0 : l.stackTraces = false) (hL : L ≤ 3072) (hA : ∀ q, s.heap.size ≤ q → A q) (hA2 : ∀ q, A q → s.heap.size ≤ q) (C0 : lw_At p s m meth c b L xs) (sd : Nat → Nat) (sa : Nat) (hE : lg_E A sd sa s) (x mo oa : Nat) (ko : ClassId) (hKo : va_K (dC, dI) vwCl [(ko, .long)] s) : ∀ (n : Nat) (i : Int32) (H : Heap) (locs : List Loc) (ls : Array Slot) (cells slots : Nat), (0 : Int) ≤ i.toInt → i.toInt ≤ (3072 : Int) → (L : Int) - i.toInt < 6 * (n : Int) + 6 → cells + n ≤ 601024 → slots + 6 * n ≤ 7293034 → lg_S dC dI A s x mo oa ko H → va_S A s.heap H locs → lv_has ls 7 [(4, .int i), (3, .ref oa), (2, .ref mo), (1, .ref x), (0, .ref b)] → W p l e room_1 s m #[Value.ref b] below meth c H locs cells slots (lw_Z below #[Value.ref b] s) (F0 m 23 ls []) := by
  obtain ⟨hx, hb, hr, hml, hown0, htl, hX, hbl, hlocks, hgv⟩ := id C0
  have hown : s.vm.findClass RL = some m.cls := hown0
  have hts : ∀ w ∈ wlT, w.before #[Value.ref b] s = true := fun w h => htl w (wlT_in w h)
  have hbA : ¬ A b := fun h => absurd (hA2 b h) (Nat.not_le.mpr hbl)
  have eL : (Int32.ofNat L).toInt = (L : Int) := nI_toInt (by omega)
  have hout : ∀ (H : Heap) (locs : List Loc) (ls : Array Slot) (cells slots : Nat), cells ≤ 601024 → slots ≤ 7293034 → va_S A s.heap H locs → W p l e room_1 s m #[Value.ref b] below meth c H locs cells slots (lw_Z below #[Value.ref b] s) (F0 m 1947 ls []) := by
    intro H locs ls cells slots hc hs hS
    refine lv_iconst (v := 1) hx hb dL_law_1947 zk_iconst_1 ?_
    refine va_forget (fun q hq => hA2 _ (hS.2.2 q hq)) ?_
    refine W.widen (k := 601024) (n := 7293034) hc hs ?_
    exact lw_ret hx hb hr hlocks dL_law_1948
  intro n
  induction n with
  | zero =>
    intro i H locs ls cells slots hi0 hiB hm hc hs hG hS hl
    refine lv_iload hx hb dL_law_23 (lv_at hl 0 rfl) ?_
    refine lv_aload_n hx hb dL_law_25 rfl (lv_at hl 4 rfl) ?_
    refine va_slen hx hb hX hbl hbA hS dL_law_26 ?_
    refine lv_bipush (v := 6) hx hb dL_law_27 zk_bipush_6 ?_
    refine lv_isub hx hb dL_law_29 ?_
    refine lv_topi (fun y29 e29 => ?_)
    have q29 : y29.toInt = (Int32.ofNat L).toInt - (6 : Int32).toInt := ai_sub (a := 0) (b := 3072) e29 ⟨by omega, by omega⟩ ⟨zq15, zq16⟩ (by decide) (by decide)
    have q6 : (6 : Int32).toInt = 6 := by decide
    refine lv_icmp_gt (tgt := 1947) hx hb dL_law_30 (by decide) (fun c30 => ?_) (fun c30 => ?_)
    · exact hout _ _ _ _ _ (by omega) (by omega) hS
    · have g30 := ai_nlt c30
      omega
  | succ n ih =>
    intro i H locs ls cells slots hi0 hiB hm hc hs hG hS hl
    refine lv_iload hx hb dL_law_23 (lv_at hl 0 rfl) ?_
    refine lv_aload_n hx hb dL_law_25 rfl (lv_at hl 4 rfl) ?_
    refine va_slen hx hb hX hbl hbA hS dL_law_26 ?_
    refine lv_bipush (v := 6) hx hb dL_law_27 zk_bipush_6 ?_
    refine lv_isub hx hb dL_law_29 ?_
    refine lv_topi (fun y29 e29 => ?_)
    have q29 : y29.toInt = (Int32.ofNat L).toInt - (6 : Int32).toInt := ai_sub (a := 0) (b := 3072) e29 ⟨by omega, by omega⟩ ⟨zq15, zq16⟩ (by decide) (by decide)
    have q6 : (6 : Int32).toInt = 6 := by decide
    refine lv_icmp_gt (tgt := 1947) hx hb dL_law_30 (by decide) (fun c30 => ?_) (fun c30 => ?_)
    · exact hout _ _ _ _ _ (by omega) (by omega) hS
    · have g30 := ai_nlt c30
      have hi6 : i.toInt + 6 ≤ (L : Int) := by omega
      have kk : ∀ (H : Heap) (locs : List Loc) (ls : Array Slot) (k9 n9 : Nat), k9 ≤ cells + 1 → n9 ≤ slots + 6 → lg_S dC dI A s x mo oa ko H → va_S A s.heap H locs → lv_has ls 7 [(4, .int i), (3, .ref oa), (2, .ref mo), (1, .ref x), (0, .ref b)] → W p l e room_1 s m #[Value.ref b] below meth c H locs k9 n9 (lw_Z below #[Value.ref b] s) (F0 m 1941 ls []) := by
        intro H locs ls k9 n9 h1 h2 hG hS hl
        obtain ⟨y9, ey9⟩ : ∃ y : Int32, y = i + Int32.ofInt 6 := ⟨_, rfl⟩
        have qy9 : y9.toInt = i.toInt + 6 := ai_inc ey9 (by decide) (by decide) hiB (by decide)
        refine lv_iinc (v := y9) (lv' := [(4, .int y9), (3, .ref oa), (2, .ref mo), (1, .ref x), (0, .ref b)]) hx hb dL_law_1941 hl (k := 0) rfl ey9.symm (by decide) rfl (fun ls hl => ?_)
        refine lv_goto (tgt := 23) hx hb dL_law_1944 (by decide) ?_
        exact ih y9 _ _ _ _ _ (by omega) (by omega) (by omega) (by omega) (by omega) hG hS hl
      refine lv_aload_n hx hb dL_law_33 rfl (lv_at hl 4 rfl) ?_
      refine lv_iload hx hb dL_law_34 (lv_at hl 0 rfl) ?_
      refine va_sld (L := L) (i := i) hx hb hX hbl hbA hS (vp_in_iff.mpr ⟨by omega, by omega⟩) dL_law_36 ?_
      refine lv_bipush (v := 63) hx hb dL_law_37 zk_bipush_63 ?_
      refine lv_iand hx hb dL_law_39 ?_
      refine lv_topi (fun v39 e39 => ?_)
      clear e39
      by_cases n0 : v39 = 0
      · subst n0
        refine lv_tableIn (off := 248) (tgt := 288) hx hb dL_law_40 (by decide) (by decide) (by decide +kernel) (by decide) ?_
        exact lc_0 hl0 hL hA hA2 C0 sd sa hE x mo oa ko hKo i hi0 hi6 (by omega) (by omega) hG hS hl kk
      by_cases n1 : v39 = 1
      · subst n1
        refine lv_tableIn (off := 321) (tgt := 361) hx hb dL_law_40 (by decide) (by decide) (by decide +kernel) (by decide) ?_
        exact lc_1 hl0 hL hA hA2 C0 sd sa hE x mo oa ko hKo i hi0 hi6 (by omega) (by omega) hG hS hl kk
      by_cases n2 : v39 = 2
      · subst n2
        refine lv_tableIn (off := 346) (tgt := 386) hx hb dL_law_40 (by decide) (by decide) (by decide +kernel) (by decide) ?_
        exact lc_2 hl0 hL hA hA2 C0 sd sa hE x mo oa ko hKo i hi0 hi6 (by omega) (by omega) hG hS hl kk
      by_cases n3 : v39 = 3
      · subst n3
        refine lv_tableIn (off := 359) (tgt := 399) hx hb dL_law_40 (by decide) (by decide) (by decide +kernel) (by decide) ?_
        exact lc_3 hl0 hL hA hA2 C0 sd sa hE x mo oa ko hKo i hi0 hi6 (by omega) (by omega) hG hS hl kk
      by_cases n4 : v39 = 4
      · subst n4
        refine lv_tableIn (off := 372) (tgt := 412) hx hb dL_law_40 (by decide) (by decide) (by decide +kernel) (by decide) ?_
        exact lc_4 hl0 hL hA hA2 C0 sd sa hE x mo oa ko hKo i hi0 hi6 (by omega) (by omega) hG hS hl kk
      by_cases n5 : v39 = 5
      · subst n5
        refine lv_tableIn (off := 409) (tgt := 449) hx hb dL_law_40 (by decide) (by decide) (by decide +kernel) (by decide) ?_
        exact lc_5 hl0 hL hA hA2 C0 sd sa hE x mo oa ko hKo i hi0 hi6 (by omega) (by omega) hG hS hl kk
      by_cases n6 : v39 = 6
      · subst n6
        refine lv_tableIn (off := 446) (tgt := 486) hx hb dL_law_40 (by decide) (by decide) (by decide +kernel) (by decide) ?_
        exact lc_6 hl0 hL hA hA2 C0 sd sa hE x mo oa ko hKo i hi0 hi6 (by omega) (by omega) hG hS hl kk
      by_cases n7 : v39 = 7
      · subst n7
        refine lv_tableIn (off := 459) (tgt := 499) hx hb dL_law_40 (by decide) (by decide) (by decide +kernel) (by decide) ?_
        exact lc_7 hl0 hL hA hA2 C0 sd sa hE x mo oa ko hKo i hi0 hi6 (by omega) (by omega) hG hS hl kk
      by_cases n8 : v39 = 8
      · subst n8
        refine lv_tableIn (off := 472) (tgt := 512) hx hb dL_law_40 (by decide) (by decide) (by decide +kernel) (by decide) ?_
        exact lc_8 hl0 hL hA hA2 C0 sd sa hE x mo oa ko hKo i hi0 hi6 (by omega) (by omega) hG hS hl kk
      by_cases n9 : v39 = 9
      · subst n9
        refine lv_tableIn (off := 485) (tgt := 525) hx hb dL_law_40 (by decide) (by decide) (by decide +kernel) (by decide) ?_
        exact lc_9 hl0 hL hA hA2 C0 sd sa hE x mo oa ko hKo i hi0 hi6 (by omega) (by omega) hG hS hl kk
      by_cases n10 : v39 = 10
      · subst n10
        refine lv_tableIn (off := 510) (tgt := 550) hx hb dL_law_40 (by decide) (by decide) (by decide +kernel) (by decide) ?_
        exact lc_10 hl0 hL hA hA2 C0 sd sa hE x mo oa ko hKo i hi0 hi6 (by omega) (by omega) hG hS hl kk
      by_cases n11 : v39 = 11
      · subst n11
        refine lv_tableIn (off := 535) (tgt := 575) hx hb dL_law_40 (by decide) (by decide) (by decide +kernel) (by decide) ?_
        exact lc_11 hl0 hL hA hA2 C0 sd sa hE x mo oa ko hKo i hi0 hi6 (by omega) (by omega) hG hS hl kk
      by_cases n12 : v39 = 12
      · subst n12
        refine lv_tableIn (off := 548) (tgt := 588) hx hb dL_law_40 (by decide) (by decide) (by decide +kernel) (by decide) ?_
        exact lc_12 hl0 hL hA hA2 C0 sd sa hE x mo oa ko hKo i hi0 hi6 (by omega) (by omega) hG hS hl kk
      by_cases n13 : v39 = 13
      · subst n13
        refine lv_tableIn (off := 561) (tgt := 601) hx hb dL_law_40 (by decide) (by decide) (by decide +kernel) (by decide) ?_
        exact lc_13 hl0 hL hA hA2 C0 sd sa hE x mo oa ko hKo i hi0 hi6 (by omega) (by omega) hG hS hl kk
      by_cases n14 : v39 = 14
      · subst n14
        refine lv_tableIn (off := 574) (tgt := 614) hx hb dL_law_40 (by decide) (by decide) (by decide +kernel) (by decide) ?_
        exact lc_14 hl0 hL hA hA2 C0 sd sa hE x mo oa ko hKo i hi0 hi6 (by omega) (by omega) hG hS hl kk
      by_cases n15 : v39 = 15
      · subst n15
        refine lv_tableIn (off := 611) (tgt := 651) hx hb dL_law_40 (by decide) (by decide) (by decide +kernel) (by decide) ?_
        exact lc_15 hl0 hL hA hA2 C0 sd sa hE x mo oa ko hKo i hi0 hi6 (by omega) (by omega) hG hS hl kk
      by_cases n16 : v39 = 16
      · subst n16
        refine lv_tableIn (off := 648) (tgt := 688) hx hb dL_law_40 (by decide) (by decide) (by decide +kernel) (by decide) ?_
        exact lc_16 hl0 hL hA hA2 C0 sd sa hE x mo oa ko hKo i hi0 hi6 (by omega) (by omega) hG hS hl kk
      by_cases n17 : v39 = 17
      · subst n17
        refine lv_tableIn (off := 685) (tgt := 725) hx hb dL_law_40 (by decide) (by decide) (by decide +kernel) (by decide) ?_
        exact lc_17 hl0 hL hA hA2 C0 sd sa hE x mo oa ko hKo i hi0 hi6 (by omega) (by omega) hG hS hl kk
      by_cases n18 : v39 = 18
      · subst n18
        refine lv_tableIn (off := 710) (tgt := 750) hx hb dL_law_40 (by decide) (by decide) (by decide +kernel) (by decide) ?_
        exact lc_18 hl0 hL hA hA2 C0 sd sa hE x mo oa ko hKo i hi0 hi6 (by omega) (by omega) hG hS hl kk
      by_cases n19 : v39 = 19
      · subst n19
        refine lv_tableIn (off := 723) (tgt := 763) hx hb dL_law_40 (by decide) (by decide) (by decide +kernel) (by decide) ?_
        exact lc_19 hl0 hL hA hA2 C0 sd sa hE x mo oa ko hKo i hi0 hi6 (by omega) (by omega) hG hS hl kk
      by_cases n20 : v39 = 20
      · subst n20
        refine lv_tableIn (off := 748) (tgt := 788) hx hb dL_law_40 (by decide) (by decide) (by decide +kernel) (by decide) ?_
        exact lc_20 hl0 hL hA hA2 C0 sd sa hE x mo oa ko hKo i hi0 hi6 (by omega) (by omega) hG hS hl kk
      by_cases n21 : v39 = 21
      · subst n21
        refine lv_tableIn (off := 785) (tgt := 825) hx hb dL_law_40 (by decide) (by decide) (by decide +kernel) (by decide) ?_
        exact lc_21 hl0 hL hA hA2 C0 sd sa hE x mo oa ko hKo i hi0 hi6 (by omega) (by omega) hG hS hl kk
      by_cases n22 : v39 = 22
      · subst n22
        refine lv_tableIn (off := 810) (tgt := 850) hx hb dL_law_40 (by decide) (by decide) (by decide +kernel) (by decide) ?_
        exact lc_22 hl0 hL hA hA2 C0 sd sa hE x mo oa ko hKo i hi0 hi6 (by omega) (by omega) hG hS hl kk
      by_cases n23 : v39 = 23
      · subst n23
        refine lv_tableIn (off := 835) (tgt := 875) hx hb dL_law_40 (by decide) (by decide) (by decide +kernel) (by decide) ?_
        exact lc_23 hl0 hL hA hA2 C0 sd sa hE x mo oa ko hKo i hi0 hi6 (by omega) (by omega) hG hS hl kk
      by_cases n24 : v39 = 24
      · subst n24
        refine lv_tableIn (off := 860) (tgt := 900) hx hb dL_law_40 (by decide) (by decide) (by decide +kernel) (by decide) ?_
        exact lc_24 hl0 hL hA hA2 C0 sd sa hE x mo oa ko hKo i hi0 hi6 (by omega) (by omega) hG hS hl kk
      by_cases n25 : v39 = 25
      · subst n25
        refine lv_tableIn (off := 885) (tgt := 925) hx hb dL_law_40 (by decide) (by decide) (by decide +kernel) (by decide) ?_
        exact lc_25 hl0 hL hA hA2 C0 sd sa hE x mo oa ko hKo i hi0 hi6 (by omega) (by omega) hG hS hl kk
      by_cases n26 : v39 = 26
      · subst n26
        refine lv_tableIn (off := 922) (tgt := 962) hx hb dL_law_40 (by decide) (by decide) (by decide +kernel) (by decide) ?_
        exact lc_26 hl0 hL hA hA2 C0 sd sa hE x mo oa ko hKo i hi0 hi6 (by omega) (by omega) hG hS hl kk
      by_cases n27 : v39 = 27
      · subst n27
        refine lv_tableIn (off := 959) (tgt := 999) hx hb dL_law_40 (by decide) (by decide) (by decide +kernel) (by decide) ?_
        exact lc_27 hl0 hL hA hA2 C0 sd sa hE x mo oa ko hKo i hi0 hi6 (by omega) (by omega) hG hS hl kk
      by_cases n28 : v39 = 28
      · subst n28
        refine lv_tableIn (off := 996) (tgt := 1036) hx hb dL_law_40 (by decide) (by decide) (by decide +kernel) (by decide) ?_
        exact lc_28 hl0 hL hA hA2 C0 sd sa hE x mo oa ko hKo i hi0 hi6 (by omega) (by omega) hG hS hl kk
      by_cases n29 : v39 = 29
      · subst n29
        refine lv_tableIn (off := 1045) (tgt := 1085) hx hb dL_law_40 (by decide) (by decide) (by decide +kernel) (by decide) ?_
        exact lc_29 hl0 hL hA hA2 C0 sd sa hE x mo oa ko hKo i hi0 hi6 (by omega) (by omega) hG hS hl kk
      by_cases n30 : v39 = 30
      · subst n30
        refine lv_tableIn (off := 1070) (tgt := 1110) hx hb dL_law_40 (by decide) (by decide) (by decide +kernel) (by decide) ?_
        exact lc_30 hl0 hL hA hA2 C0 sd sa hE x mo oa ko hKo i hi0 hi6 (by omega) (by omega) hG hS hl kk
      by_cases n31 : v39 = 31
      · subst n31
        refine lv_tableIn (off := 1095) (tgt := 1135) hx hb dL_law_40 (by decide) (by decide) (by decide +kernel) (by decide) ?_
        exact lc_31 hl0 hL hA hA2 C0 sd sa hE x mo oa ko hKo i hi0 hi6 (by omega) (by omega) hG hS hl kk
      by_cases n32 : v39 = 32
      · subst n32
        refine lv_tableIn (off := 1108) (tgt := 1148) hx hb dL_law_40 (by decide) (by decide) (by decide +kernel) (by decide) ?_
        exact lc_32 hl0 hL hA hA2 C0 sd sa hE x mo oa ko hKo i hi0 hi6 (by omega) (by omega) hG hS hl kk
      by_cases n33 : v39 = 33
      · subst n33
        refine lv_tableIn (off := 1145) (tgt := 1185) hx hb dL_law_40 (by decide) (by decide) (by decide +kernel) (by decide) ?_
        exact lc_33 hl0 hL hA hA2 C0 sd sa hE x mo oa ko hKo i hi0 hi6 (by omega) (by omega) hG hS hl kk
      by_cases n34 : v39 = 34
      · subst n34
        refine lv_tableIn (off := 1158) (tgt := 1198) hx hb dL_law_40 (by decide) (by decide) (by decide +kernel) (by decide) ?_
        exact lc_34 hl0 hL hA hA2 C0 sd sa hE x mo oa ko hKo i hi0 hi6 (by omega) (by omega) hG hS hl kk
      by_cases n35 : v39 = 35
      · subst n35
        refine lv_tableIn (off := 1183) (tgt := 1223) hx hb dL_law_40 (by decide) (by decide) (by decide +kernel) (by decide) ?_
        exact lc_35 hl0 hL hA hA2 C0 sd sa hE x mo oa ko hKo i hi0 hi6 (by omega) (by omega) hG hS hl kk
      by_cases n36 : v39 = 36
      · subst n36
        refine lv_tableIn (off := 1208) (tgt := 1248) hx hb dL_law_40 (by decide) (by decide) (by decide +kernel) (by decide) ?_
        exact lc_36 hl0 hL hA hA2 C0 sd sa hE x mo oa ko hKo i hi0 hi6 (by omega) (by omega) hG hS hl kk
      by_cases n37 : v39 = 37
      · subst n37
        refine lv_tableIn (off := 1245) (tgt := 1285) hx hb dL_law_40 (by decide) (by decide) (by decide +kernel) (by decide) ?_
        exact lc_37 hl0 hL hA hA2 C0 sd sa hE x mo oa ko hKo i hi0 hi6 (by omega) (by omega) hG hS hl kk
      by_cases n38 : v39 = 38
      · subst n38
        refine lv_tableIn (off := 1258) (tgt := 1298) hx hb dL_law_40 (by decide) (by decide) (by decide +kernel) (by decide) ?_
        exact lc_38 hl0 hL hA hA2 C0 sd sa hE x mo oa ko hKo i hi0 hi6 (by omega) (by omega) hG hS hl kk
      by_cases n39 : v39 = 39
      · subst n39
        refine lv_tableIn (off := 1271) (tgt := 1311) hx hb dL_law_40 (by decide) (by decide) (by decide +kernel) (by decide) ?_
        exact lc_39 hl0 hL hA hA2 C0 sd sa hE x mo oa ko hKo i hi0 hi6 (by omega) (by omega) hG hS hl kk
      by_cases n40 : v39 = 40
      · subst n40
        refine lv_tableIn (off := 1284) (tgt := 1324) hx hb dL_law_40 (by decide) (by decide) (by decide +kernel) (by decide) ?_
        exact lc_40 hl0 hL hA hA2 C0 sd sa hE x mo oa ko hKo i hi0 hi6 (by omega) (by omega) hG hS hl kk
      by_cases n41 : v39 = 41
      · subst n41
        refine lv_tableIn (off := 1321) (tgt := 1361) hx hb dL_law_40 (by decide) (by decide) (by decide +kernel) (by decide) ?_
        exact lc_41 hl0 hL hA hA2 C0 sd sa hE x mo oa ko hKo i hi0 hi6 (by omega) (by omega) hG hS hl kk
      by_cases n42 : v39 = 42
      · subst n42
        refine lv_tableIn (off := 1334) (tgt := 1374) hx hb dL_law_40 (by decide) (by decide) (by decide +kernel) (by decide) ?_
        exact lc_42 hl0 hL hA hA2 C0 sd sa hE x mo oa ko hKo i hi0 hi6 (by omega) (by omega) hG hS hl kk
      by_cases n43 : v39 = 43
      · subst n43
        refine lv_tableIn (off := 1443) (tgt := 1483) hx hb dL_law_40 (by decide) (by decide) (by decide +kernel) (by decide) ?_
        exact lc_43 hl0 hL hA hA2 C0 sd sa hE x mo oa ko hKo i hi0 hi6 (by omega) (by omega) hG hS hl kk
      by_cases n44 : v39 = 44
      · subst n44
        refine lv_tableIn (off := 1468) (tgt := 1508) hx hb dL_law_40 (by decide) (by decide) (by decide +kernel) (by decide) ?_
        exact lc_44 hl0 hL hA hA2 C0 sd sa hE x mo oa ko hKo i hi0 hi6 (by omega) (by omega) hG hS hl kk
      by_cases n45 : v39 = 45
      · subst n45
        refine lv_tableIn (off := 1493) (tgt := 1533) hx hb dL_law_40 (by decide) (by decide) (by decide +kernel) (by decide) ?_
        exact lc_45 hl0 hL hA hA2 C0 sd sa hE x mo oa ko hKo i hi0 hi6 (by omega) (by omega) hG hS hl kk
      by_cases n46 : v39 = 46
      · subst n46
        refine lv_tableIn (off := 1558) (tgt := 1598) hx hb dL_law_40 (by decide) (by decide) (by decide +kernel) (by decide) ?_
        exact lc_46 hl0 hL hA hA2 C0 sd sa hE x mo oa ko hKo i hi0 hi6 (by omega) (by omega) hG hS hl kk
      by_cases n47 : v39 = 47
      · subst n47
        refine lv_tableIn (off := 1623) (tgt := 1663) hx hb dL_law_40 (by decide) (by decide) (by decide +kernel) (by decide) ?_
        exact lc_47 hl0 hL hA hA2 C0 sd sa hE x mo oa ko hKo i hi0 hi6 (by omega) (by omega) hG hS hl kk
      by_cases n48 : v39 = 48
      · subst n48
        refine lv_tableIn (off := 1672) (tgt := 1712) hx hb dL_law_40 (by decide) (by decide) (by decide +kernel) (by decide) ?_
        exact lc_48 hl0 hL hA hA2 C0 sd sa hE x mo oa ko hKo i hi0 hi6 (by omega) (by omega) hG hS hl kk
      by_cases n49 : v39 = 49
      · subst n49
        refine lv_tableIn (off := 1709) (tgt := 1749) hx hb dL_law_40 (by decide) (by decide) (by decide +kernel) (by decide) ?_
        exact lc_49 hl0 hL hA hA2 C0 sd sa hE x mo oa ko hKo i hi0 hi6 (by omega) (by omega) hG hS hl kk
      by_cases n50 : v39 = 50
      · subst n50
        refine lv_tableIn (off := 1734) (tgt := 1774) hx hb dL_law_40 (by decide) (by decide) (by decide +kernel) (by decide) ?_
        exact lc_50 hl0 hL hA hA2 C0 sd sa hE x mo oa ko hKo i hi0 hi6 (by omega) (by omega) hG hS hl kk
      by_cases n51 : v39 = 51
      · subst n51
        refine lv_tableIn (off := 1759) (tgt := 1799) hx hb dL_law_40 (by decide) (by decide) (by decide +kernel) (by decide) ?_
        exact lc_51 hl0 hL hA hA2 C0 sd sa hE x mo oa ko hKo i hi0 hi6 (by omega) (by omega) hG hS hl kk
      by_cases n52 : v39 = 52
      · subst n52
        refine lv_tableIn (off := 1784) (tgt := 1824) hx hb dL_law_40 (by decide) (by decide) (by decide +kernel) (by decide) ?_
        exact lc_52 hl0 hL hA hA2 C0 sd sa hE x mo oa ko hKo i hi0 hi6 (by omega) (by omega) hG hS hl kk
      by_cases n53 : v39 = 53
      · subst n53
        refine lv_tableIn (off := 1797) (tgt := 1837) hx hb dL_law_40 (by decide) (by decide) (by decide +kernel) (by decide) ?_
        exact lc_53 hl0 hL hA hA2 C0 sd sa hE x mo oa ko hKo i hi0 hi6 (by omega) (by omega) hG hS hl kk
      by_cases n54 : v39 = 54
      · subst n54
        refine lv_tableIn (off := 1810) (tgt := 1850) hx hb dL_law_40 (by decide) (by decide) (by decide +kernel) (by decide) ?_
        exact lc_54 hl0 hL hA hA2 C0 sd sa hE x mo oa ko hKo i hi0 hi6 (by omega) (by omega) hG hS hl kk
      by_cases n55 : v39 = 55
      · subst n55
        refine lv_tableIn (off := 1835) (tgt := 1875) hx hb dL_law_40 (by decide) (by decide) (by decide +kernel) (by decide) ?_
        exact lc_55 hl0 hL hA hA2 C0 sd sa hE x mo oa ko hKo i hi0 hi6 (by omega) (by omega) hG hS hl kk
      by_cases n56 : v39 = 56
      · subst n56
        refine lv_tableIn (off := 1863) (tgt := 1903) hx hb dL_law_40 (by decide) (by decide) (by decide +kernel) (by decide) ?_
        exact lc_56 hl0 hL hA hA2 C0 sd sa hE x mo oa ko hKo i hi0 hi6 (by omega) (by omega) hG hS hl kk
      by_cases n57 : v39 = 57
      · subst n57
        refine lv_tableIn (off := 1888) (tgt := 1928) hx hb dL_law_40 (by decide) (by decide) (by decide +kernel) (by decide) ?_
        exact lc_57 hl0 hL hA hA2 C0 sd sa hE x mo oa ko hKo i hi0 hi6 (by omega) (by omega) hG hS hl kk
      have o : v39.toInt < 0 ∨ 57 < v39.toInt := by
        have en0 : v39.toInt ≠ 0 := fun h9 => n0 (Int32.toInt_inj.mp (h9.trans (by decide)))
        have en1 : v39.toInt ≠ 1 := fun h9 => n1 (Int32.toInt_inj.mp (h9.trans (by decide)))
        have en2 : v39.toInt ≠ 2 := fun h9 => n2 (Int32.toInt_inj.mp (h9.trans (by decide)))
        have en3 : v39.toInt ≠ 3 := fun h9 => n3 (Int32.toInt_inj.mp (h9.trans (by decide)))
        have en4 : v39.toInt ≠ 4 := fun h9 => n4 (Int32.toInt_inj.mp (h9.trans (by decide)))
        have en5 : v39.toInt ≠ 5 := fun h9 => n5 (Int32.toInt_inj.mp (h9.trans (by decide)))
        have en6 : v39.toInt ≠ 6 := fun h9 => n6 (Int32.toInt_inj.mp (h9.trans (by decide)))
        have en7 : v39.toInt ≠ 7 := fun h9 => n7 (Int32.toInt_inj.mp (h9.trans (by decide)))
        have en8 : v39.toInt ≠ 8 := fun h9 => n8 (Int32.toInt_inj.mp (h9.trans (by decide)))
        have en9 : v39.toInt ≠ 9 := fun h9 => n9 (Int32.toInt_inj.mp (h9.trans (by decide)))
        have en10 : v39.toInt ≠ 10 := fun h9 => n10 (Int32.toInt_inj.mp (h9.trans (by decide)))
        have en11 : v39.toInt ≠ 11 := fun h9 => n11 (Int32.toInt_inj.mp (h9.trans (by decide)))
        have en12 : v39.toInt ≠ 12 := fun h9 => n12 (Int32.toInt_inj.mp (h9.trans (by decide)))
        have en13 : v39.toInt ≠ 13 := fun h9 => n13 (Int32.toInt_inj.mp (h9.trans (by decide)))
        have en14 : v39.toInt ≠ 14 := fun h9 => n14 (Int32.toInt_inj.mp (h9.trans (by decide)))
        have en15 : v39.toInt ≠ 15 := fun h9 => n15 (Int32.toInt_inj.mp (h9.trans (by decide)))
        have en16 : v39.toInt ≠ 16 := fun h9 => n16 (Int32.toInt_inj.mp (h9.trans (by decide)))
        have en17 : v39.toInt ≠ 17 := fun h9 => n17 (Int32.toInt_inj.mp (h9.trans (by decide)))
        have en18 : v39.toInt ≠ 18 := fun h9 => n18 (Int32.toInt_inj.mp (h9.trans (by decide)))
        have en19 : v39.toInt ≠ 19 := fun h9 => n19 (Int32.toInt_inj.mp (h9.trans (by decide)))
        have en20 : v39.toInt ≠ 20 := fun h9 => n20 (Int32.toInt_inj.mp (h9.trans (by decide)))
        have en21 : v39.toInt ≠ 21 := fun h9 => n21 (Int32.toInt_inj.mp (h9.trans (by decide)))
        have en22 : v39.toInt ≠ 22 := fun h9 => n22 (Int32.toInt_inj.mp (h9.trans (by decide)))
        have en23 : v39.toInt ≠ 23 := fun h9 => n23 (Int32.toInt_inj.mp (h9.trans (by decide)))
        have en24 : v39.toInt ≠ 24 := fun h9 => n24 (Int32.toInt_inj.mp (h9.trans (by decide)))
        have en25 : v39.toInt ≠ 25 := fun h9 => n25 (Int32.toInt_inj.mp (h9.trans (by decide)))
        have en26 : v39.toInt ≠ 26 := fun h9 => n26 (Int32.toInt_inj.mp (h9.trans (by decide)))
        have en27 : v39.toInt ≠ 27 := fun h9 => n27 (Int32.toInt_inj.mp (h9.trans (by decide)))
        have en28 : v39.toInt ≠ 28 := fun h9 => n28 (Int32.toInt_inj.mp (h9.trans (by decide)))
        have en29 : v39.toInt ≠ 29 := fun h9 => n29 (Int32.toInt_inj.mp (h9.trans (by decide)))
        have en30 : v39.toInt ≠ 30 := fun h9 => n30 (Int32.toInt_inj.mp (h9.trans (by decide)))
        have en31 : v39.toInt ≠ 31 := fun h9 => n31 (Int32.toInt_inj.mp (h9.trans (by decide)))
        have en32 : v39.toInt ≠ 32 := fun h9 => n32 (Int32.toInt_inj.mp (h9.trans (by decide)))
        have en33 : v39.toInt ≠ 33 := fun h9 => n33 (Int32.toInt_inj.mp (h9.trans (by decide)))
        have en34 : v39.toInt ≠ 34 := fun h9 => n34 (Int32.toInt_inj.mp (h9.trans (by decide)))
        have en35 : v39.toInt ≠ 35 := fun h9 => n35 (Int32.toInt_inj.mp (h9.trans (by decide)))
        have en36 : v39.toInt ≠ 36 := fun h9 => n36 (Int32.toInt_inj.mp (h9.trans (by decide)))
        have en37 : v39.toInt ≠ 37 := fun h9 => n37 (Int32.toInt_inj.mp (h9.trans (by decide)))
        have en38 : v39.toInt ≠ 38 := fun h9 => n38 (Int32.toInt_inj.mp (h9.trans (by decide)))
        have en39 : v39.toInt ≠ 39 := fun h9 => n39 (Int32.toInt_inj.mp (h9.trans (by decide)))
        have en40 : v39.toInt ≠ 40 := fun h9 => n40 (Int32.toInt_inj.mp (h9.trans (by decide)))
        have en41 : v39.toInt ≠ 41 := fun h9 => n41 (Int32.toInt_inj.mp (h9.trans (by decide)))
        have en42 : v39.toInt ≠ 42 := fun h9 => n42 (Int32.toInt_inj.mp (h9.trans (by decide)))
        have en43 : v39.toInt ≠ 43 := fun h9 => n43 (Int32.toInt_inj.mp (h9.trans (by decide)))
        have en44 : v39.toInt ≠ 44 := fun h9 => n44 (Int32.toInt_inj.mp (h9.trans (by decide)))
        have en45 : v39.toInt ≠ 45 := fun h9 => n45 (Int32.toInt_inj.mp (h9.trans (by decide)))
        have en46 : v39.toInt ≠ 46 := fun h9 => n46 (Int32.toInt_inj.mp (h9.trans (by decide)))
        have en47 : v39.toInt ≠ 47 := fun h9 => n47 (Int32.toInt_inj.mp (h9.trans (by decide)))
        have en48 : v39.toInt ≠ 48 := fun h9 => n48 (Int32.toInt_inj.mp (h9.trans (by decide)))
        have en49 : v39.toInt ≠ 49 := fun h9 => n49 (Int32.toInt_inj.mp (h9.trans (by decide)))
        have en50 : v39.toInt ≠ 50 := fun h9 => n50 (Int32.toInt_inj.mp (h9.trans (by decide)))
        have en51 : v39.toInt ≠ 51 := fun h9 => n51 (Int32.toInt_inj.mp (h9.trans (by decide)))
        have en52 : v39.toInt ≠ 52 := fun h9 => n52 (Int32.toInt_inj.mp (h9.trans (by decide)))
        have en53 : v39.toInt ≠ 53 := fun h9 => n53 (Int32.toInt_inj.mp (h9.trans (by decide)))
        have en54 : v39.toInt ≠ 54 := fun h9 => n54 (Int32.toInt_inj.mp (h9.trans (by decide)))
        have en55 : v39.toInt ≠ 55 := fun h9 => n55 (Int32.toInt_inj.mp (h9.trans (by decide)))
        have en56 : v39.toInt ≠ 56 := fun h9 => n56 (Int32.toInt_inj.mp (h9.trans (by decide)))
        have en57 : v39.toInt ≠ 57 := fun h9 => n57 (Int32.toInt_inj.mp (h9.trans (by decide)))
        omega
      refine lv_tableOut (tgt := 1941) hx hb dL_law_40 o (by decide) ?_
      exact kk _ _ _ _ _ (Nat.le_add_right _ _) (Nat.le_add_right _ _) hG hS hl
end P446_loop
section P4461_good
set_option maxRecDepth 20000 in
theorem gX0_init_X6_init : GoodIn wsX0_init (wsX6_init) := goodIn_s _ [(15, 2), (2, 3), (17, 2), (34, 4)] rfl (by decide +kernel)
set_option maxRecDepth 20000 in
theorem gX1_init_X5_init : GoodIn wsX1_init (wsX5_init) := goodIn_s _ [(11, 2), (2, 2), (13, 3), (21, 7)] rfl (by decide +kernel)
set_option maxRecDepth 20000 in
theorem gX3_init_X0_init : GoodIn wsX3_init (wsX0_init) := goodIn_s _ [(14, 2), (2, 2), (16, 15), (45, 19)] rfl (by decide +kernel)
set_option maxRecDepth 20000 in
theorem gX7_init_X3_init : GoodIn wsX7_init (wsX3_init) := goodIn_s _ [(38, 2), (2, 2), (40, 5), (30, 2), (45, 11), (14, 2), (56, 7), (91, 14), (142, 15), (123, 4)] rfl (by decide +kernel)
set_option maxRecDepth 20000 in
theorem gX7_init_X5_init : GoodIn wsX7_init (wsX5_init) := goodIn_s _ [(65, 2), (2, 2), (50, 1), (67, 2), (116, 7)] rfl (by decide +kernel)
set_option maxRecDepth 20000 in
theorem gX7_init_X6_init : GoodIn wsX7_init (wsX6_init) := goodIn_s _ [(59, 2), (2, 2), (50, 1), (61, 2), (123, 4)] rfl (by decide +kernel)
set_option maxRecDepth 20000 in
theorem gX7_init_X1_init : GoodIn wsX7_init (wsX1_init) := goodIn_s _ [(72, 2), (2, 2), (74, 2), (9, 2), (76, 2), (64, 3), (50, 1), (67, 2), (127, 5), (116, 7)] rfl (by decide +kernel)
set_option maxRecDepth 20000 in
theorem gX7_init_X2_init : GoodIn wsX7_init (wsX2_init) := goodIn_s _ [(80, 2), (2, 2), (50, 1), (82, 2), (132, 7)] rfl (by decide +kernel)
set_option maxRecDepth 20000 in
theorem gX7_init_X4_init : GoodIn wsX7_init (wsX4_init) := goodIn_s _ [(86, 2), (2, 2), (50, 1), (88, 2), (139, 3)] rfl (by decide +kernel)
set_option maxRecDepth 20000 in
theorem gX7_init_X0_init : GoodIn wsX7_init (wsX0_init) := goodIn_s _ [(48, 2), (2, 2), (50, 6), (14, 2), (56, 7), (142, 15), (123, 4)] rfl (by decide +kernel)
theorem ocXX0_init : (Cond.code objectInit ⟨#[0xb1]⟩ 1 none) ∈ wsX0_init := List.mem_of_getElem? (i := 3) rfl
theorem ocXX1_init : (Cond.code objectInit ⟨#[0xb1]⟩ 1 none) ∈ wsX1_init := List.mem_of_getElem? (i := 3) rfl
theorem ocXX2_init : (Cond.code objectInit ⟨#[0xb1]⟩ 1 none) ∈ wsX2_init := List.mem_of_getElem? (i := 3) rfl
theorem ocXX3_init : (Cond.code objectInit ⟨#[0xb1]⟩ 1 none) ∈ wsX3_init := List.mem_of_getElem? (i := 3) rfl
theorem ocXX4_init : (Cond.code objectInit ⟨#[0xb1]⟩ 1 none) ∈ wsX4_init := List.mem_of_getElem? (i := 3) rfl
theorem ocXX5_init : (Cond.code objectInit ⟨#[0xb1]⟩ 1 none) ∈ wsX5_init := List.mem_of_getElem? (i := 3) rfl
theorem ocXX6_init : (Cond.code objectInit ⟨#[0xb1]⟩ 1 none) ∈ wsX6_init := List.mem_of_getElem? (i := 3) rfl
theorem ocXX7_init : (Cond.code objectInit ⟨#[0xb1]⟩ 1 none) ∈ wsX7_init := List.mem_of_getElem? (i := 3) rfl
theorem ocXX8_init : (Cond.code objectInit ⟨#[0xb1]⟩ 1 none) ∈ wsX8_init := List.mem_of_getElem? (i := 3) rfl
end P4461_good
section P4462_ctor
section CTOR
theorem qs_z {l : List (Option Nat)} (h : ∀ z ∈ l, z = none) : (fun _ : Nat => (none : Option Nat)) = fun i9 => l.getD i9 none := by
  funext i
  rw [List.getD_eq_getElem?_getD]
  cases h2 : l[i]? with
  | none => rfl
  | some y => rw [h y (List.mem_of_getElem? h2)]; rfl
theorem qs_s {l : List (Option Nat)} {k : Nat} {v : Option Nat} (hk : k < l.length) : va_up (fun i9 => l.getD i9 none) k v = fun i9 => (l.set k v).getD i9 none := by
  funext j
  unfold va_up
  show (if j = k then v else l.getD j none) = (l.set k v).getD j none
  rw [List.getD_eq_getElem?_getD, List.getD_eq_getElem?_getD]
  by_cases e : j = k
  · subst e; rw [if_pos rfl, List.getElem?_set_self hk]; rfl
  · rw [if_neg e, List.getElem?_set_ne (fun z => e z.symm)]
end CTOR
end P4462_ctor
