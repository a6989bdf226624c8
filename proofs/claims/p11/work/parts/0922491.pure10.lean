section PUJ
set_option maxRecDepth 20000 in

theorem rp_g74 : Gf_X3_readLine_74_2 = Gf_X3_readLine_74_1 := rfl
theorem rp_beg0 {can e at_ en tk2 wm ns fa pl nn : Int} {lt fr tm cs : Nat → Int} (w : FfG_X8_isWord tk2 ns lt nn cs = 0) : FfG_X8_begins can e at_ en tk2 wm ns fa pl lt fr tm nn cs = (0, at_, en, tk2, wm, ns, fa, pl, 0, lt) := by
  unfold FfG_X8_begins; rw [fl_lt_eq w.symm, if_pos rfl]
theorem rp_beg5 {e at_ en tk2 wm ns fa pl nn : Int} {lt fr tm cs : Nat → Int} (w : FfG_X8_isWord tk2 ns lt nn cs = 1) : FfG_X8_begins 0 e at_ en tk2 wm ns fa pl lt fr tm nn cs = (1, at_, en, tk2, wm, ns, 5, at_, 1, lt) := by
  unfold FfG_X8_begins; rw [fl_lt_eq w.symm, if_neg (show ¬ (1 : Int) = 0 by decide), if_pos rfl]
  simp only [FfG_X8_wrong, fl_lt, fl_c2, fl_c3, fl_c4, fl_c5, fl_c6, fl_c7, fl_c8, fl_c9, fl_c10, reduceIte, Int.reduceEq, ite_self]
theorem rp_beg6 {e at_ en tk2 wm ns fa pl nn : Int} {lt fr tm cs : Nat → Int} (w : FfG_X8_isWord tk2 ns lt nn cs = 1) (h : fr 11 = 0) : FfG_X8_begins 1 e at_ en tk2 wm ns fa pl lt fr tm nn cs = (1, at_, en, tk2, wm, ns, 6, at_, 1, lt) := by
  unfold FfG_X8_begins; rw [fl_lt_eq w.symm, if_neg (show ¬ (1 : Int) = 0 by decide), if_neg (show ¬ (1 : Int) = 0 by decide), fl_lt_eq h.symm, if_pos rfl]
  simp only [FfG_X8_wrong, fl_lt, fl_c2, fl_c3, fl_c4, fl_c5, fl_c6, fl_c7, fl_c8, fl_c9, fl_c10, reduceIte, Int.reduceEq]
theorem rp_beg1 {e at_ en tk2 wm ns fa pl nn at1 en1 tk3 wm1 ns1 : Int} {lt lt1 fr tm cs : Nat → Int} (w : FfG_X8_isWord tk2 ns lt nn cs = 1) (h : ¬ fr 11 = 0) (a2 : Ff_X8_next e en tm lt = (at1, en1, tk3, wm1, ns1, lt1)) : FfG_X8_begins 1 e at_ en tk2 wm ns fa pl lt fr tm nn cs = (1, at1, en1, tk3, wm1, ns1, fa, pl, 0, lt1) := by
  unfold FfG_X8_begins; rw [fl_lt_eq w.symm, if_neg (show ¬ (1 : Int) = 0 by decide), if_neg (show ¬ (1 : Int) = 0 by decide), fl_lt_eq rfl, if_neg h]
  simp only [FfG_X8_pass, a2, fl_lt, fl_c2, fl_c3, fl_c4, fl_c5, fl_c6, fl_c7, fl_c8, fl_c9, fl_c10, reduceIte, Int.reduceEq]
/-- a line -/
theorem rp_line {tp tm : Nat → Int} {e st be tk wd wh at_ en tk2 wm ns : Int} {lt : Nat → Int} (hT : rp_T tp tm e) (he : e ≤ 900) (hK : rp_K e st be tk wd wh at_ en tk2 wm ns lt)
    {fg sp sa sh lw ti pu fi tb sc wc c : Int} {kd me sf sm wf wt nm fr : Nat → Int} (hD : rp_D fg sp sa sh lw ti pu fi tb sc wc c kd me sf sm wf wt nm fr) (fn fp ta fa pl : Int) :
    (∃ c' ta' fg' sp' sa' sh' lw' ti' pu' fi' tb' sc' wc' nm' kd' me' wf' wt' sm' sf' fr' st2 be2 tk4 wd2 wh2 at2 en2 tk5 wm2 ns2 lt2, Ff_X3_readLine fn fp c e st be tk wd wh ta fg sp sa sh lw ti pu fi tb sc tp nm kd me wc wf wt sm sf = (1, fn, fp, c', st2, be2, tk4, wd2, wh2, ta', fg', sp', sa', sh', lw', ti', pu', fi', tb', sc', nm', kd', me', wc', wf', wt', sm', sf') ∧ FfG_X8_readLine e at_ en tk2 wm ns fa pl lt fr tm = (at2, en2, tk5, wm2, ns2, fa, pl, 0, lt2, fr') ∧ rp_K e st2 be2 tk4 wd2 wh2 at2 en2 tk5 wm2 ns2 lt2 ∧ st < st2 ∧ rp_D fg' sp' sa' sh' lw' ti' pu' fi' tb' sc' wc' c' kd' me' sf' sm' wf' wt' nm' fr') ∨
    (∃ q p, rp_fc (Ff_X3_readLine fn fp c e st be tk wd wh ta fg sp sa sh lw ti pu fi tb sc tp nm kd me wc wf wt sm sf) q p ∧ rp_fm (FfG_X8_readLine e at_ en tk2 wm ns fa pl lt fr tm) q p) := by
  have hst : st = at_ := hK.1
  have hb0 : 0 ≤ be := hK.2.2.2.1
  have hb1 : be ≤ e := hK.2.2.2.2.1
  have n01 : ¬ (0 : Int) = 1 := by decide
  have n10 : ¬ (1 : Int) = 0 := by decide
  have hD0 := hD
  obtain ⟨⟨⟨h1, h2, h3, h4⟩, h5, h6, h7⟩, hf, hwD, hsD, hn⟩ := hD
  rcases rp_isw hK (nn := 7) (by decide) (by decide) rp_sw_gallery with ⟨w1, m1⟩ | ⟨w1, m1, -, -, hbe, hlt⟩
  rotate_left
  · -- gallery
    have uc : Ff_X3_readLine fn fp c e st be tk wd wh ta fg sp sa sh lw ti pu fi tb sc tp nm kd me wc wf wt sm sf = if fg ≤ 0 then fl_c13 (Ff_X3_readHall fn fp e be wd wh ta tp fg sp sa sh) (fun r28 v1 v2 v8 v9 v10 v11 v12 v13 x0 x1 x2 x3 => if r28 = 1 then (1, v1, v2, c, v8, v9, v10, v11, v12, v13, x0, x1, x2, x3, lw, ti, pu, fi, tb, sc, nm, kd, me, wc, wf, wt, sm, sf) else (0, v1, v2, c, v8, v9, v10, v11, v12, v13, x0, x1, x2, x3, lw, ti, pu, fi, tb, sc, nm, kd, me, wc, wf, wt, sm, sf)) else (0, 3, st, c, st, be, tk, wd, wh, ta, fg, sp, sa, sh, lw, ti, pu, fi, tb, sc, nm, kd, me, wc, wf, wt, sm, sf) := by
      unfold Ff_X3_readLine; rw [fl_lt_eq w1.symm, if_pos rfl]; rfl
    have um : FfG_X8_readLine e at_ en tk2 wm ns fa pl lt fr tm = fl_c10 (FfG_X8_galleryLine e at_ en tk2 wm ns fa pl fr tm lt) (fun v4 v5 v6 v7 v8 v9 v10 v13 v16 v12 => if v13 = 1 then (v4, v5, v6, v7, v8, v9, v10, 1, v12, v16) else (v4, v5, v6, v7, v8, v9, v10, 0, v12, v16)) := by
      unfold FfG_X8_readLine; rw [fl_lt_eq m1.symm, if_neg n10]
    by_cases h11 : fr 11 = 0
    · obtain ⟨z0, z10, z4, z5, z6⟩ := h3 h11
      rw [if_pos (by omega)] at uc
      rcases rp_hall hT he hK hbe h11 fn fp ta fg sp sa sh fa pl with ⟨v1, v2, v3, v4, st1, be1, tk1, wd1, wh1, at1, en1, tk3, wm1, ns1, lt1, b1, b2, b3, b4, b5, b6, b7, b8, b9, b10, b11, b12⟩ | ⟨q, p, b1, b2⟩
      · refine Or.inl ⟨c, v4, v1, v2, v3, v4, lw, ti, pu, fi, tb, sc, wc, nm, kd, me, wf, wt, sm, sf, fl_up (fl_up (fl_up (fl_up (fl_up fr 0 v1) 1 v2) 2 v3) 3 v4) 11 1, st1, be1, tk1, wd1, wh1, at1, en1, tk3, wm1, ns1, lt1, ?_, ?_, b3, by omega, ?_⟩
        · rw [uc, b1]; rfl
        · rw [um, b2]; rfl
        · have g0 : ∀ i : Nat, i ≠ 0 → i ≠ 1 → i ≠ 2 → i ≠ 3 → i ≠ 11 → (fl_up (fl_up (fl_up (fl_up (fl_up fr 0 v1) 1 v2) 2 v3) 3 v4) 11 1) i = fr i := fun i i0 i1 i2 i3 i4 => by
            rw [rp_up_ne _ _ i4, rp_up_ne _ _ i3, rp_up_ne _ _ i2, rp_up_ne _ _ i1, rp_up_ne _ _ i0]
          have e0 : (fl_up (fl_up (fl_up (fl_up (fl_up fr 0 v1) 1 v2) 2 v3) 3 v4) 11 1) 0 = v1 := rfl
          have e1 : (fl_up (fl_up (fl_up (fl_up (fl_up fr 0 v1) 1 v2) 2 v3) 3 v4) 11 1) 1 = v2 := rfl
          have e2 : (fl_up (fl_up (fl_up (fl_up (fl_up fr 0 v1) 1 v2) 2 v3) 3 v4) 11 1) 2 = v3 := rfl
          have e3 : (fl_up (fl_up (fl_up (fl_up (fl_up fr 0 v1) 1 v2) 2 v3) 3 v4) 11 1) 3 = v4 := rfl
          have e11 : (fl_up (fl_up (fl_up (fl_up (fl_up fr 0 v1) 1 v2) 2 v3) 3 v4) 11 1) 11 = 1 := rfl
          refine ⟨⟨⟨e0.symm, Or.inr e11, fun h => ?_, fun _ => ⟨?_, ?_, e1.symm, e2.symm, e3.symm⟩⟩, ?_, h6, fun h => ?_⟩, rp_Df_cg hf (fun i hi => g0 i (by omega) (by omega) (by omega) (by omega) (by omega)), rp_Dw_cg hwD (fun i hi => g0 i (by omega) (by omega) (by omega) (by omega) (by omega)), rp_Ds_cg hsD (fun i hi => g0 i (by omega) (by omega) (by omega) (by omega) (by omega)), rp_Dn_cg hn (fun i hi => g0 i (by omega) (by omega) (by omega) (by omega) (by omega))⟩
          · rw [e11] at h; omega
          · rw [e0]; exact b5
          · rw [e0]; exact b6
          · rw [g0 10 (by omega) (by omega) (by omega) (by omega) (by omega)]; exact h5
          · omega
      · refine Or.inr ⟨q, p, ?_, ?_⟩
        · rw [uc]; simp only [fl_c13, b1.1, reduceIte, Int.reduceEq]; exact ⟨rfl, b1.2.1, b1.2.2⟩
        · rw [um]; simp only [fl_c10, b2.2.2, reduceIte]; exact ⟨b2.1, b2.2.1, rfl⟩
    · have h11' : fr 11 = 1 := by omega
      have := h4 h11'
      rw [if_neg (by omega)] at uc
      refine Or.inr ⟨3, st, ?_, ?_⟩
      · rw [uc]; exact ⟨rfl, rfl, rfl⟩
      · rw [um]
        have eg : FfG_X8_galleryLine e at_ en tk2 wm ns fa pl fr tm lt = (at_, en, tk2, wm, ns, 3, at_, 1, fr, lt) := by
          unfold FfG_X8_galleryLine; rw [fl_lt_eq rfl, if_neg (by omega)]; rfl
        rw [eg, hst]; exact ⟨rfl, rfl, rfl⟩
  rcases rp_isw hK (nn := 3) (by decide) (by decide) rp_sw_law with ⟨w2, m2⟩ | ⟨w2, m2, -, -, hbe, hlt⟩
  rotate_left
  · -- law
    have uc : Ff_X3_readLine fn fp c e st be tk wd wh ta fg sp sa sh lw ti pu fi tb sc tp nm kd me wc wf wt sm sf = if fg = 0 then (0, 6, st, c, st, be, tk, wd, wh, ta, fg, sp, sa, sh, lw, ti, pu, fi, tb, sc, nm, kd, me, wc, wf, wt, sm, sf) else if lw = 0 then fl_c13 (Ff_X3_readLaw fn fp e be wd wh ta tp fg lw ti pu fi) (fun r28 v1 v2 v8 v9 v10 v11 v12 v13 x4 x5 x6 x7 => if r28 = 1 then (1, v1, v2, c, v8, v9, v10, v11, v12, v13, fg, sp, sa, sh, x4, x5, x6, x7, tb, sc, nm, kd, me, wc, wf, wt, sm, sf) else (0, v1, v2, c, v8, v9, v10, v11, v12, v13, fg, sp, sa, sh, x4, x5, x6, x7, tb, sc, nm, kd, me, wc, wf, wt, sm, sf)) else (0, 3, st, c, st, be, tk, wd, wh, ta, fg, sp, sa, sh, lw, ti, pu, fi, tb, sc, nm, kd, me, wc, wf, wt, sm, sf) := by
      unfold Ff_X3_readLine; rw [fl_lt_eq w1.symm, if_neg n01, fl_lt_eq w2.symm, if_pos rfl]
      unfold Gf_X3_readLine_74_1; rw [fl_lt_eq w2.symm, if_pos rfl]; rfl
    have um : FfG_X8_readLine e at_ en tk2 wm ns fa pl lt fr tm = fl_c10 (FfG_X8_lawLine e at_ en tk2 wm ns fa pl fr tm lt) (fun v4 v5 v6 v7 v8 v9 v10 v13 v16 v12 => if v13 = 1 then (v4, v5, v6, v7, v8, v9, v10, 1, v12, v16) else (v4, v5, v6, v7, v8, v9, v10, 0, v12, v16)) := by
      unfold FfG_X8_readLine; rw [fl_lt_eq m1.symm, if_pos rfl, fl_lt_eq m2.symm, if_neg n10]
    by_cases h11 : fr 11 = 0
    · obtain ⟨z0, z10, z4, z5, z6⟩ := h3 h11
      rw [if_pos (by omega)] at uc
      refine Or.inr ⟨6, st, ?_, ?_⟩
      · rw [uc]; exact ⟨rfl, rfl, rfl⟩
      · have eg : FfG_X8_lawLine e at_ en tk2 wm ns fa pl fr tm lt = (at_, en, tk2, wm, ns, 6, at_, 1, fr, lt) := by
          unfold FfG_X8_lawLine; rw [fl_lt_eq rfl, if_pos (by omega), fl_lt_eq rfl, if_pos h11]; rfl
        rw [um, eg, hst]; exact ⟨rfl, rfl, rfl⟩
    · have h11' : fr 11 = 1 := by omega
      have hb := h4 h11'
      rw [if_neg (by omega)] at uc
      by_cases hlw : lw = 0
      · rw [if_pos hlw] at uc
        rcases rp_law hT he hK hbe (by omega) h11' fn fp ta fg lw ti pu fi fa pl h1 with ⟨v1, v2, v3, st1, be1, tk1, wd1, wh1, at1, en1, tk3, wm1, ns1, lt1, b1, b2, b3, b4, b5, b6, b7, b8, b9, b10⟩ | ⟨q, p, b1, b2⟩
        · refine Or.inl ⟨c, v3, fg, sp, sa, sh, 1, v1, v2, v3, tb, sc, wc, nm, kd, me, wf, wt, sm, sf, fl_up (fl_up (fl_up (fl_up fr 7 v1) 8 v2) 9 v3) 10 1, st1, be1, tk1, wd1, wh1, at1, en1, tk3, wm1, ns1, lt1, ?_, ?_, b3, by omega, ?_⟩
          · rw [uc, b1]; rfl
          · rw [um, b2]; rfl
          · have g0 : ∀ i : Nat, i ≠ 7 → i ≠ 8 → i ≠ 9 → i ≠ 10 → (fl_up (fl_up (fl_up (fl_up fr 7 v1) 8 v2) 9 v3) 10 1) i = fr i := fun i i0 i1 i2 i3 => by
              rw [rp_up_ne _ _ i3, rp_up_ne _ _ i2, rp_up_ne _ _ i1, rp_up_ne _ _ i0]
            refine ⟨⟨⟨?_, ?_, fun h => ?_, fun _ => ?_⟩, rfl, Or.inr rfl, fun _ => ⟨rfl, rfl, rfl, b9, b10⟩⟩, rp_Df_cg hf (fun i hi => g0 i (by omega) (by omega) (by omega) (by omega)), rp_Dw_cg hwD (fun i hi => g0 i (by omega) (by omega) (by omega) (by omega)), rp_Ds_cg hsD (fun i hi => g0 i (by omega) (by omega) (by omega) (by omega)), rp_Dn_cg hn (fun i hi => g0 i (by omega) (by omega) (by omega) (by omega))⟩
            · rw [g0 0 (by omega) (by omega) (by omega) (by omega)]; exact h1
            · rw [g0 11 (by omega) (by omega) (by omega) (by omega)]; exact h2
            · rw [g0 11 (by omega) (by omega) (by omega) (by omega)] at h; exact absurd h h11
            · rw [g0 0 (by omega) (by omega) (by omega) (by omega), g0 1 (by omega) (by omega) (by omega) (by omega), g0 2 (by omega) (by omega) (by omega) (by omega), g0 3 (by omega) (by omega) (by omega) (by omega)]; exact hb
        · refine Or.inr ⟨q, p, ?_, ?_⟩
          · rw [uc]; simp only [fl_c13, b1.1, reduceIte, Int.reduceEq]; exact ⟨rfl, b1.2.1, b1.2.2⟩
          · rw [um]; simp only [fl_c10, b2.2.2, reduceIte]; exact ⟨b2.1, b2.2.1, rfl⟩
      · rw [if_neg hlw] at uc
        refine Or.inr ⟨3, st, ?_, ?_⟩
        · rw [uc]; exact ⟨rfl, rfl, rfl⟩
        · have eg : FfG_X8_lawLine e at_ en tk2 wm ns fa pl fr tm lt = (at_, en, tk2, wm, ns, 3, at_, 1, fr, lt) := by
            unfold FfG_X8_lawLine; rw [fl_lt_eq rfl, if_neg (by omega)]
            simp only [FfG_X8_wrong, fl_lt, fl_c2, fl_c3, fl_c4, fl_c5, fl_c6, fl_c7, fl_c8, fl_c9, fl_c10, reduceIte, Int.reduceEq, ite_self]
          rw [um, eg, hst]; exact ⟨rfl, rfl, rfl⟩
  obtain ⟨st1, be1, tk1, wd1, wh1, at1, en1, tk3, wm1, ns1, lt1, a1, a2, a3, a4⟩ := rp_adv hT he be wd wh lt hb0 hb1
  have h4f : 0 ≤ fr 4 ∧ fr 4 ≤ 9 := ⟨hf.2.2.2.2.1, hf.2.2.2.2.2⟩
  have h5w : wc = fr 5 ∧ 0 ≤ wc ∧ wc ≤ 3 := ⟨hwD.1, hwD.2.1, hwD.2.2.1⟩
  have h6s : sc = fr 6 ∧ 0 ≤ sc ∧ sc ≤ 6 := ⟨hsD.1, hsD.2.1, hsD.2.2.1⟩
  rcases rp_isw hK (nn := 6) (by decide) (by decide) rp_sw_figure with ⟨w3, m3⟩ | ⟨w3, m3, -, -, hbe, hlt⟩
  rotate_left
  · -- figure
    have uc : Ff_X3_readLine fn fp c e st be tk wd wh ta fg sp sa sh lw ti pu fi tb sc tp nm kd me wc wf wt sm sf = if fg = 0 then (0, 6, st, c, st, be, tk, wd, wh, ta, fg, sp, sa, sh, lw, ti, pu, fi, tb, sc, nm, kd, me, wc, wf, wt, sm, sf) else if Ff_J6_bitCount_0f7a4 tb < 9 then fl_c14 (Ff_X3_readFigure fn fp c e be wd wh ta tp nm fg tb kd me) (fun r v1 v2 v6 v8 v9 v10 v11 v12 v13 y4 x8 y10 y11 => if r = 1 then (1, v1, v2, v6, v8, v9, v10, v11, v12, v13, fg, sp, sa, sh, lw, ti, pu, fi, x8, sc, y4, y10, y11, wc, wf, wt, sm, sf) else (0, v1, v2, v6, v8, v9, v10, v11, v12, v13, fg, sp, sa, sh, lw, ti, pu, fi, x8, sc, y4, y10, y11, wc, wf, wt, sm, sf)) else (0, 5, st, c, st, be, tk, wd, wh, ta, fg, sp, sa, sh, lw, ti, pu, fi, tb, sc, nm, kd, me, wc, wf, wt, sm, sf) := by
      unfold Ff_X3_readLine; rw [fl_lt_eq w1.symm, if_neg n01, fl_lt_eq w2.symm, if_neg n01, fl_lt_eq w3.symm, if_pos rfl, rp_g74]
      unfold Gf_X3_readLine_74_1; rw [fl_lt_eq w2.symm, if_neg n01, fl_lt_eq w3.symm, if_pos rfl]; rfl
    rw [show Ff_J6_bitCount_0f7a4 tb = fr 4 from hf.2.2.2.1] at uc
    rw [hbe] at a2
    by_cases h11 : fr 11 = 0
    · obtain ⟨z0, z10, z4, z5, z6⟩ := h3 h11
      rw [if_pos (by omega)] at uc
      refine Or.inr ⟨6, st, ?_, ?_⟩
      · rw [uc]; exact ⟨rfl, rfl, rfl⟩
      · unfold FfG_X8_readLine; rw [fl_lt_eq m1.symm, if_pos rfl, fl_lt_eq m2.symm, if_pos rfl, fl_lt_eq rfl, if_neg (by omega), rp_beg6 m3 h11, hst]; exact ⟨rfl, rfl, rfl⟩
    · have hb := h4 (by omega)
      rw [if_neg (by omega)] at uc
      by_cases h9 : fr 4 < 9
      · rw [if_pos (by omega)] at uc
        have um : FfG_X8_readLine e at_ en tk2 wm ns fa pl lt fr tm = fl_c10 (FfG_X8_figureLine e at1 en1 tk3 wm1 ns1 fa pl fr lt1 tm) (fun v4 v5 v6 v7 v8 v9 v10 v13 v16 v12 => if v13 = 1 then (v4, v5, v6, v7, v8, v9, v10, 1, v12, v16) else (v4, v5, v6, v7, v8, v9, v10, 0, v12, v16)) := by
          unfold FfG_X8_readLine; rw [fl_lt_eq m1.symm, if_pos rfl, fl_lt_eq m2.symm, if_pos rfl, fl_lt_eq rfl, if_neg (by omega), rp_beg1 m3 h11 a2]; rfl
        rcases rp_fig hT he a1 a3 hD0 h9 h11 fn fp ta fa pl with ⟨c', ta', tb', kd', me', nm', fr', st2, be2, tk4, wd2, wh2, at2, en2, tk5, wm2, ns2, lt2, b1, b2, b3, b4, b5⟩ | ⟨q, p, b1, b2⟩
        · refine Or.inl ⟨c', ta', fg, sp, sa, sh, lw, ti, pu, fi, tb', sc, wc, nm', kd', me', wf, wt, sm, sf, fr', st2, be2, tk4, wd2, wh2, at2, en2, tk5, wm2, ns2, lt2, ?_, ?_, b3, by omega, b5⟩
          · rw [uc, b1]; rfl
          · rw [um, b2]; rfl
        · refine Or.inr ⟨q, p, ?_, ?_⟩
          · rw [uc]; simp only [fl_c14, b1.1, reduceIte, Int.reduceEq]; exact ⟨rfl, b1.2.1, b1.2.2⟩
          · rw [um]; simp only [fl_c10, b2.2.2, reduceIte]; exact ⟨b2.1, b2.2.1, rfl⟩
      · rw [if_neg (by omega)] at uc
        refine Or.inr ⟨5, st, ?_, ?_⟩
        · rw [uc]; exact ⟨rfl, rfl, rfl⟩
        · unfold FfG_X8_readLine; rw [fl_lt_eq m1.symm, if_pos rfl, fl_lt_eq m2.symm, if_pos rfl, fl_lt_eq rfl, if_pos (by omega), rp_beg5 m3, hst]; exact ⟨rfl, rfl, rfl⟩
  -- behind figure, there
  have vf : ∀ can : Int, FfG_X8_begins can e at_ en tk2 wm ns fa pl lt fr tm 6 (fl_A (sxc 20)) = (0, at_, en, tk2, wm, ns, fa, pl, 0, lt) := fun can => rp_beg0 m3
  rcases rp_isw hK (nn := 7) (by decide) (by decide) rp_sw_watcher with ⟨w4, m4⟩ | ⟨w4, m4, -, -, hbe, hlt⟩
  rotate_left
  · -- watcher
    have uc : Ff_X3_readLine fn fp c e st be tk wd wh ta fg sp sa sh lw ti pu fi tb sc tp nm kd me wc wf wt sm sf = if fg = 0 then (0, 6, st, c, st, be, tk, wd, wh, ta, fg, sp, sa, sh, lw, ti, pu, fi, tb, sc, nm, kd, me, wc, wf, wt, sm, sf) else if wc < 3 then fl_c14 (Ff_X3_readWatcher fn fp c e be wd wh ta tp nm fg wc wf wt) (fun r v1 v2 v6 v8 v9 v10 v11 v12 v13 y4 x0 y2 y3 => if r = 1 then (1, v1, v2, v6, v8, v9, v10, v11, v12, v13, fg, sp, sa, sh, lw, ti, pu, fi, tb, sc, y4, kd, me, x0, y2, y3, sm, sf) else (0, v1, v2, v6, v8, v9, v10, v11, v12, v13, fg, sp, sa, sh, lw, ti, pu, fi, tb, sc, y4, kd, me, x0, y2, y3, sm, sf)) else (0, 5, st, c, st, be, tk, wd, wh, ta, fg, sp, sa, sh, lw, ti, pu, fi, tb, sc, nm, kd, me, wc, wf, wt, sm, sf) := by
      unfold Ff_X3_readLine; rw [fl_lt_eq w1.symm, if_neg n01, fl_lt_eq w2.symm, if_neg n01, fl_lt_eq w3.symm, if_neg n01, fl_lt_eq w4.symm, if_pos rfl, rp_g74]
      unfold Gf_X3_readLine_74_1; rw [fl_lt_eq w2.symm, if_neg n01, fl_lt_eq w3.symm, if_neg n01, fl_lt_eq w4.symm, if_pos rfl]; rfl
    rw [hbe] at a2
    by_cases h11 : fr 11 = 0
    · obtain ⟨z0, z10, z4, z5, z6⟩ := h3 h11
      rw [if_pos (by omega)] at uc
      refine Or.inr ⟨6, st, ?_, ?_⟩
      · rw [uc]; exact ⟨rfl, rfl, rfl⟩
      · have eg : FfG_X8_readLine e at_ en tk2 wm ns fa pl lt fr tm = (at_, en, tk2, wm, ns, 6, at_, 1, lt, fr) := by
          simp only [FfG_X8_readLine, m1, m2, vf, rp_beg6 m4 h11, z4, z5, fl_lt, fl_c2, fl_c3, fl_c4, fl_c5, fl_c6, fl_c7, fl_c8, fl_c9, fl_c10, reduceIte, Int.reduceEq, Int.reduceLE]
        rw [eg, hst]; exact ⟨rfl, rfl, rfl⟩
    · have hb := h4 (by omega)
      rw [if_neg (by omega)] at uc
      by_cases h9 : wc < 3
      · rw [if_pos h9] at uc
        have um : FfG_X8_readLine e at_ en tk2 wm ns fa pl lt fr tm = fl_c10 (FfG_X8_watcherLine e at1 en1 tk3 wm1 ns1 fa pl fr lt1 tm) (fun v4 v5 v6 v7 v8 v9 v10 v13 v16 v12 => if v13 = 1 then (v4, v5, v6, v7, v8, v9, v10, 1, v12, v16) else (v4, v5, v6, v7, v8, v9, v10, 0, v12, v16)) := by
          have q5 : ¬ 3 ≤ fr 5 := by omega
          unfold FfG_X8_readLine; rw [fl_lt_eq m1.symm, if_pos rfl, fl_lt_eq m2.symm, if_pos rfl, fl_lt_eq rfl]
          by_cases q4 : 9 ≤ fr 4
          · rw [if_pos q4, vf, fl_c10_eq rfl, if_pos rfl, fl_lt_eq rfl, if_neg q5, rp_beg1 m4 h11 a2]; rfl
          · rw [if_neg q4, vf, fl_c10_eq rfl, if_pos rfl, fl_lt_eq rfl, if_neg q5, rp_beg1 m4 h11 a2]; rfl
        rcases rp_watch hT he a1 a3 hD0 h9 h11 fn fp ta fa pl with ⟨c', ta', wc', wf', wt', nm', fr', st2, be2, tk4, wd2, wh2, at2, en2, tk5, wm2, ns2, lt2, b1, b2, b3, b4, b5⟩ | ⟨q, p, b1, b2⟩
        · refine Or.inl ⟨c', ta', fg, sp, sa, sh, lw, ti, pu, fi, tb, sc, wc', nm', kd, me, wf', wt', sm, sf, fr', st2, be2, tk4, wd2, wh2, at2, en2, tk5, wm2, ns2, lt2, ?_, ?_, b3, by omega, b5⟩
          · rw [uc, b1]; rfl
          · rw [um, b2]; rfl
        · refine Or.inr ⟨q, p, ?_, ?_⟩
          · rw [uc]; simp only [fl_c14, b1.1, reduceIte, Int.reduceEq]; exact ⟨rfl, b1.2.1, b1.2.2⟩
          · rw [um]; simp only [fl_c10, b2.2.2, reduceIte]; exact ⟨b2.1, b2.2.1, rfl⟩
      · rw [if_neg h9] at uc
        refine Or.inr ⟨5, st, ?_, ?_⟩
        · rw [uc]; exact ⟨rfl, rfl, rfl⟩
        · have q5 : 3 ≤ fr 5 := by omega
          have eg : FfG_X8_readLine e at_ en tk2 wm ns fa pl lt fr tm = (at_, en, tk2, wm, ns, 5, at_, 1, lt, fr) := by
            unfold FfG_X8_readLine; rw [fl_lt_eq m1.symm, if_pos rfl, fl_lt_eq m2.symm, if_pos rfl, fl_lt_eq rfl]
            by_cases q4 : 9 ≤ fr 4
            · rw [if_pos q4, vf, fl_c10_eq rfl, if_pos rfl, fl_lt_eq rfl, if_pos q5, rp_beg5 m4]; rfl
            · rw [if_neg q4, vf, fl_c10_eq rfl, if_pos rfl, fl_lt_eq rfl, if_pos q5, rp_beg5 m4]; rfl
          rw [eg, hst]; exact ⟨rfl, rfl, rfl⟩
  have vw : ∀ can : Int, FfG_X8_begins can e at_ en tk2 wm ns fa pl lt fr tm 7 (fl_A (sxc 21)) = (0, at_, en, tk2, wm, ns, fa, pl, 0, lt) := fun can => rp_beg0 m4
  rcases rp_isw hK (nn := 4) (by decide) (by decide) rp_sw_seen with ⟨w5, m5⟩ | ⟨w5, m5, -, -, hbe, hlt⟩
  rotate_left
  · -- seen
    have uc : Ff_X3_readLine fn fp c e st be tk wd wh ta fg sp sa sh lw ti pu fi tb sc tp nm kd me wc wf wt sm sf = if fg = 0 then (0, 6, st, c, st, be, tk, wd, wh, ta, fg, sp, sa, sh, lw, ti, pu, fi, tb, sc, nm, kd, me, wc, wf, wt, sm, sf) else if sc < 6 then fl_c12 (Ff_X3_readSeen fn fp e st be tk wd wh ta fg sc tp sm sf) (fun r v1 v2 v8 v9 v10 v11 v12 v13 x9 y13 y12 => if r = 1 then (1, v1, v2, c, v8, v9, v10, v11, v12, v13, fg, sp, sa, sh, lw, ti, pu, fi, tb, x9, nm, kd, me, wc, wf, wt, y13, y12) else (0, v1, v2, c, v8, v9, v10, v11, v12, v13, fg, sp, sa, sh, lw, ti, pu, fi, tb, x9, nm, kd, me, wc, wf, wt, y13, y12)) else (0, 5, st, c, st, be, tk, wd, wh, ta, fg, sp, sa, sh, lw, ti, pu, fi, tb, sc, nm, kd, me, wc, wf, wt, sm, sf) := by
      unfold Ff_X3_readLine; rw [fl_lt_eq w1.symm, if_neg n01, fl_lt_eq w2.symm, if_neg n01, fl_lt_eq w3.symm, if_neg n01, fl_lt_eq w4.symm, if_neg n01, fl_lt_eq w5.symm, if_pos rfl, rp_g74]
      unfold Gf_X3_readLine_74_1; rw [fl_lt_eq w2.symm, if_neg n01, fl_lt_eq w3.symm, if_neg n01, fl_lt_eq w4.symm, if_neg n01]; rfl
    rw [hbe] at a2
    have ul : FfG_X8_readLine e at_ en tk2 wm ns fa pl lt fr tm = if 6 ≤ fr 6 then fl_c10 (FfG_X8_begins 0 e at_ en tk2 wm ns fa pl lt fr tm 4 (fl_A (sxc 22))) (fun r v4 v5 v6 v7 v8 v9 v10 v13 v12 => if r = 0 then fl_c2 (FfG_X8_wrong 1 v4) (fun y9 y10 => (v4, v5, v6, v7, v8, y9, y10, 1, v12, fr)) else if v13 = 1 then (v4, v5, v6, v7, v8, v9, v10, 1, v12, fr) else (0, 0, 0, 0, 0, 0, 0, 0, (fun _ => 0), (fun _ => 0))) else fl_c10 (FfG_X8_begins 1 e at_ en tk2 wm ns fa pl lt fr tm 4 (fl_A (sxc 22))) (fun r v4 v5 v6 v7 v8 v9 v10 v13 v12 => if r = 0 then fl_c2 (FfG_X8_wrong 1 v4) (fun y9 y10 => (v4, v5, v6, v7, v8, y9, y10, 1, v12, fr)) else if v13 = 1 then (v4, v5, v6, v7, v8, v9, v10, 1, v12, fr) else fl_c10 (FfG_X8_seenLine e v4 v5 v6 v7 v8 v9 v10 fr tm v12) (fun u4 u5 u6 u7 u8 u9 u10 u13 u16 u12 => if u13 = 1 then (u4, u5, u6, u7, u8, u9, u10, 1, u12, u16) else (u4, u5, u6, u7, u8, u9, u10, 0, u12, u16))) := by
      unfold FfG_X8_readLine; rw [fl_lt_eq m1.symm, if_pos rfl, fl_lt_eq m2.symm, if_pos rfl, fl_lt_eq rfl]
      by_cases q4 : 9 ≤ fr 4
      · rw [if_pos q4, vf, fl_c10_eq rfl, if_pos rfl, fl_lt_eq rfl]
        by_cases q5 : 3 ≤ fr 5
        · rw [if_pos q5, vw, fl_c10_eq rfl, if_pos rfl]; rfl
        · rw [if_neg q5, vw, fl_c10_eq rfl, if_pos rfl]; rfl
      · rw [if_neg q4, vf, fl_c10_eq rfl, if_pos rfl, fl_lt_eq rfl]
        by_cases q5 : 3 ≤ fr 5
        · rw [if_pos q5, vw, fl_c10_eq rfl, if_pos rfl]; rfl
        · rw [if_neg q5, vw, fl_c10_eq rfl, if_pos rfl]; rfl
    by_cases h11 : fr 11 = 0
    · obtain ⟨z0, z10, z4, z5, z6⟩ := h3 h11
      rw [if_pos (by omega)] at uc
      rw [if_neg (by omega), rp_beg6 m5 h11] at ul
      refine Or.inr ⟨6, st, ?_, ?_⟩
      · rw [uc]; exact ⟨rfl, rfl, rfl⟩
      · rw [ul, hst]; exact ⟨rfl, rfl, rfl⟩
    · have hb := h4 (by omega)
      rw [if_neg (by omega)] at uc
      by_cases h9 : sc < 6
      · rw [if_pos h9] at uc
        rw [if_neg (by omega), rp_beg1 m5 h11 a2, fl_c10_eq rfl, if_neg n10, if_neg n01] at ul
        rcases rp_seen (st := st) hT he w5 a1 a3 hD0 h9 h11 fn fp ta fa pl with ⟨ta', sc', sm', sf', fr', st2, be2, tk4, wd2, wh2, at2, en2, tk5, wm2, ns2, lt2, b1, b2, b3, b4, b5⟩ | ⟨q, p, b1, b2⟩
        · refine Or.inl ⟨c, ta', fg, sp, sa, sh, lw, ti, pu, fi, tb, sc', wc, nm, kd, me, wf, wt, sm', sf', fr', st2, be2, tk4, wd2, wh2, at2, en2, tk5, wm2, ns2, lt2, ?_, ?_, b3, by omega, b5⟩
          · rw [uc, b1]; rfl
          · rw [ul, b2]; rfl
        · refine Or.inr ⟨q, p, ?_, ?_⟩
          · rw [uc]; simp only [fl_c12, b1.1, reduceIte, Int.reduceEq]; exact ⟨rfl, b1.2.1, b1.2.2⟩
          · rw [ul]; simp only [fl_c10, b2.2.2, reduceIte]; exact ⟨b2.1, b2.2.1, rfl⟩
      · rw [if_neg h9] at uc
        rw [if_pos (by omega), rp_beg5 m5] at ul
        refine Or.inr ⟨5, st, ?_, ?_⟩
        · rw [uc]; exact ⟨rfl, rfl, rfl⟩
        · rw [ul, hst]; exact ⟨rfl, rfl, rfl⟩
  · -- none of them
    have uc : Ff_X3_readLine fn fp c e st be tk wd wh ta fg sp sa sh lw ti pu fi tb sc tp nm kd me wc wf wt sm sf = (0, 1, st, c, st, be, tk, wd, wh, ta, fg, sp, sa, sh, lw, ti, pu, fi, tb, sc, nm, kd, me, wc, wf, wt, sm, sf) := by
      unfold Ff_X3_readLine; rw [fl_lt_eq w1.symm, if_neg n01, fl_lt_eq w2.symm, if_neg n01, fl_lt_eq w3.symm, if_neg n01, fl_lt_eq w4.symm, if_neg n01, fl_lt_eq w5.symm, if_neg n01]; rfl
    have vs : ∀ can : Int, FfG_X8_begins can e at_ en tk2 wm ns fa pl lt fr tm 4 (fl_A (sxc 22)) = (0, at_, en, tk2, wm, ns, fa, pl, 0, lt) := fun can => rp_beg0 m5
    have um : FfG_X8_readLine e at_ en tk2 wm ns fa pl lt fr tm = (at_, en, tk2, wm, ns, 1, at_, 1, lt, fr) := by
      unfold FfG_X8_readLine; rw [fl_lt_eq m1.symm, if_pos rfl, fl_lt_eq m2.symm, if_pos rfl, fl_lt_eq rfl]
      by_cases q4 : 9 ≤ fr 4
      · rw [if_pos q4, vf, fl_c10_eq rfl, if_pos rfl, fl_lt_eq rfl]
        by_cases q5 : 3 ≤ fr 5
        · rw [if_pos q5, vw, fl_c10_eq rfl, if_pos rfl, fl_lt_eq rfl]
          by_cases q6 : 6 ≤ fr 6
          · rw [if_pos q6, vs]; rfl
          · rw [if_neg q6, vs]; rfl
        · rw [if_neg q5, vw, fl_c10_eq rfl, if_pos rfl, fl_lt_eq rfl]
          by_cases q6 : 6 ≤ fr 6
          · rw [if_pos q6, vs]; rfl
          · rw [if_neg q6, vs]; rfl
      · rw [if_neg q4, vf, fl_c10_eq rfl, if_pos rfl, fl_lt_eq rfl]
        by_cases q5 : 3 ≤ fr 5
        · rw [if_pos q5, vw, fl_c10_eq rfl, if_pos rfl, fl_lt_eq rfl]
          by_cases q6 : 6 ≤ fr 6
          · rw [if_pos q6, vs]; rfl
          · rw [if_neg q6, vs]; rfl
        · rw [if_neg q5, vw, fl_c10_eq rfl, if_pos rfl, fl_lt_eq rfl]
          by_cases q6 : 6 ≤ fr 6
          · rw [if_pos q6, vs]; rfl
          · rw [if_neg q6, vs]; rfl
    refine Or.inr ⟨1, st, ?_, ?_⟩
    · rw [uc]; exact ⟨rfl, rfl, rfl⟩
    · rw [um, hst]; exact ⟨rfl, rfl, rfl⟩
end PUJ
