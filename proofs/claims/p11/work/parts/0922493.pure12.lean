section PUL
set_option maxRecDepth 20000 in

theorem rp_st2 {e at_ en tk wm ns pl : Int} {fr lt rr : Nat → Int} (sx : Nat → Int) : ∀ (m : Nat) (j : Nat) (s : Nat → Int), 24 ≤ m + j → j ≤ 23 → (∀ k : Nat, k < 23 → s k = if k < j then (if k < (rr 0).toNat then (k : Int) else 0) else sx k) → (rr 0).toNat ≤ j → (∀ k : Nat, k < (rr 0).toNat → sx k = (k : Int)) →
    ∃ s1 : Nat → Int, fl_wh (fun t9 => Sf_X8_gallery_235_1 e 0 0 at_ en tk wm ns 0 pl fr lt rr t9.1 t9.2) (0, 0, 0, 0, 0, 0, 0, 0, 0, 0, 0, 0, 0, 0, 0, 0, (fun _ => 0), (fun _ => 0), (fun _ => 0), (fun _ => 0)) m ((j : Int), s) = (rr 0, 0, 0, e, at_, en, tk, wm, ns, 0, pl, 0, 0, 1, 0, 0, fr, lt, rr, s1) ∧ ∀ k : Nat, k < 23 → s1 k = if k = 19 then rr 9 else if k < (rr 0).toNat then (k : Int) else 0 := by
  intro m
  induction m with
  | zero => intro j s h1 h2; omega
  | succ m ih =>
    intro j s h1 h2 h3 h4 h5
    by_cases hj : 23 ≤ (j : Int)
    · have hs : Sf_X8_gallery_235_1 e 0 0 at_ en tk wm ns 0 pl fr lt rr (j : Int) s = .inr (rr 0, 0, 0, e, at_, en, tk, wm, ns, 0, pl, 0, 0, 1, 0, 0, fr, lt, rr, fl_up s 19 (rr 9)) := by
        unfold Sf_X8_gallery_235_1; rw [if_pos hj]; rfl
      rw [fl_wh_r (step := fun t9 : Int × (Nat → Int) => Sf_X8_gallery_235_1 e 0 0 at_ en tk wm ns 0 pl fr lt rr t9.1 t9.2) (s := ((j : Int), s)) hs]
      refine ⟨_, rfl, fun k hk => ?_⟩
      by_cases q : k = 19
      · subst q; rw [rp_up_eq, if_pos rfl]
      · rw [rp_up_ne _ _ q, if_neg q, h3 k hk, if_pos (by omega)]
    · have hs : Sf_X8_gallery_235_1 e 0 0 at_ en tk wm ns 0 pl fr lt rr (j : Int) s = .inl ((j : Int) + 1, fl_up s j 0) := by
        unfold Sf_X8_gallery_235_1; rw [if_neg hj]; rfl
      rw [fl_wh_l (step := fun t9 : Int × (Nat → Int) => Sf_X8_gallery_235_1 e 0 0 at_ en tk wm ns 0 pl fr lt rr t9.1 t9.2) (s := ((j : Int), s)) hs]
      have := ih (j + 1) (fl_up s j 0) (by omega) (by omega) (fun k hk => by
        by_cases q : k = j
        · subst q; rw [rp_up_eq, if_pos (by omega), if_neg (by omega)]
        · rw [rp_up_ne _ _ q, h3 k hk]
          by_cases q2 : k < j
          · rw [if_pos q2, if_pos (show k < j + 1 by omega)]
          · rw [if_neg q2, if_neg (show ¬ k < j + 1 by omega)]) (by omega) h5
      rw [show ((j + 1 : Nat) : Int) = (j : Int) + 1 by omega] at this
      exact this
theorem rp_st1 {e at_ en tk wm ns pl : Int} {fr lt rr : Nat → Int} (h2 : 2 ≤ rr 0) (h9 : rr 0 ≤ 9) : ∀ (m : Nat) (j : Nat) (s : Nat → Int), 24 ≤ m + j → j ≤ 23 → (∀ k : Nat, k < j → s k = if k < (rr 0).toNat then (k : Int) else 0) →
    ∃ s1 : Nat → Int, fl_wh (fun t9 => Sf_X8_gallery_195_1 e 0 0 at_ en tk wm ns 0 pl fr lt rr t9.1 t9.2) (0, 0, 0, 0, 0, 0, 0, 0, 0, 0, 0, 0, 0, 0, 0, 0, (fun _ => 0), (fun _ => 0), (fun _ => 0), (fun _ => 0)) m ((j : Int), s) = (rr 0, 0, 0, e, at_, en, tk, wm, ns, 0, pl, 0, 0, 1, 0, 0, fr, lt, rr, s1) ∧ ∀ k : Nat, k < 23 → s1 k = if k = 19 then rr 9 else if k < (rr 0).toNat then (k : Int) else 0 := by
  intro m
  induction m with
  | zero => intro j s h1 h3; omega
  | succ m ih =>
    intro j s h1 h3 h4
    by_cases hj : 23 ≤ (j : Int)
    · have hs : Sf_X8_gallery_195_1 e 0 0 at_ en tk wm ns 0 pl fr lt rr (j : Int) s = .inr (fl_wh (fun t9 => Sf_X8_gallery_235_1 e 0 0 at_ en tk wm ns 0 pl fr lt rr t9.1 t9.2) (0, 0, 0, 0, 0, 0, 0, 0, 0, 0, 0, 0, 0, 0, 0, 0, (fun _ => 0), (fun _ => 0), (fun _ => 0), (fun _ => 0)) 22 (rr 0, s)) := by
        unfold Sf_X8_gallery_195_1; rw [if_pos hj]; rfl
      rw [fl_wh_r (step := fun t9 : Int × (Nat → Int) => Sf_X8_gallery_195_1 e 0 0 at_ en tk wm ns 0 pl fr lt rr t9.1 t9.2) (s := ((j : Int), s)) hs]
      have := rp_st2 (e := e) (at_ := at_) (en := en) (tk := tk) (wm := wm) (ns := ns) (pl := pl) (fr := fr) (lt := lt) (rr := rr) s 22 (rr 0).toNat s (by omega) (by omega) (fun k hk => by
        by_cases q : k < (rr 0).toNat
        · rw [if_pos q, if_pos q, h4 k (by omega), if_pos q]
        · rw [if_neg q]) (by omega) (fun k hk => by rw [h4 k (by omega), if_pos hk])
      rw [show (((rr 0).toNat : Nat) : Int) = rr 0 by omega] at this
      exact this
    · have hs : ∃ v, Sf_X8_gallery_195_1 e 0 0 at_ en tk wm ns 0 pl fr lt rr (j : Int) s = .inl ((j : Int) + 1, fl_up s j v) ∧ v = if j < (rr 0).toNat then (j : Int) else 0 := by
        unfold Sf_X8_gallery_195_1
        rw [if_neg hj, fl_lt_eq rfl]
        by_cases q : rr 0 ≤ (j : Int)
        · rw [if_pos q]; exact ⟨0, rfl, by rw [if_neg (by omega)]⟩
        · rw [if_neg q]; exact ⟨(j : Int), rfl, by rw [if_pos (by omega)]⟩
      obtain ⟨v, hs, hv⟩ := hs
      rw [fl_wh_l (step := fun t9 : Int × (Nat → Int) => Sf_X8_gallery_195_1 e 0 0 at_ en tk wm ns 0 pl fr lt rr t9.1 t9.2) (s := ((j : Int), s)) hs]
      have := ih (j + 1) (fl_up s j v) (by omega) (by omega) (fun k hk => by
        by_cases q : k = j
        · subst q; rw [rp_up_eq, hv]
        · rw [rp_up_ne _ _ q]; exact h4 k (by omega))
      rw [show ((j + 1 : Nat) : Int) = (j : Int) + 1 by omega] at this
      exact this
/-- gallery: the reading, here and there -/
theorem rp_gal {tp tm : Nat → Int} {n tz : Int} (h0 : 0 ≤ n) (hn : n ≤ tz) (hz : tz ≤ 900) (hT : rp_T tp tm n) (wd wh ta sp sa sh ti pu fi : Int) (kd me nm wf wt sm sf : Nat → Int) (u3 u4 u5 u6 u7 x8 x9 pl x13 hg un im : Int) (f0 lt r0 s0 : Nat → Int) :
    (∃ c' st' be' tk' wd' wh' ta' fg' sp' sa' sh' lw' ti' pu' fi' tb' sc' wc' kd' me' nm' wf' wt' sm' sf' fr' lt' at1 en1 tk3 wm1 ns1 s1, Ff_X3_read n tz wd wh ta sp sa sh ti pu fi kd me tp nm wf wt sm sf = (1, 0, -1, c', n, st', be', tk', wd', wh', ta', fg', sp', sa', sh', lw', ti', pu', fi', tb', sc', wc', kd', me', nm', wf', wt', sm', sf') ∧ Ff_X8_gallery n tz u3 u4 u5 u6 u7 x8 x9 pl x13 hg un im f0 tm lt r0 s0 = (fr' 0, 0, 0, n, at1, en1, tk3, wm1, ns1, 0, pl, 0, 0, 1, 0, 0, fr', lt', va_cpy fr' r0 0 0 156, s1) ∧ lw' = 1 ∧ 2 ≤ fg' ∧ fg' ≤ 9 ∧ rp_D fg' sp' sa' sh' lw' ti' pu' fi' tb' sc' wc' c' kd' me' sf' sm' wf' wt' nm' fr' ∧ ∀ k : Nat, k < 23 → s1 k = if k = 19 then fr' 9 else if (k : Int) < fr' 0 then (k : Int) else 0) ∨
    (∃ q p, rp_fc (Ff_X3_read n tz wd wh ta sp sa sh ti pu fi kd me tp nm wf wt sm sf) q p ∧ ∃ at1 en1 tk3 wm1 ns1 fr' lt', Ff_X8_gallery n tz u3 u4 u5 u6 u7 x8 x9 pl x13 hg un im f0 tm lt r0 s0 = (-1, 0, 0, n, at1, en1, tk3, wm1, ns1, q, p, 4, 1, hg, un, im, fr', lt', r0, s0)) := by
  have n01 : ¬ (0 : Int) = 1 := by decide
  have emin : fl_min n tz = n := by unfold fl_min; rw [if_neg (by omega)]
  obtain ⟨kd0, me0, ecl, hcl⟩ := rp_clear kd me
  -- fresh cleared
  have main : ∀ (m : Nat) (j : Nat) (f : Nat → Int), 157 ≤ m + j → j ≤ 156 → (∀ i : Nat, i < j → f i = 0) → ∃ fz : Nat → Int, (∀ i : Nat, i < 156 → fz i = 0) ∧
      fl_wh (fun t9 => Sf_X8_gallery_39_1 n pl hg un im tm lt r0 s0 0 0 t9.1 t9.2) (0, 0, 0, 0, 0, 0, 0, 0, 0, 0, 0, 0, 0, 0, 0, 0, (fun _ => 0), (fun _ => 0), (fun _ => 0), (fun _ => 0)) m ((j : Int), f) = fl_c6 (Ff_X8_next n 0 tm lt) (fun y4 y5 y6 y7 y8 y12 => fl_c10 (FfG_X8_readLine n y4 y5 y6 y7 y8 0 pl y12 fz tm) (fun z4 z5 z6 z7 z8 z9 z10 z13 z12 z16 => if z13 = 1 then (-1, 0, 0, n, z4, z5, z6, z7, z8, z9, z10, 4, 1, hg, un, im, z16, z12, r0, s0) else fl_wh (fun t9 => Sf_X8_gallery_77_1 n hg un im tm r0 s0 0 0 t9.1 t9.2.1 t9.2.2.1 t9.2.2.2.1 t9.2.2.2.2.1 t9.2.2.2.2.2.1 t9.2.2.2.2.2.2.1 t9.2.2.2.2.2.2.2.1 t9.2.2.2.2.2.2.2.2) (0, 0, 0, 0, 0, 0, 0, 0, 0, 0, 0, 0, 0, 0, 0, 0, (fun _ => 0), (fun _ => 0), (fun _ => 0), (fun _ => 0)) 1804 (z4, z5, z6, z7, z8, z9, z10, z16, z12))) := by
    intro m
    induction m with
    | zero => intro j f h1 h2; omega
    | succ m ih =>
      intro j f h1 h2 h3
      by_cases hj : 156 ≤ (j : Int)
      · have hs : Sf_X8_gallery_39_1 n pl hg un im tm lt r0 s0 0 0 (j : Int) f = .inr (fl_c6 (Ff_X8_next n 0 tm lt) (fun y4 y5 y6 y7 y8 y12 => fl_c10 (FfG_X8_readLine n y4 y5 y6 y7 y8 0 pl y12 f tm) (fun z4 z5 z6 z7 z8 z9 z10 z13 z12 z16 => if z13 = 1 then (-1, 0, 0, n, z4, z5, z6, z7, z8, z9, z10, 4, 1, hg, un, im, z16, z12, r0, s0) else fl_wh (fun t9 => Sf_X8_gallery_77_1 n hg un im tm r0 s0 0 0 t9.1 t9.2.1 t9.2.2.1 t9.2.2.2.1 t9.2.2.2.2.1 t9.2.2.2.2.2.1 t9.2.2.2.2.2.2.1 t9.2.2.2.2.2.2.2.1 t9.2.2.2.2.2.2.2.2) (0, 0, 0, 0, 0, 0, 0, 0, 0, 0, 0, 0, 0, 0, 0, 0, (fun _ => 0), (fun _ => 0), (fun _ => 0), (fun _ => 0)) 1804 (z4, z5, z6, z7, z8, z9, z10, z16, z12)))) := by
          unfold Sf_X8_gallery_39_1; rw [if_pos hj]; rfl
        rw [fl_wh_r (step := fun t9 : Int × (Nat → Int) => Sf_X8_gallery_39_1 n pl hg un im tm lt r0 s0 0 0 t9.1 t9.2) (s := ((j : Int), f)) hs]
        exact ⟨f, fun i hi => h3 i (by omega), rfl⟩
      · have hs : Sf_X8_gallery_39_1 n pl hg un im tm lt r0 s0 0 0 (j : Int) f = .inl ((j : Int) + 1, fl_up f j 0) := by
          unfold Sf_X8_gallery_39_1; rw [if_neg hj]; rfl
        rw [fl_wh_l (step := fun t9 : Int × (Nat → Int) => Sf_X8_gallery_39_1 n pl hg un im tm lt r0 s0 0 0 t9.1 t9.2) (s := ((j : Int), f)) hs]
        have := ih (j + 1) (fl_up f j 0) (by omega) (by omega) (fun i hi => by
          by_cases q : i = j
          · subst q; rw [rp_up_eq]
          · rw [rp_up_ne _ _ q]; exact h3 i (by omega))
        rw [show ((j + 1 : Nat) : Int) = (j : Int) + 1 by omega] at this
        exact this
  obtain ⟨fz, hfz, efz⟩ := main 157 0 f0 (by omega) (by omega) (fun i hi => by omega)
  have um : Ff_X8_gallery n tz u3 u4 u5 u6 u7 x8 x9 pl x13 hg un im f0 tm lt r0 s0 = fl_wh (fun t9 => Sf_X8_gallery_39_1 n pl hg un im tm lt r0 s0 0 0 t9.1 t9.2) (0, 0, 0, 0, 0, 0, 0, 0, 0, 0, 0, 0, 0, 0, 0, 0, (fun _ => 0), (fun _ => 0), (fun _ => 0), (fun _ => 0)) 157 (0, f0) := by
    unfold Ff_X8_gallery Ff_X8_good
    rw [fl_c2_eq rfl, fl_lt_eq (rp_in1 h0 hn).symm, if_pos rfl]
  have efz' : fl_wh (fun t9 => Sf_X8_gallery_39_1 n pl hg un im tm lt r0 s0 0 0 t9.1 t9.2) (0, 0, 0, 0, 0, 0, 0, 0, 0, 0, 0, 0, 0, 0, 0, 0, (fun _ => 0), (fun _ => 0), (fun _ => 0), (fun _ => 0)) 157 (0, f0) = _ := efz
  rw [efz'] at um
  have uc : Ff_X3_read n tz wd wh ta sp sa sh ti pu fi kd me tp nm wf wt sm sf = fl_c5 (Ff_X3_advance n 0 wd wh tp) (fun st be tk wd wh => fl_c28 (Ff_X3_readLine 0 (-1) 0 n st be tk wd wh ta 0 sp sa sh 0 ti pu fi 0 0 tp nm kd0 me0 0 wf wt sm sf) (fun r49 q1 q2 v_c v_st v_be v_tk v_wd v_wh v_ta v_fg v_sp v_sa v_sh v_lw v_ti v_pu v_fi v_tb v_sc v_nm v_kd v_me v_wc v_wf v_wt v_sm v_sf => if r49 = 1 then fl_wh (fun t9 => Sf_X3_read_55_1 tp n t9.1 t9.2.1 t9.2.2.1 t9.2.2.2.1 t9.2.2.2.2.1 t9.2.2.2.2.2.1 t9.2.2.2.2.2.2.1 t9.2.2.2.2.2.2.2.1 t9.2.2.2.2.2.2.2.2.1 t9.2.2.2.2.2.2.2.2.2.1 t9.2.2.2.2.2.2.2.2.2.2.1 t9.2.2.2.2.2.2.2.2.2.2.2.1 t9.2.2.2.2.2.2.2.2.2.2.2.2.1 t9.2.2.2.2.2.2.2.2.2.2.2.2.2.1 t9.2.2.2.2.2.2.2.2.2.2.2.2.2.2.1 t9.2.2.2.2.2.2.2.2.2.2.2.2.2.2.2.1 t9.2.2.2.2.2.2.2.2.2.2.2.2.2.2.2.2.1 t9.2.2.2.2.2.2.2.2.2.2.2.2.2.2.2.2.2.1 t9.2.2.2.2.2.2.2.2.2.2.2.2.2.2.2.2.2.2.1 t9.2.2.2.2.2.2.2.2.2.2.2.2.2.2.2.2.2.2.2.1 t9.2.2.2.2.2.2.2.2.2.2.2.2.2.2.2.2.2.2.2.2.1 t9.2.2.2.2.2.2.2.2.2.2.2.2.2.2.2.2.2.2.2.2.2.1 t9.2.2.2.2.2.2.2.2.2.2.2.2.2.2.2.2.2.2.2.2.2.2.1 t9.2.2.2.2.2.2.2.2.2.2.2.2.2.2.2.2.2.2.2.2.2.2.2.1 t9.2.2.2.2.2.2.2.2.2.2.2.2.2.2.2.2.2.2.2.2.2.2.2.2.1 t9.2.2.2.2.2.2.2.2.2.2.2.2.2.2.2.2.2.2.2.2.2.2.2.2.2.1 t9.2.2.2.2.2.2.2.2.2.2.2.2.2.2.2.2.2.2.2.2.2.2.2.2.2.2.1 t9.2.2.2.2.2.2.2.2.2.2.2.2.2.2.2.2.2.2.2.2.2.2.2.2.2.2.2.1 t9.2.2.2.2.2.2.2.2.2.2.2.2.2.2.2.2.2.2.2.2.2.2.2.2.2.2.2.2) (0, 0, 0, 0, 0, 0, 0, 0, 0, 0, 0, 0, 0, 0, 0, 0, 0, 0, 0, 0, 0, 0, (fun _ => 0), (fun _ => 0), (fun _ => 0), (fun _ => 0), (fun _ => 0), (fun _ => 0), (fun _ => 0)) 900 (1, 1, q1, q2, v_c, v_st, v_be, v_tk, v_wd, v_wh, v_ta, v_fg, v_sp, v_sa, v_sh, v_lw, v_ti, v_pu, v_fi, v_tb, v_sc, v_wc, v_kd, v_me, v_nm, v_wf, v_wt, v_sm, v_sf) else fl_wh (fun t9 => Sf_X3_read_55_1 tp n t9.1 t9.2.1 t9.2.2.1 t9.2.2.2.1 t9.2.2.2.2.1 t9.2.2.2.2.2.1 t9.2.2.2.2.2.2.1 t9.2.2.2.2.2.2.2.1 t9.2.2.2.2.2.2.2.2.1 t9.2.2.2.2.2.2.2.2.2.1 t9.2.2.2.2.2.2.2.2.2.2.1 t9.2.2.2.2.2.2.2.2.2.2.2.1 t9.2.2.2.2.2.2.2.2.2.2.2.2.1 t9.2.2.2.2.2.2.2.2.2.2.2.2.2.1 t9.2.2.2.2.2.2.2.2.2.2.2.2.2.2.1 t9.2.2.2.2.2.2.2.2.2.2.2.2.2.2.2.1 t9.2.2.2.2.2.2.2.2.2.2.2.2.2.2.2.2.1 t9.2.2.2.2.2.2.2.2.2.2.2.2.2.2.2.2.2.1 t9.2.2.2.2.2.2.2.2.2.2.2.2.2.2.2.2.2.2.1 t9.2.2.2.2.2.2.2.2.2.2.2.2.2.2.2.2.2.2.2.1 t9.2.2.2.2.2.2.2.2.2.2.2.2.2.2.2.2.2.2.2.2.1 t9.2.2.2.2.2.2.2.2.2.2.2.2.2.2.2.2.2.2.2.2.2.1 t9.2.2.2.2.2.2.2.2.2.2.2.2.2.2.2.2.2.2.2.2.2.2.1 t9.2.2.2.2.2.2.2.2.2.2.2.2.2.2.2.2.2.2.2.2.2.2.2.1 t9.2.2.2.2.2.2.2.2.2.2.2.2.2.2.2.2.2.2.2.2.2.2.2.2.1 t9.2.2.2.2.2.2.2.2.2.2.2.2.2.2.2.2.2.2.2.2.2.2.2.2.2.1 t9.2.2.2.2.2.2.2.2.2.2.2.2.2.2.2.2.2.2.2.2.2.2.2.2.2.2.1 t9.2.2.2.2.2.2.2.2.2.2.2.2.2.2.2.2.2.2.2.2.2.2.2.2.2.2.2.1 t9.2.2.2.2.2.2.2.2.2.2.2.2.2.2.2.2.2.2.2.2.2.2.2.2.2.2.2.2) (0, 0, 0, 0, 0, 0, 0, 0, 0, 0, 0, 0, 0, 0, 0, 0, 0, 0, 0, 0, 0, 0, (fun _ => 0), (fun _ => 0), (fun _ => 0), (fun _ => 0), (fun _ => 0), (fun _ => 0), (fun _ => 0)) 900 (1, 0, q1, q2, v_c, v_st, v_be, v_tk, v_wd, v_wh, v_ta, v_fg, v_sp, v_sa, v_sh, v_lw, v_ti, v_pu, v_fi, v_tb, v_sc, v_wc, v_kd, v_me, v_nm, v_wf, v_wt, v_sm, v_sf))) := by
    unfold Ff_X3_read
    rw [fl_lt_eq emin.symm, ecl, fl_c7_eq rfl]; rfl
  obtain ⟨st1, be1, tk1, wd1, wh1, at1, en1, tk3, wm1, ns1, lt1, a1, a2, a3, a4⟩ := rp_adv hT (by omega) 0 wd wh lt (by omega) h0
  rw [a1, fl_c5_eq rfl] at uc
  rw [a2, fl_c6_eq rfl] at um
  rcases rp_line hT (by omega) a3 (rp_D0 (sp := sp) (sa := sa) (sh := sh) (ti := ti) (pu := pu) (fi := fi) (sf := sf) (sm := sm) (wf := wf) (wt := wt) (nm := nm) hfz hcl) 0 (-1) ta 0 pl with ⟨c', ta', fg', sp', sa', sh', lw', ti', pu', fi', tb', sc', wc', nm', kd', me', wf', wt', sm', sf', fr', st2, be2, tk4, wd2, wh2, at2, en2, tk5, wm2, ns2, lt2, b1, b2, b3, b4, b5⟩ | ⟨q, p, b1, b2⟩
  · rw [b1, fl_c28_eq rfl, if_pos rfl] at uc
    rw [b2, fl_c10_eq rfl, if_neg n01] at um
    rcases rp_loop hT (by omega) hg un im r0 s0 900 1804 1 c' st2 be2 tk4 wd2 wh2 ta' fg' sp' sa' sh' lw' ti' pu' fi' tb' sc' wc' kd' me' nm' wf' wt' sm' sf' fr' lt2 at2 en2 tk5 wm2 ns2 pl (by omega) (by have := b3.2.1; omega) (by omega) (by omega) b3 b5 with ⟨q_c, q_st, q_be, q_tk, q_wd, q_wh, q_ta, q_fg, q_sp, q_sa, q_sh, q_lw, q_ti, q_pu, q_fi, q_tb, q_sc, q_wc, q_kd, q_me, q_nm, q_wf, q_wt, q_sm, q_sf, fr3, lt3, at3, en3, tk6, wm3, ns3, g1, g2, g3, g4⟩ | ⟨q, p, g1, at3, en3, tk6, wm3, ns3, fr3, lt3, g2⟩
    · have e0 : va_cpy fr3 r0 0 0 156 0 = fr3 0 := rfl
      have e9 : va_cpy fr3 r0 0 0 156 9 = fr3 9 := rfl
      have hh := g4.1.1
      have h11 : fr3 11 = 1 := by
        rcases hh.2.1 with h | h
        · have := hh.2.2.1 h
          have h5 := g4.1.2.1
          omega
        · exact h
      have h29 := hh.2.2.2 h11
      obtain ⟨s1, k1, k2⟩ := rp_st1 (e := n) (at_ := at3) (en := en3) (tk := tk6) (wm := wm3) (ns := ns3) (pl := pl) (fr := fr3) (lt := lt3) (rr := va_cpy fr3 r0 0 0 156) (by rw [e0]; exact h29.1) (by rw [e0]; exact h29.2.1) 24 0 s0 (by omega) (by omega) (fun k hk => by omega)
      refine Or.inl ⟨q_c, q_st, q_be, q_tk, q_wd, q_wh, q_ta, q_fg, q_sp, q_sa, q_sh, q_lw, q_ti, q_pu, q_fi, q_tb, q_sc, q_wc, q_kd, q_me, q_nm, q_wf, q_wt, q_sm, q_sf, fr3, lt3, at3, en3, tk6, wm3, ns3, s1, uc.trans g1, ?_, g3, by rw [hh.1]; exact h29.1, by rw [hh.1]; exact h29.2.1, g4, ?_⟩
      · rw [um, g2, ← e0]; exact k1
      · intro k hk
        rw [k2 k hk, e0, e9]
        by_cases q : k = 19
        · rw [if_pos q, if_pos q]
        · rw [if_neg q, if_neg q]
          by_cases q2 : (k : Int) < fr3 0
          · rw [if_pos q2, if_pos (by omega)]
          · rw [if_neg q2, if_neg (by omega)]
    · exact Or.inr ⟨q, p, by rw [uc]; exact g1, at3, en3, tk6, wm3, ns3, fr3, lt3, um.trans g2⟩
  · have hm : ∃ x1 x2 x3 x4 x5 x6 x7, Ff_X8_gallery n tz u3 u4 u5 u6 u7 x8 x9 pl x13 hg un im f0 tm lt r0 s0 = (-1, 0, 0, n, x1, x2, x3, x4, x5, q, p, 4, 1, hg, un, im, x6, x7, r0, s0) := by
      rw [um]
      generalize FfG_X8_readLine n at1 en1 tk3 wm1 ns1 0 pl lt1 fz tm = G at b2
      obtain ⟨g1, g2, g3, g4, g5, g6, g7, g8, g9, g10⟩ := G
      obtain ⟨z1, z2, z3⟩ := b2
      simp only at z1 z2 z3
      subst z1; subst z2; subst z3
      exact ⟨g1, g2, g3, g4, g5, g10, g9, rfl⟩
    obtain ⟨y1, y2, y3, y4, y5, y6, y7, hm⟩ := hm
    refine Or.inr ⟨q, p, ?_, y1, y2, y3, y4, y5, y6, y7, hm⟩
    rw [uc]
    generalize Ff_X3_readLine 0 (-1) 0 n st1 be1 tk1 wd1 wh1 ta 0 sp sa sh 0 ti pu fi 0 0 tp nm kd0 me0 0 wf wt sm sf = G at b1
    obtain ⟨g1, g2, g3, gl_c, gl_st, gl_be, gl_tk, gl_wd, gl_wh, gl_ta, gl_fg, gl_sp, gl_sa, gl_sh, gl_lw, gl_ti, gl_pu, gl_fi, gl_tb, gl_sc, gl_nm, gl_kd, gl_me, gl_wc, gl_wf, gl_wt, gl_sm, gl_sf⟩ := G
    obtain ⟨z1, z2, z3⟩ := b1
    simp only at z1 z2 z3
    subst z1; subst z2; subst z3
    rw [fl_c28_eq rfl, if_neg n01]
    have hc2 : Sf_X3_read_55_1 tp n 1 0 g2 g3 gl_c gl_st gl_be gl_tk gl_wd gl_wh gl_ta gl_fg gl_sp gl_sa gl_sh gl_lw gl_ti gl_pu gl_fi gl_tb gl_sc gl_wc gl_kd gl_me gl_nm gl_wf gl_wt gl_sm gl_sf = .inr (0, g2, g3, gl_c, n, gl_st, gl_be, gl_tk, gl_wd, gl_wh, gl_ta, gl_fg, gl_sp, gl_sa, gl_sh, gl_lw, gl_ti, gl_pu, gl_fi, gl_tb, gl_sc, gl_wc, gl_kd, gl_me, gl_nm, gl_wf, gl_wt, gl_sm, gl_sf) := by
      unfold Sf_X3_read_55_1 Gf_X3_read_89_1
      rw [if_pos rfl, if_pos rfl]
    rw [fl_wh_r (n := 899) (step := (fun t9 : Int × Int × Int × Int × Int × Int × Int × Int × Int × Int × Int × Int × Int × Int × Int × Int × Int × Int × Int × Int × Int × Int × (Nat → Int) × (Nat → Int) × (Nat → Int) × (Nat → Int) × (Nat → Int) × (Nat → Int) × (Nat → Int) => Sf_X3_read_55_1 tp n t9.1 t9.2.1 t9.2.2.1 t9.2.2.2.1 t9.2.2.2.2.1 t9.2.2.2.2.2.1 t9.2.2.2.2.2.2.1 t9.2.2.2.2.2.2.2.1 t9.2.2.2.2.2.2.2.2.1 t9.2.2.2.2.2.2.2.2.2.1 t9.2.2.2.2.2.2.2.2.2.2.1 t9.2.2.2.2.2.2.2.2.2.2.2.1 t9.2.2.2.2.2.2.2.2.2.2.2.2.1 t9.2.2.2.2.2.2.2.2.2.2.2.2.2.1 t9.2.2.2.2.2.2.2.2.2.2.2.2.2.2.1 t9.2.2.2.2.2.2.2.2.2.2.2.2.2.2.2.1 t9.2.2.2.2.2.2.2.2.2.2.2.2.2.2.2.2.1 t9.2.2.2.2.2.2.2.2.2.2.2.2.2.2.2.2.2.1 t9.2.2.2.2.2.2.2.2.2.2.2.2.2.2.2.2.2.2.1 t9.2.2.2.2.2.2.2.2.2.2.2.2.2.2.2.2.2.2.2.1 t9.2.2.2.2.2.2.2.2.2.2.2.2.2.2.2.2.2.2.2.2.1 t9.2.2.2.2.2.2.2.2.2.2.2.2.2.2.2.2.2.2.2.2.2.1 t9.2.2.2.2.2.2.2.2.2.2.2.2.2.2.2.2.2.2.2.2.2.2.1 t9.2.2.2.2.2.2.2.2.2.2.2.2.2.2.2.2.2.2.2.2.2.2.2.1 t9.2.2.2.2.2.2.2.2.2.2.2.2.2.2.2.2.2.2.2.2.2.2.2.2.1 t9.2.2.2.2.2.2.2.2.2.2.2.2.2.2.2.2.2.2.2.2.2.2.2.2.2.1 t9.2.2.2.2.2.2.2.2.2.2.2.2.2.2.2.2.2.2.2.2.2.2.2.2.2.2.1 t9.2.2.2.2.2.2.2.2.2.2.2.2.2.2.2.2.2.2.2.2.2.2.2.2.2.2.2.1 t9.2.2.2.2.2.2.2.2.2.2.2.2.2.2.2.2.2.2.2.2.2.2.2.2.2.2.2.2)) (s := (1, 0, g2, g3, gl_c, gl_st, gl_be, gl_tk, gl_wd, gl_wh, gl_ta, gl_fg, gl_sp, gl_sa, gl_sh, gl_lw, gl_ti, gl_pu, gl_fi, gl_tb, gl_sc, gl_wc, gl_kd, gl_me, gl_nm, gl_wf, gl_wt, gl_sm, gl_sf)) hc2]
    exact ⟨rfl, rfl, rfl⟩
end PUL
