section PUK
set_option maxRecDepth 20000 in

theorem rp_clear (kd me : Nat → Int) : ∃ kd0 me0 : Nat → Int, Ff_X0_clear kd me = (0, 0, 0, 0, 0, kd0, me0) ∧ ∀ f : Nat, f < 9 → kd0 f = 0 ∧ me0 f = 0 := by
  have main : ∀ (m : Nat) (j : Nat) (k1 m1 : Nat → Int), 10 ≤ m + j → j ≤ 9 → (∀ f : Nat, f < j → k1 f = 0 ∧ m1 f = 0) → ∃ kd0 me0 : Nat → Int, fl_wh (fun t9 => Sf_X0_clear_30_1 t9.1 t9.2.1 t9.2.2) (0, 0, 0, 0, 0, (fun _ => 0), (fun _ => 0)) m ((j : Int), k1, m1) = (0, 0, 0, 0, 0, kd0, me0) ∧ ∀ f : Nat, f < 9 → kd0 f = 0 ∧ me0 f = 0 := by
    intro m
    induction m with
    | zero => intro j k1 m1 h1 h2; omega
    | succ m ih =>
      intro j k1 m1 h1 h2 h3
      by_cases hj : 9 ≤ (j : Int)
      · have hs : Sf_X0_clear_30_1 (j : Int) k1 m1 = .inr (0, 0, 0, 0, 0, k1, m1) := by unfold Sf_X0_clear_30_1; rw [if_pos hj]
        rw [fl_wh_r (step := fun t9 : Int × (Nat → Int) × (Nat → Int) => Sf_X0_clear_30_1 t9.1 t9.2.1 t9.2.2) (s := ((j : Int), k1, m1)) hs]
        exact ⟨k1, m1, rfl, fun f hf => h3 f (by omega)⟩
      · have hs : Sf_X0_clear_30_1 (j : Int) k1 m1 = .inl ((j : Int) + 1, fl_up k1 j 0, fl_up m1 j 0) := by unfold Sf_X0_clear_30_1; rw [if_neg hj]; rfl
        rw [fl_wh_l (step := fun t9 : Int × (Nat → Int) × (Nat → Int) => Sf_X0_clear_30_1 t9.1 t9.2.1 t9.2.2) (s := ((j : Int), k1, m1)) hs]
        have := ih (j + 1) (fl_up k1 j 0) (fl_up m1 j 0) (by omega) (by omega) (fun f hf => by
          by_cases q : f = j
          · subst q; rw [rp_up_eq, rp_up_eq]; exact ⟨rfl, rfl⟩
          · rw [rp_up_ne _ _ q, rp_up_ne _ _ q]; exact h3 f (by omega))
        rw [show ((j + 1 : Nat) : Int) = (j : Int) + 1 by omega] at this
        exact this
  exact main 10 0 kd me (by omega) (by omega) (fun f hf => by omega)
theorem rp_bit0 : ∀ f : Fin 9, Ff_X7_hasBit 0 (f.val : Int) = 0 := by decide +kernel
theorem rp_D0 {sp sa sh ti pu fi : Int} {kd me sf sm wf wt nm fr : Nat → Int} (h : ∀ i : Nat, i < 156 → fr i = 0) (hk : ∀ f : Nat, f < 9 → kd f = 0 ∧ me f = 0) : rp_D 0 sp sa sh 0 ti pu fi 0 0 0 0 kd me sf sm wf wt nm fr := by
  have z : ∀ i : Nat, i < 156 → fr i = 0 := h
  refine ⟨⟨⟨(z 0 (by omega)).symm, Or.inl (z 11 (by omega)), fun _ => ⟨z 0 (by omega), z 10 (by omega), z 4 (by omega), z 5 (by omega), z 6 (by omega)⟩, fun h1 => ?_⟩, (z 10 (by omega)).symm, Or.inl rfl, fun h1 => ?_⟩, ⟨by omega, by omega, fun f hf => ?_, ?_, ?_, ?_⟩, ⟨(z 5 (by omega)).symm, by omega, by omega, fun w hw => by omega⟩, ⟨(z 6 (by omega)).symm, by omega, by omega, fun w hw => by omega⟩, ?_, ⟨fun s hs => ?_, fun i hi => by omega, fun s hs h1 => ?_⟩, fun s hs h1 => ?_⟩
  · rw [z 11 (by omega)] at h1; exact absurd h1 (by decide)
  · exact absurd h1 (by decide)
  · rw [z _ (by omega), z _ (by omega), rp_bit0 ⟨f, hf⟩]
    exact ⟨(hk f hf).1, (hk f hf).2, by omega, by decide⟩
  · rw [z 4 (by omega)]; decide
  · rw [z 4 (by omega)]; omega
  · rw [z 4 (by omega)]; omega
  · rw [z 4 (by omega), z 5 (by omega)]; rfl
  · rw [z _ (by omega)]; exact ⟨by omega, by omega, fun k hk => by have h9 : k < 0 := hk; omega⟩
  · rw [z _ (by omega)] at h1; omega
  · rw [z _ (by omega)] at h1; omega
/-- the loop over lines -/
theorem rp_loop {tp tm : Nat → Int} {e : Int} (hT : rp_T tp tm e) (he : e ≤ 900) (hg un im : Int) (r0 s0 : Nat → Int) : ∀ (m1 m2 : Nat) (l c st be tk wd wh ta fg sp sa sh lw ti pu fi tb sc wc : Int) (kd me nm wf wt sm sf fr lt : Nat → Int) (at_ en tk2 wm ns pl : Int), 901 - l ≤ (m1 : Int) → e + 1 - st ≤ (m2 : Int) → 1 ≤ l → l ≤ st → rp_K e st be tk wd wh at_ en tk2 wm ns lt → rp_D fg sp sa sh lw ti pu fi tb sc wc c kd me sf sm wf wt nm fr →
    (∃ c' st' be' tk' wd' wh' ta' fg' sp' sa' sh' lw' ti' pu' fi' tb' sc' wc' kd' me' nm' wf' wt' sm' sf' fr' lt' at1 en1 tk3 wm1 ns1, fl_wh (fun t9 => Sf_X3_read_55_1 tp e t9.1 t9.2.1 t9.2.2.1 t9.2.2.2.1 t9.2.2.2.2.1 t9.2.2.2.2.2.1 t9.2.2.2.2.2.2.1 t9.2.2.2.2.2.2.2.1 t9.2.2.2.2.2.2.2.2.1 t9.2.2.2.2.2.2.2.2.2.1 t9.2.2.2.2.2.2.2.2.2.2.1 t9.2.2.2.2.2.2.2.2.2.2.2.1 t9.2.2.2.2.2.2.2.2.2.2.2.2.1 t9.2.2.2.2.2.2.2.2.2.2.2.2.2.1 t9.2.2.2.2.2.2.2.2.2.2.2.2.2.2.1 t9.2.2.2.2.2.2.2.2.2.2.2.2.2.2.2.1 t9.2.2.2.2.2.2.2.2.2.2.2.2.2.2.2.2.1 t9.2.2.2.2.2.2.2.2.2.2.2.2.2.2.2.2.2.1 t9.2.2.2.2.2.2.2.2.2.2.2.2.2.2.2.2.2.2.1 t9.2.2.2.2.2.2.2.2.2.2.2.2.2.2.2.2.2.2.2.1 t9.2.2.2.2.2.2.2.2.2.2.2.2.2.2.2.2.2.2.2.2.1 t9.2.2.2.2.2.2.2.2.2.2.2.2.2.2.2.2.2.2.2.2.2.1 t9.2.2.2.2.2.2.2.2.2.2.2.2.2.2.2.2.2.2.2.2.2.2.1 t9.2.2.2.2.2.2.2.2.2.2.2.2.2.2.2.2.2.2.2.2.2.2.2.1 t9.2.2.2.2.2.2.2.2.2.2.2.2.2.2.2.2.2.2.2.2.2.2.2.2.1 t9.2.2.2.2.2.2.2.2.2.2.2.2.2.2.2.2.2.2.2.2.2.2.2.2.2.1 t9.2.2.2.2.2.2.2.2.2.2.2.2.2.2.2.2.2.2.2.2.2.2.2.2.2.2.1 t9.2.2.2.2.2.2.2.2.2.2.2.2.2.2.2.2.2.2.2.2.2.2.2.2.2.2.2.1 t9.2.2.2.2.2.2.2.2.2.2.2.2.2.2.2.2.2.2.2.2.2.2.2.2.2.2.2.2) (0, 0, 0, 0, 0, 0, 0, 0, 0, 0, 0, 0, 0, 0, 0, 0, 0, 0, 0, 0, 0, 0, (fun _ => 0), (fun _ => 0), (fun _ => 0), (fun _ => 0), (fun _ => 0), (fun _ => 0), (fun _ => 0)) m1 (l, 1, 0, -1, c, st, be, tk, wd, wh, ta, fg, sp, sa, sh, lw, ti, pu, fi, tb, sc, wc, kd, me, nm, wf, wt, sm, sf) = (1, 0, -1, c', e, st', be', tk', wd', wh', ta', fg', sp', sa', sh', lw', ti', pu', fi', tb', sc', wc', kd', me', nm', wf', wt', sm', sf') ∧ fl_wh (fun t9 => Sf_X8_gallery_77_1 e hg un im tm r0 s0 0 0 t9.1 t9.2.1 t9.2.2.1 t9.2.2.2.1 t9.2.2.2.2.1 t9.2.2.2.2.2.1 t9.2.2.2.2.2.2.1 t9.2.2.2.2.2.2.2.1 t9.2.2.2.2.2.2.2.2) (0, 0, 0, 0, 0, 0, 0, 0, 0, 0, 0, 0, 0, 0, 0, 0, (fun _ => 0), (fun _ => 0), (fun _ => 0), (fun _ => 0)) m2 (at_, en, tk2, wm, ns, 0, pl, fr, lt) = fl_wh (fun t9 => Sf_X8_gallery_195_1 e 0 0 at1 en1 tk3 wm1 ns1 0 pl fr' lt' (va_cpy fr' r0 0 0 156) t9.1 t9.2) (0, 0, 0, 0, 0, 0, 0, 0, 0, 0, 0, 0, 0, 0, 0, 0, (fun _ => 0), (fun _ => 0), (fun _ => 0), (fun _ => 0)) 24 (0, s0) ∧ lw' = 1 ∧ rp_D fg' sp' sa' sh' lw' ti' pu' fi' tb' sc' wc' c' kd' me' sf' sm' wf' wt' nm' fr') ∨
    (∃ q p, rp_fc (fl_wh (fun t9 => Sf_X3_read_55_1 tp e t9.1 t9.2.1 t9.2.2.1 t9.2.2.2.1 t9.2.2.2.2.1 t9.2.2.2.2.2.1 t9.2.2.2.2.2.2.1 t9.2.2.2.2.2.2.2.1 t9.2.2.2.2.2.2.2.2.1 t9.2.2.2.2.2.2.2.2.2.1 t9.2.2.2.2.2.2.2.2.2.2.1 t9.2.2.2.2.2.2.2.2.2.2.2.1 t9.2.2.2.2.2.2.2.2.2.2.2.2.1 t9.2.2.2.2.2.2.2.2.2.2.2.2.2.1 t9.2.2.2.2.2.2.2.2.2.2.2.2.2.2.1 t9.2.2.2.2.2.2.2.2.2.2.2.2.2.2.2.1 t9.2.2.2.2.2.2.2.2.2.2.2.2.2.2.2.2.1 t9.2.2.2.2.2.2.2.2.2.2.2.2.2.2.2.2.2.1 t9.2.2.2.2.2.2.2.2.2.2.2.2.2.2.2.2.2.2.1 t9.2.2.2.2.2.2.2.2.2.2.2.2.2.2.2.2.2.2.2.1 t9.2.2.2.2.2.2.2.2.2.2.2.2.2.2.2.2.2.2.2.2.1 t9.2.2.2.2.2.2.2.2.2.2.2.2.2.2.2.2.2.2.2.2.2.1 t9.2.2.2.2.2.2.2.2.2.2.2.2.2.2.2.2.2.2.2.2.2.2.1 t9.2.2.2.2.2.2.2.2.2.2.2.2.2.2.2.2.2.2.2.2.2.2.2.1 t9.2.2.2.2.2.2.2.2.2.2.2.2.2.2.2.2.2.2.2.2.2.2.2.2.1 t9.2.2.2.2.2.2.2.2.2.2.2.2.2.2.2.2.2.2.2.2.2.2.2.2.2.1 t9.2.2.2.2.2.2.2.2.2.2.2.2.2.2.2.2.2.2.2.2.2.2.2.2.2.2.1 t9.2.2.2.2.2.2.2.2.2.2.2.2.2.2.2.2.2.2.2.2.2.2.2.2.2.2.2.1 t9.2.2.2.2.2.2.2.2.2.2.2.2.2.2.2.2.2.2.2.2.2.2.2.2.2.2.2.2) (0, 0, 0, 0, 0, 0, 0, 0, 0, 0, 0, 0, 0, 0, 0, 0, 0, 0, 0, 0, 0, 0, (fun _ => 0), (fun _ => 0), (fun _ => 0), (fun _ => 0), (fun _ => 0), (fun _ => 0), (fun _ => 0)) m1 (l, 1, 0, -1, c, st, be, tk, wd, wh, ta, fg, sp, sa, sh, lw, ti, pu, fi, tb, sc, wc, kd, me, nm, wf, wt, sm, sf)) q p ∧ ∃ at1 en1 tk3 wm1 ns1 fr' lt', fl_wh (fun t9 => Sf_X8_gallery_77_1 e hg un im tm r0 s0 0 0 t9.1 t9.2.1 t9.2.2.1 t9.2.2.2.1 t9.2.2.2.2.1 t9.2.2.2.2.2.1 t9.2.2.2.2.2.2.1 t9.2.2.2.2.2.2.2.1 t9.2.2.2.2.2.2.2.2) (0, 0, 0, 0, 0, 0, 0, 0, 0, 0, 0, 0, 0, 0, 0, 0, (fun _ => 0), (fun _ => 0), (fun _ => 0), (fun _ => 0)) m2 (at_, en, tk2, wm, ns, 0, pl, fr, lt) = (-1, 0, 0, e, at1, en1, tk3, wm1, ns1, q, p, 4, 1, hg, un, im, fr', lt', r0, s0)) := by
  intro m1
  induction m1 with
  | zero => 
    intro m2 l c st be tk wd wh ta fg sp sa sh lw ti pu fi tb sc wc kd me nm wf wt sm sf fr lt at_ en tk2 wm ns pl h1 h2 h3 h4 hK hD
    have := hK.2.2.1
    omega
  | succ m1 ih =>
    intro m2 l c st be tk wd wh ta fg sp sa sh lw ti pu fi tb sc wc kd me nm wf wt sm sf fr lt at_ en tk2 wm ns pl h1 h2 h3 h4 hK hD
    have hst : st = at_ := hK.1
    have hst1 : st ≤ e := hK.2.2.1
    have hb0 : 0 ≤ be := hK.2.2.2.1
    have hb1 : be ≤ e := hK.2.2.2.2.1
    have n10 : ¬ (1 : Int) = 0 := by decide
    have n01 : ¬ (0 : Int) = 1 := by decide
    cases m2 with
    | zero => omega
    | succ m2 =>
      have ek : (tk = 3 ∧ tk2 = 59 ∧ be = en ∧ st < be) ∨ (tk = 0 ∧ tk2 = 0) ∨ (tk ≠ 3 ∧ tk ≠ 0 ∧ tk2 ≠ 59 ∧ tk2 ≠ 0) := by
        rcases hK.2.2.2.2.2 with ⟨x, y⟩ | ⟨x, y⟩ | ⟨x, y, z, t⟩ | ⟨x, y, -⟩ | ⟨x, y, -⟩
        · exact Or.inr (Or.inl ⟨x, y⟩)
        · exact Or.inr (Or.inr ⟨by omega, by omega, by omega, by omega⟩)
        · exact Or.inl ⟨x, y, z, t⟩
        · exact Or.inr (Or.inr ⟨by omega, by omega, by omega, by omega⟩)
        · exact Or.inr (Or.inr ⟨by omega, by omega, by omega, by omega⟩)
      rcases ek with ⟨k1, k2, k3, k4⟩ | ⟨k1, k2⟩ | ⟨k1, k2, k3, k4⟩
      · -- one more line
        obtain ⟨st1, be1, tk1, wd1, wh1, at1, en1, tk3, wm1, ns1, lt1, a1, a2, a3, a4⟩ := rp_adv hT he be wd wh lt hb0 hb1
        rw [k3] at a2
        have hl : ¬ 900 ≤ l := by omega
        rcases rp_line hT he a3 hD 0 (-1) ta 0 pl with ⟨c', ta', fg', sp', sa', sh', lw', ti', pu', fi', tb', sc', wc', nm', kd', me', wf', wt', sm', sf', fr', st2, be2, tk4, wd2, wh2, at2, en2, tk5, wm2, ns2, lt2, b1, b2, b3, b4, b5⟩ | ⟨q, p, b1, b2⟩
        · have hc : Sf_X3_read_55_1 tp e l 1 0 (-1) c st be tk wd wh ta fg sp sa sh lw ti pu fi tb sc wc kd me nm wf wt sm sf = .inl (l + 1, 1, 0, -1, c', st2, be2, tk4, wd2, wh2, ta', fg', sp', sa', sh', lw', ti', pu', fi', tb', sc', wc', kd', me', nm', wf', wt', sm', sf') := by
            unfold Sf_X3_read_55_1
            rw [if_neg n10, if_pos k1, if_neg hl, a1, fl_c5_eq rfl, b1, fl_c28_eq rfl, if_pos rfl]; rfl
          have hm : Sf_X8_gallery_77_1 e hg un im tm r0 s0 0 0 at_ en tk2 wm ns 0 pl fr lt = .inl (at2, en2, tk5, wm2, ns2, 0, pl, fr', lt2) := by
            unfold Sf_X8_gallery_77_1
            rw [if_pos k2, a2, fl_c6_eq rfl, b2, fl_c10_eq rfl, if_neg n01]
          rw [fl_wh_l (step := (fun t9 : Int × Int × Int × Int × Int × Int × Int × Int × Int × Int × Int × Int × Int × Int × Int × Int × Int × Int × Int × Int × Int × Int × (Nat → Int) × (Nat → Int) × (Nat → Int) × (Nat → Int) × (Nat → Int) × (Nat → Int) × (Nat → Int) => Sf_X3_read_55_1 tp e t9.1 t9.2.1 t9.2.2.1 t9.2.2.2.1 t9.2.2.2.2.1 t9.2.2.2.2.2.1 t9.2.2.2.2.2.2.1 t9.2.2.2.2.2.2.2.1 t9.2.2.2.2.2.2.2.2.1 t9.2.2.2.2.2.2.2.2.2.1 t9.2.2.2.2.2.2.2.2.2.2.1 t9.2.2.2.2.2.2.2.2.2.2.2.1 t9.2.2.2.2.2.2.2.2.2.2.2.2.1 t9.2.2.2.2.2.2.2.2.2.2.2.2.2.1 t9.2.2.2.2.2.2.2.2.2.2.2.2.2.2.1 t9.2.2.2.2.2.2.2.2.2.2.2.2.2.2.2.1 t9.2.2.2.2.2.2.2.2.2.2.2.2.2.2.2.2.1 t9.2.2.2.2.2.2.2.2.2.2.2.2.2.2.2.2.2.1 t9.2.2.2.2.2.2.2.2.2.2.2.2.2.2.2.2.2.2.1 t9.2.2.2.2.2.2.2.2.2.2.2.2.2.2.2.2.2.2.2.1 t9.2.2.2.2.2.2.2.2.2.2.2.2.2.2.2.2.2.2.2.2.1 t9.2.2.2.2.2.2.2.2.2.2.2.2.2.2.2.2.2.2.2.2.2.1 t9.2.2.2.2.2.2.2.2.2.2.2.2.2.2.2.2.2.2.2.2.2.2.1 t9.2.2.2.2.2.2.2.2.2.2.2.2.2.2.2.2.2.2.2.2.2.2.2.1 t9.2.2.2.2.2.2.2.2.2.2.2.2.2.2.2.2.2.2.2.2.2.2.2.2.1 t9.2.2.2.2.2.2.2.2.2.2.2.2.2.2.2.2.2.2.2.2.2.2.2.2.2.1 t9.2.2.2.2.2.2.2.2.2.2.2.2.2.2.2.2.2.2.2.2.2.2.2.2.2.2.1 t9.2.2.2.2.2.2.2.2.2.2.2.2.2.2.2.2.2.2.2.2.2.2.2.2.2.2.2.1 t9.2.2.2.2.2.2.2.2.2.2.2.2.2.2.2.2.2.2.2.2.2.2.2.2.2.2.2.2)) (s := (l, 1, 0, -1, c, st, be, tk, wd, wh, ta, fg, sp, sa, sh, lw, ti, pu, fi, tb, sc, wc, kd, me, nm, wf, wt, sm, sf)) hc, fl_wh_l (step := (fun t9 : Int × Int × Int × Int × Int × Int × Int × (Nat → Int) × (Nat → Int) => Sf_X8_gallery_77_1 e hg un im tm r0 s0 0 0 t9.1 t9.2.1 t9.2.2.1 t9.2.2.2.1 t9.2.2.2.2.1 t9.2.2.2.2.2.1 t9.2.2.2.2.2.2.1 t9.2.2.2.2.2.2.2.1 t9.2.2.2.2.2.2.2.2)) (s := (at_, en, tk2, wm, ns, 0, pl, fr, lt)) hm]
          exact ih m2 (l + 1) c' st2 be2 tk4 wd2 wh2 ta' fg' sp' sa' sh' lw' ti' pu' fi' tb' sc' wc' kd' me' nm' wf' wt' sm' sf' fr' lt2 at2 en2 tk5 wm2 ns2 pl (by omega) (by omega) (by omega) (by omega) b3 b5
        · have hm : ∃ x1 x2 x3 x4 x5 x6 x7, Sf_X8_gallery_77_1 e hg un im tm r0 s0 0 0 at_ en tk2 wm ns 0 pl fr lt = .inr (-1, 0, 0, e, x1, x2, x3, x4, x5, q, p, 4, 1, hg, un, im, x6, x7, r0, s0) := by
            unfold Sf_X8_gallery_77_1
            rw [if_pos k2, a2, fl_c6_eq rfl]
            generalize FfG_X8_readLine e at1 en1 tk3 wm1 ns1 0 pl lt1 fr tm = G at b2
            obtain ⟨g1, g2, g3, g4, g5, g6, g7, g8, g9, g10⟩ := G
            obtain ⟨z1, z2, z3⟩ := b2
            simp only at z1 z2 z3
            subst z1; subst z2; subst z3
            exact ⟨g1, g2, g3, g4, g5, g10, g9, rfl⟩
          obtain ⟨x1, x2, x3, x4, x5, x6, x7, hm⟩ := hm
          refine Or.inr ⟨q, p, ?_, x1, x2, x3, x4, x5, x6, x7, fl_wh_r (step := (fun t9 : Int × Int × Int × Int × Int × Int × Int × (Nat → Int) × (Nat → Int) => Sf_X8_gallery_77_1 e hg un im tm r0 s0 0 0 t9.1 t9.2.1 t9.2.2.1 t9.2.2.2.1 t9.2.2.2.2.1 t9.2.2.2.2.2.1 t9.2.2.2.2.2.2.1 t9.2.2.2.2.2.2.2.1 t9.2.2.2.2.2.2.2.2)) (s := (at_, en, tk2, wm, ns, 0, pl, fr, lt)) hm⟩
          have hc : ∃ X : Int × Int × Int × Int × Int × Int × Int × Int × Int × Int × Int × Int × Int × Int × Int × Int × Int × Int × Int × (Nat → Int) × (Nat → Int) × (Nat → Int) × (Nat → Int) × (Nat → Int) × (Nat → Int) × (Nat → Int), Sf_X3_read_55_1 tp e l 1 0 (-1) c st be tk wd wh ta fg sp sa sh lw ti pu fi tb sc wc kd me nm wf wt sm sf = .inl (l + 1, 0, q, p, X.2) := by
            unfold Sf_X3_read_55_1
            rw [if_neg n10, if_pos k1, if_neg hl, a1, fl_c5_eq rfl]
            generalize Ff_X3_readLine 0 (-1) c e st1 be1 tk1 wd1 wh1 ta fg sp sa sh lw ti pu fi tb sc tp nm kd me wc wf wt sm sf = G at b1
            obtain ⟨g1, g2, g3, gl_c, gl_st, gl_be, gl_tk, gl_wd, gl_wh, gl_ta, gl_fg, gl_sp, gl_sa, gl_sh, gl_lw, gl_ti, gl_pu, gl_fi, gl_tb, gl_sc, gl_nm, gl_kd, gl_me, gl_wc, gl_wf, gl_wt, gl_sm, gl_sf⟩ := G
            obtain ⟨z1, z2, z3⟩ := b1
            simp only at z1 z2 z3
            subst z1; subst z2; subst z3
            exact ⟨(0, gl_c, gl_st, gl_be, gl_tk, gl_wd, gl_wh, gl_ta, gl_fg, gl_sp, gl_sa, gl_sh, gl_lw, gl_ti, gl_pu, gl_fi, gl_tb, gl_sc, gl_wc, gl_kd, gl_me, gl_nm, gl_wf, gl_wt, gl_sm, gl_sf), rfl⟩
          obtain ⟨X, hc⟩ := hc
          rw [fl_wh_l (step := (fun t9 : Int × Int × Int × Int × Int × Int × Int × Int × Int × Int × Int × Int × Int × Int × Int × Int × Int × Int × Int × Int × Int × Int × (Nat → Int) × (Nat → Int) × (Nat → Int) × (Nat → Int) × (Nat → Int) × (Nat → Int) × (Nat → Int) => Sf_X3_read_55_1 tp e t9.1 t9.2.1 t9.2.2.1 t9.2.2.2.1 t9.2.2.2.2.1 t9.2.2.2.2.2.1 t9.2.2.2.2.2.2.1 t9.2.2.2.2.2.2.2.1 t9.2.2.2.2.2.2.2.2.1 t9.2.2.2.2.2.2.2.2.2.1 t9.2.2.2.2.2.2.2.2.2.2.1 t9.2.2.2.2.2.2.2.2.2.2.2.1 t9.2.2.2.2.2.2.2.2.2.2.2.2.1 t9.2.2.2.2.2.2.2.2.2.2.2.2.2.1 t9.2.2.2.2.2.2.2.2.2.2.2.2.2.2.1 t9.2.2.2.2.2.2.2.2.2.2.2.2.2.2.2.1 t9.2.2.2.2.2.2.2.2.2.2.2.2.2.2.2.2.1 t9.2.2.2.2.2.2.2.2.2.2.2.2.2.2.2.2.2.1 t9.2.2.2.2.2.2.2.2.2.2.2.2.2.2.2.2.2.2.1 t9.2.2.2.2.2.2.2.2.2.2.2.2.2.2.2.2.2.2.2.1 t9.2.2.2.2.2.2.2.2.2.2.2.2.2.2.2.2.2.2.2.2.1 t9.2.2.2.2.2.2.2.2.2.2.2.2.2.2.2.2.2.2.2.2.2.1 t9.2.2.2.2.2.2.2.2.2.2.2.2.2.2.2.2.2.2.2.2.2.2.1 t9.2.2.2.2.2.2.2.2.2.2.2.2.2.2.2.2.2.2.2.2.2.2.2.1 t9.2.2.2.2.2.2.2.2.2.2.2.2.2.2.2.2.2.2.2.2.2.2.2.2.1 t9.2.2.2.2.2.2.2.2.2.2.2.2.2.2.2.2.2.2.2.2.2.2.2.2.2.1 t9.2.2.2.2.2.2.2.2.2.2.2.2.2.2.2.2.2.2.2.2.2.2.2.2.2.2.1 t9.2.2.2.2.2.2.2.2.2.2.2.2.2.2.2.2.2.2.2.2.2.2.2.2.2.2.2.1 t9.2.2.2.2.2.2.2.2.2.2.2.2.2.2.2.2.2.2.2.2.2.2.2.2.2.2.2.2)) (s := (l, 1, 0, -1, c, st, be, tk, wd, wh, ta, fg, sp, sa, sh, lw, ti, pu, fi, tb, sc, wc, kd, me, nm, wf, wt, sm, sf)) hc]
          obtain ⟨_, gl_c, gl_st, gl_be, gl_tk, gl_wd, gl_wh, gl_ta, gl_fg, gl_sp, gl_sa, gl_sh, gl_lw, gl_ti, gl_pu, gl_fi, gl_tb, gl_sc, gl_wc, gl_kd, gl_me, gl_nm, gl_wf, gl_wt, gl_sm, gl_sf⟩ := X
          have hm1 : ∃ k, m1 = k + 1 := ⟨m1 - 1, by omega⟩
          obtain ⟨k, hk⟩ := hm1
          subst hk
          have hc2 : Sf_X3_read_55_1 tp e (l + 1) 0 q p gl_c gl_st gl_be gl_tk gl_wd gl_wh gl_ta gl_fg gl_sp gl_sa gl_sh gl_lw gl_ti gl_pu gl_fi gl_tb gl_sc gl_wc gl_kd gl_me gl_nm gl_wf gl_wt gl_sm gl_sf = .inr (0, q, p, gl_c, e, gl_st, gl_be, gl_tk, gl_wd, gl_wh, gl_ta, gl_fg, gl_sp, gl_sa, gl_sh, gl_lw, gl_ti, gl_pu, gl_fi, gl_tb, gl_sc, gl_wc, gl_kd, gl_me, gl_nm, gl_wf, gl_wt, gl_sm, gl_sf) := by
            unfold Sf_X3_read_55_1 Gf_X3_read_89_1
            rw [if_pos rfl, if_pos rfl]
          rw [fl_wh_r (step := (fun t9 : Int × Int × Int × Int × Int × Int × Int × Int × Int × Int × Int × Int × Int × Int × Int × Int × Int × Int × Int × Int × Int × Int × (Nat → Int) × (Nat → Int) × (Nat → Int) × (Nat → Int) × (Nat → Int) × (Nat → Int) × (Nat → Int) => Sf_X3_read_55_1 tp e t9.1 t9.2.1 t9.2.2.1 t9.2.2.2.1 t9.2.2.2.2.1 t9.2.2.2.2.2.1 t9.2.2.2.2.2.2.1 t9.2.2.2.2.2.2.2.1 t9.2.2.2.2.2.2.2.2.1 t9.2.2.2.2.2.2.2.2.2.1 t9.2.2.2.2.2.2.2.2.2.2.1 t9.2.2.2.2.2.2.2.2.2.2.2.1 t9.2.2.2.2.2.2.2.2.2.2.2.2.1 t9.2.2.2.2.2.2.2.2.2.2.2.2.2.1 t9.2.2.2.2.2.2.2.2.2.2.2.2.2.2.1 t9.2.2.2.2.2.2.2.2.2.2.2.2.2.2.2.1 t9.2.2.2.2.2.2.2.2.2.2.2.2.2.2.2.2.1 t9.2.2.2.2.2.2.2.2.2.2.2.2.2.2.2.2.2.1 t9.2.2.2.2.2.2.2.2.2.2.2.2.2.2.2.2.2.2.1 t9.2.2.2.2.2.2.2.2.2.2.2.2.2.2.2.2.2.2.2.1 t9.2.2.2.2.2.2.2.2.2.2.2.2.2.2.2.2.2.2.2.2.1 t9.2.2.2.2.2.2.2.2.2.2.2.2.2.2.2.2.2.2.2.2.2.1 t9.2.2.2.2.2.2.2.2.2.2.2.2.2.2.2.2.2.2.2.2.2.2.1 t9.2.2.2.2.2.2.2.2.2.2.2.2.2.2.2.2.2.2.2.2.2.2.2.1 t9.2.2.2.2.2.2.2.2.2.2.2.2.2.2.2.2.2.2.2.2.2.2.2.2.1 t9.2.2.2.2.2.2.2.2.2.2.2.2.2.2.2.2.2.2.2.2.2.2.2.2.2.1 t9.2.2.2.2.2.2.2.2.2.2.2.2.2.2.2.2.2.2.2.2.2.2.2.2.2.2.1 t9.2.2.2.2.2.2.2.2.2.2.2.2.2.2.2.2.2.2.2.2.2.2.2.2.2.2.2.1 t9.2.2.2.2.2.2.2.2.2.2.2.2.2.2.2.2.2.2.2.2.2.2.2.2.2.2.2.2)) (s := (l + 1, 0, q, p, gl_c, gl_st, gl_be, gl_tk, gl_wd, gl_wh, gl_ta, gl_fg, gl_sp, gl_sa, gl_sh, gl_lw, gl_ti, gl_pu, gl_fi, gl_tb, gl_sc, gl_wc, gl_kd, gl_me, gl_nm, gl_wf, gl_wt, gl_sm, gl_sf)) hc2]
          exact ⟨rfl, rfl, rfl⟩
      · -- the end
        have n03 : ¬ (0 : Int) = 3 := by decide
        have n59 : ¬ (0 : Int) = 59 := by decide
        subst k1; subst k2
        have hD0 := hD
        obtain ⟨⟨⟨d1, d2, d3, d4⟩, d5, d6, d7⟩, -⟩ := hD0
        by_cases hlw : lw = 0
        · have hc : Sf_X3_read_55_1 tp e l 1 0 (-1) c st be 0 wd wh ta fg sp sa sh lw ti pu fi tb sc wc kd me nm wf wt sm sf = .inr (0, 6, st, c, e, st, be, 0, wd, wh, ta, fg, sp, sa, sh, lw, ti, pu, fi, tb, sc, wc, kd, me, nm, wf, wt, sm, sf) := by
            unfold Sf_X3_read_55_1 Gf_X3_read_89_1
            rw [if_neg n10, if_neg n03, if_neg n10, if_pos rfl, if_pos hlw]; rfl
          have hm : Sf_X8_gallery_77_1 e hg un im tm r0 s0 0 0 at_ en 0 wm ns 0 pl fr lt = .inr (-1, 0, 0, e, at_, en, 0, wm, ns, 6, at_, 4, 1, hg, un, im, fr, lt, r0, s0) := by
            unfold Sf_X8_gallery_77_1
            rw [if_neg n59, if_pos rfl, fl_lt_eq rfl]
            by_cases q : fr 11 = 0
            · rw [if_pos q]; rfl
            · rw [if_neg q, fl_lt_eq rfl, if_pos (by omega)]; rfl
          refine Or.inr ⟨6, st, ?_, at_, en, 0, wm, ns, fr, lt, ?_⟩
          · rw [fl_wh_r (step := (fun t9 : Int × Int × Int × Int × Int × Int × Int × Int × Int × Int × Int × Int × Int × Int × Int × Int × Int × Int × Int × Int × Int × Int × (Nat → Int) × (Nat → Int) × (Nat → Int) × (Nat → Int) × (Nat → Int) × (Nat → Int) × (Nat → Int) => Sf_X3_read_55_1 tp e t9.1 t9.2.1 t9.2.2.1 t9.2.2.2.1 t9.2.2.2.2.1 t9.2.2.2.2.2.1 t9.2.2.2.2.2.2.1 t9.2.2.2.2.2.2.2.1 t9.2.2.2.2.2.2.2.2.1 t9.2.2.2.2.2.2.2.2.2.1 t9.2.2.2.2.2.2.2.2.2.2.1 t9.2.2.2.2.2.2.2.2.2.2.2.1 t9.2.2.2.2.2.2.2.2.2.2.2.2.1 t9.2.2.2.2.2.2.2.2.2.2.2.2.2.1 t9.2.2.2.2.2.2.2.2.2.2.2.2.2.2.1 t9.2.2.2.2.2.2.2.2.2.2.2.2.2.2.2.1 t9.2.2.2.2.2.2.2.2.2.2.2.2.2.2.2.2.1 t9.2.2.2.2.2.2.2.2.2.2.2.2.2.2.2.2.2.1 t9.2.2.2.2.2.2.2.2.2.2.2.2.2.2.2.2.2.2.1 t9.2.2.2.2.2.2.2.2.2.2.2.2.2.2.2.2.2.2.2.1 t9.2.2.2.2.2.2.2.2.2.2.2.2.2.2.2.2.2.2.2.2.1 t9.2.2.2.2.2.2.2.2.2.2.2.2.2.2.2.2.2.2.2.2.2.1 t9.2.2.2.2.2.2.2.2.2.2.2.2.2.2.2.2.2.2.2.2.2.2.1 t9.2.2.2.2.2.2.2.2.2.2.2.2.2.2.2.2.2.2.2.2.2.2.2.1 t9.2.2.2.2.2.2.2.2.2.2.2.2.2.2.2.2.2.2.2.2.2.2.2.2.1 t9.2.2.2.2.2.2.2.2.2.2.2.2.2.2.2.2.2.2.2.2.2.2.2.2.2.1 t9.2.2.2.2.2.2.2.2.2.2.2.2.2.2.2.2.2.2.2.2.2.2.2.2.2.2.1 t9.2.2.2.2.2.2.2.2.2.2.2.2.2.2.2.2.2.2.2.2.2.2.2.2.2.2.2.1 t9.2.2.2.2.2.2.2.2.2.2.2.2.2.2.2.2.2.2.2.2.2.2.2.2.2.2.2.2)) (s := (l, 1, 0, -1, c, st, be, 0, wd, wh, ta, fg, sp, sa, sh, lw, ti, pu, fi, tb, sc, wc, kd, me, nm, wf, wt, sm, sf)) hc]; exact ⟨rfl, rfl, rfl⟩
          · rw [fl_wh_r (step := (fun t9 : Int × Int × Int × Int × Int × Int × Int × (Nat → Int) × (Nat → Int) => Sf_X8_gallery_77_1 e hg un im tm r0 s0 0 0 t9.1 t9.2.1 t9.2.2.1 t9.2.2.2.1 t9.2.2.2.2.1 t9.2.2.2.2.2.1 t9.2.2.2.2.2.2.1 t9.2.2.2.2.2.2.2.1 t9.2.2.2.2.2.2.2.2)) (s := (at_, en, 0, wm, ns, 0, pl, fr, lt)) hm, hst]
        · have hlw1 : lw = 1 := by omega
          have h11 : ¬ fr 11 = 0 := fun h => by have := d3 h; omega
          have h10 : ¬ fr 10 = 0 := by omega
          have hc : Sf_X3_read_55_1 tp e l 1 0 (-1) c st be 0 wd wh ta fg sp sa sh lw ti pu fi tb sc wc kd me nm wf wt sm sf = .inr (1, 0, -1, c, e, st, be, 0, wd, wh, ta, fg, sp, sa, sh, lw, ti, pu, fi, tb, sc, wc, kd, me, nm, wf, wt, sm, sf) := by
            unfold Sf_X3_read_55_1 Gf_X3_read_89_1
            rw [if_neg n10, if_neg n03, if_neg n10, if_pos rfl, if_neg hlw]
          have hm : Sf_X8_gallery_77_1 e hg un im tm r0 s0 0 0 at_ en 0 wm ns 0 pl fr lt = .inr (fl_wh (fun t9 => Sf_X8_gallery_195_1 e 0 0 at_ en 0 wm ns 0 pl fr lt (va_cpy fr r0 0 0 156) t9.1 t9.2) (0, 0, 0, 0, 0, 0, 0, 0, 0, 0, 0, 0, 0, 0, 0, 0, (fun _ => 0), (fun _ => 0), (fun _ => 0), (fun _ => 0)) 24 (0, s0)) := by
            unfold Sf_X8_gallery_77_1
            rw [if_neg n59, if_pos rfl, fl_lt_eq rfl, if_neg h11, fl_lt_eq rfl, if_neg h10, fl_lt_eq rfl]
          refine Or.inl ⟨c, st, be, 0, wd, wh, ta, fg, sp, sa, sh, lw, ti, pu, fi, tb, sc, wc, kd, me, nm, wf, wt, sm, sf, fr, lt, at_, en, 0, wm, ns, ?_, ?_, hlw1, hD⟩
          · rw [fl_wh_r (step := (fun t9 : Int × Int × Int × Int × Int × Int × Int × Int × Int × Int × Int × Int × Int × Int × Int × Int × Int × Int × Int × Int × Int × Int × (Nat → Int) × (Nat → Int) × (Nat → Int) × (Nat → Int) × (Nat → Int) × (Nat → Int) × (Nat → Int) => Sf_X3_read_55_1 tp e t9.1 t9.2.1 t9.2.2.1 t9.2.2.2.1 t9.2.2.2.2.1 t9.2.2.2.2.2.1 t9.2.2.2.2.2.2.1 t9.2.2.2.2.2.2.2.1 t9.2.2.2.2.2.2.2.2.1 t9.2.2.2.2.2.2.2.2.2.1 t9.2.2.2.2.2.2.2.2.2.2.1 t9.2.2.2.2.2.2.2.2.2.2.2.1 t9.2.2.2.2.2.2.2.2.2.2.2.2.1 t9.2.2.2.2.2.2.2.2.2.2.2.2.2.1 t9.2.2.2.2.2.2.2.2.2.2.2.2.2.2.1 t9.2.2.2.2.2.2.2.2.2.2.2.2.2.2.2.1 t9.2.2.2.2.2.2.2.2.2.2.2.2.2.2.2.2.1 t9.2.2.2.2.2.2.2.2.2.2.2.2.2.2.2.2.2.1 t9.2.2.2.2.2.2.2.2.2.2.2.2.2.2.2.2.2.2.1 t9.2.2.2.2.2.2.2.2.2.2.2.2.2.2.2.2.2.2.2.1 t9.2.2.2.2.2.2.2.2.2.2.2.2.2.2.2.2.2.2.2.2.1 t9.2.2.2.2.2.2.2.2.2.2.2.2.2.2.2.2.2.2.2.2.2.1 t9.2.2.2.2.2.2.2.2.2.2.2.2.2.2.2.2.2.2.2.2.2.2.1 t9.2.2.2.2.2.2.2.2.2.2.2.2.2.2.2.2.2.2.2.2.2.2.2.1 t9.2.2.2.2.2.2.2.2.2.2.2.2.2.2.2.2.2.2.2.2.2.2.2.2.1 t9.2.2.2.2.2.2.2.2.2.2.2.2.2.2.2.2.2.2.2.2.2.2.2.2.2.1 t9.2.2.2.2.2.2.2.2.2.2.2.2.2.2.2.2.2.2.2.2.2.2.2.2.2.2.1 t9.2.2.2.2.2.2.2.2.2.2.2.2.2.2.2.2.2.2.2.2.2.2.2.2.2.2.2.1 t9.2.2.2.2.2.2.2.2.2.2.2.2.2.2.2.2.2.2.2.2.2.2.2.2.2.2.2.2)) (s := (l, 1, 0, -1, c, st, be, 0, wd, wh, ta, fg, sp, sa, sh, lw, ti, pu, fi, tb, sc, wc, kd, me, nm, wf, wt, sm, sf)) hc]
          · rw [fl_wh_r (step := (fun t9 : Int × Int × Int × Int × Int × Int × Int × (Nat → Int) × (Nat → Int) => Sf_X8_gallery_77_1 e hg un im tm r0 s0 0 0 t9.1 t9.2.1 t9.2.2.1 t9.2.2.2.1 t9.2.2.2.2.1 t9.2.2.2.2.2.1 t9.2.2.2.2.2.2.1 t9.2.2.2.2.2.2.2.1 t9.2.2.2.2.2.2.2.2)) (s := (at_, en, 0, wm, ns, 0, pl, fr, lt)) hm]
      · -- something else
        have hc : Sf_X3_read_55_1 tp e l 1 0 (-1) c st be tk wd wh ta fg sp sa sh lw ti pu fi tb sc wc kd me nm wf wt sm sf = .inr (0, 1, st, c, e, st, be, tk, wd, wh, ta, fg, sp, sa, sh, lw, ti, pu, fi, tb, sc, wc, kd, me, nm, wf, wt, sm, sf) := by
          unfold Sf_X3_read_55_1 Gf_X3_read_89_1
          rw [if_neg n10, if_neg k1, if_neg n10, if_neg k2]; rfl
        have hm : Sf_X8_gallery_77_1 e hg un im tm r0 s0 0 0 at_ en tk2 wm ns 0 pl fr lt = .inr (-1, 0, 0, e, at_, en, tk2, wm, ns, 1, at_, 4, 1, hg, un, im, fr, lt, r0, s0) := by
          unfold Sf_X8_gallery_77_1
          rw [if_neg k3, if_neg k4]; rfl
        refine Or.inr ⟨1, st, ?_, at_, en, tk2, wm, ns, fr, lt, ?_⟩
        · rw [fl_wh_r (step := (fun t9 : Int × Int × Int × Int × Int × Int × Int × Int × Int × Int × Int × Int × Int × Int × Int × Int × Int × Int × Int × Int × Int × Int × (Nat → Int) × (Nat → Int) × (Nat → Int) × (Nat → Int) × (Nat → Int) × (Nat → Int) × (Nat → Int) => Sf_X3_read_55_1 tp e t9.1 t9.2.1 t9.2.2.1 t9.2.2.2.1 t9.2.2.2.2.1 t9.2.2.2.2.2.1 t9.2.2.2.2.2.2.1 t9.2.2.2.2.2.2.2.1 t9.2.2.2.2.2.2.2.2.1 t9.2.2.2.2.2.2.2.2.2.1 t9.2.2.2.2.2.2.2.2.2.2.1 t9.2.2.2.2.2.2.2.2.2.2.2.1 t9.2.2.2.2.2.2.2.2.2.2.2.2.1 t9.2.2.2.2.2.2.2.2.2.2.2.2.2.1 t9.2.2.2.2.2.2.2.2.2.2.2.2.2.2.1 t9.2.2.2.2.2.2.2.2.2.2.2.2.2.2.2.1 t9.2.2.2.2.2.2.2.2.2.2.2.2.2.2.2.2.1 t9.2.2.2.2.2.2.2.2.2.2.2.2.2.2.2.2.2.1 t9.2.2.2.2.2.2.2.2.2.2.2.2.2.2.2.2.2.2.1 t9.2.2.2.2.2.2.2.2.2.2.2.2.2.2.2.2.2.2.2.1 t9.2.2.2.2.2.2.2.2.2.2.2.2.2.2.2.2.2.2.2.2.1 t9.2.2.2.2.2.2.2.2.2.2.2.2.2.2.2.2.2.2.2.2.2.1 t9.2.2.2.2.2.2.2.2.2.2.2.2.2.2.2.2.2.2.2.2.2.2.1 t9.2.2.2.2.2.2.2.2.2.2.2.2.2.2.2.2.2.2.2.2.2.2.2.1 t9.2.2.2.2.2.2.2.2.2.2.2.2.2.2.2.2.2.2.2.2.2.2.2.2.1 t9.2.2.2.2.2.2.2.2.2.2.2.2.2.2.2.2.2.2.2.2.2.2.2.2.2.1 t9.2.2.2.2.2.2.2.2.2.2.2.2.2.2.2.2.2.2.2.2.2.2.2.2.2.2.1 t9.2.2.2.2.2.2.2.2.2.2.2.2.2.2.2.2.2.2.2.2.2.2.2.2.2.2.2.1 t9.2.2.2.2.2.2.2.2.2.2.2.2.2.2.2.2.2.2.2.2.2.2.2.2.2.2.2.2)) (s := (l, 1, 0, -1, c, st, be, tk, wd, wh, ta, fg, sp, sa, sh, lw, ti, pu, fi, tb, sc, wc, kd, me, nm, wf, wt, sm, sf)) hc]; exact ⟨rfl, rfl, rfl⟩
        · rw [fl_wh_r (step := (fun t9 : Int × Int × Int × Int × Int × Int × Int × (Nat → Int) × (Nat → Int) => Sf_X8_gallery_77_1 e hg un im tm r0 s0 0 0 t9.1 t9.2.1 t9.2.2.1 t9.2.2.2.1 t9.2.2.2.2.1 t9.2.2.2.2.2.1 t9.2.2.2.2.2.2.1 t9.2.2.2.2.2.2.2.1 t9.2.2.2.2.2.2.2.2)) (s := (at_, en, tk2, wm, ns, 0, pl, fr, lt)) hm, hst]
end PUK
