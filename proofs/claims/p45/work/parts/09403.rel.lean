section REL
/-- the halls alike: none, here and there, or what was told, here and there -/
def lr_H (vi : Nat → Int32) (vf : Nat → Nat → Int32) (vm : Nat → Int32) (vn : Nat → Nat → Int32) : Prop := (vm 11 = 0 ∧ vi 33 = 0 ∧ vi 34 = 0 ∧ vi 35 = 0 ∧ vi 36 = 0 ∧ vi 38 = 0 ∧ vi 39 = 0 ∧ vi 40 = 0 ∧ vi 41 = 0 ∧ vi 42 = 0 ∧ vi 53 = 0) ∨ (vm 11 = 1 ∧ (2 ≤ (vi 33).toInt ∧ (vi 33).toInt ≤ 9 ∧ (vi 37).toInt = 1) ∧ rp_Dh (vi 33).toInt (vi 34).toInt (vi 35).toInt (vi 36).toInt (vi 37).toInt (vi 38).toInt (vi 39).toInt (vi 40).toInt (fl_A (vn 2)) ∧ rp_Df (vi 41).toInt (fl_A (vf 11)) (fl_A (vf 12)) (fl_A (vn 2)) ∧ rp_Dw (vi 53).toInt (fl_A (vf 19)) (fl_A (vf 20)) (fl_A (vn 2)) ∧ rp_Ds (vi 42).toInt (fl_A (vf 13)) (fl_A (vf 14)) (fl_A (vn 2)))
/-- all but the tapes -/
def lr_Q (vi : Nat → Int32) (vf : Nat → Nat → Int32) (vm : Nat → Int32) (vn : Nat → Nat → Int32) : Prop := (vi 1).toInt = (vm 7).toInt ∧ lr_H vi vf vm vn
def lr_R (tp : Int32) (vi : Nat → Int32) (vf : Nat → Nat → Int32) (vm : Nat → Int32) (vn : Nat → Nat → Int32) : Prop := rp_T (fl_A (vf 0)) (fl_A (vn 0)) tp.toInt ∧ lr_Q vi vf vm vn
theorem lr_H_keep {vi vi1 vm vm1 : Nat → Int32} {vf vf1 vn vn1 : Nat → Nat → Int32} (i33 : vi1 33 = vi 33) (i34 : vi1 34 = vi 34) (i35 : vi1 35 = vi 35) (i36 : vi1 36 = vi 36) (i37 : vi1 37 = vi 37) (i38 : vi1 38 = vi 38) (i39 : vi1 39 = vi 39) (i40 : vi1 40 = vi 40) (i41 : vi1 41 = vi 41) (i42 : vi1 42 = vi 42) (i53 : vi1 53 = vi 53) (f11 : vf1 11 = vf 11) (f12 : vf1 12 = vf 12) (f13 : vf1 13 = vf 13) (f14 : vf1 14 = vf 14) (f19 : vf1 19 = vf 19) (f20 : vf1 20 = vf 20) (m11 : vm1 11 = vm 11) (n2 : fl_A (vn1 2) = fl_A (vn 2)) (h : lr_H vi vf vm vn) : lr_H vi1 vf1 vm1 vn1 := by
  unfold lr_H at h ⊢
  rw [i33, i34, i35, i36, i37, i38, i39, i40, i41, i42, i53, f11, f12, f13, f14, f19, f20, m11, n2]
  exact h
theorem lr_keep {vi vi1 vm vm1 : Nat → Int32} {vf vf1 vn vn1 : Nat → Nat → Int32} (ki : ∀ k : Nat, k ∈ ([1, 33, 34, 35, 36, 37, 38, 39, 40, 41, 42, 53] : List Nat) → vi1 k = vi k) (kf : ∀ k : Nat, k ∈ ([11, 12, 13, 14, 19, 20] : List Nat) → vf1 k = vf k) (km : ∀ k : Nat, k ∈ ([7, 11] : List Nat) → vm1 k = vm k) (kn : ∀ k : Nat, k ∈ ([2] : List Nat) → vn1 k = vn k) (h : lr_Q vi vf vm vn) : lr_Q vi1 vf1 vm1 vn1 := by
  obtain ⟨h1, h2⟩ := h
  refine ⟨by rw [ki 1 (by decide), km 7 (by decide)]; exact h1, lr_H_keep (ki 33 (by decide)) (ki 34 (by decide)) (ki 35 (by decide)) (ki 36 (by decide)) (ki 37 (by decide)) (ki 38 (by decide)) (ki 39 (by decide)) (ki 40 (by decide)) (ki 41 (by decide)) (ki 42 (by decide)) (ki 53 (by decide)) (kf 11 (by decide)) (kf 12 (by decide)) (kf 13 (by decide)) (kf 14 (by decide)) (kf 19 (by decide)) (kf 20 (by decide)) (km 11 (by decide)) (by rw [kn 2 (by decide)]) h2⟩
theorem lr_D_cg {fg sp sa sh lw ti pu fi tb sc wc : Int} {kd me sf sm wf wt fr fr' : Nat → Int} (q : ∀ i : Nat, i < 156 → fr' i = fr i) (h : rp_Dh fg sp sa sh lw ti pu fi fr ∧ rp_Df tb kd me fr ∧ rp_Dw wc wf wt fr ∧ rp_Ds sc sf sm fr) : rp_Dh fg sp sa sh lw ti pu fi fr' ∧ rp_Df tb kd me fr' ∧ rp_Dw wc wf wt fr' ∧ rp_Ds sc sf sm fr' := by
  obtain ⟨h1, h2, h3, h4⟩ := h
  refine ⟨?_, rp_Df_cg h2 (fun i hi => q i (by omega)), rp_Dw_cg h3 (fun i hi => q i (by omega)), rp_Ds_cg h4 (fun i hi => q i (by omega))⟩
  unfold rp_Dh at h1 ⊢
  rw [q 0 (by decide), q 1 (by decide), q 2 (by decide), q 3 (by decide), q 4 (by decide), q 5 (by decide), q 6 (by decide), q 7 (by decide), q 8 (by decide), q 9 (by decide), q 10 (by decide), q 11 (by decide)]
  exact h1
theorem lr_cpy {f g : Nat → Int} (i : Nat) (h : i < 156) : va_cpy f g 0 0 156 i = f i := by
  unfold va_cpy
  rw [if_pos (by omega)]
  congr 1
  omega
theorem lr_init : lr_R 0 (ux (fun _ => 0) [(2, -1)]) (fun _ _ => 0) (ux (fun _ => 0) [(8, -1)]) (fun _ _ => 0) := by
  refine ⟨fun i9 h9 => absurd h9 (by have h8 : (0 : Int32).toInt = 0 := (by decide); omega), rfl, Or.inl ⟨rfl, rfl, rfl, rfl, rfl, rfl, rfl, rfl, rfl, rfl, rfl⟩⟩
theorem rp_bg0 (f : Int) (a b : Nat → Int) : Sf_X5_begin_17_1 f 0 a b = .inl (1, fl_up a 0 0, fl_up b 0 0) := rfl
theorem rp_bg1 (f : Int) (a b : Nat → Int) : Sf_X5_begin_17_1 f 1 a b = .inl (2, fl_up a 1 1, fl_up b 1 0) := rfl
theorem rp_bg2 (f : Int) (a b : Nat → Int) : Sf_X5_begin_17_1 f 2 a b = .inl (3, fl_up a 2 2, fl_up b 2 0) := rfl
theorem rp_bg3 (f : Int) (a b : Nat → Int) : Sf_X5_begin_17_1 f 3 a b = .inl (4, fl_up a 3 3, fl_up b 3 0) := rfl
theorem rp_bg4 (f : Int) (a b : Nat → Int) : Sf_X5_begin_17_1 f 4 a b = .inl (5, fl_up a 4 4, fl_up b 4 0) := rfl
theorem rp_bg5 (f : Int) (a b : Nat → Int) : Sf_X5_begin_17_1 f 5 a b = .inl (6, fl_up a 5 5, fl_up b 5 0) := rfl
theorem rp_bg6 (f : Int) (a b : Nat → Int) : Sf_X5_begin_17_1 f 6 a b = .inl (7, fl_up a 6 6, fl_up b 6 0) := rfl
theorem rp_bg7 (f : Int) (a b : Nat → Int) : Sf_X5_begin_17_1 f 7 a b = .inl (8, fl_up a 7 7, fl_up b 7 0) := rfl
theorem rp_bg8 (f : Int) (a b : Nat → Int) : Sf_X5_begin_17_1 f 8 a b = .inl (9, fl_up a 8 8, fl_up b 8 0) := rfl
theorem rp_begin (f : Int) (a b : Nat → Int) : ∃ pl he, Ff_X5_begin f a b = (0, f, 0, 0, 0, pl, he) ∧ ∀ k : Nat, k < 9 → pl k = (k : Int) ∧ he k = 0 := by
  refine ⟨(fl_up (fl_up (fl_up (fl_up (fl_up (fl_up (fl_up (fl_up (fl_up a 0 0) 1 1) 2 2) 3 3) 4 4) 5 5) 6 6) 7 7) 8 8), (fl_up (fl_up (fl_up (fl_up (fl_up (fl_up (fl_up (fl_up (fl_up b 0 0) 1 0) 2 0) 3 0) 4 0) 5 0) 6 0) 7 0) 8 0), ?_, ?_⟩
  · unfold Ff_X5_begin
    rw [fl_wh_l (step := (fun t9 : Int × (Nat → Int) × (Nat → Int) => Sf_X5_begin_17_1 f t9.1 t9.2.1 t9.2.2)) (rp_bg0 f _ _)]
    rw [fl_wh_l (step := (fun t9 : Int × (Nat → Int) × (Nat → Int) => Sf_X5_begin_17_1 f t9.1 t9.2.1 t9.2.2)) (rp_bg1 f _ _)]
    rw [fl_wh_l (step := (fun t9 : Int × (Nat → Int) × (Nat → Int) => Sf_X5_begin_17_1 f t9.1 t9.2.1 t9.2.2)) (rp_bg2 f _ _)]
    rw [fl_wh_l (step := (fun t9 : Int × (Nat → Int) × (Nat → Int) => Sf_X5_begin_17_1 f t9.1 t9.2.1 t9.2.2)) (rp_bg3 f _ _)]
    rw [fl_wh_l (step := (fun t9 : Int × (Nat → Int) × (Nat → Int) => Sf_X5_begin_17_1 f t9.1 t9.2.1 t9.2.2)) (rp_bg4 f _ _)]
    rw [fl_wh_l (step := (fun t9 : Int × (Nat → Int) × (Nat → Int) => Sf_X5_begin_17_1 f t9.1 t9.2.1 t9.2.2)) (rp_bg5 f _ _)]
    rw [fl_wh_l (step := (fun t9 : Int × (Nat → Int) × (Nat → Int) => Sf_X5_begin_17_1 f t9.1 t9.2.1 t9.2.2)) (rp_bg6 f _ _)]
    rw [fl_wh_l (step := (fun t9 : Int × (Nat → Int) × (Nat → Int) => Sf_X5_begin_17_1 f t9.1 t9.2.1 t9.2.2)) (rp_bg7 f _ _)]
    rw [fl_wh_l (step := (fun t9 : Int × (Nat → Int) × (Nat → Int) => Sf_X5_begin_17_1 f t9.1 t9.2.1 t9.2.2)) (rp_bg8 f _ _)]
    exact fl_wh_r (step := (fun t9 : Int × (Nat → Int) × (Nat → Int) => Sf_X5_begin_17_1 f t9.1 t9.2.1 t9.2.2)) (s := (9, (fl_up (fl_up (fl_up (fl_up (fl_up (fl_up (fl_up (fl_up (fl_up a 0 0) 1 1) 2 2) 3 3) 4 4) 5 5) 6 6) 7 7) 8 8), (fl_up (fl_up (fl_up (fl_up (fl_up (fl_up (fl_up (fl_up (fl_up b 0 0) 1 0) 2 0) 3 0) 4 0) 5 0) 6 0) 7 0) 8 0))) rfl
  · intro k hk
    have h : k = 0 ∨ k = 1 ∨ k = 2 ∨ k = 3 ∨ k = 4 ∨ k = 5 ∨ k = 6 ∨ k = 7 ∨ k = 8 := by omega
    rcases h with h | h | h | h | h | h | h | h | h <;> (subst h; exact ⟨rfl, rfl⟩)
theorem lr_gal {tp tp9 tpm : Int32} {vi vi1 vm vm1 : Nat → Int32} {vf vf1 vn vn1 : Nat → Nat → Int32} (hR : lr_R tp vi vf vm vn) (h0 : 0 ≤ tp.toInt) (h9 : tp.toInt ≤ 900) (n : Int32) (gx : (∃ (vl : Int64) (fl : Nat → Int64) (vl9 : Int64) (fl9 : Nat → Int64), ((Ff_X7_gallery n.toInt (vi 1).toInt (vi 2).toInt tp.toInt (vi 3).toInt (vi 4).toInt (vi 5).toInt (vi 6).toInt (vi 7).toInt (vi 8).toInt (vi 9).toInt vl.toInt (vi 10).toInt (vi 11).toInt (vi 43).toInt (vi 44).toInt (vi 45).toInt (vi 46).toInt (vi 47).toInt (vi 48).toInt (vi 49).toInt (vi 50).toInt (vi 51).toInt (vi 52).toInt (vi 55).toInt (fl_A (vf 15)) (fl_A (vf 16)) (fl_A (vf 0)) (fl_L fl) (fl_A (vf 21)) (fl_A (vf 22)) (fl_A (vf 18)) (fl_A (vf 17)) (vi 12).toInt (vi 13).toInt (vi 14).toInt (vi 15).toInt (vi 16).toInt (fl_A (vf 1)) (fl_A (vf 2)) (vi 24).toInt (vi 25).toInt (vi 30).toInt (vi 31).toInt).2 = ((vi1 0).toInt, (vi1 1).toInt, (vi1 2).toInt, tp9.toInt, (vi1 3).toInt, (vi1 4).toInt, (vi1 5).toInt, (vi1 6).toInt, (vi1 7).toInt, (vi1 8).toInt, (vi1 9).toInt, vl9.toInt, (vi1 10).toInt, (vi1 11).toInt, (vi1 33).toInt, (vi1 34).toInt, (vi1 35).toInt, (vi1 36).toInt, (vi1 37).toInt, (vi1 38).toInt, (vi1 39).toInt, (vi1 40).toInt, (vi1 41).toInt, (vi1 42).toInt, (vi1 53).toInt, fl_A (vf1 11), fl_A (vf1 12), fl_L fl9, fl_A (vf1 19), fl_A (vf1 20), fl_A (vf1 14), fl_A (vf1 13), (vi1 12).toInt, (vi1 13).toInt, (vi1 14).toInt, (vi1 15).toInt, (vi1 16).toInt, fl_A (vf1 1), fl_A (vf1 2), (vi1 24).toInt, (vi1 25).toInt, (vi1 30).toInt, (vi1 31).toInt, 0) ∧ vi1 54 = vi 56 ∧ vi1 56 = vi 54) ∨ ((Ff_X7_gallery n.toInt (vi 1).toInt (vi 2).toInt tp.toInt (vi 3).toInt (vi 4).toInt (vi 5).toInt (vi 6).toInt (vi 7).toInt (vi 8).toInt (vi 9).toInt vl.toInt (vi 10).toInt (vi 11).toInt (vi 43).toInt (vi 44).toInt (vi 45).toInt (vi 46).toInt (vi 47).toInt (vi 48).toInt (vi 49).toInt (vi 50).toInt (vi 51).toInt (vi 52).toInt (vi 55).toInt (fl_A (vf 15)) (fl_A (vf 16)) (fl_A (vf 0)) (fl_L fl) (fl_A (vf 21)) (fl_A (vf 22)) (fl_A (vf 18)) (fl_A (vf 17)) (vi 12).toInt (vi 13).toInt (vi 14).toInt (vi 15).toInt (vi 16).toInt (fl_A (vf 1)) (fl_A (vf 2)) (vi 24).toInt (vi 25).toInt (vi 30).toInt (vi 31).toInt).2 = ((vi1 0).toInt, (vi1 1).toInt, (vi1 2).toInt, tp9.toInt, (vi1 3).toInt, (vi1 4).toInt, (vi1 5).toInt, (vi1 6).toInt, (vi1 7).toInt, (vi1 8).toInt, (vi1 9).toInt, vl9.toInt, (vi1 10).toInt, (vi1 11).toInt, (vi1 43).toInt, (vi1 44).toInt, (vi1 45).toInt, (vi1 46).toInt, (vi1 47).toInt, (vi1 48).toInt, (vi1 49).toInt, (vi1 50).toInt, (vi1 51).toInt, (vi1 52).toInt, (vi1 55).toInt, fl_A (vf1 15), fl_A (vf1 16), fl_L fl9, fl_A (vf1 21), fl_A (vf1 22), fl_A (vf1 18), fl_A (vf1 17), (vi1 12).toInt, (vi1 13).toInt, (vi1 14).toInt, (vi1 15).toInt, (vi1 16).toInt, fl_A (vf1 1), fl_A (vf1 2), (vi1 24).toInt, (vi1 25).toInt, (vi1 30).toInt, (vi1 31).toInt, 1) ∧ (∀ k9 : Nat, k9 ∈ ([33, 34, 35, 36, 37, 38, 39, 40, 41, 42, 53, 54] : List Nat) → vi1 k9 = vi k9) ∧ (∀ k9 : Nat, k9 ∈ ([11, 12, 13, 14, 19, 20] : List Nat) → vf1 k9 = vf k9) ∧ vi1 56 = vi 56))) (gm : ((Ff_X8_gallery n.toInt tp.toInt (vm 1).toInt (vm 2).toInt (vm 3).toInt (vm 4).toInt (vm 5).toInt (vm 6).toInt (vm 7).toInt (vm 8).toInt (vm 10).toInt (vm 11).toInt (vm 12).toInt (vm 13).toInt (fl_A (vn 3)) (fl_A (vn 0)) (fl_A (vn 1)) (fl_A (vn 2)) (fl_A (vn 4))).2 = ((vm1 0).toInt, tpm.toInt, (vm1 1).toInt, (vm1 2).toInt, (vm1 3).toInt, (vm1 4).toInt, (vm1 5).toInt, (vm1 6).toInt, (vm1 7).toInt, (vm1 8).toInt, (vm1 9).toInt, (vm1 10).toInt, (vm1 11).toInt, (vm1 12).toInt, (vm1 13).toInt, fl_A (vn1 3), fl_A (vn1 1), fl_A (vn1 2), fl_A (vn1 4)))) : lr_Q vi1 vf1 vm1 vn1 := by
  obtain ⟨hT, hF, hH⟩ := hR
  obtain ⟨vl, fl, vl9, fl9, gx⟩ := gx
  have n01 : ¬ (0 : Int) = 1 := by decide
  by_cases h : 0 ≤ n.toInt ∧ n.toInt ≤ tp.toInt
  · rcases rp_gal h.1 h.2 h9 (tp := fl_A (vf 0)) (tm := fl_A (vn 0)) (fun i hi => hT i (by omega)) vl.toInt (vi 10).toInt (vi 11).toInt (vi 44).toInt (vi 45).toInt (vi 46).toInt (vi 48).toInt (vi 49).toInt (vi 50).toInt (fl_A (vf 15)) (fl_A (vf 16)) (fl_L fl) (fl_A (vf 21)) (fl_A (vf 22)) (fl_A (vf 18)) (fl_A (vf 17)) (vm 1).toInt (vm 2).toInt (vm 3).toInt (vm 4).toInt (vm 5).toInt (vm 6).toInt (vm 7).toInt (vm 8).toInt (vm 10).toInt (vm 11).toInt (vm 12).toInt (vm 13).toInt (fl_A (vn 3)) (fl_A (vn 1)) (fl_A (vn 2)) (fl_A (vn 4)) with ⟨q_c, q_st, q_be, q_tk, q_wd, q_wh, q_ta, q_fg, q_sp, q_sa, q_sh, q_lw, q_ti, q_pu, q_fi, q_tb, q_sc, q_wc, q_kd, q_me, q_nm, q_wf, q_wt, q_sm, q_sf, fr3, lt3, at3, en3, tk6, wm3, ns3, s1, b1, b2, b3, b4, b5, b6, b7⟩ | ⟨q, p, b1, y1, y2, y3, y4, y5, y6, y7, b2⟩
    · obtain ⟨b_pl, b_he, hbg, hbk⟩ := rp_begin q_fi (fl_A (vf 1)) (fl_A (vf 2))
      have ex : Ff_X7_gallery n.toInt (vi 1).toInt (vi 2).toInt tp.toInt (vi 3).toInt (vi 4).toInt (vi 5).toInt (vi 6).toInt (vi 7).toInt (vi 8).toInt (vi 9).toInt vl.toInt (vi 10).toInt (vi 11).toInt (vi 43).toInt (vi 44).toInt (vi 45).toInt (vi 46).toInt (vi 47).toInt (vi 48).toInt (vi 49).toInt (vi 50).toInt (vi 51).toInt (vi 52).toInt (vi 55).toInt (fl_A (vf 15)) (fl_A (vf 16)) (fl_A (vf 0)) (fl_L fl) (fl_A (vf 21)) (fl_A (vf 22)) (fl_A (vf 18)) (fl_A (vf 17)) (vi 12).toInt (vi 13).toInt (vi 14).toInt (vi 15).toInt (vi 16).toInt (fl_A (vf 1)) (fl_A (vf 2)) (vi 24).toInt (vi 25).toInt (vi 30).toInt (vi 31).toInt = (q_fg, 0, 0, (-1), 0, 0, (-1), q_c, n.toInt, q_st, q_be, q_tk, q_wd, q_wh, q_ta, q_fg, q_sp, q_sa, q_sh, q_lw, q_ti, q_pu, q_fi, q_tb, q_sc, q_wc, q_kd, q_me, q_nm, q_wf, q_wt, q_sm, q_sf, 0, q_fi, 0, 0, 0, b_pl, b_he, 0, 0, 0, 0, 0) := by
        unfold Ff_X7_gallery
        rw [fl_lt_eq ((rp_in n.toInt 0 tp.toInt).trans (rp_in1 h.1 h.2)).symm, if_pos rfl, b1, fl_c29_eq rfl, if_pos rfl, hbg, fl_c7_eq rfl]; rfl
      rw [ex] at gx
      rcases gx with ⟨g1, g2, g3⟩ | ⟨g1, g2, g3, g4⟩
      · clear ex hbg b1
        have e0 : q_fg = (vi1 33).toInt := congrArg (fun z9 => z9.2.2.2.2.2.2.2.2.2.2.2.2.2.2.1) g1
        have e1 : q_sp = (vi1 34).toInt := congrArg (fun z9 => z9.2.2.2.2.2.2.2.2.2.2.2.2.2.2.2.1) g1
        have e2 : q_sa = (vi1 35).toInt := congrArg (fun z9 => z9.2.2.2.2.2.2.2.2.2.2.2.2.2.2.2.2.1) g1
        have e3 : q_sh = (vi1 36).toInt := congrArg (fun z9 => z9.2.2.2.2.2.2.2.2.2.2.2.2.2.2.2.2.2.1) g1
        have e4 : q_lw = (vi1 37).toInt := congrArg (fun z9 => z9.2.2.2.2.2.2.2.2.2.2.2.2.2.2.2.2.2.2.1) g1
        have e5 : q_ti = (vi1 38).toInt := congrArg (fun z9 => z9.2.2.2.2.2.2.2.2.2.2.2.2.2.2.2.2.2.2.2.1) g1
        have e6 : q_pu = (vi1 39).toInt := congrArg (fun z9 => z9.2.2.2.2.2.2.2.2.2.2.2.2.2.2.2.2.2.2.2.2.1) g1
        have e7 : q_fi = (vi1 40).toInt := congrArg (fun z9 => z9.2.2.2.2.2.2.2.2.2.2.2.2.2.2.2.2.2.2.2.2.2.1) g1
        have e8 : q_tb = (vi1 41).toInt := congrArg (fun z9 => z9.2.2.2.2.2.2.2.2.2.2.2.2.2.2.2.2.2.2.2.2.2.2.1) g1
        have e9 : q_sc = (vi1 42).toInt := congrArg (fun z9 => z9.2.2.2.2.2.2.2.2.2.2.2.2.2.2.2.2.2.2.2.2.2.2.2.1) g1
        have e10 : q_wc = (vi1 53).toInt := congrArg (fun z9 => z9.2.2.2.2.2.2.2.2.2.2.2.2.2.2.2.2.2.2.2.2.2.2.2.2.1) g1
        have e11 : q_kd = fl_A (vf1 11) := congrArg (fun z9 => z9.2.2.2.2.2.2.2.2.2.2.2.2.2.2.2.2.2.2.2.2.2.2.2.2.2.1) g1
        have e12 : q_me = fl_A (vf1 12) := congrArg (fun z9 => z9.2.2.2.2.2.2.2.2.2.2.2.2.2.2.2.2.2.2.2.2.2.2.2.2.2.2.1) g1
        have e13 : q_sf = fl_A (vf1 13) := congrArg (fun z9 => z9.2.2.2.2.2.2.2.2.2.2.2.2.2.2.2.2.2.2.2.2.2.2.2.2.2.2.2.2.2.2.2.1) g1
        have e14 : q_sm = fl_A (vf1 14) := congrArg (fun z9 => z9.2.2.2.2.2.2.2.2.2.2.2.2.2.2.2.2.2.2.2.2.2.2.2.2.2.2.2.2.2.2.1) g1
        have e15 : q_wf = fl_A (vf1 19) := congrArg (fun z9 => z9.2.2.2.2.2.2.2.2.2.2.2.2.2.2.2.2.2.2.2.2.2.2.2.2.2.2.2.2.1) g1
        have e16 : q_wt = fl_A (vf1 20) := congrArg (fun z9 => z9.2.2.2.2.2.2.2.2.2.2.2.2.2.2.2.2.2.2.2.2.2.2.2.2.2.2.2.2.2.1) g1
        have ef : (0 : Int) = (vi1 1).toInt := congrArg (fun z9 => z9.2.1) g1
        rw [b2] at gm
        have mf : (0 : Int) = (vm1 7).toInt := congrArg (fun z9 => z9.2.2.2.2.2.2.2.2.1) gm
        have mh : (1 : Int) = (vm1 11).toInt := congrArg (fun z9 => z9.2.2.2.2.2.2.2.2.2.2.2.2.1) gm
        have mr : va_cpy fr3 (fl_A (vn 2)) 0 0 156 = fl_A (vn1 2) := congrArg (fun z9 => z9.2.2.2.2.2.2.2.2.2.2.2.2.2.2.2.2.2.1) gm
        clear g1 gm
        subst e0
        subst e1
        subst e2
        subst e3
        subst e4
        subst e5
        subst e6
        subst e7
        subst e8
        subst e9
        subst e10
        subst e11
        subst e12
        subst e13
        subst e14
        subst e15
        subst e16
        refine ⟨ef.symm.trans mf, Or.inr ⟨Int32.toInt_inj.mp mh.symm, ⟨b4, b5, b3⟩, ?_⟩⟩
        rw [← mr]
        exact lr_D_cg (fun i hi => lr_cpy i hi) ⟨b6.1, b6.2.1, b6.2.2.1, b6.2.2.2.1⟩
      · exact absurd (congrArg (fun z9 => z9.2.2.2.2.2.2.2.2.2.2.2.2.2.2.2.2.2.2.2.2.2.2.2.2.2.2.2.2.2.2.2.2.2.2.2.2.2.2.2.2.2.2.2) g1 : (0 : Int) = 1) n01
    · generalize hG : Ff_X3_read n.toInt tp.toInt vl.toInt (vi 10).toInt (vi 11).toInt (vi 44).toInt (vi 45).toInt (vi 46).toInt (vi 48).toInt (vi 49).toInt (vi 50).toInt (fl_A (vf 15)) (fl_A (vf 16)) (fl_A (vf 0)) (fl_L fl) (fl_A (vf 21)) (fl_A (vf 22)) (fl_A (vf 18)) (fl_A (vf 17)) = G at b1
      obtain ⟨g1_, g2_, g3_, g4_, g5_, g6_, g7_, g8_, g9_, g10_, g11_, g12_, g13_, g14_, g15_, g16_, g17_, g18_, g19_, g20_, g21_, g22_, g23_, g24_, g25_, g26_, g27_, g28_, g29_⟩ := G
      have e1 : g1_ = 0 := b1.1
      subst e1
      have ex : Ff_X7_gallery n.toInt (vi 1).toInt (vi 2).toInt tp.toInt (vi 3).toInt (vi 4).toInt (vi 5).toInt (vi 6).toInt (vi 7).toInt (vi 8).toInt (vi 9).toInt vl.toInt (vi 10).toInt (vi 11).toInt (vi 43).toInt (vi 44).toInt (vi 45).toInt (vi 46).toInt (vi 47).toInt (vi 48).toInt (vi 49).toInt (vi 50).toInt (vi 51).toInt (vi 52).toInt (vi 55).toInt (fl_A (vf 15)) (fl_A (vf 16)) (fl_A (vf 0)) (fl_L fl) (fl_A (vf 21)) (fl_A (vf 22)) (fl_A (vf 18)) (fl_A (vf 17)) (vi 12).toInt (vi 13).toInt (vi 14).toInt (vi 15).toInt (vi 16).toInt (fl_A (vf 1)) (fl_A (vf 2)) (vi 24).toInt (vi 25).toInt (vi 30).toInt (vi 31).toInt = ((-1), 4, g2_, g3_, 0, g2_, g3_, g4_, g5_, g6_, g7_, g8_, g9_, g10_, g11_, g12_, g13_, g14_, g15_, g16_, g17_, g18_, g19_, g20_, g21_, g22_, g23_, g24_, g25_, g26_, g27_, g28_, g29_, (vi 12).toInt, (vi 13).toInt, (vi 14).toInt, (vi 15).toInt, (vi 16).toInt, (fl_A (vf 1)), (fl_A (vf 2)), (vi 24).toInt, (vi 25).toInt, (vi 30).toInt, (vi 31).toInt, 1) := by
        unfold Ff_X7_gallery
        rw [fl_lt_eq ((rp_in n.toInt 0 tp.toInt).trans (rp_in1 h.1 h.2)).symm, if_pos rfl, hG, fl_c29_eq rfl, if_neg n01]; rfl
      rw [ex] at gx
      rcases gx with ⟨g1, g2, g3⟩ | ⟨g1, g2, g3, g4⟩
      · exact absurd (congrArg (fun z9 => z9.2.2.2.2.2.2.2.2.2.2.2.2.2.2.2.2.2.2.2.2.2.2.2.2.2.2.2.2.2.2.2.2.2.2.2.2.2.2.2.2.2.2.2) g1 : (1 : Int) = 0).symm n01
      · rw [b2] at gm
        have ef : g2_ = (vi1 1).toInt := congrArg (fun z9 => z9.2.1) g1
        have mf : q = (vm1 7).toInt := congrArg (fun z9 => z9.2.2.2.2.2.2.2.2.1) gm
        have e2 : g2_ = q := b1.2.1
        have mh : (vm 11).toInt = (vm1 11).toInt := congrArg (fun z9 => z9.2.2.2.2.2.2.2.2.2.2.2.2.1) gm
        have mr : (fl_A (vn 2)) = fl_A (vn1 2) := congrArg (fun z9 => z9.2.2.2.2.2.2.2.2.2.2.2.2.2.2.2.2.2.1) gm
        exact ⟨by rw [← ef, ← mf, e2], lr_H_keep (g2 33 (by decide)) (g2 34 (by decide)) (g2 35 (by decide)) (g2 36 (by decide)) (g2 37 (by decide)) (g2 38 (by decide)) (g2 39 (by decide)) (g2 40 (by decide)) (g2 41 (by decide)) (g2 42 (by decide)) (g2 53 (by decide)) (g3 11 (by decide)) (g3 12 (by decide)) (g3 13 (by decide)) (g3 14 (by decide)) (g3 19 (by decide)) (g3 20 (by decide)) (Int32.toInt_inj.mp mh.symm) mr.symm hH⟩
  · have ex : Ff_X7_gallery n.toInt (vi 1).toInt (vi 2).toInt tp.toInt (vi 3).toInt (vi 4).toInt (vi 5).toInt (vi 6).toInt (vi 7).toInt (vi 8).toInt (vi 9).toInt vl.toInt (vi 10).toInt (vi 11).toInt (vi 43).toInt (vi 44).toInt (vi 45).toInt (vi 46).toInt (vi 47).toInt (vi 48).toInt (vi 49).toInt (vi 50).toInt (vi 51).toInt (vi 52).toInt (vi 55).toInt (fl_A (vf 15)) (fl_A (vf 16)) (fl_A (vf 0)) (fl_L fl) (fl_A (vf 21)) (fl_A (vf 22)) (fl_A (vf 18)) (fl_A (vf 17)) (vi 12).toInt (vi 13).toInt (vi 14).toInt (vi 15).toInt (vi 16).toInt (fl_A (vf 1)) (fl_A (vf 2)) (vi 24).toInt (vi 25).toInt (vi 30).toInt (vi 31).toInt = ((-1), 2, (vi 1).toInt, (vi 2).toInt, tp.toInt, (vi 3).toInt, (vi 4).toInt, (vi 5).toInt, (vi 6).toInt, (vi 7).toInt, (vi 8).toInt, (vi 9).toInt, vl.toInt, (vi 10).toInt, (vi 11).toInt, (vi 43).toInt, (vi 44).toInt, (vi 45).toInt, (vi 46).toInt, (vi 47).toInt, (vi 48).toInt, (vi 49).toInt, (vi 50).toInt, (vi 51).toInt, (vi 52).toInt, (vi 55).toInt, (fl_A (vf 15)), (fl_A (vf 16)), (fl_L fl), (fl_A (vf 21)), (fl_A (vf 22)), (fl_A (vf 18)), (fl_A (vf 17)), (vi 12).toInt, (vi 13).toInt, (vi 14).toInt, (vi 15).toInt, (vi 16).toInt, (fl_A (vf 1)), (fl_A (vf 2)), (vi 24).toInt, (vi 25).toInt, (vi 30).toInt, (vi 31).toInt, 1) := by
      unfold Ff_X7_gallery
      rw [fl_lt_eq ((rp_in n.toInt 0 tp.toInt).trans (rp_in0 h)).symm, if_neg n01]; rfl
    have b2 : Ff_X8_gallery n.toInt tp.toInt (vm 1).toInt (vm 2).toInt (vm 3).toInt (vm 4).toInt (vm 5).toInt (vm 6).toInt (vm 7).toInt (vm 8).toInt (vm 10).toInt (vm 11).toInt (vm 12).toInt (vm 13).toInt (fl_A (vn 3)) (fl_A (vn 0)) (fl_A (vn 1)) (fl_A (vn 2)) (fl_A (vn 4)) = ((-1), 0, tp.toInt, (vm 1).toInt, (vm 2).toInt, (vm 3).toInt, (vm 4).toInt, (vm 5).toInt, (vm 6).toInt, (vm 7).toInt, (vm 8).toInt, 2, (vm 10).toInt, (vm 11).toInt, (vm 12).toInt, (vm 13).toInt, (fl_A (vn 3)), (fl_A (vn 1)), (fl_A (vn 2)), (fl_A (vn 4))) := by
      unfold Ff_X8_gallery Ff_X8_good
      rw [fl_c2_eq rfl, fl_lt_eq (rp_in0 h).symm, if_neg n01]; rfl
    rw [ex] at gx
    rcases gx with ⟨g1, g2, g3⟩ | ⟨g1, g2, g3, g4⟩
    · exact absurd (congrArg (fun z9 => z9.2.2.2.2.2.2.2.2.2.2.2.2.2.2.2.2.2.2.2.2.2.2.2.2.2.2.2.2.2.2.2.2.2.2.2.2.2.2.2.2.2.2.2) g1 : (1 : Int) = 0).symm n01
    · rw [b2] at gm
      have ef : (vi 1).toInt = (vi1 1).toInt := congrArg (fun z9 => z9.2.1) g1
      have mf : (vm 7).toInt = (vm1 7).toInt := congrArg (fun z9 => z9.2.2.2.2.2.2.2.2.1) gm
      have mh : (vm 11).toInt = (vm1 11).toInt := congrArg (fun z9 => z9.2.2.2.2.2.2.2.2.2.2.2.2.1) gm
      have mr : (fl_A (vn 2)) = fl_A (vn1 2) := congrArg (fun z9 => z9.2.2.2.2.2.2.2.2.2.2.2.2.2.2.2.2.2.1) gm
      exact ⟨by rw [← ef, ← mf]; exact hF, lr_H_keep (g2 33 (by decide)) (g2 34 (by decide)) (g2 35 (by decide)) (g2 36 (by decide)) (g2 37 (by decide)) (g2 38 (by decide)) (g2 39 (by decide)) (g2 40 (by decide)) (g2 41 (by decide)) (g2 42 (by decide)) (g2 53 (by decide)) (g3 11 (by decide)) (g3 12 (by decide)) (g3 13 (by decide)) (g3 14 (by decide)) (g3 19 (by decide)) (g3 20 (by decide)) (Int32.toInt_inj.mp mh.symm) mr.symm hH⟩
theorem rs_tn (a lo hi fg : Int) : Ff_X7_troubleOfNumber a lo hi fg = if fg ≤ 0 then 1 else if lo ≤ a ∧ a ≤ hi then 0 else 2 := by
  unfold Ff_X7_troubleOfNumber Ff_X7_hasGallery
  by_cases h1 : fg ≤ 0
  · rw [if_pos h1, if_pos h1]; rfl
  · rw [if_neg h1, if_neg h1, fl_lt_eq rfl, if_pos rfl, rp_in]
    by_cases h2 : lo ≤ a ∧ a ≤ hi
    · rw [if_pos h2, rp_in1 h2.1 h2.2]; rfl
    · rw [if_neg h2, rp_in0 h2]; rfl
theorem lr_has {vi vm : Nat → Int32} {vf vn : Nat → Nat → Int32} (h : lr_H vi vf vm vn) : ((vm 11).toInt = 0 ∧ (vi 33).toInt = 0) ∨ ((vm 11).toInt = 1 ∧ 2 ≤ (vi 33).toInt) := by
  rcases h with ⟨h1, h2, -⟩ | ⟨h1, h2, -⟩
  · exact Or.inl ⟨by rw [h1]; decide, by rw [h2]; decide⟩
  · exact Or.inr ⟨by rw [h1]; decide, h2.1⟩
theorem lr_oh (x y : Int) : Ff_X8_otherHas x y = 3 ∨ Ff_X8_otherHas x y = 1 ∨ Ff_X8_otherHas x y = 0 ∨ Ff_X8_otherHas x y = -1 := by
  unfold Ff_X8_otherHas
  by_cases h1 : x = 0
  · rw [if_pos h1]
    by_cases h2 : y = 0
    · rw [if_pos h2]; exact Or.inr (Or.inl rfl)
    · rw [if_neg h2]; exact Or.inr (Or.inr (Or.inr rfl))
  · rw [if_neg h1]
    by_cases h2 : y = 0
    · rw [if_pos h2]; exact Or.inr (Or.inr (Or.inl rfl))
    · rw [if_neg h2]; exact Or.inl rfl
theorem lr_dares {fg hg : Int} (h : (hg = 0 ∧ fg = 0) ∨ (hg = 1 ∧ 2 ≤ fg)) (a1 a2 a3 a4 : Int) : (Ff_X7_dares a1 a2 a3 a4 fg).1 = (Ff_X8_dares a1 a2 a3 a4 hg).1 := by
  have e2 : ∀ x y : Int, Ff_X7_attendantShare x y = Ff_X8_otherHas x y := fun _ _ => rfl
  unfold Ff_X7_dares Ff_X8_dares Ff_X8_good
  rw [fl_c2_eq (t := ((0 : Int), (0 : Int))) rfl, rs_tn]
  rcases h with ⟨h1, h2⟩ | ⟨h1, h2⟩
  · subst h1; subst h2
    rw [if_pos (by decide)]
    by_cases hin : 0 ≤ a1 ∧ a1 ≤ 9
    · rw [rp_in1 hin.1 hin.2]; rfl
    · rw [rp_in0 hin]; rfl
  · subst h1
    rw [if_neg (by omega)]
    by_cases hin : 0 ≤ a1 ∧ a1 ≤ 9
    · rw [if_pos hin, rp_in1 hin.1 hin.2]
      by_cases h4 : a4 = 0
      · rw [if_pos h4, if_pos h4]; rfl
      · rw [if_neg h4, if_neg h4, e2]
        have hx := lr_oh a2 a3
        generalize Ff_X8_otherHas a2 a3 = x at hx ⊢
        rcases hx with h | h | h | h <;> (subst h; rfl)
    · rw [if_neg hin, rp_in0 hin]; rfl
theorem lr_rs_rests : ∀ a : Fin 10, (fl_wh (fun t9 => Sf_X7_rests_24_1 (a.val : Int) t9.1 t9.2) (0, 0) 5 (0, 0)).1 = (Ff_X8_seekRests (a.val : Int)).1 := by decide +kernel
theorem lr_rests {fg hg : Int} (h : (hg = 0 ∧ fg = 0) ∨ (hg = 1 ∧ 2 ≤ fg)) (a y : Int) : (Ff_X7_rests a fg).1 = (Ff_X8_rests a hg y).1 := by
  unfold Ff_X7_rests Ff_X8_rests Ff_X8_good
  rw [fl_c2_eq (t := ((0 : Int), (0 : Int))) rfl, rs_tn]
  rcases h with ⟨h1, h2⟩ | ⟨h1, h2⟩
  · subst h1; subst h2
    rw [if_pos (by decide)]
    by_cases hin : 0 ≤ a ∧ a ≤ 9
    · rw [rp_in1 hin.1 hin.2]; rfl
    · rw [rp_in0 hin]; rfl
  · subst h1
    rw [if_neg (by omega)]
    by_cases hin : 0 ≤ a ∧ a ≤ 9
    · obtain ⟨n, hn⟩ : ∃ n : Fin 10, (n.val : Int) = a := ⟨⟨a.toNat, by omega⟩, Int.toNat_of_nonneg hin.1⟩
      have q := lr_rs_rests n
      rw [hn] at q
      rw [if_pos hin, rp_in1 hin.1 hin.2, show Ff_X8_why 1 1 = 0 from rfl, fl_lt_eq rfl, if_pos rfl, fl_lt_eq rfl, if_pos rfl, fl_lt_eq rfl, if_neg (by decide), if_neg (by decide)]
      exact q
    · rw [if_neg hin, rp_in0 hin]; rfl
theorem lr_rs_rest : ∀ a : Fin 10, (fl_wh (Sf_X7_rest_21_1 (a.val : Int)) (0, 0) 5 0).1 = (Ff_X8_seekRests (a.val : Int)).2 := by decide +kernel
theorem lr_rest {fg hg : Int} (h : (hg = 0 ∧ fg = 0) ∨ (hg = 1 ∧ 2 ≤ fg)) (a y : Int) : (Ff_X7_rest a fg).1 = (Ff_X8_rest a hg y).1 := by
  unfold Ff_X7_rest Ff_X8_rest Ff_X8_good
  rw [fl_c2_eq (t := ((0 : Int), (0 : Int))) rfl, rs_tn]
  rcases h with ⟨h1, h2⟩ | ⟨h1, h2⟩
  · subst h1; subst h2
    rw [if_pos (by decide)]
    by_cases hin : 0 ≤ a ∧ a ≤ 9
    · rw [rp_in1 hin.1 hin.2]; rfl
    · rw [rp_in0 hin]; rfl
  · subst h1
    rw [if_neg (by omega)]
    by_cases hin : 0 ≤ a ∧ a ≤ 9
    · obtain ⟨n, hn⟩ : ∃ n : Fin 10, (n.val : Int) = a := ⟨⟨a.toNat, by omega⟩, Int.toNat_of_nonneg hin.1⟩
      have q := lr_rs_rest n
      rw [hn] at q
      rw [if_pos hin, rp_in1 hin.1 hin.2, show Ff_X8_why 1 1 = 0 from rfl, fl_lt_eq rfl, if_pos rfl, fl_lt_eq rfl, if_pos rfl, fl_lt_eq rfl, if_neg (by decide), if_neg (by decide)]
      exact q
    · rw [if_neg hin, rp_in0 hin]; rfl
end REL
