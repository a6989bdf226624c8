section RELG
theorem lr_gal {tp tp9 tpm : Int32} {vi vi1 vm vm1 : Nat → Int32} {vf vf1 vn vn1 : Nat → Nat → Int32} (hR : lr_R tp vi vf vm vn) (h0 : 0 ≤ tp.toInt) (h9 : tp.toInt ≤ 900) (n : Int32) (kx1 : (∀ k9 : Nat, k9 ∉ ([0, 1, 2, 3, 4, 5, 6, 7, 8, 9, 10, 11, 12, 13, 14, 15, 16, 24, 25, 30, 31, 33, 34, 35, 36, 37, 38, 39, 40, 41, 42, 43, 44, 45, 46, 47, 48, 49, 50, 51, 52, 53, 54, 55, 56] : List Nat) → vi1 k9 = vi k9)) (kx2 : (∀ k9 : Nat, k9 ∉ ([1, 2, 11, 12, 13, 14, 15, 16, 17, 18, 19, 20, 21, 22] : List Nat) → vf1 k9 = vf k9)) (km1 : (∀ k9 : Nat, k9 ∉ ([0, 1, 2, 3, 4, 5, 6, 7, 8, 9, 10, 11, 12, 13] : List Nat) → vm1 k9 = vm k9)) (km2 : (∀ k9 : Nat, k9 ∉ ([1, 2, 3, 4] : List Nat) → vn1 k9 = vn k9)) (hM : vm1 11 = 0 ∨ (vm1 11 = 1 ∧ ((∀ k : Nat, 0 ≤ k → k ≤ 0 → (2 : Int) ≤ ((vn1 2) k).toInt ∧ ((vn1 2) k).toInt ≤ 9) ∧ (∀ k : Nat, 1 ≤ k → k ≤ 1 → (1 : Int) ≤ ((vn1 2) k).toInt ∧ ((vn1 2) k).toInt ≤ 20) ∧ (∀ k : Nat, 2 ≤ k → k ≤ 2 → (0 : Int) ≤ ((vn1 2) k).toInt ∧ ((vn1 2) k).toInt ≤ 8) ∧ (∀ k : Nat, 3 ≤ k → k ≤ 3 → (0 : Int) ≤ ((vn1 2) k).toInt ∧ ((vn1 2) k).toInt ≤ 100) ∧ (∀ k : Nat, 4 ≤ k → k ≤ 4 → (0 : Int) ≤ ((vn1 2) k).toInt ∧ ((vn1 2) k).toInt ≤ 9) ∧ (∀ k : Nat, 5 ≤ k → k ≤ 5 → (0 : Int) ≤ ((vn1 2) k).toInt ∧ ((vn1 2) k).toInt ≤ 3) ∧ (∀ k : Nat, 6 ≤ k → k ≤ 6 → (0 : Int) ≤ ((vn1 2) k).toInt ∧ ((vn1 2) k).toInt ≤ 6) ∧ (∀ k : Nat, 7 ≤ k → k ≤ 9 → (0 : Int) ≤ ((vn1 2) k).toInt ∧ ((vn1 2) k).toInt ≤ 8) ∧ (∀ k : Nat, 12 ≤ k → k ≤ 29 → (0 : Int) ≤ ((vn1 2) k).toInt ∧ ((vn1 2) k).toInt ≤ 20) ∧ (∀ k : Nat, 30 ≤ k → k ≤ 35 → (0 : Int) ≤ ((vn1 2) k).toInt ∧ ((vn1 2) k).toInt ≤ 8) ∧ (∀ k : Nat, 36 ≤ k → k ≤ 47 → (0 : Int) ≤ ((vn1 2) k).toInt ∧ ((vn1 2) k).toInt ≤ 999)) ∧ ((∀ (j i0 i : Int32), (0 : Int) ≤ j.toInt → j.toInt ≤ 8 → i0.toInt = 12 + 2 * j.toInt → i.toInt = 13 + 2 * j.toInt → ((vn1 2) i0.toNatClampNeg).toInt = (1 : Int32).toInt → (1 : Int) ≤ ((vn1 2) i.toNatClampNeg).toInt)))) (hL : 0 ≤ (vi1 26).toInt ∧ (vi1 26).toInt ≤ 15) (gx : (∃ (vl : Int64) (fl : Nat → Int64) (vl9 : Int64) (fl9 : Nat → Int64), ((Ff_X7_gallery n.toInt (vi 1).toInt (vi 2).toInt tp.toInt (vi 3).toInt (vi 4).toInt (vi 5).toInt (vi 6).toInt (vi 7).toInt (vi 8).toInt (vi 9).toInt vl.toInt (vi 10).toInt (vi 11).toInt (vi 43).toInt (vi 44).toInt (vi 45).toInt (vi 46).toInt (vi 47).toInt (vi 48).toInt (vi 49).toInt (vi 50).toInt (vi 51).toInt (vi 52).toInt (vi 55).toInt (fl_A (vf 15)) (fl_A (vf 16)) (fl_A (vf 0)) (fl_L fl) (fl_A (vf 21)) (fl_A (vf 22)) (fl_A (vf 18)) (fl_A (vf 17)) (vi 12).toInt (vi 13).toInt (vi 14).toInt (vi 15).toInt (vi 16).toInt (fl_A (vf 1)) (fl_A (vf 2)) (vi 24).toInt (vi 25).toInt (vi 30).toInt (vi 31).toInt).2 = ((vi1 0).toInt, (vi1 1).toInt, (vi1 2).toInt, tp9.toInt, (vi1 3).toInt, (vi1 4).toInt, (vi1 5).toInt, (vi1 6).toInt, (vi1 7).toInt, (vi1 8).toInt, (vi1 9).toInt, vl9.toInt, (vi1 10).toInt, (vi1 11).toInt, (vi1 33).toInt, (vi1 34).toInt, (vi1 35).toInt, (vi1 36).toInt, (vi1 37).toInt, (vi1 38).toInt, (vi1 39).toInt, (vi1 40).toInt, (vi1 41).toInt, (vi1 42).toInt, (vi1 53).toInt, fl_A (vf1 11), fl_A (vf1 12), fl_L fl9, fl_A (vf1 19), fl_A (vf1 20), fl_A (vf1 14), fl_A (vf1 13), (vi1 12).toInt, (vi1 13).toInt, (vi1 14).toInt, (vi1 15).toInt, (vi1 16).toInt, fl_A (vf1 1), fl_A (vf1 2), (vi1 24).toInt, (vi1 25).toInt, (vi1 30).toInt, (vi1 31).toInt, 0) ∧ vi1 54 = vi 56 ∧ vi1 56 = vi 54) ∨ ((Ff_X7_gallery n.toInt (vi 1).toInt (vi 2).toInt tp.toInt (vi 3).toInt (vi 4).toInt (vi 5).toInt (vi 6).toInt (vi 7).toInt (vi 8).toInt (vi 9).toInt vl.toInt (vi 10).toInt (vi 11).toInt (vi 43).toInt (vi 44).toInt (vi 45).toInt (vi 46).toInt (vi 47).toInt (vi 48).toInt (vi 49).toInt (vi 50).toInt (vi 51).toInt (vi 52).toInt (vi 55).toInt (fl_A (vf 15)) (fl_A (vf 16)) (fl_A (vf 0)) (fl_L fl) (fl_A (vf 21)) (fl_A (vf 22)) (fl_A (vf 18)) (fl_A (vf 17)) (vi 12).toInt (vi 13).toInt (vi 14).toInt (vi 15).toInt (vi 16).toInt (fl_A (vf 1)) (fl_A (vf 2)) (vi 24).toInt (vi 25).toInt (vi 30).toInt (vi 31).toInt).2 = ((vi1 0).toInt, (vi1 1).toInt, (vi1 2).toInt, tp9.toInt, (vi1 3).toInt, (vi1 4).toInt, (vi1 5).toInt, (vi1 6).toInt, (vi1 7).toInt, (vi1 8).toInt, (vi1 9).toInt, vl9.toInt, (vi1 10).toInt, (vi1 11).toInt, (vi1 43).toInt, (vi1 44).toInt, (vi1 45).toInt, (vi1 46).toInt, (vi1 47).toInt, (vi1 48).toInt, (vi1 49).toInt, (vi1 50).toInt, (vi1 51).toInt, (vi1 52).toInt, (vi1 55).toInt, fl_A (vf1 15), fl_A (vf1 16), fl_L fl9, fl_A (vf1 21), fl_A (vf1 22), fl_A (vf1 18), fl_A (vf1 17), (vi1 12).toInt, (vi1 13).toInt, (vi1 14).toInt, (vi1 15).toInt, (vi1 16).toInt, fl_A (vf1 1), fl_A (vf1 2), (vi1 24).toInt, (vi1 25).toInt, (vi1 30).toInt, (vi1 31).toInt, 1) ∧ (∀ k9 : Nat, k9 ∈ ([33, 34, 35, 36, 37, 38, 39, 40, 41, 42, 53, 54] : List Nat) → vi1 k9 = vi k9) ∧ (∀ k9 : Nat, k9 ∈ ([11, 12, 13, 14, 19, 20] : List Nat) → vf1 k9 = vf k9) ∧ vi1 56 = vi 56))) (gm : ((Ff_X8_gallery n.toInt tp.toInt (vm 1).toInt (vm 2).toInt (vm 3).toInt (vm 4).toInt (vm 5).toInt (vm 6).toInt (vm 7).toInt (vm 8).toInt (vm 10).toInt (vm 11).toInt (vm 12).toInt (vm 13).toInt (fl_A (vn 3)) (fl_A (vn 0)) (fl_A (vn 1)) (fl_A (vn 2)) (fl_A (vn 4))).2 = ((vm1 0).toInt, tpm.toInt, (vm1 1).toInt, (vm1 2).toInt, (vm1 3).toInt, (vm1 4).toInt, (vm1 5).toInt, (vm1 6).toInt, (vm1 7).toInt, (vm1 8).toInt, (vm1 9).toInt, (vm1 10).toInt, (vm1 11).toInt, (vm1 12).toInt, (vm1 13).toInt, fl_A (vn1 3), fl_A (vn1 1), fl_A (vn1 2), fl_A (vn1 4)))) : lr_Q vi1 vf1 vm1 vn1 := by
  obtain ⟨hT, hF, hH, hV⟩ := hR
  obtain ⟨vl, fl, vl9, fl9, gx⟩ := gx
  have n01 : ¬ (0 : Int) = 1 := by decide
  by_cases h : 0 ≤ n.toInt ∧ n.toInt ≤ tp.toInt
  · rcases rp_gal h.1 h.2 h9 (tp := fl_A (vf 0)) (tm := fl_A (vn 0)) (fun i hi => hT i (by omega)) vl.toInt (vi 10).toInt (vi 11).toInt (vi 44).toInt (vi 45).toInt (vi 46).toInt (vi 48).toInt (vi 49).toInt (vi 50).toInt (fl_A (vf 15)) (fl_A (vf 16)) (fl_L fl) (fl_A (vf 21)) (fl_A (vf 22)) (fl_A (vf 18)) (fl_A (vf 17)) (vm 1).toInt (vm 2).toInt (vm 3).toInt (vm 4).toInt (vm 5).toInt (vm 6).toInt (vm 7).toInt (vm 8).toInt (vm 10).toInt (vm 11).toInt (vm 12).toInt (vm 13).toInt (fl_A (vn 3)) (fl_A (vn 1)) (fl_A (vn 2)) (fl_A (vn 4)) with ⟨q_c, q_st, q_be, q_tk, q_wd, q_wh, q_ta, q_fg, q_sp, q_sa, q_sh, q_lw, q_ti, q_pu, q_fi, q_tb, q_sc, q_wc, q_kd, q_me, q_nm, q_wf, q_wt, q_sm, q_sf, fr3, lt3, at3, en3, tk6, wm3, ns3, s1, b1, b2, b3, b4, b5, b6, b7⟩ | ⟨q, p, b1, y1, y2, y3, y4, y5, y6, y7, b2⟩
    · obtain ⟨b_pl, b_he, hbg, hbk⟩ := rp_begin q_fi (fl_A (vf 1)) (fl_A (vf 2))
      have ex : Ff_X7_gallery n.toInt (vi 1).toInt (vi 2).toInt tp.toInt (vi 3).toInt (vi 4).toInt (vi 5).toInt (vi 6).toInt (vi 7).toInt (vi 8).toInt (vi 9).toInt vl.toInt (vi 10).toInt (vi 11).toInt (vi 43).toInt (vi 44).toInt (vi 45).toInt (vi 46).toInt (vi 47).toInt (vi 48).toInt (vi 49).toInt (vi 50).toInt (vi 51).toInt (vi 52).toInt (vi 55).toInt (fl_A (vf 15)) (fl_A (vf 16)) (fl_A (vf 0)) (fl_L fl) (fl_A (vf 21)) (fl_A (vf 22)) (fl_A (vf 18)) (fl_A (vf 17)) (vi 12).toInt (vi 13).toInt (vi 14).toInt (vi 15).toInt (vi 16).toInt (fl_A (vf 1)) (fl_A (vf 2)) (vi 24).toInt (vi 25).toInt (vi 30).toInt (vi 31).toInt = (q_fg, 0, 0, (-1), 0, 0, (-1), q_c, n.toInt, q_st, q_be, q_tk, q_wd, q_wh, q_ta, q_fg, q_sp, q_sa, q_sh, q_lw, q_ti, q_pu, q_fi, q_tb, q_sc, q_wc, q_kd, q_me, q_nm, q_wf, q_wt, q_sm, q_sf, 0, q_fi, 0, 0, 0, b_pl, b_he, 0, 0, 0, 0, 0) := by
        unfold Ff_X7_gallery
        rw [fl_lt_eq ((rp_in n.toInt 0 tp.toInt).trans (rp_in1 h.1 h.2)).symm, if_pos rfl, b1, fl_c29_eq rfl, if_pos rfl, hbg, fl_c7_eq rfl]; rfl
      rw [ex] at gx
      rcases gx with ⟨g1, g2, g3⟩ | ⟨g1, g2, g3, g4⟩
      · clear ex hbg b1
        have e0 : q_fg = (vi1 33).toInt := congrArg (fun z9 => z9.2.2.2.2.2.2.2.2.2.2.2.2.2.2.1) g1
        have e1 : q_sp = (vi1 34).toInt := congrArg (fun z9 => z9.2.2.2.2.2.2.2.2.2.2.2.2.2.2.2.1) g1
        have e2 : q_sa = (vi1 35).toInt := congrArg (fun z9 => z9.2.2.2.2.2.2.2.2.2.2.2.2.2.2.2.2.1) g1
        have e3 : q_sh = (vi1 36).toInt := congrArg (fun z9 => z9.2.2.2.2.2.2.2.2.2.2.2.2.2.2.2.2.2.1) g1
        have e4 : q_lw = (vi1 37).toInt := congrArg (fun z9 => z9.2.2.2.2.2.2.2.2.2.2.2.2.2.2.2.2.2.2.1) g1
        have e5 : q_ti = (vi1 38).toInt := congrArg (fun z9 => z9.2.2.2.2.2.2.2.2.2.2.2.2.2.2.2.2.2.2.2.1) g1
        have e6 : q_pu = (vi1 39).toInt := congrArg (fun z9 => z9.2.2.2.2.2.2.2.2.2.2.2.2.2.2.2.2.2.2.2.2.1) g1
        have e7 : q_fi = (vi1 40).toInt := congrArg (fun z9 => z9.2.2.2.2.2.2.2.2.2.2.2.2.2.2.2.2.2.2.2.2.2.1) g1
        have e8 : q_tb = (vi1 41).toInt := congrArg (fun z9 => z9.2.2.2.2.2.2.2.2.2.2.2.2.2.2.2.2.2.2.2.2.2.2.1) g1
        have e9 : q_sc = (vi1 42).toInt := congrArg (fun z9 => z9.2.2.2.2.2.2.2.2.2.2.2.2.2.2.2.2.2.2.2.2.2.2.2.1) g1
        have e10 : q_wc = (vi1 53).toInt := congrArg (fun z9 => z9.2.2.2.2.2.2.2.2.2.2.2.2.2.2.2.2.2.2.2.2.2.2.2.2.1) g1
        have e11 : q_kd = fl_A (vf1 11) := congrArg (fun z9 => z9.2.2.2.2.2.2.2.2.2.2.2.2.2.2.2.2.2.2.2.2.2.2.2.2.2.1) g1
        have e12 : q_me = fl_A (vf1 12) := congrArg (fun z9 => z9.2.2.2.2.2.2.2.2.2.2.2.2.2.2.2.2.2.2.2.2.2.2.2.2.2.2.1) g1
        have e13 : q_sf = fl_A (vf1 13) := congrArg (fun z9 => z9.2.2.2.2.2.2.2.2.2.2.2.2.2.2.2.2.2.2.2.2.2.2.2.2.2.2.2.2.2.2.2.1) g1
        have e14 : q_sm = fl_A (vf1 14) := congrArg (fun z9 => z9.2.2.2.2.2.2.2.2.2.2.2.2.2.2.2.2.2.2.2.2.2.2.2.2.2.2.2.2.2.2.1) g1
        have e15 : q_wf = fl_A (vf1 19) := congrArg (fun z9 => z9.2.2.2.2.2.2.2.2.2.2.2.2.2.2.2.2.2.2.2.2.2.2.2.2.2.2.2.2.1) g1
        have e16 : q_wt = fl_A (vf1 20) := congrArg (fun z9 => z9.2.2.2.2.2.2.2.2.2.2.2.2.2.2.2.2.2.2.2.2.2.2.2.2.2.2.2.2.2.1) g1
        have ef : (0 : Int) = (vi1 1).toInt := congrArg (fun z9 => z9.2.1) g1
        have p_mi : (0 : Int) = (vi1 12).toInt := congrArg (fun z9 => z9.2.2.2.2.2.2.2.2.2.2.2.2.2.2.2.2.2.2.2.2.2.2.2.2.2.2.2.2.2.2.2.2.1) g1
        have p_tu : (q_fi : Int) = (vi1 13).toInt := congrArg (fun z9 => z9.2.2.2.2.2.2.2.2.2.2.2.2.2.2.2.2.2.2.2.2.2.2.2.2.2.2.2.2.2.2.2.2.2.1) g1
        have p_sn : (0 : Int) = (vi1 14).toInt := congrArg (fun z9 => z9.2.2.2.2.2.2.2.2.2.2.2.2.2.2.2.2.2.2.2.2.2.2.2.2.2.2.2.2.2.2.2.2.2.2.1) g1
        have p_go : (0 : Int) = (vi1 15).toInt := congrArg (fun z9 => z9.2.2.2.2.2.2.2.2.2.2.2.2.2.2.2.2.2.2.2.2.2.2.2.2.2.2.2.2.2.2.2.2.2.2.2.1) g1
        have p_ca : (0 : Int) = (vi1 16).toInt := congrArg (fun z9 => z9.2.2.2.2.2.2.2.2.2.2.2.2.2.2.2.2.2.2.2.2.2.2.2.2.2.2.2.2.2.2.2.2.2.2.2.2.1) g1
        have p_pl : (b_pl : Nat → Int) = fl_A (vf1 1) := congrArg (fun z9 => z9.2.2.2.2.2.2.2.2.2.2.2.2.2.2.2.2.2.2.2.2.2.2.2.2.2.2.2.2.2.2.2.2.2.2.2.2.2.1) g1
        have p_he : (b_he : Nat → Int) = fl_A (vf1 2) := congrArg (fun z9 => z9.2.2.2.2.2.2.2.2.2.2.2.2.2.2.2.2.2.2.2.2.2.2.2.2.2.2.2.2.2.2.2.2.2.2.2.2.2.2.1) g1
        have p_U : (0 : Int) = (vi1 24).toInt := congrArg (fun z9 => z9.2.2.2.2.2.2.2.2.2.2.2.2.2.2.2.2.2.2.2.2.2.2.2.2.2.2.2.2.2.2.2.2.2.2.2.2.2.2.2.1) g1
        have p_N : (0 : Int) = (vi1 25).toInt := congrArg (fun z9 => z9.2.2.2.2.2.2.2.2.2.2.2.2.2.2.2.2.2.2.2.2.2.2.2.2.2.2.2.2.2.2.2.2.2.2.2.2.2.2.2.2.1) g1
        rw [b2] at gm
        have mf : (0 : Int) = (vm1 7).toInt := congrArg (fun z9 => z9.2.2.2.2.2.2.2.2.1) gm
        have mh : (1 : Int) = (vm1 11).toInt := congrArg (fun z9 => z9.2.2.2.2.2.2.2.2.2.2.2.2.1) gm
        have mr : va_cpy fr3 (fl_A (vn 2)) 0 0 156 = fl_A (vn1 2) := congrArg (fun z9 => z9.2.2.2.2.2.2.2.2.2.2.2.2.2.2.2.2.2.1) gm
        have r_st : s1 = fl_A (vn1 4) := congrArg (fun z9 => z9.2.2.2.2.2.2.2.2.2.2.2.2.2.2.2.2.2.2) gm
        have r_U : (0 : Int) = (vm1 12).toInt := congrArg (fun z9 => z9.2.2.2.2.2.2.2.2.2.2.2.2.2.1) gm
        have r_N : (0 : Int) = (vm1 13).toInt := congrArg (fun z9 => z9.2.2.2.2.2.2.2.2.2.2.2.2.2.2.1) gm
        clear g1 gm
        subst e0
        subst e1
        subst e2
        subst e3
        subst e4
        subst e5
        subst e6
        subst e7
        subst e8
        subst e9
        subst e10
        subst e11
        subst e12
        subst e13
        subst e14
        subst e15
        subst e16
        have m11 : vm1 11 = 1 := Int32.toInt_inj.mp mh.symm
        have hHn : lr_H vi1 vf1 vm1 vn1 := by
          refine Or.inr ⟨m11, ⟨b4, b5, b3⟩, ?_⟩
          rw [← mr]
          exact lr_D_cg (fun i hi => lr_cpy i hi) ⟨b6.1, b6.2.1, b6.2.2.1, b6.2.2.2.1⟩
        rcases hM with z9 | ⟨-, hrs, hkm⟩
        · rw [m11] at z9; exact absurd z9 (by decide)
        obtain ⟨hG, -, hfi⟩ := lr_G hHn m11 hrs hkm
        obtain ⟨⟨-, h2, h9'⟩, ⟨-, hsp, -⟩, -⟩ := id hG
        have e0 : (vi1 33).toInt = fr3 0 := b6.1.1.1
        have e9 : (vi1 40).toInt = fr3 9 := (b6.1.2.2.2 b3).2.2.1
        have k21 : s1 21 = 0 := by rw [b7 21 (by decide), if_neg (by decide), if_neg (by omega)]
        have k20 : s1 20 = 0 := by rw [b7 20 (by decide), if_neg (by decide), if_neg (by omega)]
        have k18 : s1 18 = 0 := by rw [b7 18 (by decide), if_neg (by decide), if_neg (by omega)]
        have k22 : s1 22 = 0 := by rw [b7 22 (by decide), if_neg (by decide), if_neg (by omega)]
        have k19 : s1 19 = fr3 9 := by rw [b7 19 (by decide), if_pos rfl]
        have hSn : rs_S (vi1 33).toInt (vi1 34).toInt (fl_A (vf1 11)) 0 (vi1 40).toInt 0 0 0 b_pl b_he s1 := by
          refine ⟨⟨k21.symm, e9.trans k19.symm, k20.symm, k18.symm, k22.symm⟩, by omega, hfi, ⟨by omega, by omega⟩, ⟨by omega, by omega⟩, fun k hk' => ?_⟩
          obtain ⟨c1, c2⟩ := hbk k (by omega)
          have d1 : s1 k = (k : Int) := by rw [b7 k (by omega), if_neg (by omega), if_pos (by omega)]
          have d2 : s1 (9 + k) = 0 := by rw [b7 (9 + k) (by omega), if_neg (by omega), if_neg (by omega)]
          refine ⟨by rw [c1, d1], by rw [c2, d2], by rw [c1]; omega, fun h9 => ?_⟩
          have b0 := rs_b0 ⟨k, by omega⟩
          simp only at b0
          omega
        refine ⟨ef.symm.trans mf, hHn, ⟨by rw [g2]; exact hV.1.2, by rw [g3]; exact hV.1.1⟩, Or.inr ⟨m11, ?_, ?_, ?_, ?_, ?_, ?_⟩⟩
        · rw [← p_mi, ← p_tu, ← p_sn, ← p_go, ← p_ca, ← p_pl, ← p_he, ← r_st]
          exact hSn
        · rw [← p_mi]; omega
        · rw [← p_U, ← r_U]
        · rw [← p_N, ← r_N]
        · rw [← p_U]
          exact ⟨⟨by omega, by omega⟩, hL, fun i hi => by omega⟩
        · rw [← p_N]
          exact ⟨⟨by omega, by omega⟩, fun i hi => by omega⟩
      · exact absurd (congrArg (fun z9 => z9.2.2.2.2.2.2.2.2.2.2.2.2.2.2.2.2.2.2.2.2.2.2.2.2.2.2.2.2.2.2.2.2.2.2.2.2.2.2.2.2.2.2.2) g1 : (0 : Int) = 1) n01
    · generalize hG : Ff_X3_read n.toInt tp.toInt vl.toInt (vi 10).toInt (vi 11).toInt (vi 44).toInt (vi 45).toInt (vi 46).toInt (vi 48).toInt (vi 49).toInt (vi 50).toInt (fl_A (vf 15)) (fl_A (vf 16)) (fl_A (vf 0)) (fl_L fl) (fl_A (vf 21)) (fl_A (vf 22)) (fl_A (vf 18)) (fl_A (vf 17)) = G at b1
      obtain ⟨g1_, g2_, g3_, g4_, g5_, g6_, g7_, g8_, g9_, g10_, g11_, g12_, g13_, g14_, g15_, g16_, g17_, g18_, g19_, g20_, g21_, g22_, g23_, g24_, g25_, g26_, g27_, g28_, g29_⟩ := G
      have e1 : g1_ = 0 := b1.1
      subst e1
      have ex : Ff_X7_gallery n.toInt (vi 1).toInt (vi 2).toInt tp.toInt (vi 3).toInt (vi 4).toInt (vi 5).toInt (vi 6).toInt (vi 7).toInt (vi 8).toInt (vi 9).toInt vl.toInt (vi 10).toInt (vi 11).toInt (vi 43).toInt (vi 44).toInt (vi 45).toInt (vi 46).toInt (vi 47).toInt (vi 48).toInt (vi 49).toInt (vi 50).toInt (vi 51).toInt (vi 52).toInt (vi 55).toInt (fl_A (vf 15)) (fl_A (vf 16)) (fl_A (vf 0)) (fl_L fl) (fl_A (vf 21)) (fl_A (vf 22)) (fl_A (vf 18)) (fl_A (vf 17)) (vi 12).toInt (vi 13).toInt (vi 14).toInt (vi 15).toInt (vi 16).toInt (fl_A (vf 1)) (fl_A (vf 2)) (vi 24).toInt (vi 25).toInt (vi 30).toInt (vi 31).toInt = ((-1), 4, g2_, g3_, 0, g2_, g3_, g4_, g5_, g6_, g7_, g8_, g9_, g10_, g11_, g12_, g13_, g14_, g15_, g16_, g17_, g18_, g19_, g20_, g21_, g22_, g23_, g24_, g25_, g26_, g27_, g28_, g29_, (vi 12).toInt, (vi 13).toInt, (vi 14).toInt, (vi 15).toInt, (vi 16).toInt, (fl_A (vf 1)), (fl_A (vf 2)), (vi 24).toInt, (vi 25).toInt, (vi 30).toInt, (vi 31).toInt, 1) := by
        unfold Ff_X7_gallery
        rw [fl_lt_eq ((rp_in n.toInt 0 tp.toInt).trans (rp_in1 h.1 h.2)).symm, if_pos rfl, hG, fl_c29_eq rfl, if_neg n01]; rfl
      rw [ex] at gx
      rcases gx with ⟨g1, g2, g3⟩ | ⟨g1, g2, g3, g4⟩
      · exact absurd (congrArg (fun z9 => z9.2.2.2.2.2.2.2.2.2.2.2.2.2.2.2.2.2.2.2.2.2.2.2.2.2.2.2.2.2.2.2.2.2.2.2.2.2.2.2.2.2.2.2) g1 : (1 : Int) = 0).symm n01
      · rw [b2] at gm
        have ef : g2_ = (vi1 1).toInt := congrArg (fun z9 => z9.2.1) g1
        have mf : q = (vm1 7).toInt := congrArg (fun z9 => z9.2.2.2.2.2.2.2.2.1) gm
        have e2 : g2_ = q := b1.2.1
        have mh : (vm 11).toInt = (vm1 11).toInt := congrArg (fun z9 => z9.2.2.2.2.2.2.2.2.2.2.2.2.1) gm
        have mr : (fl_A (vn 2)) = fl_A (vn1 2) := congrArg (fun z9 => z9.2.2.2.2.2.2.2.2.2.2.2.2.2.2.2.2.2.1) gm
        have p_mi : (vi 12).toInt = (vi1 12).toInt := congrArg (fun z9 => z9.2.2.2.2.2.2.2.2.2.2.2.2.2.2.2.2.2.2.2.2.2.2.2.2.2.2.2.2.2.2.2.2.1) g1
        have p_tu : (vi 13).toInt = (vi1 13).toInt := congrArg (fun z9 => z9.2.2.2.2.2.2.2.2.2.2.2.2.2.2.2.2.2.2.2.2.2.2.2.2.2.2.2.2.2.2.2.2.2.1) g1
        have p_sn : (vi 14).toInt = (vi1 14).toInt := congrArg (fun z9 => z9.2.2.2.2.2.2.2.2.2.2.2.2.2.2.2.2.2.2.2.2.2.2.2.2.2.2.2.2.2.2.2.2.2.2.1) g1
        have p_go : (vi 15).toInt = (vi1 15).toInt := congrArg (fun z9 => z9.2.2.2.2.2.2.2.2.2.2.2.2.2.2.2.2.2.2.2.2.2.2.2.2.2.2.2.2.2.2.2.2.2.2.2.1) g1
        have p_ca : (vi 16).toInt = (vi1 16).toInt := congrArg (fun z9 => z9.2.2.2.2.2.2.2.2.2.2.2.2.2.2.2.2.2.2.2.2.2.2.2.2.2.2.2.2.2.2.2.2.2.2.2.2.1) g1
        have p_pl : (fl_A (vf 1)) = fl_A (vf1 1) := congrArg (fun z9 => z9.2.2.2.2.2.2.2.2.2.2.2.2.2.2.2.2.2.2.2.2.2.2.2.2.2.2.2.2.2.2.2.2.2.2.2.2.2.1) g1
        have p_he : (fl_A (vf 2)) = fl_A (vf1 2) := congrArg (fun z9 => z9.2.2.2.2.2.2.2.2.2.2.2.2.2.2.2.2.2.2.2.2.2.2.2.2.2.2.2.2.2.2.2.2.2.2.2.2.2.2.1) g1
        have p_U : (vi 24).toInt = (vi1 24).toInt := congrArg (fun z9 => z9.2.2.2.2.2.2.2.2.2.2.2.2.2.2.2.2.2.2.2.2.2.2.2.2.2.2.2.2.2.2.2.2.2.2.2.2.2.2.2.1) g1
        have p_N : (vi 25).toInt = (vi1 25).toInt := congrArg (fun z9 => z9.2.2.2.2.2.2.2.2.2.2.2.2.2.2.2.2.2.2.2.2.2.2.2.2.2.2.2.2.2.2.2.2.2.2.2.2.2.2.2.2.1) g1
        have r_st : (fl_A (vn 4)) = fl_A (vn1 4) := congrArg (fun z9 => z9.2.2.2.2.2.2.2.2.2.2.2.2.2.2.2.2.2.2) gm
        have r_U : (vm 12).toInt = (vm1 12).toInt := congrArg (fun z9 => z9.2.2.2.2.2.2.2.2.2.2.2.2.2.1) gm
        have r_N : (vm 13).toInt = (vm1 13).toInt := congrArg (fun z9 => z9.2.2.2.2.2.2.2.2.2.2.2.2.2.2.1) gm
        have hVn : lr_V vi1 vf1 vm1 vn1 := by
          refine ⟨⟨by rw [g2 54 (by decide)]; exact hV.1.1, by rw [g4]; exact hV.1.2⟩, ?_⟩
          have m11 : vm1 11 = vm 11 := Int32.toInt_inj.mp mh.symm
          rw [m11, g2 33 (by decide), g2 34 (by decide), g3 11 (by decide), ← p_mi, ← p_tu, ← p_sn, ← p_go, ← p_ca, ← p_pl, ← p_he, ← p_U, ← p_N, ← r_st, ← r_U, ← r_N, kx1 26 (by decide), km2 6 (by decide), km2 7 (by decide)]
          have i12 : vi1 12 = vi 12 := Int32.toInt_inj.mp p_mi.symm
          have i24 : vi1 24 = vi 24 := Int32.toInt_inj.mp p_U.symm
          have i25 : vi1 25 = vi 25 := Int32.toInt_inj.mp p_N.symm
          have j12 : vm1 12 = vm 12 := Int32.toInt_inj.mp r_U.symm
          have j13 : vm1 13 = vm 13 := Int32.toInt_inj.mp r_N.symm
          rw [i12, i24, i25, j12, j13]
          rcases hV.2 with h4 | ⟨a, b, c, d, e, f, g⟩
          · exact Or.inl h4
          · exact Or.inr ⟨a, b, c, d, e, rs_H_cg (fun k h9 => by show (vi1 (57 + k)).toInt = (vi (57 + k)).toInt; rw [kx1 (57 + k) (kp_out (a := 57) (b := 137) (by decide) (by omega) (by omega))]) (fun k h9 => by show fl_A (vf1 (23 + k)) = fl_A (vf (23 + k)); rw [kx2 (23 + k) (kp_out (a := 23) (b := 55) (by decide) (by omega) (by omega))]) f, rs_I_cg (fun k h9 => by show (vi1 (137 + k)).toInt = (vi (137 + k)).toInt; rw [kx1 (137 + k) (kp_out (a := 137) (b := 152) (by decide) (by omega) (by omega))]) (fun k h9 => by show fl_A (vf1 (55 + k)) = fl_A (vf (55 + k)); rw [kx2 (55 + k) (kp_out (a := 55) (b := 61) (by decide) (by omega) (by omega))]) g⟩
        exact ⟨by rw [← ef, ← mf, e2], lr_H_keep (g2 33 (by decide)) (g2 34 (by decide)) (g2 35 (by decide)) (g2 36 (by decide)) (g2 37 (by decide)) (g2 38 (by decide)) (g2 39 (by decide)) (g2 40 (by decide)) (g2 41 (by decide)) (g2 42 (by decide)) (g2 53 (by decide)) (g3 11 (by decide)) (g3 12 (by decide)) (g3 13 (by decide)) (g3 14 (by decide)) (g3 19 (by decide)) (g3 20 (by decide)) (Int32.toInt_inj.mp mh.symm) mr.symm hH, hVn⟩
  · have ex : Ff_X7_gallery n.toInt (vi 1).toInt (vi 2).toInt tp.toInt (vi 3).toInt (vi 4).toInt (vi 5).toInt (vi 6).toInt (vi 7).toInt (vi 8).toInt (vi 9).toInt vl.toInt (vi 10).toInt (vi 11).toInt (vi 43).toInt (vi 44).toInt (vi 45).toInt (vi 46).toInt (vi 47).toInt (vi 48).toInt (vi 49).toInt (vi 50).toInt (vi 51).toInt (vi 52).toInt (vi 55).toInt (fl_A (vf 15)) (fl_A (vf 16)) (fl_A (vf 0)) (fl_L fl) (fl_A (vf 21)) (fl_A (vf 22)) (fl_A (vf 18)) (fl_A (vf 17)) (vi 12).toInt (vi 13).toInt (vi 14).toInt (vi 15).toInt (vi 16).toInt (fl_A (vf 1)) (fl_A (vf 2)) (vi 24).toInt (vi 25).toInt (vi 30).toInt (vi 31).toInt = ((-1), 2, (vi 1).toInt, (vi 2).toInt, tp.toInt, (vi 3).toInt, (vi 4).toInt, (vi 5).toInt, (vi 6).toInt, (vi 7).toInt, (vi 8).toInt, (vi 9).toInt, vl.toInt, (vi 10).toInt, (vi 11).toInt, (vi 43).toInt, (vi 44).toInt, (vi 45).toInt, (vi 46).toInt, (vi 47).toInt, (vi 48).toInt, (vi 49).toInt, (vi 50).toInt, (vi 51).toInt, (vi 52).toInt, (vi 55).toInt, (fl_A (vf 15)), (fl_A (vf 16)), (fl_L fl), (fl_A (vf 21)), (fl_A (vf 22)), (fl_A (vf 18)), (fl_A (vf 17)), (vi 12).toInt, (vi 13).toInt, (vi 14).toInt, (vi 15).toInt, (vi 16).toInt, (fl_A (vf 1)), (fl_A (vf 2)), (vi 24).toInt, (vi 25).toInt, (vi 30).toInt, (vi 31).toInt, 1) := by
      unfold Ff_X7_gallery
      rw [fl_lt_eq ((rp_in n.toInt 0 tp.toInt).trans (rp_in0 h)).symm, if_neg n01]; rfl
    have b2 : Ff_X8_gallery n.toInt tp.toInt (vm 1).toInt (vm 2).toInt (vm 3).toInt (vm 4).toInt (vm 5).toInt (vm 6).toInt (vm 7).toInt (vm 8).toInt (vm 10).toInt (vm 11).toInt (vm 12).toInt (vm 13).toInt (fl_A (vn 3)) (fl_A (vn 0)) (fl_A (vn 1)) (fl_A (vn 2)) (fl_A (vn 4)) = ((-1), 0, tp.toInt, (vm 1).toInt, (vm 2).toInt, (vm 3).toInt, (vm 4).toInt, (vm 5).toInt, (vm 6).toInt, (vm 7).toInt, (vm 8).toInt, 2, (vm 10).toInt, (vm 11).toInt, (vm 12).toInt, (vm 13).toInt, (fl_A (vn 3)), (fl_A (vn 1)), (fl_A (vn 2)), (fl_A (vn 4))) := by
      unfold Ff_X8_gallery Ff_X8_good
      rw [fl_c2_eq rfl, fl_lt_eq (rp_in0 h).symm, if_neg n01]; rfl
    rw [ex] at gx
    rcases gx with ⟨g1, g2, g3⟩ | ⟨g1, g2, g3, g4⟩
    · exact absurd (congrArg (fun z9 => z9.2.2.2.2.2.2.2.2.2.2.2.2.2.2.2.2.2.2.2.2.2.2.2.2.2.2.2.2.2.2.2.2.2.2.2.2.2.2.2.2.2.2.2) g1 : (1 : Int) = 0).symm n01
    · rw [b2] at gm
      have ef : (vi 1).toInt = (vi1 1).toInt := congrArg (fun z9 => z9.2.1) g1
      have mf : (vm 7).toInt = (vm1 7).toInt := congrArg (fun z9 => z9.2.2.2.2.2.2.2.2.1) gm
      have mh : (vm 11).toInt = (vm1 11).toInt := congrArg (fun z9 => z9.2.2.2.2.2.2.2.2.2.2.2.2.1) gm
      have mr : (fl_A (vn 2)) = fl_A (vn1 2) := congrArg (fun z9 => z9.2.2.2.2.2.2.2.2.2.2.2.2.2.2.2.2.2.1) gm
      have p_mi : (vi 12).toInt = (vi1 12).toInt := congrArg (fun z9 => z9.2.2.2.2.2.2.2.2.2.2.2.2.2.2.2.2.2.2.2.2.2.2.2.2.2.2.2.2.2.2.2.2.1) g1
      have p_tu : (vi 13).toInt = (vi1 13).toInt := congrArg (fun z9 => z9.2.2.2.2.2.2.2.2.2.2.2.2.2.2.2.2.2.2.2.2.2.2.2.2.2.2.2.2.2.2.2.2.2.1) g1
      have p_sn : (vi 14).toInt = (vi1 14).toInt := congrArg (fun z9 => z9.2.2.2.2.2.2.2.2.2.2.2.2.2.2.2.2.2.2.2.2.2.2.2.2.2.2.2.2.2.2.2.2.2.2.1) g1
      have p_go : (vi 15).toInt = (vi1 15).toInt := congrArg (fun z9 => z9.2.2.2.2.2.2.2.2.2.2.2.2.2.2.2.2.2.2.2.2.2.2.2.2.2.2.2.2.2.2.2.2.2.2.2.1) g1
      have p_ca : (vi 16).toInt = (vi1 16).toInt := congrArg (fun z9 => z9.2.2.2.2.2.2.2.2.2.2.2.2.2.2.2.2.2.2.2.2.2.2.2.2.2.2.2.2.2.2.2.2.2.2.2.2.1) g1
      have p_pl : (fl_A (vf 1)) = fl_A (vf1 1) := congrArg (fun z9 => z9.2.2.2.2.2.2.2.2.2.2.2.2.2.2.2.2.2.2.2.2.2.2.2.2.2.2.2.2.2.2.2.2.2.2.2.2.2.1) g1
      have p_he : (fl_A (vf 2)) = fl_A (vf1 2) := congrArg (fun z9 => z9.2.2.2.2.2.2.2.2.2.2.2.2.2.2.2.2.2.2.2.2.2.2.2.2.2.2.2.2.2.2.2.2.2.2.2.2.2.2.1) g1
      have p_U : (vi 24).toInt = (vi1 24).toInt := congrArg (fun z9 => z9.2.2.2.2.2.2.2.2.2.2.2.2.2.2.2.2.2.2.2.2.2.2.2.2.2.2.2.2.2.2.2.2.2.2.2.2.2.2.2.1) g1
      have p_N : (vi 25).toInt = (vi1 25).toInt := congrArg (fun z9 => z9.2.2.2.2.2.2.2.2.2.2.2.2.2.2.2.2.2.2.2.2.2.2.2.2.2.2.2.2.2.2.2.2.2.2.2.2.2.2.2.2.1) g1
      have r_st : (fl_A (vn 4)) = fl_A (vn1 4) := congrArg (fun z9 => z9.2.2.2.2.2.2.2.2.2.2.2.2.2.2.2.2.2.2) gm
      have r_U : (vm 12).toInt = (vm1 12).toInt := congrArg (fun z9 => z9.2.2.2.2.2.2.2.2.2.2.2.2.2.1) gm
      have r_N : (vm 13).toInt = (vm1 13).toInt := congrArg (fun z9 => z9.2.2.2.2.2.2.2.2.2.2.2.2.2.2.1) gm
      have hVn : lr_V vi1 vf1 vm1 vn1 := by
        refine ⟨⟨by rw [g2 54 (by decide)]; exact hV.1.1, by rw [g4]; exact hV.1.2⟩, ?_⟩
        have m11 : vm1 11 = vm 11 := Int32.toInt_inj.mp mh.symm
        rw [m11, g2 33 (by decide), g2 34 (by decide), g3 11 (by decide), ← p_mi, ← p_tu, ← p_sn, ← p_go, ← p_ca, ← p_pl, ← p_he, ← p_U, ← p_N, ← r_st, ← r_U, ← r_N, kx1 26 (by decide), km2 6 (by decide), km2 7 (by decide)]
        have i12 : vi1 12 = vi 12 := Int32.toInt_inj.mp p_mi.symm
        have i24 : vi1 24 = vi 24 := Int32.toInt_inj.mp p_U.symm
        have i25 : vi1 25 = vi 25 := Int32.toInt_inj.mp p_N.symm
        have j12 : vm1 12 = vm 12 := Int32.toInt_inj.mp r_U.symm
        have j13 : vm1 13 = vm 13 := Int32.toInt_inj.mp r_N.symm
        rw [i12, i24, i25, j12, j13]
        rcases hV.2 with h4 | ⟨a, b, c, d, e, f, g⟩
        · exact Or.inl h4
        · exact Or.inr ⟨a, b, c, d, e, rs_H_cg (fun k h9 => by show (vi1 (57 + k)).toInt = (vi (57 + k)).toInt; rw [kx1 (57 + k) (kp_out (a := 57) (b := 137) (by decide) (by omega) (by omega))]) (fun k h9 => by show fl_A (vf1 (23 + k)) = fl_A (vf (23 + k)); rw [kx2 (23 + k) (kp_out (a := 23) (b := 55) (by decide) (by omega) (by omega))]) f, rs_I_cg (fun k h9 => by show (vi1 (137 + k)).toInt = (vi (137 + k)).toInt; rw [kx1 (137 + k) (kp_out (a := 137) (b := 152) (by decide) (by omega) (by omega))]) (fun k h9 => by show fl_A (vf1 (55 + k)) = fl_A (vf (55 + k)); rw [kx2 (55 + k) (kp_out (a := 55) (b := 61) (by decide) (by omega) (by omega))]) g⟩
      exact ⟨by rw [← ef, ← mf]; exact hF, lr_H_keep (g2 33 (by decide)) (g2 34 (by decide)) (g2 35 (by decide)) (g2 36 (by decide)) (g2 37 (by decide)) (g2 38 (by decide)) (g2 39 (by decide)) (g2 40 (by decide)) (g2 41 (by decide)) (g2 42 (by decide)) (g2 53 (by decide)) (g3 11 (by decide)) (g3 12 (by decide)) (g3 13 (by decide)) (g3 14 (by decide)) (g3 19 (by decide)) (g3 20 (by decide)) (Int32.toInt_inj.mp mh.symm) mr.symm hH, hVn⟩
end RELG
