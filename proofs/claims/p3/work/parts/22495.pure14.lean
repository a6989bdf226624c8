section PUN
theorem rp_gx {x_a0_9 : Int} {x_a0_10 : Int} {x_a0_0_1 : Int} {x_a0_0_2 : Int} {x_a0_0_6 : Int} {x_a0_0_7 : Int} {x_a0_0_8 : Int} {x_a0_0_9 : Int} {x_a0_0_10 : Int} {x_a0_0_11 : Int} {x_a0_0_12 : Int} {x_a0_0_13 : Int} {x_a0_0_5_0 : Int} {x_a0_0_5_1 : Int} {x_a0_0_5_2 : Int} {x_a0_0_5_3 : Int} {x_a0_0_5_4 : Int} {x_a0_0_5_5 : Int} {x_a0_0_5_6 : Int} {x_a0_0_5_7 : Int} {x_a0_0_5_8 : Int} {x_a0_0_5_9 : Int} {x_a0_0_5_14_0 : Int} {x_fa0_0_5_10 : (Nat → Int)} {x_fa0_0_5_11 : (Nat → Int)} {x_fa0_0_4 : (Nat → Int)} {x_fa0_0_5_14_2 : (Nat → Int)} {x_fa0_0_5_14_3 : (Nat → Int)} {x_fa0_0_5_13 : (Nat → Int)} {x_fa0_0_5_12 : (Nat → Int)} {x_a0_1_0 : Int} {x_a0_1_1 : Int} {x_a0_1_2 : Int} {x_a0_1_3 : Int} {x_a0_1_4 : Int} {x_fa0_1_5 : (Nat → Int)} {x_fa0_1_6 : (Nat → Int)} {x_a0_4_0 : Int} {x_a0_4_1 : Int} {x_a0_5_5 : Int} {x_a0_5_6 : Int} {m_a0_3 : Int} {m_a0_4 : Int} {m_a0_5 : Int} {m_a0_6 : Int} {m_a0_7 : Int} {m_a0_8 : Int} {m_a0_9 : Int} {m_a0_10 : Int} {m_a0_13 : Int} {m_a0_14 : Int} {m_a0_21 : Int} {m_a0_22 : Int} {m_fa0_16 : (Nat → Int)} {m_fa0_12 : (Nat → Int)} {m_fa0_15 : (Nat → Int)} {m_fa0_17 : (Nat → Int)} {tp tm : Nat → Int} {tz : Int} (hT : rp_T tp tm tz) (h0 : 0 ≤ tz) (h9 : tz ≤ 900) (n : Int) : (Ff_X7_gallery n x_a0_9 x_a0_10 tz x_a0_0_1 x_a0_0_2 x_a0_0_6 x_a0_0_7 x_a0_0_8 x_a0_0_9 x_a0_0_10 x_a0_0_11 x_a0_0_12 x_a0_0_13 x_a0_0_5_0 x_a0_0_5_1 x_a0_0_5_2 x_a0_0_5_3 x_a0_0_5_4 x_a0_0_5_5 x_a0_0_5_6 x_a0_0_5_7 x_a0_0_5_8 x_a0_0_5_9 x_a0_0_5_14_0 x_fa0_0_5_10 x_fa0_0_5_11 tp x_fa0_0_4 x_fa0_0_5_14_2 x_fa0_0_5_14_3 x_fa0_0_5_13 x_fa0_0_5_12 x_a0_1_0 x_a0_1_1 x_a0_1_2 x_a0_1_3 x_a0_1_4 x_fa0_1_5 x_fa0_1_6 x_a0_4_0 x_a0_4_1 x_a0_5_5 x_a0_5_6).1 = (Ff_X8_gallery n tz m_a0_3 m_a0_4 m_a0_5 m_a0_6 m_a0_7 m_a0_8 m_a0_9 m_a0_10 m_a0_13 m_a0_14 m_a0_21 m_a0_22 m_fa0_16 tm m_fa0_12 m_fa0_15 m_fa0_17).1 := by
  have n01 : ¬ (0 : Int) = 1 := by decide
  by_cases h : 0 ≤ n ∧ n ≤ tz
  · rcases rp_gal h.1 h.2 h9 (tp := tp) (tm := tm) (fun i hi => hT i (by omega)) x_a0_0_11 x_a0_0_12 x_a0_0_13 x_a0_0_5_1 x_a0_0_5_2 x_a0_0_5_3 x_a0_0_5_5 x_a0_0_5_6 x_a0_0_5_7 x_fa0_0_5_10 x_fa0_0_5_11 x_fa0_0_4 x_fa0_0_5_14_2 x_fa0_0_5_14_3 x_fa0_0_5_13 x_fa0_0_5_12 m_a0_3 m_a0_4 m_a0_5 m_a0_6 m_a0_7 m_a0_8 m_a0_9 m_a0_10 m_a0_13 m_a0_14 m_a0_21 m_a0_22 m_fa0_16 m_fa0_12 m_fa0_15 m_fa0_17 with ⟨q_c, q_st, q_be, q_tk, q_wd, q_wh, q_ta, q_fg, q_sp, q_sa, q_sh, q_lw, q_ti, q_pu, q_fi, q_tb, q_sc, q_wc, q_kd, q_me, q_nm, q_wf, q_wt, q_sm, q_sf, fr3, lt3, at3, en3, tk6, wm3, ns3, s1, b1, b2, b3, b4, b5, b6, b7⟩ | ⟨q, p, b1, y1, y2, y3, y4, y5, y6, y7, b2⟩
    · have ex : (Ff_X7_gallery n x_a0_9 x_a0_10 tz x_a0_0_1 x_a0_0_2 x_a0_0_6 x_a0_0_7 x_a0_0_8 x_a0_0_9 x_a0_0_10 x_a0_0_11 x_a0_0_12 x_a0_0_13 x_a0_0_5_0 x_a0_0_5_1 x_a0_0_5_2 x_a0_0_5_3 x_a0_0_5_4 x_a0_0_5_5 x_a0_0_5_6 x_a0_0_5_7 x_a0_0_5_8 x_a0_0_5_9 x_a0_0_5_14_0 x_fa0_0_5_10 x_fa0_0_5_11 tp x_fa0_0_4 x_fa0_0_5_14_2 x_fa0_0_5_14_3 x_fa0_0_5_13 x_fa0_0_5_12 x_a0_1_0 x_a0_1_1 x_a0_1_2 x_a0_1_3 x_a0_1_4 x_fa0_1_5 x_fa0_1_6 x_a0_4_0 x_a0_4_1 x_a0_5_5 x_a0_5_6).1 = q_fg := by
        unfold Ff_X7_gallery
        rw [fl_lt_eq ((rp_in n 0 tz).trans (rp_in1 h.1 h.2)).symm, if_pos rfl, b1, fl_c29_eq rfl, if_pos rfl]; rfl
      rw [ex, b2]
      exact b6.1.1.1
    · have ex : (Ff_X7_gallery n x_a0_9 x_a0_10 tz x_a0_0_1 x_a0_0_2 x_a0_0_6 x_a0_0_7 x_a0_0_8 x_a0_0_9 x_a0_0_10 x_a0_0_11 x_a0_0_12 x_a0_0_13 x_a0_0_5_0 x_a0_0_5_1 x_a0_0_5_2 x_a0_0_5_3 x_a0_0_5_4 x_a0_0_5_5 x_a0_0_5_6 x_a0_0_5_7 x_a0_0_5_8 x_a0_0_5_9 x_a0_0_5_14_0 x_fa0_0_5_10 x_fa0_0_5_11 tp x_fa0_0_4 x_fa0_0_5_14_2 x_fa0_0_5_14_3 x_fa0_0_5_13 x_fa0_0_5_12 x_a0_1_0 x_a0_1_1 x_a0_1_2 x_a0_1_3 x_a0_1_4 x_fa0_1_5 x_fa0_1_6 x_a0_4_0 x_a0_4_1 x_a0_5_5 x_a0_5_6).1 = -1 := by
        unfold Ff_X7_gallery
        rw [fl_lt_eq ((rp_in n 0 tz).trans (rp_in1 h.1 h.2)).symm, if_pos rfl]
        generalize Ff_X3_read n tz x_a0_0_11 x_a0_0_12 x_a0_0_13 x_a0_0_5_1 x_a0_0_5_2 x_a0_0_5_3 x_a0_0_5_5 x_a0_0_5_6 x_a0_0_5_7 x_fa0_0_5_10 x_fa0_0_5_11 tp x_fa0_0_4 x_fa0_0_5_14_2 x_fa0_0_5_14_3 x_fa0_0_5_13 x_fa0_0_5_12 = G at b1
        obtain ⟨g1, g2, g3, g4, g5, g6, g7, g8, g9, g10, g11, g12, g13, g14, g15, g16, g17, g18, g19, g20, g21, g22, g23, g24, g25, g26, g27, g28, g29⟩ := G
        have e1 : g1 = 0 := b1.1
        subst e1
        rw [fl_c29_eq rfl, if_neg n01]; rfl
      rw [ex, b2]
  · have ex : (Ff_X7_gallery n x_a0_9 x_a0_10 tz x_a0_0_1 x_a0_0_2 x_a0_0_6 x_a0_0_7 x_a0_0_8 x_a0_0_9 x_a0_0_10 x_a0_0_11 x_a0_0_12 x_a0_0_13 x_a0_0_5_0 x_a0_0_5_1 x_a0_0_5_2 x_a0_0_5_3 x_a0_0_5_4 x_a0_0_5_5 x_a0_0_5_6 x_a0_0_5_7 x_a0_0_5_8 x_a0_0_5_9 x_a0_0_5_14_0 x_fa0_0_5_10 x_fa0_0_5_11 tp x_fa0_0_4 x_fa0_0_5_14_2 x_fa0_0_5_14_3 x_fa0_0_5_13 x_fa0_0_5_12 x_a0_1_0 x_a0_1_1 x_a0_1_2 x_a0_1_3 x_a0_1_4 x_fa0_1_5 x_fa0_1_6 x_a0_4_0 x_a0_4_1 x_a0_5_5 x_a0_5_6).1 = -1 := by
      unfold Ff_X7_gallery
      rw [fl_lt_eq ((rp_in n 0 tz).trans (rp_in0 h)).symm, if_neg n01]; rfl
    have em : (Ff_X8_gallery n tz m_a0_3 m_a0_4 m_a0_5 m_a0_6 m_a0_7 m_a0_8 m_a0_9 m_a0_10 m_a0_13 m_a0_14 m_a0_21 m_a0_22 m_fa0_16 tm m_fa0_12 m_fa0_15 m_fa0_17).1 = -1 := by
      unfold Ff_X8_gallery Ff_X8_good
      rw [fl_c2_eq rfl, fl_lt_eq (rp_in0 h).symm, if_neg n01]; rfl
    rw [ex, em]
end PUN
