section RSF
theorem rs_tn (a lo hi fg : Int) : Ff_X7_troubleOfNumber a lo hi fg = if fg ≤ 0 then 1 else if lo ≤ a ∧ a ≤ hi then 0 else 2 := by
  unfold Ff_X7_troubleOfNumber Ff_X7_hasGallery
  by_cases h1 : fg ≤ 0
  · rw [if_pos h1, if_pos h1]; rfl
  · rw [if_neg h1, if_neg h1, fl_lt_eq rfl, if_pos rfl, rp_in]
    by_cases h2 : lo ≤ a ∧ a ≤ hi
    · rw [if_pos h2, rp_in1 h2.1 h2.2]; rfl
    · rw [if_neg h2, rp_in0 h2]; rfl
theorem rs_isf (a fg : Int) : Ff_X7_isFigure a fg = if 0 ≤ a ∧ a ≤ fg - 1 then 1 else 0 := by
  unfold Ff_X7_isFigure
  rw [fl_lt_eq rfl, rp_in]
  by_cases h2 : 0 ≤ a ∧ a ≤ fg - 1
  · rw [if_pos h2, rp_in1 h2.1 h2.2]; rfl
  · rw [if_neg h2, rp_in0 h2]; rfl
theorem rs_isfm (a : Int) (r : Nat → Int) : Ff_X8_isFigure a 1 r = if 0 ≤ a ∧ a ≤ r 0 - 1 then 1 else 0 := by
  unfold Ff_X8_isFigure
  rw [if_neg (by decide), fl_lt_eq rfl, fl_lt_eq rfl]
  by_cases h2 : 0 ≤ a ∧ a ≤ r 0 - 1
  · rw [if_pos h2, rp_in1 h2.1 h2.2]; rfl
  · rw [if_neg h2, rp_in0 h2]; rfl
/-- the watchers as told: there -/
theorem rs_wt {r : Nat → Int} (h0 : 0 ≤ r 5) (h3 : r 5 ≤ 3) : ∀ (m : Nat) (j : Nat) (f t : Nat → Int), r 5 + 1 - (j : Int) ≤ (m : Int) → (j : Int) ≤ r 5 → (∀ w : Nat, w < j → f w = r (30 + 2 * w) ∧ t w = r (31 + 2 * w)) →
    ∃ f1 t1, fl_wh (fun t9 : Int × (Nat → Int) × (Nat → Int) => Sf_X8_watchAsTold_2_1 r t9.1 t9.2.1 t9.2.2) (0, (fun _ => 0), (fun _ => 0)) m ((j : Int), f, t) = (0, f1, t1) ∧ ∀ w : Nat, (w : Int) < r 5 → f1 w = r (30 + 2 * w) ∧ t1 w = r (31 + 2 * w) := by
  intro m
  induction m with
  | zero => intro j f t h1 h2; omega
  | succ m ih =>
    intro j f t h1 h2 hw
    by_cases hj : r 5 ≤ (j : Int)
    · refine ⟨f, t, fl_wh_r (step := fun t9 : Int × (Nat → Int) × (Nat → Int) => Sf_X8_watchAsTold_2_1 r t9.1 t9.2.1 t9.2.2) (s := ((j : Int), f, t)) ?_, fun w hw' => hw w (by omega)⟩
      show Sf_X8_watchAsTold_2_1 r (j : Int) f t = _
      unfold Sf_X8_watchAsTold_2_1
      rw [fl_lt_eq rfl, if_pos hj]
    · have st1 : Sf_X8_watchAsTold_2_1 r (j : Int) f t = .inl (((j + 1 : Nat) : Int), fl_up f j (r (30 + 2 * j)), fl_up t j (r (31 + 2 * j))) := by
        unfold Sf_X8_watchAsTold_2_1
        rw [fl_lt_eq rfl, if_neg hj]
        simp only [fl_lt]
        rw [Int.toNat_natCast, show (30 + 2 * (j : Int)).toNat = 30 + 2 * j by omega, show (30 + 2 * (j : Int) + 1).toNat = 31 + 2 * j by omega]
        rfl
      obtain ⟨f1, t1, e1, e2⟩ := ih (j + 1) (fl_up f j (r (30 + 2 * j))) (fl_up t j (r (31 + 2 * j))) (by omega) (by omega) (fun w hw' => by
        by_cases q : w = j
        · rw [q, rp_up_eq, rp_up_eq]; exact ⟨rfl, rfl⟩
        · rw [rp_up_ne _ _ q, rp_up_ne _ _ q]; exact hw w (by omega))
      exact ⟨f1, t1, (fl_wh_l (step := fun t9 : Int × (Nat → Int) × (Nat → Int) => Sf_X8_watchAsTold_2_1 r t9.1 t9.2.1 t9.2.2) (s := ((j : Int), f, t)) st1).trans e1, e2⟩
/-- the watchers told, here and there -/
def rs_D (wc po : Int) (wf wt r : Nat → Int) : Prop := wc = r 5 ∧ 0 ≤ wc ∧ wc ≤ 3 ∧ po = 0 ∧ ∀ w : Nat, (w : Int) < wc → wf w = r (30 + 2 * w) ∧ wt w = r (31 + 2 * w) ∧ (0 ≤ r (30 + 2 * w) ∧ r (30 + 2 * w) ≤ 8) ∧ (0 ≤ r (31 + 2 * w) ∧ r (31 + 2 * w) ≤ 8)
theorem rs_told {wc po : Int} {wf wt r : Nat → Int} (h : rs_D wc po wf wt r) (f0 t0 : Nat → Int) : ∃ f1 t1, Ff_X8_watchAsTold r f0 t0 = (0, f1, t1) ∧ rs_W wc po wf wt 0 r f1 t1 := by
  obtain ⟨h1, h2, h3, h4, h5⟩ := h
  obtain ⟨f1, t1, e1, e2⟩ := rs_wt (r := r) (by omega) (by omega) 4 0 f0 t0 (by omega) (by omega) (fun w hw => by omega)
  refine ⟨f1, t1, e1, h1, h2, h3, h4, by omega, by omega, fun w hw => ?_⟩
  obtain ⟨q1, q2, q3, q4⟩ := h5 w hw
  obtain ⟨p1, p2⟩ := e2 w (by omega)
  rw [p1, p2]
  exact ⟨q1, q2, q3, q4⟩
/-- minutes of go: here and there -/
theorem rs_gol {n fg sp sa ti pu g0 wc po U1 L1 v0 v11 sd : Int} {kd me wf wt r f1 t1 gI1 und1 : Nat → Int} {gF1 : Nat → Nat → Int} (hG : rs_G fg sp sa ti pu kd me r) (hW : rs_W wc po wf wt sd r f1 t1) :
    ∀ (d : Nat) (m1 m2 : Nat) (j mi tu sn go ca y1 y2 y3 : Int) (pl he st : Nat → Int), n - j = (d : Int) → d + 1 ≤ m1 → d + 1 ≤ m2 → rs_S fg sp kd mi tu sn go ca pl he st → mi + (d : Int) ≤ 9999 →
    ∃ mi1 tu1 sn1 go1 ca1 z1 z2 z3 pl1 he1 st1, fl_wh (fun t9 : Int × Int × Int × Int × Int × Int × (Nat → Int) × (Nat → Int) => Sf_X7_go_62_1 n fg sp sa ti pu g0 kd me wc po wt wf U1 L1 gI1 gF1 t9.1 t9.2.1 t9.2.2.1 t9.2.2.2.1 t9.2.2.2.2.1 t9.2.2.2.2.2.1 t9.2.2.2.2.2.2.1 t9.2.2.2.2.2.2.2) (0, 0, 0, 0, 0, 0, 0, 0, 0, (fun _ => 0), (fun _ => 0), (fun _ _ => 0), (fun _ => 0)) m1 (j, mi, tu, sn, go, ca, pl, he) = (fl_and go1 (fl_xor g0 (-1)), 0, mi1, tu1, sn1, go1, ca1, U1, L1, gI1, pl1, gF1, he1) ∧
      fl_wh (fun t9 : Int × Int × Int × Int × (Nat → Int) => Sf_X8_go_70_1 n r v0 v11 U1 und1 sd f1 t1 g0 t9.1 t9.2.1 t9.2.2.1 t9.2.2.2.1 t9.2.2.2.2) (0, 0, 0, 0, 0, 0, 0, 0, (fun _ => 0), (fun _ => 0), (fun _ => 0), (fun _ => 0)) m2 (j, y1, y2, y3, st) = (fl_and go1 (fl_xor g0 (-1)), v0, v11, U1, sd, z1, z2, z3, st1, und1, f1, t1) ∧ rs_S fg sp kd mi1 tu1 sn1 go1 ca1 pl1 he1 st1 ∧ mi1 ≤ 9999 := by
  intro d
  induction d with
  | zero =>
    intro m1 m2 j mi tu sn go ca y1 y2 y3 pl he st hd h1 h2 hS hm
    obtain ⟨m1, rfl⟩ : ∃ q, m1 = q + 1 := ⟨m1 - 1, by omega⟩
    obtain ⟨m2, rfl⟩ : ∃ q, m2 = q + 1 := ⟨m2 - 1, by omega⟩
    obtain ⟨⟨s1, s2, s3, s4, s5⟩, -⟩ := id hS
    refine ⟨mi, tu, sn, go, ca, y1, y2, y3, pl, he, st, fl_wh_r (step := fun t9 : Int × Int × Int × Int × Int × Int × (Nat → Int) × (Nat → Int) => Sf_X7_go_62_1 n fg sp sa ti pu g0 kd me wc po wt wf U1 L1 gI1 gF1 t9.1 t9.2.1 t9.2.2.1 t9.2.2.2.1 t9.2.2.2.2.1 t9.2.2.2.2.2.1 t9.2.2.2.2.2.2.1 t9.2.2.2.2.2.2.2) (s := (j, mi, tu, sn, go, ca, pl, he)) ?_, fl_wh_r (step := fun t9 : Int × Int × Int × Int × (Nat → Int) => Sf_X8_go_70_1 n r v0 v11 U1 und1 sd f1 t1 g0 t9.1 t9.2.1 t9.2.2.1 t9.2.2.2.1 t9.2.2.2.2) (s := (j, y1, y2, y3, st)) ?_, hS, by omega⟩
    · show Sf_X7_go_62_1 n fg sp sa ti pu g0 kd me wc po wt wf U1 L1 gI1 gF1 j mi tu sn go ca pl he = _
      unfold Sf_X7_go_62_1
      rw [if_pos (by omega)]
      rfl
    · show Sf_X8_go_70_1 n r v0 v11 U1 und1 sd f1 t1 g0 j y1 y2 y3 st = _
      unfold Sf_X8_go_70_1
      rw [if_pos (by omega), ← s4]
      rfl
  | succ d ih =>
    intro m1 m2 j mi tu sn go ca y1 y2 y3 pl he st hd h1 h2 hS hm
    obtain ⟨m1, rfl⟩ : ∃ q, m1 = q + 1 := ⟨m1 - 1, by omega⟩
    obtain ⟨m2, rfl⟩ : ∃ q, m2 = q + 1 := ⟨m2 - 1, by omega⟩
    obtain ⟨tu1, sn1, go1, ca1, pl1, he1, st1, e1, e2, e3⟩ := rs_pass hG hW hS (by omega)
    obtain ⟨mi2, tu2, sn2, go2, ca2, z1, z2, z3, pl2, he2, st2, q1, q2, q3, q4⟩ := ih m1 m2 (j + 1) (mi + 1) tu1 sn1 go1 ca1 tu _ _ pl1 he1 st1 (by omega) (by omega) (by omega) e3 (by omega)
    refine ⟨mi2, tu2, sn2, go2, ca2, z1, z2, z3, pl2, he2, st2, (fl_wh_l (step := fun t9 : Int × Int × Int × Int × Int × Int × (Nat → Int) × (Nat → Int) => Sf_X7_go_62_1 n fg sp sa ti pu g0 kd me wc po wt wf U1 L1 gI1 gF1 t9.1 t9.2.1 t9.2.2.1 t9.2.2.2.1 t9.2.2.2.2.1 t9.2.2.2.2.2.1 t9.2.2.2.2.2.2.1 t9.2.2.2.2.2.2.2) (s := (j, mi, tu, sn, go, ca, pl, he)) ?_).trans q1, (fl_wh_l (step := fun t9 : Int × Int × Int × Int × (Nat → Int) => Sf_X8_go_70_1 n r v0 v11 U1 und1 sd f1 t1 g0 t9.1 t9.2.1 t9.2.2.1 t9.2.2.2.1 t9.2.2.2.2) (s := (j, y1, y2, y3, st)) ?_).trans q2, q3, q4⟩
    · show Sf_X7_go_62_1 n fg sp sa ti pu g0 kd me wc po wt wf U1 L1 gI1 gF1 j mi tu sn go ca pl he = _
      unfold Sf_X7_go_62_1
      rw [if_neg (by omega), e1, fl_c7_eq rfl]
      rfl
    · show Sf_X8_go_70_1 n r v0 v11 U1 und1 sd f1 t1 g0 j y1 y2 y3 st = _
      unfold Sf_X8_go_70_1
      rw [if_neg (by omega), e2, fl_c4_eq rfl]
      rfl
/-- go: here and there -/
theorem rs_go {fg sp sa ti pu wc po mi tu sn go ca U L : Int} {kd me wf wt r pl he st und gI : Nat → Int} {gF : Nat → Nat → Int} (hG : rs_G fg sp sa ti pu kd me r) (hD : rs_D wc po wf wt r) (hS : rs_S fg sp kd mi tu sn go ca pl he st) (hm : mi ≤ 9999) (hH : rs_H fg sp kd U L gI gF und) (n x5 x6 x7 x8 : Int) (f0 t0 : Nat → Int) :
    ∃ R tr mi1 tu1 sn1 go1 ca1 U1 L1 z5 z6 z7 z8 gI1 pl1 gF1 he1 st1 und1 f1 t1, Ff_X7_go n fg sp sa ti pu mi tu sn go ca U L gI pl gF he kd me wc po wt wf = (R, tr, mi1, tu1, sn1, go1, ca1, U1, L1, gI1, pl1, gF1, he1) ∧ Ff_X8_go n 1 U x5 x6 x7 x8 st und r f0 t0 = (R, 0, tr, U1, z5, z6, z7, z8, st1, und1, f1, t1) ∧ rs_S fg sp kd mi1 tu1 sn1 go1 ca1 pl1 he1 st1 ∧ mi1 ≤ 9999 ∧ rs_H fg sp kd U1 L1 gI1 gF1 und1 := by
  obtain ⟨⟨f1, f2, f3⟩, -⟩ := id hG
  obtain ⟨⟨s1, s2, s3, s4, s5⟩, m0, -⟩ := id hS
  have hg : ¬ fg ≤ 0 := by omega
  by_cases hn : 1 ≤ n ∧ n ≤ 60
  · have et : Ff_X7_troubleOfNumber n 1 60 fg = 0 := by rw [rs_tn, if_neg hg, if_pos hn]
    have ei : Ff_X8_in n 1 60 = 1 := rp_in1 hn.1 hn.2
    have ea : fl_iadd mi n = mi + n := rp_iadd (by omega) (by omega) (by omega) (by omega) (by omega) (by omega)
    by_cases hr : mi + n ≤ 9999
    · obtain ⟨U1, L1, gI1, gF1, und1, k1, k2, k3⟩ := rs_H_keep f3 hH hS hm
      obtain ⟨f1', t1', w1, w2⟩ := rs_told hD f0 t0
      obtain ⟨mi1, tu1, sn1, go1, ca1, z1, z2, z3, pl1, he1, st1, q1, q2, q3, q4⟩ := rs_gol (n := n) (g0 := go) (U1 := U1) (L1 := L1) (v0 := 0) (v11 := 0) (gI1 := gI1) (und1 := und1) (gF1 := gF1) hG w2 n.toNat 61 2147483648 0 mi tu sn go ca x6 x7 x8 pl he st (by omega) (by omega) (by omega) hS (by omega)
      refine ⟨fl_and go1 (fl_xor go (-1)), 0, mi1, tu1, sn1, go1, ca1, U1, L1, 0, z1, z2, z3, gI1, pl1, gF1, he1, st1, und1, f1', t1', ?_, ?_, q3, q4, k3⟩
      · unfold Ff_X7_go
        rw [et, fl_lt_eq rfl, if_pos rfl, ea, fl_lt_eq rfl, if_pos hr, k1, fl_c4_eq rfl]
        exact q1
      · unfold Ff_X8_go Ff_X8_good
        rw [fl_c2_eq rfl, ei, fl_lt_eq rfl, if_pos rfl, show Ff_X8_why 1 1 = 0 from rfl, fl_lt_eq rfl, if_neg (by decide), if_neg (by decide), fl_lt_eq rfl, ← s1, ea, fl_lt_eq rfl, if_pos hr]
        unfold Gf_X8_go_41_1
        rw [if_pos rfl, k2, fl_c2_eq rfl, w1, fl_c3_eq rfl, fl_lt_eq rfl, ← s4]
        exact q2
    · refine ⟨-1, 3, mi, tu, sn, go, ca, U, L, x5, x6, x7, x8, gI, pl, gF, he, st, und, f0, t0, ?_, ?_, hS, hm, hH⟩
      · unfold Ff_X7_go
        rw [et, fl_lt_eq rfl, if_pos rfl, ea, fl_lt_eq rfl, if_neg hr]
        rfl
      · unfold Ff_X8_go Ff_X8_good
        rw [fl_c2_eq rfl, ei, fl_lt_eq rfl, if_pos rfl, show Ff_X8_why 1 1 = 0 from rfl, fl_lt_eq rfl, if_neg (by decide), if_neg (by decide), fl_lt_eq rfl, ← s1, ea, fl_lt_eq rfl, if_neg hr]
        unfold Gf_X8_go_41_1
        rw [if_neg (by decide)]
        rfl
  · have et : Ff_X7_troubleOfNumber n 1 60 fg = 2 := by rw [rs_tn, if_neg hg, if_neg hn]
    have ei : Ff_X8_in n 1 60 = 0 := rp_in0 hn
    refine ⟨-1, 2, mi, tu, sn, go, ca, U, L, x5, x6, x7, x8, gI, pl, gF, he, st, und, f0, t0, ?_, ?_, hS, hm, hH⟩
    · unfold Ff_X7_go
      rw [et, fl_lt_eq rfl, if_neg (by decide), if_neg (by decide)]
      rfl
    · unfold Ff_X8_go Ff_X8_good
      rw [fl_c2_eq rfl, ei, fl_lt_eq rfl, if_neg (by decide), show Ff_X8_why 1 0 = 2 from rfl, fl_lt_eq rfl, if_pos rfl]
      unfold Gf_X8_go_41_2
      rw [if_neg (by decide)]
      rfl
/-- put: here and there -/
theorem rs_put {fg sp sa ti pu mi tu sn go ca U L : Int} {kd me r pl he st und gI : Nat → Int} {gF : Nat → Nat → Int} (hG : rs_G fg sp sa ti pu kd me r) (hS : rs_S fg sp kd mi tu sn go ca pl he st) (hm : mi ≤ 9999) (hH : rs_H fg sp kd U L gI gF und) (a : Int) :
    ∃ R tr U1 L1 gI1 pl1 gF1 st1 und1, Ff_X7_put a fg mi tu sn go ca pl U L gI gF he = (R, tr, pl1, U1, L1, gI1, gF1) ∧ Ff_X8_put a 1 U r st und = (R, 0, tr, U1, st1, und1) ∧ rs_S fg sp kd mi tu sn go ca pl1 he st1 ∧ rs_H fg sp kd U1 L1 gI1 gF1 und1 := by
  obtain ⟨⟨f1, f2, f3⟩, -⟩ := id hG
  obtain ⟨⟨s1, s2, s3, s4, s5⟩, m0, -, -, -, hk⟩ := id hS
  by_cases h : 0 ≤ a ∧ a ≤ fg - 1
  · have e1 : Ff_X7_isFigure a fg = 1 := by rw [rs_isf, if_pos h]
    have e2 : Ff_X8_isFigure a 1 r = 1 := by rw [rs_isfm, if_pos (by omega)]
    obtain ⟨k1, k2, k3, k4⟩ := hk a.toNat (by omega)
    by_cases hb : Ff_X7_hasBit go a = 1
    · refine ⟨-1, 5, U, L, gI, pl, gF, st, und, ?_, ?_, hS, hH⟩
      · unfold Ff_X7_put Ff_X5_isGone
        rw [e1, fl_lt_eq rfl, if_pos rfl, hb]
        rfl
      · unfold Ff_X8_put Ff_X8_good
        rw [fl_c2_eq rfl, e2, fl_lt_eq rfl, if_pos rfl, fl_lt_eq rfl, ← s4, rs_hb, hb]
        rfl
    · have hb0 : Ff_X7_hasBit go a = 0 := (rs_hb01 go a).resolve_right hb
      by_cases hp : pl a.toNat = a
      · refine ⟨-1, 5, U, L, gI, pl, gF, st, und, ?_, ?_, hS, hH⟩
        · unfold Ff_X7_put Ff_X5_isGone
          rw [e1, fl_lt_eq rfl, if_pos rfl, hb0, fl_lt_eq rfl, fl_lt_eq rfl, if_neg (by decide), fl_lt_eq rfl, if_pos hp]
          rfl
        · unfold Ff_X8_put Ff_X8_good
          rw [fl_c2_eq rfl, e2, fl_lt_eq rfl, if_pos rfl, fl_lt_eq rfl, ← s4, rs_hb, hb0, fl_lt_eq rfl, if_neg (by decide), fl_lt_eq rfl, ← k1, if_pos hp]
          rfl
      · obtain ⟨U1, L1, gI1, gF1, und1, q1, q2, q3⟩ := rs_H_keep f3 hH hS hm
        refine ⟨pl a.toNat, 0, U1, L1, gI1, fl_up pl a.toNat a, gF1, fl_up st a.toNat a, und1, ?_, ?_, rs_S_pl hS (by omega) (by omega) (by omega), q3⟩
        · unfold Ff_X7_put Ff_X5_isGone
          rw [e1, fl_lt_eq rfl, if_pos rfl, hb0, fl_lt_eq rfl, fl_lt_eq rfl, if_neg (by decide), fl_lt_eq rfl, if_neg hp, q1, fl_c4_eq rfl]
          rfl
        · unfold Ff_X8_put Ff_X8_good
          rw [fl_c2_eq rfl, e2, fl_lt_eq rfl, if_pos rfl, fl_lt_eq rfl, ← s4, rs_hb, hb0, fl_lt_eq rfl, if_neg (by decide), fl_lt_eq rfl, ← k1, if_neg hp, q2, fl_c2_eq rfl]
          rfl
  · have e1 : Ff_X7_isFigure a fg = 0 := by rw [rs_isf, if_neg h]
    have e2 : Ff_X8_isFigure a 1 r = 0 := by rw [rs_isfm, if_neg (by omega)]
    refine ⟨-1, 1, U, L, gI, pl, gF, st, und, ?_, ?_, hS, hH⟩
    · unfold Ff_X7_put
      rw [e1]
      rfl
    · unfold Ff_X8_put Ff_X8_good
      rw [fl_c2_eq rfl, e2]
      rfl
theorem rs_S_tu {fg sp mi tu sn go ca : Int} {kd pl he st : Nat → Int} (hf : fg ≤ 9) (hs : 1 ≤ sp) (h : rs_S fg sp kd mi tu sn go ca pl he st) {a : Int} (a0 : 0 ≤ a) (a1 : a < fg) : rs_S fg sp kd mi a 0 go ca pl he (fl_up (fl_up st 19 a) 20 0) := by
  obtain ⟨⟨s1, s2, s3, s4, s5⟩, m0, a2, a3, a4, hk⟩ := h
  refine ⟨⟨?_, ?_, (rp_up_eq _ _ _).symm, ?_, ?_⟩, m0, ⟨a0, a1⟩, by omega, a4, fun k hk' => ?_⟩
  · rw [rp_up_ne _ _ (by omega), rp_up_ne _ _ (by omega)]; exact s1
  · rw [rp_up_ne _ _ (by omega), rp_up_eq]
  · rw [rp_up_ne _ _ (by omega), rp_up_ne _ _ (by omega)]; exact s4
  · rw [rp_up_ne _ _ (by omega), rp_up_ne _ _ (by omega)]; exact s5
  · rw [rp_up_ne _ _ (by omega), rp_up_ne _ _ (by omega), rp_up_ne _ _ (by omega), rp_up_ne _ _ (by omega)]; exact hk k hk'
/-- wind: here and there -/
theorem rs_wind {fg sp sa ti pu mi tu sn go ca U L : Int} {kd me r pl he st und gI : Nat → Int} {gF : Nat → Nat → Int} (hG : rs_G fg sp sa ti pu kd me r) (hS : rs_S fg sp kd mi tu sn go ca pl he st) (hm : mi ≤ 9999) (hH : rs_H fg sp kd U L gI gF und) (a : Int) :
    ∃ R tr tu1 sn1 U1 L1 gI1 gF1 st1 und1, Ff_X7_wind a fg mi tu sn go ca U L gI pl gF he = (R, tr, tu1, sn1, U1, L1, gI1, gF1) ∧ Ff_X8_wind a 1 U r st und = (R, 0, tr, U1, st1, und1) ∧ rs_S fg sp kd mi tu1 sn1 go ca pl he st1 ∧ rs_H fg sp kd U1 L1 gI1 gF1 und1 := by
  obtain ⟨⟨f1, f2, f3⟩, ⟨sp1, sp2, sp3⟩, -⟩ := id hG
  obtain ⟨⟨s1, s2, s3, s4, s5⟩, -⟩ := id hS
  by_cases h : 0 ≤ a ∧ a ≤ fg - 1
  · have e1 : Ff_X7_isFigure a fg = 1 := by rw [rs_isf, if_pos h]
    have e2 : Ff_X8_isFigure a 1 r = 1 := by rw [rs_isfm, if_pos (by omega)]
    by_cases hb : tu = a ∧ sn = 0
    · refine ⟨-1, 5, tu, sn, U, L, gI, gF, st, und, ?_, ?_, hS, hH⟩
      · unfold Ff_X7_wind
        rw [e1, fl_lt_eq rfl, if_pos rfl, if_pos hb.1, if_pos hb.2]
        rfl
      · unfold Ff_X8_wind Ff_X8_good
        rw [fl_c2_eq rfl, e2, fl_lt_eq rfl, if_pos rfl, fl_lt_eq rfl, ← s2, if_pos hb.1, fl_lt_eq rfl, ← s3, if_pos hb.2]
        rfl
    · obtain ⟨U1, L1, gI1, gF1, und1, q1, q2, q3⟩ := rs_H_keep f3 hH hS hm
      refine ⟨tu, 0, a, 0, U1, L1, gI1, gF1, fl_up (fl_up st 19 a) 20 0, und1, ?_, ?_, rs_S_tu f3 sp2 hS h.1 (by omega), q3⟩
      · unfold Ff_X7_wind
        rw [e1, fl_lt_eq rfl, if_pos rfl]
        by_cases ht : tu = a
        · rw [if_pos ht, if_neg (fun z => hb ⟨ht, z⟩), q1, fl_c4_eq rfl]; rfl
        · rw [if_neg ht, q1, fl_c4_eq rfl]; rfl
      · unfold Ff_X8_wind Ff_X8_good
        rw [fl_c2_eq rfl, e2, fl_lt_eq rfl, if_pos rfl, fl_lt_eq rfl, ← s2]
        by_cases ht : tu = a
        · rw [if_pos ht, fl_lt_eq rfl, ← s3, if_neg (fun z => hb ⟨ht, z⟩), q2, fl_c2_eq rfl]; rfl
        · rw [if_neg ht, q2, fl_c2_eq rfl]; rfl
  · have e1 : Ff_X7_isFigure a fg = 0 := by rw [rs_isf, if_neg h]
    have e2 : Ff_X8_isFigure a 1 r = 0 := by rw [rs_isfm, if_neg (by omega)]
    refine ⟨-1, 1, tu, sn, U, L, gI, gF, st, und, ?_, ?_, hS, hH⟩
    · unfold Ff_X7_wind
      rw [e1]
      rfl
    · unfold Ff_X8_wind Ff_X8_good
      rw [fl_c2_eq rfl, e2]
      rfl
/-- undo: here and there -/
theorem rs_undo {fg sp mi tu sn go ca U L : Int} {kd pl he st und gI : Nat → Int} {gF : Nat → Nat → Int} (hf : fg ≤ 9) (hS : rs_S fg sp kd mi tu sn go ca pl he st) (hm : mi ≤ 9999) (hH : rs_H fg sp kd U L gI gF und) :
    ∃ R tr U1 L1 mi1 tu1 sn1 go1 ca1 pl1 he1 st1, Ff_X7_undo U L mi tu sn go ca gI gF pl he = (R, tr, U1, L1, mi1, tu1, sn1, go1, ca1, pl1, he1) ∧ Ff_X8_undo U und st = (R, 0, tr, U1, st1) ∧ rs_S fg sp kd mi1 tu1 sn1 go1 ca1 pl1 he1 st1 ∧ mi1 ≤ 9999 ∧ rs_H fg sp kd U1 L1 gI gF und := by
  by_cases h : U = 0
  · refine ⟨0, 6, U, L, mi, tu, sn, go, ca, pl, he, st, ?_, ?_, hS, hm, hH⟩
    · unfold Ff_X7_undo Ff_X1_takeLatest
      rw [if_pos h, fl_c10_eq rfl]
      rfl
    · unfold Ff_X8_undo Ff_X8_good
      rw [fl_c2_eq rfl, if_pos h]
      rfl
  · obtain ⟨m1, t1, s1, g1, c1, pl1, he1, e1, e2, e3, e4⟩ := rs_H_undo (st := st) hf hH h mi tu sn go ca pl he
    refine ⟨1, 0, U - 1, (L + 15) % 16, m1, t1, s1, g1, c1, pl1, he1, _, ?_, ?_, e2, e3, e4⟩
    · unfold Ff_X7_undo
      rw [e1, fl_c10_eq rfl]
      rfl
    · unfold Ff_X8_undo Ff_X8_good
      rw [fl_c2_eq rfl, if_neg h]
      rfl
/-- image: here and there -/
theorem rs_image {fg sp mi tu sn go ca N : Int} {kd pl he st kp gI : Nat → Int} {gF : Nat → Nat → Int} (hf : fg ≤ 9) (hg : ¬ fg ≤ 0) (hS : rs_S fg sp kd mi tu sn go ca pl he st) (hm : mi ≤ 9999) (hI : rs_I fg sp kd N gI gF kp) :
    ∃ R tr N1 gI1 gF1 kp1, Ff_X7_image fg N gI mi tu sn go ca pl gF he = (R, tr, N1, gI1, gF1) ∧ Ff_X8_image 1 N st kp = (R, 0, tr, N1, kp1) ∧ rs_I fg sp kd N1 gI1 gF1 kp1 := by
  have e1 : Ff_X7_hasGallery fg = 1 := by unfold Ff_X7_hasGallery; rw [if_neg hg]
  obtain ⟨⟨n0, n1⟩, -⟩ := id hI
  by_cases h : N = 3
  · refine ⟨-1, 3, N, gI, gF, kp, ?_, ?_, hI⟩
    · unfold Ff_X7_image
      rw [e1, fl_lt_eq rfl, if_pos rfl, if_neg (by omega)]
      rfl
    · unfold Ff_X8_image Ff_X8_good
      rw [fl_c2_eq rfl, if_neg (by decide), if_pos h]
      rfl
  · obtain ⟨gI1, gF1, q1, q2⟩ := rs_I_add hf hI (by omega) hS hm
    refine ⟨N, 0, N + 1, gI1, gF1, _, ?_, ?_, q2⟩
    · unfold Ff_X7_image
      rw [e1, fl_lt_eq rfl, if_pos rfl, if_pos (by omega), q1, fl_c4_eq rfl]
      rcases (show N = 0 ∨ N = 1 ∨ N = 2 by omega) with z | z | z <;> (subst z; rfl)
    · unfold Ff_X8_image Ff_X8_good
      rw [fl_c2_eq rfl, if_neg (by decide), if_neg h]
      simp only [fl_lt]
      rw [show N + 1 - 1 = N by omega]
/-- back: here and there -/
theorem rs_back {fg sp mi tu sn go ca U L N : Int} {kd pl he st und kp gI gJ : Nat → Int} {gF gG : Nat → Nat → Int} (hf : fg ≤ 9) (hS : rs_S fg sp kd mi tu sn go ca pl he st) (hm : mi ≤ 9999) (hH : rs_H fg sp kd U L gJ gG und) (hI : rs_I fg sp kd N gI gF kp) (a : Int) :
    ∃ R tr U1 mi1 tu1 sn1 go1 ca1 pl1 he1 st1, Ff_X7_back a U N mi tu sn go ca gI gF pl he = (R, tr, U1, mi1, tu1, sn1, go1, ca1, pl1, he1) ∧ Ff_X8_back a U N kp st = (R, 0, tr, U1, st1) ∧ rs_S fg sp kd mi1 tu1 sn1 go1 ca1 pl1 he1 st1 ∧ mi1 ≤ 9999 ∧ rs_H fg sp kd U1 L gJ gG und := by
  obtain ⟨⟨n0, n1⟩, -⟩ := id hI
  by_cases h : 0 ≤ a ∧ a ≤ N - 1
  · obtain ⟨m1, t1, s1, g1, c1, pl1, he1, e1, e2, e3⟩ := rs_I_back (st := st) hf hI h.1 (by omega) U mi tu sn go ca pl he
    obtain ⟨hU, hL, -⟩ := hH
    refine ⟨1, 0, 0, m1, t1, s1, g1, c1, pl1, he1, _, ?_, ?_, e2, e3, ⟨by omega, by omega⟩, hL, fun i hi => by omega⟩
    · unfold Ff_X7_back
      rw [e1, fl_c9_eq rfl]
      rfl
    · unfold Ff_X8_back Ff_X8_good
      rw [fl_c2_eq rfl, fl_lt_eq rfl, rp_in1 h.1 h.2]
      rfl
  · refine ⟨0, 1, U, mi, tu, sn, go, ca, pl, he, st, ?_, ?_, hS, hm, hH⟩
    · unfold Ff_X7_back Ff_X1_goBack
      rw [fl_lt_eq rfl, rp_in, rp_in0 h, fl_lt_eq rfl, if_neg (by decide), fl_c9_eq rfl]
      rfl
    · unfold Ff_X8_back Ff_X8_good
      rw [fl_c2_eq rfl, fl_lt_eq rfl, rp_in0 h]
      rfl
end RSF
