section RELP
/-- minutes pass ahead: here and there -/
theorem rs_ah {n fg sp sa ti pu wc po sd : Int} {kd me wf wt r f t : Nat → Int} (hG : rs_G fg sp sa ti pu kd me r) (hW : rs_W wc po wf wt sd r f t) :
    ∀ (d : Nat) (m1 m2 : Nat) (j mi tu sn go ca y1 y2 y3 : Int) (pl he st : Nat → Int), n - j = (d : Int) → d + 1 ≤ m1 → d + 1 ≤ m2 → rs_S fg sp kd mi tu sn go ca pl he st → mi + (d : Int) ≤ 20000 →
    ∃ tu1 sn1 go1 ca1 z1 z2 z3 pl1 he1 st1, fl_wh (fun t9 : Int × Int × Int × Int × Int × Int × (Nat → Int) × (Nat → Int) => Sf_X7_passAhead_2_1 n fg sp sa ti pu kd me wc po wt wf t9.1 t9.2.1 t9.2.2.1 t9.2.2.2.1 t9.2.2.2.2.1 t9.2.2.2.2.2.1 t9.2.2.2.2.2.2.1 t9.2.2.2.2.2.2.2) (0, 0, 0, 0, 0, (fun _ => 0), (fun _ => 0)) m1 (j, mi, tu, sn, go, ca, pl, he) = (mi + (d : Int), tu1, sn1, go1, ca1, pl1, he1) ∧
      fl_wh (fun t9 : Int × Int × Int × Int × (Nat → Int) => Sf_X8_minutesOn_6_1 n r sd f t t9.1 t9.2.1 t9.2.2.1 t9.2.2.2.1 t9.2.2.2.2) (0, 0, 0, 0, (fun _ => 0), (fun _ => 0), (fun _ => 0)) m2 (j, y1, y2, y3, st) = (sd, z1, z2, z3, f, t, st1) ∧ rs_S fg sp kd (mi + (d : Int)) tu1 sn1 go1 ca1 pl1 he1 st1 := by
  intro d
  induction d with
  | zero =>
    intro m1 m2 j mi tu sn go ca y1 y2 y3 pl he st hd h1 h2 hS hm
    obtain ⟨m1, rfl⟩ : ∃ q, m1 = q + 1 := ⟨m1 - 1, by omega⟩
    obtain ⟨m2, rfl⟩ : ∃ q, m2 = q + 1 := ⟨m2 - 1, by omega⟩
    have e0 : mi + ((0 : Nat) : Int) = mi := by omega
    rw [e0]
    refine ⟨tu, sn, go, ca, y1, y2, y3, pl, he, st, fl_wh_r (step := (fun t9 : Int × Int × Int × Int × Int × Int × (Nat → Int) × (Nat → Int) => Sf_X7_passAhead_2_1 n fg sp sa ti pu kd me wc po wt wf t9.1 t9.2.1 t9.2.2.1 t9.2.2.2.1 t9.2.2.2.2.1 t9.2.2.2.2.2.1 t9.2.2.2.2.2.2.1 t9.2.2.2.2.2.2.2)) (s := (j, mi, tu, sn, go, ca, pl, he)) ?_, fl_wh_r (step := (fun t9 : Int × Int × Int × Int × (Nat → Int) => Sf_X8_minutesOn_6_1 n r sd f t t9.1 t9.2.1 t9.2.2.1 t9.2.2.2.1 t9.2.2.2.2)) (s := (j, y1, y2, y3, st)) ?_, hS⟩
    · show Sf_X7_passAhead_2_1 n fg sp sa ti pu kd me wc po wt wf j mi tu sn go ca pl he = _
      unfold Sf_X7_passAhead_2_1
      rw [if_pos (by omega)]
    · show Sf_X8_minutesOn_6_1 n r sd f t j y1 y2 y3 st = _
      unfold Sf_X8_minutesOn_6_1
      rw [if_pos (by omega)]
  | succ d ih =>
    intro m1 m2 j mi tu sn go ca y1 y2 y3 pl he st hd h1 h2 hS hm
    obtain ⟨m1, rfl⟩ : ∃ q, m1 = q + 1 := ⟨m1 - 1, by omega⟩
    obtain ⟨m2, rfl⟩ : ∃ q, m2 = q + 1 := ⟨m2 - 1, by omega⟩
    obtain ⟨tu1, sn1, go1, ca1, pl1, he1, st1, e1, e2, e3⟩ := rs_pass hG hW hS (by omega)
    have e0 : mi + ((d + 1 : Nat) : Int) = mi + 1 + (d : Int) := by omega
    rw [e0]
    obtain ⟨tu2, sn2, go2, ca2, z1, z2, z3, pl2, he2, st2, q1, q2, q3⟩ := ih m1 m2 (j + 1) (mi + 1) tu1 sn1 go1 ca1 tu _ _ pl1 he1 st1 (by omega) (by omega) (by omega) e3 (by omega)
    refine ⟨tu2, sn2, go2, ca2, z1, z2, z3, pl2, he2, st2, (fl_wh_l (step := (fun t9 : Int × Int × Int × Int × Int × Int × (Nat → Int) × (Nat → Int) => Sf_X7_passAhead_2_1 n fg sp sa ti pu kd me wc po wt wf t9.1 t9.2.1 t9.2.2.1 t9.2.2.2.1 t9.2.2.2.2.1 t9.2.2.2.2.2.1 t9.2.2.2.2.2.2.1 t9.2.2.2.2.2.2.2)) (s := (j, mi, tu, sn, go, ca, pl, he)) ?_).trans q1, (fl_wh_l (step := (fun t9 : Int × Int × Int × Int × (Nat → Int) => Sf_X8_minutesOn_6_1 n r sd f t t9.1 t9.2.1 t9.2.2.1 t9.2.2.2.1 t9.2.2.2.2)) (s := (j, y1, y2, y3, st)) ?_).trans q2, q3⟩
    · show Sf_X7_passAhead_2_1 n fg sp sa ti pu kd me wc po wt wf j mi tu sn go ca pl he = _
      unfold Sf_X7_passAhead_2_1
      rw [if_neg (by omega), e1, fl_c7_eq rfl]
      rfl
    · show Sf_X8_minutesOn_6_1 n r sd f t j y1 y2 y3 st = _
      unfold Sf_X8_minutesOn_6_1
      rw [if_neg (by omega), e2, fl_c4_eq rfl]
      rfl
/-- the look ahead begins: the scenes alike -/
theorem rs_beg {fg sp wc po mi tu sn go ca : Int} {kd wf wt r pl he st : Nat → Int} (hf : fg ≤ 9) (hD : rs_D wc po wf wt r) (hS : rs_S fg sp kd mi tu sn go ca pl he st) (f0 t0 pl0 he0 st0 : Nat → Int) :
    ∃ pl1 he1 st1 f1 t1, Ff_X5_copyFrom mi tu sn go ca pl pl0 he he0 = (mi, tu, sn, go, ca, pl1, he1) ∧ Ff_X8_begin r f0 t0 st st0 = (0, f1, t1, st1) ∧ rs_W wc po wf wt 0 r f1 t1 ∧ rs_S fg sp kd mi tu sn go ca pl1 he1 st1 := by
  obtain ⟨pl1, he1, c1, c2⟩ := rs_cp mi tu sn go ca pl pl0 he he0
  obtain ⟨f1, t1, w1, w2⟩ := rs_told hD f0 t0
  refine ⟨pl1, he1, va_cpy st st0 0 0 23, f1, t1, c1, ?_, w2, rs_S_cg hf c2 (fun k hk => ?_) hS⟩
  · unfold Ff_X8_begin
    rw [w1, fl_c3_eq rfl]
    rfl
  · have q := rs_cpi (f := st) (g := st0) (sp := 0) (dp := 0) hk
    rw [Nat.zero_add] at q
    exact q
/-- n minutes ahead: here and there -/
theorem rs_run {n fg sp sa ti pu wc po mi tu sn go ca : Int} {kd me wf wt r pl he st : Nat → Int} (hG : rs_G fg sp sa ti pu kd me r) (hD : rs_D wc po wf wt r) (hS : rs_S fg sp kd mi tu sn go ca pl he st) (hm : mi ≤ 9999) (h0 : 0 ≤ n) (h9 : n ≤ 300) (y1 y2 y3 : Int) (f0 t0 pl0 he0 st0 : Nat → Int) :
    ∃ tu1 sn1 go1 ca1 z1 z2 z3 pl1 he1 st1 f1 t1, Ff_X7_runAhead n mi tu sn go ca pl pl0 he he0 fg sp sa ti pu kd me wc po wt wf = (mi + n, tu1, sn1, go1, ca1, pl1, he1) ∧ Ff_X8_minutesOn n y1 y2 y3 r f0 t0 st st0 = (0, z1, z2, z3, f1, t1, st1) ∧ rs_S fg sp kd (mi + n) tu1 sn1 go1 ca1 pl1 he1 st1 := by
  obtain ⟨⟨f1, f2, f3⟩, -⟩ := id hG
  obtain ⟨-, m0, -⟩ := id hS
  obtain ⟨pl1, he1, st1, f1', t1', b1, b2, b3, b4⟩ := rs_beg f3 hD hS f0 t0 pl0 he0 st0
  obtain ⟨tu2, sn2, go2, ca2, z1, z2, z3, pl2, he2, st2, q1, q2, q3⟩ := rs_ah (n := n) hG b3 n.toNat 2147483648 2147483648 0 mi tu sn go ca y1 y2 y3 pl1 he1 st1 (by omega) (by omega) (by omega) b4 (by omega)
  have en : mi + (n.toNat : Int) = mi + n := by omega
  rw [en] at q1 q3
  refine ⟨tu2, sn2, go2, ca2, z1, z2, z3, pl2, he2, st2, f1', t1', ?_, ?_, q3⟩
  · unfold Ff_X7_runAhead Ff_X7_passAhead
    rw [b1, fl_c7_eq rfl, q1, fl_c7_eq rfl]
  · unfold Ff_X8_minutesOn
    rw [b2, fl_c4_eq rfl]
    exact q2
theorem rs_tfw (a n mx fg : Int) : Ff_X7_troubleOfFigureWithin a n mx fg = if 0 ≤ a ∧ a ≤ fg - 1 then (if 0 ≤ n ∧ n ≤ mx then 0 else 2) else 1 := by
  unfold Ff_X7_troubleOfFigureWithin
  rw [rs_isf]
  by_cases h : 0 ≤ a ∧ a ≤ fg - 1
  · rw [if_pos h, if_pos h, fl_lt_eq rfl, if_pos rfl, rp_in]
    by_cases h2 : 0 ≤ n ∧ n ≤ mx
    · rw [if_pos h2, rp_in1 h2.1 h2.2]; rfl
    · rw [if_neg h2, rp_in0 h2]; rfl
  · rw [if_neg h, if_neg h]; rfl
theorem rs_aw1 (lo n : Int) : Ff_X8_aheadWhy 1 lo n = if lo ≤ n ∧ n ≤ 300 then 0 else 2 := by
  unfold Ff_X8_aheadWhy
  by_cases h : lo ≤ n ∧ n ≤ 300
  · rw [if_pos h, rp_in1 h.1 h.2]; rfl
  · rw [if_neg h, rp_in0 h]; rfl
theorem rs_aw0 (lo n : Int) : Ff_X8_aheadWhy 0 lo n = 1 := by
  unfold Ff_X8_aheadWhy
  by_cases h : lo ≤ n ∧ n ≤ 300
  · rw [rp_in1 h.1 h.2]; rfl
  · rw [rp_in0 h]; rfl
theorem rs_aw1z (lo n : Int) : Ff0_X8_aheadWhy 1 lo n = if lo ≤ n ∧ n ≤ 300 then 0 else 2 := by
  unfold Ff0_X8_aheadWhy
  by_cases h : lo ≤ n ∧ n ≤ 300
  · rw [if_pos h, rp_in1 h.1 h.2]; rfl
  · rw [if_neg h, rp_in0 h]; rfl
theorem rs_aw0z (lo n : Int) : Ff0_X8_aheadWhy 0 lo n = 1 := by
  unfold Ff0_X8_aheadWhy
  by_cases h : lo ≤ n ∧ n ≤ 300
  · rw [rp_in1 h.1 h.2]; rfl
  · rw [rp_in0 h]; rfl
theorem lr_0 {vi vm : Nat → Int32} {vf vn : Nat → Nat → Int32} (h : lr_H vi vf vm vn) (z : vm 11 = 0) : (vm 11).toInt = 0 ∧ (vi 33).toInt = 0 ∧ (vi 53).toInt = 0 := by
  rcases h with ⟨h1, h2, -, -, -, -, -, -, -, -, h3⟩ | ⟨h1, h2, -⟩
  · exact ⟨by rw [h1]; decide, by rw [h2]; decide, by rw [h3]; decide⟩
  · rw [z] at h1; exact absurd h1 (by decide)
theorem lr_1 {vi vm : Nat → Int32} {vf vn : Nat → Nat → Int32} (h : lr_H vi vf vm vn) (z : vm 11 = 1) : (vm 11).toInt = 1 ∧ 2 ≤ (vi 33).toInt ∧ (vi 33).toInt ≤ 9 := by
  rcases h with ⟨h1, h2, -⟩ | ⟨h1, h2, -⟩
  · rw [z] at h1; exact absurd h1 (by decide)
  · exact ⟨by rw [z]; decide, h2.1, h2.2.1⟩
theorem lr_place {vi vm : Nat → Int32} {vf vn : Nat → Nat → Int32} (hH : lr_H vi vf vm vn) (hV : lr_V vi vf vm vn) (hMo : vm 11 = 0 ∨ (vm 11 = 1 ∧ ((∀ k : Nat, 0 ≤ k → k ≤ 0 → (2 : Int) ≤ ((vn 2) k).toInt ∧ ((vn 2) k).toInt ≤ 9) ∧ (∀ k : Nat, 1 ≤ k → k ≤ 1 → (1 : Int) ≤ ((vn 2) k).toInt ∧ ((vn 2) k).toInt ≤ 20) ∧ (∀ k : Nat, 2 ≤ k → k ≤ 2 → (0 : Int) ≤ ((vn 2) k).toInt ∧ ((vn 2) k).toInt ≤ 8) ∧ (∀ k : Nat, 3 ≤ k → k ≤ 3 → (0 : Int) ≤ ((vn 2) k).toInt ∧ ((vn 2) k).toInt ≤ 100) ∧ (∀ k : Nat, 4 ≤ k → k ≤ 4 → (0 : Int) ≤ ((vn 2) k).toInt ∧ ((vn 2) k).toInt ≤ 9) ∧ (∀ k : Nat, 5 ≤ k → k ≤ 5 → (0 : Int) ≤ ((vn 2) k).toInt ∧ ((vn 2) k).toInt ≤ 3) ∧ (∀ k : Nat, 6 ≤ k → k ≤ 6 → (0 : Int) ≤ ((vn 2) k).toInt ∧ ((vn 2) k).toInt ≤ 6) ∧ (∀ k : Nat, 7 ≤ k → k ≤ 9 → (0 : Int) ≤ ((vn 2) k).toInt ∧ ((vn 2) k).toInt ≤ 8) ∧ (∀ k : Nat, 12 ≤ k → k ≤ 29 → (0 : Int) ≤ ((vn 2) k).toInt ∧ ((vn 2) k).toInt ≤ 20) ∧ (∀ k : Nat, 30 ≤ k → k ≤ 35 → (0 : Int) ≤ ((vn 2) k).toInt ∧ ((vn 2) k).toInt ≤ 8) ∧ (∀ k : Nat, 36 ≤ k → k ≤ 47 → (0 : Int) ≤ ((vn 2) k).toInt ∧ ((vn 2) k).toInt ≤ 999)) ∧ ((∀ (j i0 i : Int32), (0 : Int) ≤ j.toInt → j.toInt ≤ 8 → i0.toInt = 12 + 2 * j.toInt → i.toInt = 13 + 2 * j.toInt → ((vn 2) i0.toNatClampNeg).toInt = (1 : Int32).toInt → (1 : Int) ≤ ((vn 2) i.toNatClampNeg).toInt)))) (a n : Int) {b : Int} (hb : (vm 11 = 0 ∧ b = (Ff0_X8_place n (vm 11).toInt).1) ∨ (vm 11 = 1 ∧ b = (Ff_X8_place a n (vm 11).toInt (vm 14).toInt (vm 15).toInt (vm 16).toInt (vm 17).toInt (fl_A (vn 2)) (fl_A (vn 8)) (fl_A (vn 9)) (fl_A (vn 4)) (fl_A (vn 5))).1)) : (Ff_X7_place a n (vi 33).toInt (vi 34).toInt (vi 35).toInt (vi 38).toInt (vi 39).toInt (vi 17).toInt (vi 18).toInt (vi 19).toInt (vi 20).toInt (vi 21).toInt (vi 12).toInt (vi 13).toInt (vi 14).toInt (vi 15).toInt (vi 16).toInt (fl_A (vf 1)) (fl_A (vf 3)) (fl_A (vf 2)) (fl_A (vf 4)) (fl_A (vf 11)) (fl_A (vf 12)) (vi 53).toInt (vi 54).toInt (fl_A (vf 20)) (fl_A (vf 19))).1 = b := by
  rcases hb with ⟨z, hb⟩ | ⟨z, hb⟩
  · obtain ⟨e1, e2, e3⟩ := lr_0 hH z
    obtain ⟨v54, v⟩ := hV
    rcases v with ⟨-, v12, v24, v25, u12, u13⟩ | ⟨z0, -⟩
    rotate_left
    · rw [z] at z0; exact absurd z0 (by decide)
    rw [hb, e1, e2]
    unfold Ff_X7_place Ff0_X8_place Ff0_X8_isFigure Ff_X8_good
    rw [rs_tfw, if_neg (by omega), rs_aw0z]
    rfl
  · obtain ⟨e1, e2, e3⟩ := lr_1 hH z
    rcases hMo with z0 | ⟨-, hrs, hkm⟩
    · rw [z] at z0; exact absurd z0 (by decide)
    obtain ⟨hG, hD, -⟩ := lr_G hH z hrs hkm
    obtain ⟨v54, v⟩ := hV
    have hD := hD v54.1
    rcases v with ⟨z0, -⟩ | ⟨-, hS, hm, hU, hN, hHi, hIm⟩
    · rw [z] at z0; exact absurd z0 (by decide)
    obtain ⟨⟨s1, s2, s3, s4, s5⟩, m0, ⟨t0, t1⟩, ⟨n0, n1⟩, ⟨g0, g1⟩, hk⟩ := id hS
    obtain ⟨⟨f1, f2, f3⟩, ⟨sp1, sp2, sp3⟩, ⟨sa1, sa2, sa3⟩, ⟨ti1, ti2, ti3⟩, ⟨pu1, pu2, pu3⟩, hkd⟩ := id hG
    rw [hb, e1]
    by_cases h : 0 ≤ a ∧ a ≤ (vi 33).toInt - 1
    · by_cases hn : 0 ≤ n ∧ n ≤ 300
      · obtain ⟨tu7, sn7, go7, ca7, z1, z2, z3, pl7, he7, st7, fr7, to7, q1, q2, q3⟩ : ∃ (tu7 sn7 go7 ca7 z1 z2 z3 : Int) (pl7 he7 st7 fr7 to7 : Nat → Int), Ff_X7_runAhead n (vi 12).toInt (vi 13).toInt (vi 14).toInt (vi 15).toInt (vi 16).toInt (fl_A (vf 1)) (fl_A (vf 3)) (fl_A (vf 2)) (fl_A (vf 4)) (vi 33).toInt (vi 34).toInt (vi 35).toInt (vi 38).toInt (vi 39).toInt (fl_A (vf 11)) (fl_A (vf 12)) (vi 53).toInt (vi 54).toInt (fl_A (vf 20)) (fl_A (vf 19)) = ((vi 12).toInt + n, tu7, sn7, go7, ca7, pl7, he7) ∧ Ff_X8_minutesOn n (vm 15).toInt (vm 16).toInt (vm 17).toInt (fl_A (vn 2)) (fl_A (vn 8)) (fl_A (vn 9)) (fl_A (vn 4)) (fl_A (vn 5)) = (0, z1, z2, z3, fr7, to7, st7) ∧ rs_S (vi 33).toInt (vi 34).toInt (fl_A (vf 11)) ((vi 12).toInt + n) tu7 sn7 go7 ca7 pl7 he7 st7 := rs_run hG hD hS hm hn.1 hn.2 _ _ _ _ _ _ _ _
        obtain ⟨⟨u1, u2, u3, u4, u5⟩, -, -, -, -, uk⟩ := id q3
        unfold Ff_X7_place Ff_X8_place Ff_X8_good
        rw [rs_tfw, if_pos h, if_pos hn, fl_c2_eq (t := ((0 : Int), (0 : Int))) rfl, rs_isfm, if_pos (by rw [← f1]; exact h), rs_aw1, if_pos hn, q1, q2]
        show pl7 a.toNat = st7 a.toNat
        exact (uk a.toNat (by omega)).1
      · unfold Ff_X7_place Ff_X8_place Ff_X8_good
        rw [rs_tfw, if_pos h, if_neg hn, fl_c2_eq (t := ((0 : Int), (0 : Int))) rfl, rs_isfm, if_pos (by rw [← f1]; exact h), rs_aw1, if_neg hn]
        rfl
    · unfold Ff_X7_place Ff_X8_place Ff_X8_good
      rw [rs_tfw, if_neg h, fl_c2_eq (t := ((0 : Int), (0 : Int))) rfl, rs_isfm, if_neg (by rw [← f1]; exact h), rs_aw0]
      rfl
end RELP
