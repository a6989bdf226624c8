section PUI

theorem rp_sec {mi sc : Int} {sm : Nat → Int} (h0 : 0 ≤ sc) (h6 : sc ≤ 6) : ((∃ i : Nat, (i : Int) < sc ∧ sm i = mi) ∧ Ff_X0_isSeenMinute mi sc sm = 1) ∨ ((∀ i : Nat, (i : Int) < sc → sm i ≠ mi) ∧ Ff_X0_isSeenMinute mi sc sm = 0) := by
  have main : ∀ (m : Nat) (j : Int), sc + 1 - j ≤ (m : Int) → 0 ≤ j → j ≤ sc → (∀ i : Nat, (i : Int) < j → sm i ≠ mi) → ((∃ i : Nat, (i : Int) < sc ∧ sm i = mi) ∧ fl_wh (Sf_X0_isSeenMinute_2_1 mi sc sm) 0 m j = 1) ∨ ((∀ i : Nat, (i : Int) < sc → sm i ≠ mi) ∧ fl_wh (Sf_X0_isSeenMinute_2_1 mi sc sm) 0 m j = 0) := by
    intro m
    induction m with
    | zero => intro j h1 h2 h3; omega
    | succ m ih =>
      intro j h1 h2 h3 h4
      by_cases hj : sc ≤ j
      · have hs : Sf_X0_isSeenMinute_2_1 mi sc sm j = .inr 0 := by unfold Sf_X0_isSeenMinute_2_1; rw [if_pos hj]
        rw [fl_wh_r hs]
        exact Or.inr ⟨fun i hi => h4 i (by omega), rfl⟩
      · by_cases q : sm j.toNat = mi
        · have hs : Sf_X0_isSeenMinute_2_1 mi sc sm j = .inr 1 := by simp only [Sf_X0_isSeenMinute_2_1, fl_lt]; rw [if_neg hj, if_pos q]
          rw [fl_wh_r hs]
          exact Or.inl ⟨⟨j.toNat, by omega, q⟩, rfl⟩
        · have hs : Sf_X0_isSeenMinute_2_1 mi sc sm j = .inl (j + 1) := by simp only [Sf_X0_isSeenMinute_2_1, fl_lt]; rw [if_neg hj, if_neg q]
          rw [fl_wh_l hs]
          refine ih (j + 1) (by omega) (by omega) (by omega) (fun i hi => ?_)
          by_cases hi2 : i = j.toNat
          · rw [hi2]; exact q
          · exact h4 i (by omega)
  exact main 7 0 (by omega) (by omega) h0 (fun i hi => by omega)
theorem rp_s2 : SfG_X8_seenLine_49_2 = SfG_X8_seenLine_49_1 := rfl
theorem rp_s3 : SfG_X8_seenLine_49_3 = SfG_X8_seenLine_49_1 := rfl
theorem rp_s4 : SfG_X8_seenLine_49_4 = SfG_X8_seenLine_49_1 := rfl
theorem rp_sm1 {e x r27 mi at_ en tk wm ns fa pl : Int} {fr tm lt : Nat → Int} : ∀ (m : Nat) (k : Int), fr 6 + 1 - k ≤ (m : Int) → k ≤ fr 6 →
    fl_wh (fun t9 => SfG_X8_seenLine_49_1 e fr tm x r27 t9.1 t9.2.1 t9.2.2.1 t9.2.2.2.1 t9.2.2.2.2.1 t9.2.2.2.2.2.1 t9.2.2.2.2.2.2.1 t9.2.2.2.2.2.2.2.1 t9.2.2.2.2.2.2.2.2.1 t9.2.2.2.2.2.2.2.2.2.1 t9.2.2.2.2.2.2.2.2.2.2) (0, 0, 0, 0, 0, 0, 0, 0, (fun _ => 0), (fun _ => 0)) m (k, mi, at_, en, tk, wm, ns, fa, pl, 1, lt) = (at_, en, tk, wm, ns, fa, pl, 1, fr, lt) := by
  intro m
  induction m with
  | zero => intro k h1 h2; omega
  | succ m ih =>
    intro k h1 h2
    by_cases hk : fr 6 ≤ k
    · have hs : SfG_X8_seenLine_49_1 e fr tm x r27 k mi at_ en tk wm ns fa pl 1 lt = .inr (at_, en, tk, wm, ns, fa, pl, 1, fr, lt) := by
        unfold SfG_X8_seenLine_49_1
        rw [if_neg (show ¬ (1 : Int) = 0 by decide), fl_lt_eq rfl, if_pos hk]
      rw [fl_wh_r (step := (fun t9 : Int × Int × Int × Int × Int × Int × Int × Int × Int × Int × (Nat → Int) => SfG_X8_seenLine_49_1 e fr tm x r27 t9.1 t9.2.1 t9.2.2.1 t9.2.2.2.1 t9.2.2.2.2.1 t9.2.2.2.2.2.1 t9.2.2.2.2.2.2.1 t9.2.2.2.2.2.2.2.1 t9.2.2.2.2.2.2.2.2.1 t9.2.2.2.2.2.2.2.2.2.1 t9.2.2.2.2.2.2.2.2.2.2)) (s := (k, mi, at_, en, tk, wm, ns, fa, pl, 1, lt)) hs]
    · have hs : SfG_X8_seenLine_49_1 e fr tm x r27 k mi at_ en tk wm ns fa pl 1 lt = .inl (k + 1, mi, at_, en, tk, wm, ns, fa, pl, 1, lt) := by
        unfold SfG_X8_seenLine_49_1
        rw [if_neg (show ¬ (1 : Int) = 0 by decide), fl_lt_eq rfl, if_neg hk]; rfl
      rw [fl_wh_l (step := (fun t9 : Int × Int × Int × Int × Int × Int × Int × Int × Int × Int × (Nat → Int) => SfG_X8_seenLine_49_1 e fr tm x r27 t9.1 t9.2.1 t9.2.2.1 t9.2.2.2.1 t9.2.2.2.2.1 t9.2.2.2.2.2.1 t9.2.2.2.2.2.2.1 t9.2.2.2.2.2.2.2.1 t9.2.2.2.2.2.2.2.2.1 t9.2.2.2.2.2.2.2.2.2.1 t9.2.2.2.2.2.2.2.2.2.2)) (s := (k, mi, at_, en, tk, wm, ns, fa, pl, 1, lt)) hs]
      exact ih (k + 1) (by omega) (by omega)
theorem rp_sm0 {e x r27 mi at_ en tk wm ns fa pl : Int} {fr tm lt : Nat → Int} : ∀ (m : Nat) (k : Int), fr 6 + 1 - k ≤ (m : Int) → 0 ≤ k → k ≤ fr 6 → (∀ i : Nat, (i : Int) < k → fr (37 + 2 * i) ≠ mi) →
    ((∃ i : Nat, (i : Int) < fr 6 ∧ fr (37 + 2 * i) = mi) ∧ fl_wh (fun t9 => SfG_X8_seenLine_49_1 e fr tm x r27 t9.1 t9.2.1 t9.2.2.1 t9.2.2.2.1 t9.2.2.2.2.1 t9.2.2.2.2.2.1 t9.2.2.2.2.2.2.1 t9.2.2.2.2.2.2.2.1 t9.2.2.2.2.2.2.2.2.1 t9.2.2.2.2.2.2.2.2.2.1 t9.2.2.2.2.2.2.2.2.2.2) (0, 0, 0, 0, 0, 0, 0, 0, (fun _ => 0), (fun _ => 0)) m (k, mi, at_, en, tk, wm, ns, fa, pl, 0, lt) = (at_, en, tk, wm, ns, 3, at_, 1, fr, lt)) ∨
    ((∀ i : Nat, (i : Int) < fr 6 → fr (37 + 2 * i) ≠ mi) ∧ fl_wh (fun t9 => SfG_X8_seenLine_49_1 e fr tm x r27 t9.1 t9.2.1 t9.2.2.1 t9.2.2.2.1 t9.2.2.2.2.1 t9.2.2.2.2.2.1 t9.2.2.2.2.2.2.1 t9.2.2.2.2.2.2.2.1 t9.2.2.2.2.2.2.2.2.1 t9.2.2.2.2.2.2.2.2.2.1 t9.2.2.2.2.2.2.2.2.2.2) (0, 0, 0, 0, 0, 0, 0, 0, (fun _ => 0), (fun _ => 0)) m (k, mi, at_, en, tk, wm, ns, fa, pl, 0, lt) = fl_c6 (FfG_X8_pass e en tm lt) (fun y4 y5 y6 y7 y8 y12 => (y4, y5, y6, y7, y8, fa, pl, 0, fl_up (fl_up (fl_up fr x.toNat r27) (x + 1).toNat mi) 6 ((fl_up (fl_up fr x.toNat r27) (x + 1).toNat mi) 6 + 1), y12))) := by
  intro m
  induction m with
  | zero => intro k h1 h2 h3; omega
  | succ m ih =>
    intro k h1 h2 h3 h4
    by_cases hk : fr 6 ≤ k
    · have hs : SfG_X8_seenLine_49_1 e fr tm x r27 k mi at_ en tk wm ns fa pl 0 lt = .inr (fl_c6 (FfG_X8_pass e en tm lt) (fun y4 y5 y6 y7 y8 y12 => (y4, y5, y6, y7, y8, fa, pl, 0, fl_up (fl_up (fl_up fr x.toNat r27) (x + 1).toNat mi) 6 ((fl_up (fl_up fr x.toNat r27) (x + 1).toNat mi) 6 + 1), y12))) := by
        unfold SfG_X8_seenLine_49_1
        rw [if_pos (show (0 : Int) = 0 from rfl), fl_lt_eq rfl, if_pos hk]; rfl
      rw [fl_wh_r (step := (fun t9 : Int × Int × Int × Int × Int × Int × Int × Int × Int × Int × (Nat → Int) => SfG_X8_seenLine_49_1 e fr tm x r27 t9.1 t9.2.1 t9.2.2.1 t9.2.2.2.1 t9.2.2.2.2.1 t9.2.2.2.2.2.1 t9.2.2.2.2.2.2.1 t9.2.2.2.2.2.2.2.1 t9.2.2.2.2.2.2.2.2.1 t9.2.2.2.2.2.2.2.2.2.1 t9.2.2.2.2.2.2.2.2.2.2)) (s := (k, mi, at_, en, tk, wm, ns, fa, pl, 0, lt)) hs]
      exact Or.inr ⟨fun i hi => h4 i (by omega), rfl⟩
    · have ix : (36 + 2 * k + 1).toNat = 37 + 2 * k.toNat := by omega
      by_cases q : fr (37 + 2 * k.toNat) = mi
      · have hs : SfG_X8_seenLine_49_1 e fr tm x r27 k mi at_ en tk wm ns fa pl 0 lt = .inl (k + 1, mi, at_, en, tk, wm, ns, 3, at_, 1, lt) := by
          unfold SfG_X8_seenLine_49_1
          rw [if_pos (show (0 : Int) = 0 from rfl), fl_lt_eq rfl, if_neg hk, fl_lt_eq rfl, fl_lt_eq rfl, fl_lt_eq rfl, ix, fl_lt_eq rfl, if_pos q]; rfl
        rw [fl_wh_l (step := (fun t9 : Int × Int × Int × Int × Int × Int × Int × Int × Int × Int × (Nat → Int) => SfG_X8_seenLine_49_1 e fr tm x r27 t9.1 t9.2.1 t9.2.2.1 t9.2.2.2.1 t9.2.2.2.2.1 t9.2.2.2.2.2.1 t9.2.2.2.2.2.2.1 t9.2.2.2.2.2.2.2.1 t9.2.2.2.2.2.2.2.2.1 t9.2.2.2.2.2.2.2.2.2.1 t9.2.2.2.2.2.2.2.2.2.2)) (s := (k, mi, at_, en, tk, wm, ns, fa, pl, 0, lt)) hs]
        exact Or.inl ⟨⟨k.toNat, by omega, q⟩, rp_sm1 m (k + 1) (by omega) (by omega)⟩
      · have hs : SfG_X8_seenLine_49_1 e fr tm x r27 k mi at_ en tk wm ns fa pl 0 lt = .inl (k + 1, mi, at_, en, tk, wm, ns, fa, pl, 0, lt) := by
          unfold SfG_X8_seenLine_49_1
          rw [if_pos (show (0 : Int) = 0 from rfl), fl_lt_eq rfl, if_neg hk, fl_lt_eq rfl, fl_lt_eq rfl, fl_lt_eq rfl, ix, fl_lt_eq rfl, if_neg q]; rfl
        rw [fl_wh_l (step := (fun t9 : Int × Int × Int × Int × Int × Int × Int × Int × Int × Int × (Nat → Int) => SfG_X8_seenLine_49_1 e fr tm x r27 t9.1 t9.2.1 t9.2.2.1 t9.2.2.2.1 t9.2.2.2.2.1 t9.2.2.2.2.2.1 t9.2.2.2.2.2.2.1 t9.2.2.2.2.2.2.2.1 t9.2.2.2.2.2.2.2.2.1 t9.2.2.2.2.2.2.2.2.2.1 t9.2.2.2.2.2.2.2.2.2.2)) (s := (k, mi, at_, en, tk, wm, ns, fa, pl, 0, lt)) hs]
        refine ih (k + 1) (by omega) (by omega) (by omega) (fun i hi => ?_)
        by_cases hi2 : i = k.toNat
        · rw [hi2]; exact q
        · exact h4 i (by omega)
/-- seen: readSeen and seenLine -/
theorem rp_seen {tp tm : Nat → Int} {e st be tk wd wh : Int} (hT : rp_T tp tm e) (he : e ≤ 900) {st1 be1 tk1 wd1 wh1 at1 en1 tk3 wm1 ns1 : Int} {lt1 : Nat → Int} (w0 : Ff_X3_isWord tk wd 4 (fl_A (sxc 4)) = 1) (a1 : Ff_X3_advance e be wd wh tp = (st1, be1, tk1, wd1, wh1)) (a3 : rp_K e st1 be1 tk1 wd1 wh1 at1 en1 tk3 wm1 ns1 lt1)
    {fg sp sa sh lw ti pu fi tb sc wc c : Int} {kd me sf sm wf wt nm fr : Nat → Int} (hD : rp_D fg sp sa sh lw ti pu fi tb sc wc c kd me sf sm wf wt nm fr) (hw : sc < 6) (hT11 : ¬ fr 11 = 0) (fn fp ta fa pl : Int) :
    (∃ ta' sc' sm' sf' fr' st2 be2 tk4 wd2 wh2 at2 en2 tk5 wm2 ns2 lt2, Ff_X3_readSeen fn fp e st be tk wd wh ta fg sc tp sm sf = (1, fn, fp, st2, be2, tk4, wd2, wh2, ta', sc', sm', sf') ∧ FfG_X8_seenLine e at1 en1 tk3 wm1 ns1 fa pl fr tm lt1 = (at2, en2, tk5, wm2, ns2, fa, pl, 0, fr', lt2) ∧ rp_K e st2 be2 tk4 wd2 wh2 at2 en2 tk5 wm2 ns2 lt2 ∧ st1 < st2 ∧ rp_D fg sp sa sh lw ti pu fi tb sc' wc c kd me sf' sm' wf wt nm fr') ∨
    (∃ q p, rp_fc (Ff_X3_readSeen fn fp e st be tk wd wh ta fg sc tp sm sf) q p ∧ rp_fm (FfG_X8_seenLine e at1 en1 tk3 wm1 ns1 fa pl fr tm lt1) q p) := by
  obtain ⟨hh, hf, hw', ⟨s1, s2, s3, s4⟩, hn⟩ := hD
  have hfg : fg = fr 0 := hh.1.1
  have la : Ff_X8_last fr = fg - 1 := by rw [hfg]; rfl
  have sk : ∀ (mi at_ en tk wm ns fa pl x r27 : Int) (lt : Nat → Int), fl_wh (fun t9 => SfG_X8_seenLine_49_1 e fr tm x r27 t9.1 t9.2.1 t9.2.2.1 t9.2.2.2.1 t9.2.2.2.2.1 t9.2.2.2.2.2.1 t9.2.2.2.2.2.2.1 t9.2.2.2.2.2.2.2.1 t9.2.2.2.2.2.2.2.2.1 t9.2.2.2.2.2.2.2.2.2.1 t9.2.2.2.2.2.2.2.2.2.2) (0, 0, 0, 0, 0, 0, 0, 0, (fun _ => 0), (fun _ => 0)) 6 (0, mi, at_, en, tk, wm, ns, fa, pl, 1, lt) = (at_, en, tk, wm, ns, fa, pl, 1, fr, lt) := fun mi at_ en tk wm ns fa pl x r27 lt => rp_sm1 6 0 (by omega) (by omega)
  rcases rp_num hT he a3 0 (fg - 1) fn fp fa pl with ⟨st2, be2, tk4, wd2, wh2, at2, en2, tk5, wm2, ns2, lt2, b1, b2, b3, b4, b5, b6, b7, b8, b9, b10⟩ | ⟨q, b1, b2⟩
  rotate_left
  · have et : Ff_X3_takeWhole 0 (fg - 1) fn fp e st be tk wd wh ta tp 4 (fl_A (sxc 4)) = (0, q, st1, st1, be1, tk1, wd1, wh1, ta) := by
      simp only [Ff_X3_takeWhole, w0, a1, b1, fl_lt, fl_c2, fl_c3, fl_c4, fl_c5, fl_c6, fl_c7, fl_c8, fl_c9, fl_c10, reduceIte, Int.reduceEq]
    refine Or.inr ⟨q, st1, ?_, ?_⟩
    · simp only [Ff_X3_readSeen, et, fl_lt, fl_c2, fl_c3, fl_c4, fl_c5, fl_c6, fl_c7, fl_c8, fl_c9, fl_c10, reduceIte, Int.reduceEq]; exact ⟨rfl, rfl, rfl⟩
    · simp only [FfG_X8_seenLine, la, b2, sk, fl_lt, fl_c2, fl_c3, fl_c4, fl_c5, fl_c6, fl_c7, fl_c8, fl_c9, fl_c10, reduceIte, Int.reduceEq]; exact ⟨rfl, rfl, rfl⟩
  have et : Ff_X3_takeWhole 0 (fg - 1) fn fp e st be tk wd wh ta tp 4 (fl_A (sxc 4)) = (1, fn, fp, st2, be2, tk4, wd2, wh2, wh1) := by
    simp only [Ff_X3_takeWhole, w0, a1, b1, b2, fl_lt, fl_c2, fl_c3, fl_c4, fl_c5, fl_c6, fl_c7, fl_c8, fl_c9, fl_c10, reduceIte, Int.reduceEq]
  rcases rp_tkw hT he b4 (nn := 2) (by decide) (by decide) rp_sw_at fn fp fa pl with ⟨st3, be3, tk6, wd3, wh3, at3, en3, tk7, wm3, ns3, lt3, c1, c2, c3, c4, c5⟩ | ⟨c1, c2⟩
  rotate_left
  · refine Or.inr ⟨1, st2, ?_, ?_⟩
    · simp only [Ff_X3_readSeen, et, c1, fl_lt, fl_c2, fl_c3, fl_c4, fl_c5, fl_c6, fl_c7, fl_c8, fl_c9, fl_c10, reduceIte, Int.reduceEq]; exact ⟨rfl, rfl, rfl⟩
    · simp only [FfG_X8_seenLine, la, b3, c2, rp_s2, sk, fl_lt, fl_c2, fl_c3, fl_c4, fl_c5, fl_c6, fl_c7, fl_c8, fl_c9, fl_c10, reduceIte, Int.reduceEq]; exact ⟨rfl, rfl, rfl⟩
  rcases rp_iww c3 0 999 fn fp fa pl with ⟨d1, d2, -, d4, d5, d6, d7, d8, d9, d10⟩ | ⟨q, d1, d2⟩
  rotate_left
  · refine Or.inr ⟨q, st3, ?_, ?_⟩
    · simp only [Ff_X3_readSeen, et, c1, d1, fl_lt, fl_c2, fl_c3, fl_c4, fl_c5, fl_c6, fl_c7, fl_c8, fl_c9, fl_c10, reduceIte, Int.reduceEq]; exact ⟨rfl, rfl, rfl⟩
    · simp only [FfG_X8_seenLine, la, b3, c2, d2, rp_s3, sk, fl_lt, fl_c2, fl_c3, fl_c4, fl_c5, fl_c6, fl_c7, fl_c8, fl_c9, fl_c10, reduceIte, Int.reduceEq]; exact ⟨rfl, rfl, rfl⟩
  have hst3 : st3 = at3 := c3.1
  have ix : (36 + 2 * fr 6).toNat = 36 + 2 * sc.toNat := by omega
  have ix2 : (36 + 2 * fr 6 + 1).toNat = 37 + 2 * sc.toNat := by omega
  rcases rp_sm0 (e := e) (x := 36 + 2 * fr 6) (r27 := wh1) (mi := wh3) (at_ := at3) (en := en3) (tk := tk7) (wm := wm3) (ns := ns3) (fa := fa) (pl := pl) (fr := fr) (tm := tm) (lt := lt3) 6 0 (by omega) (by omega) (by omega) (fun i hi => by omega) with ⟨⟨i, i1, i2⟩, g⟩ | ⟨hno, g⟩
  · have gc : Ff_X0_isSeenMinute wh3 sc sm = 1 := by
      rcases rp_sec (mi := wh3) (sc := sc) (sm := sm) s2 (by omega) with ⟨-, h⟩ | ⟨h, -⟩
      · exact h
      · exact absurd ((s4 i (by omega)).2.trans i2) (h i (by omega))
    refine Or.inr ⟨3, st3, ?_, ?_⟩
    · simp only [Ff_X3_readSeen, et, c1, d1, gc, Ff_X3_fails, fl_lt, fl_c2, fl_c3, fl_c4, fl_c5, fl_c6, fl_c7, fl_c8, fl_c9, fl_c10, reduceIte, Int.reduceEq]; exact ⟨rfl, rfl, rfl⟩
    · simp only [FfG_X8_seenLine, la, b3, c2, d2, rp_s4, g, fl_lt, fl_c2, fl_c3, fl_c4, fl_c5, fl_c6, fl_c7, fl_c8, fl_c9, fl_c10, reduceIte, Int.reduceEq]; exact ⟨rfl, hst3.symm, rfl⟩
  · have gc : Ff_X0_isSeenMinute wh3 sc sm = 0 := by
      rcases rp_sec (mi := wh3) (sc := sc) (sm := sm) s2 (by omega) with ⟨⟨i, i1, i2⟩, -⟩ | ⟨-, h⟩
      · exact absurd (((s4 i i1).2.symm).trans i2) (hno i (by omega))
      · exact h
    obtain ⟨st4, be4, tk8, wd4, wh4, at4, en4, tk9, wm4, ns4, lt4, k1, k2, k3, k4⟩ := rp_adv hT he be3 wd3 wh3 lt3 c3.2.2.2.1 c3.2.2.2.2.1
    rw [d7] at k2
    have kq : FfG_X8_pass e en3 tm lt3 = (at4, en4, tk9, wm4, ns4, lt4) := by simp only [FfG_X8_pass, k2, fl_c6]
    have hadd : Ff_X0_addSeen wh1 wh3 sc sf sm = (sc + 1, fl_up sf sc.toNat wh1, fl_up sm sc.toNat wh3) := by
      unfold Ff_X0_addSeen; rw [if_neg (by omega)]; rfl
    have x6 : (fl_up (fl_up fr (36 + 2 * sc.toNat) wh1) (37 + 2 * sc.toNat) wh3) 6 = fr 6 := by
      rw [rp_up_ne _ _ (by omega), rp_up_ne _ _ (by omega)]
    rw [ix, ix2, x6] at g
    refine Or.inl ⟨wh1, sc + 1, fl_up sm sc.toNat wh3, fl_up sf sc.toNat wh1, fl_up (fl_up (fl_up fr (36 + 2 * sc.toNat) wh1) (37 + 2 * sc.toNat) wh3) 6 (fr 6 + 1), st4, be4, tk8, wd4, wh4, at4, en4, tk9, wm4, ns4, lt4, ?_, ?_, k3, by omega, ?_⟩
    · simp only [Ff_X3_readSeen, et, c1, d1, gc, hadd, k1, fl_lt, fl_c2, fl_c3, fl_c4, fl_c5, fl_c6, fl_c7, fl_c8, fl_c9, fl_c10, reduceIte, Int.reduceEq]
    · simp only [FfG_X8_seenLine, la, b3, c2, d2, rp_s4, g, kq, fl_lt, fl_c2, fl_c3, fl_c4, fl_c5, fl_c6, fl_c7, fl_c8, fl_c9, fl_c10, reduceIte, Int.reduceEq]
    · have g0 : ∀ i : Nat, i ≠ 6 → i ≠ 36 + 2 * sc.toNat → i ≠ 37 + 2 * sc.toNat → (fl_up (fl_up (fl_up fr (36 + 2 * sc.toNat) wh1) (37 + 2 * sc.toNat) wh3) 6 (fr 6 + 1)) i = fr i := fun i i1 i2 i3 => by
        rw [rp_up_ne _ _ i1, rp_up_ne _ _ i3, rp_up_ne _ _ i2]
      refine ⟨?_, rp_Df_cg hf (fun i hi => g0 i (by omega) (by omega) (by omega)), rp_Dw_cg hw' (fun i hi => g0 i (by omega) (by omega) (by omega)), ⟨?_, by omega, by omega, ?_⟩, rp_Dn_cg hn (fun i hi => g0 i (by omega) (by omega) (by omega))⟩
      · obtain ⟨⟨k1, k2, k3, k4⟩, k5, k6, k7⟩ := hh
        unfold rp_Dh
        rw [g0 0 (by omega) (by omega) (by omega), g0 1 (by omega) (by omega) (by omega), g0 2 (by omega) (by omega) (by omega), g0 3 (by omega) (by omega) (by omega), g0 4 (by omega) (by omega) (by omega), g0 5 (by omega) (by omega) (by omega), g0 7 (by omega) (by omega) (by omega), g0 8 (by omega) (by omega) (by omega), g0 9 (by omega) (by omega) (by omega), g0 10 (by omega) (by omega) (by omega), g0 11 (by omega) (by omega) (by omega), rp_up_eq]
        exact ⟨⟨k1, k2, fun h => absurd h hT11, k4⟩, k5, k6, k7⟩
      · rw [rp_up_eq]; omega
      · intro i hi
        by_cases q : i = sc.toNat
        · subst q
          rw [rp_up_eq, rp_up_eq]
          constructor
          · rw [rp_up_ne _ _ (by omega), rp_up_ne _ _ (by omega), rp_up_eq]
          · rw [rp_up_ne _ _ (by omega), rp_up_eq]
        · rw [rp_up_ne _ _ q, rp_up_ne _ _ q, g0 _ (by omega) (by omega) (by omega), g0 _ (by omega) (by omega) (by omega)]
          exact s4 i (by omega)
end PUI
