section PUD
/-- a given WORD: takeWord and must -/
theorem rp_tkw {tp tm : Nat → Int} {e st be tk wd wh at_ en tk2 wm ns nn : Int} {lt cs cs' : Nat → Int} (hT : rp_T tp tm e) (he : e ≤ 900) (hK : rp_K e st be tk wd wh at_ en tk2 wm ns lt) (hn0 : 0 ≤ nn) (hn : nn ≤ 8) (hd : ∀ k : Nat, k < 8 → (k : Int) < nn → 97 ≤ cs k ∧ cs k ≤ 122 ∧ cs' k = cs k) (fn fp fa pl : Int) :
    (∃ st1 be1 tk1 wd1 wh1 at1 en1 tk3 wm1 ns1 lt1, Ff_X3_takeWord fn fp e st be tk wd wh tp nn cs = (1, fn, fp, st1, be1, tk1, wd1, wh1) ∧ FfG_X8_must e at_ en tk2 wm ns fa pl lt tm nn cs' = (at1, en1, tk3, wm1, ns1, fa, pl, 0, lt1) ∧ rp_K e st1 be1 tk1 wd1 wh1 at1 en1 tk3 wm1 ns1 lt1 ∧ be ≤ st1 ∧ st < be) ∨
    (Ff_X3_takeWord fn fp e st be tk wd wh tp nn cs = (0, 1, st, st, be, tk, wd, wh) ∧ FfG_X8_must e at_ en tk2 wm ns fa pl lt tm nn cs' = (at_, en, tk2, wm, ns, 1, st, 1, lt)) := by
  have hst : st = at_ := hK.1
  have hb0 : 0 ≤ be := hK.2.2.2.1
  have hb1 : be ≤ e := hK.2.2.2.2.1
  rcases rp_isw hK hn0 hn hd with ⟨w1, w2⟩ | ⟨w1, w2, -, -, hbe, hlt⟩
  · refine Or.inr ⟨?_, ?_⟩
    · simp only [Ff_X3_takeWord, fl_lt, w1, reduceIte, Int.reduceEq]; rfl
    · simp only [FfG_X8_must, FfG_X8_takesWord, fl_lt, w2, reduceIte, Int.reduceEq, fl_c7]; rw [hst]; rfl
  · obtain ⟨st1, be1, tk1, wd1, wh1, at1, en1, tk3, wm1, ns1, lt1, a1, a2, a3, a4⟩ := rp_adv hT he be wd wh lt hb0 hb1
    rw [hbe] at a2
    refine Or.inl ⟨st1, be1, tk1, wd1, wh1, at1, en1, tk3, wm1, ns1, lt1, ?_, ?_, a3, a4, hlt⟩
    · simp only [Ff_X3_takeWord, fl_lt, w1, reduceIte, a1, fl_c5]
    · simp only [FfG_X8_must, FfG_X8_takesWord, fl_lt, w2, reduceIte, Int.reduceEq, a2, fl_c6, fl_c7]
/-- a WHOLE: within bounds, and on: isWholeWithin, advance, and number -/
theorem rp_num {tp tm : Nat → Int} {e st be tk wd wh at_ en tk2 wm ns : Int} {lt : Nat → Int} (hT : rp_T tp tm e) (he : e ≤ 900) (hK : rp_K e st be tk wd wh at_ en tk2 wm ns lt) (lo hi fn fp fa pl : Int) :
    (∃ st1 be1 tk1 wd1 wh1 at1 en1 tk3 wm1 ns1 lt1, Ff_X3_isWholeWithin lo hi fn fp st tk wh = (1, fn, fp) ∧ Ff_X3_advance e be wd wh tp = (st1, be1, tk1, wd1, wh1) ∧ FfG_X8_number lo hi e at_ en tk2 wm ns fa pl tm lt = (wh, at1, en1, tk3, wm1, ns1, fa, pl, 0, lt1) ∧ rp_K e st1 be1 tk1 wd1 wh1 at1 en1 tk3 wm1 ns1 lt1 ∧ be ≤ st1 ∧ st < be ∧ lo ≤ wh ∧ wh ≤ hi ∧ 0 ≤ wh ∧ wh ≤ 999) ∨
    (∃ q, Ff_X3_isWholeWithin lo hi fn fp st tk wh = (0, q, st) ∧ FfG_X8_number lo hi e at_ en tk2 wm ns fa pl tm lt = (lo, at_, en, tk2, wm, ns, q, st, 1, lt)) := by
  have hb0 : 0 ≤ be := hK.2.2.2.1
  have hb1 : be ≤ e := hK.2.2.2.2.1
  rcases rp_iww hK lo hi fn fp fa pl with ⟨w1, w2, -, w4, w5, w6, hbe, hlt, w7, w8⟩ | ⟨q, w1, w2⟩
  · obtain ⟨st1, be1, tk1, wd1, wh1, at1, en1, tk3, wm1, ns1, lt1, a1, a2, a3, a4⟩ := rp_adv hT he be wd wh lt hb0 hb1
    rw [hbe] at a2
    refine Or.inl ⟨st1, be1, tk1, wd1, wh1, at1, en1, tk3, wm1, ns1, lt1, w1, a1, ?_, a3, a4, hlt, w5, w6, w7, w8⟩
    simp only [FfG_X8_number, FfG_X8_pass, w2, a2, fl_c4, fl_c6, reduceIte, Int.reduceEq]
  · refine Or.inr ⟨q, w1, ?_⟩
    simp only [FfG_X8_number, w2, fl_c4, reduceIte]
/-- a WORD and the WHOLE behind it: takeWhole and after -/
theorem rp_tw {tp tm : Nat → Int} {e st be tk wd wh at_ en tk2 wm ns nn : Int} {lt cs cs' : Nat → Int} (hT : rp_T tp tm e) (he : e ≤ 900) (hK : rp_K e st be tk wd wh at_ en tk2 wm ns lt) (hn0 : 0 ≤ nn) (hn : nn ≤ 8) (hd : ∀ k : Nat, k < 8 → (k : Int) < nn → 97 ≤ cs k ∧ cs k ≤ 122 ∧ cs' k = cs k) (lo hi fn fp ta fa pl : Int) :
    (∃ v st1 be1 tk1 wd1 wh1 at1 en1 tk3 wm1 ns1 lt1, Ff_X3_takeWhole lo hi fn fp e st be tk wd wh ta tp nn cs = (1, fn, fp, st1, be1, tk1, wd1, wh1, v) ∧ FfG_X8_after lo hi e at_ en tk2 wm ns fa pl lt tm nn cs' = (v, at1, en1, tk3, wm1, ns1, fa, pl, 0, lt1) ∧ rp_K e st1 be1 tk1 wd1 wh1 at1 en1 tk3 wm1 ns1 lt1 ∧ be ≤ st1 ∧ st < be ∧ lo ≤ v ∧ v ≤ hi ∧ 0 ≤ v ∧ v ≤ 999) ∨
    (∃ q fp1 st1 be1 tk1 wd1 wh1 ta1 at1 en1 tk3 wm1 ns1 lt1, Ff_X3_takeWhole lo hi fn fp e st be tk wd wh ta tp nn cs = (0, q, fp1, st1, be1, tk1, wd1, wh1, ta1) ∧ FfG_X8_after lo hi e at_ en tk2 wm ns fa pl lt tm nn cs' = (lo, at1, en1, tk3, wm1, ns1, q, fp1, 1, lt1)) := by
  have hst : st = at_ := hK.1
  have hb0 : 0 ≤ be := hK.2.2.2.1
  have hb1 : be ≤ e := hK.2.2.2.2.1
  rcases rp_isw hK hn0 hn hd with ⟨w1, w2⟩ | ⟨w1, w2, -, -, hbe, hlt⟩
  · refine Or.inr ⟨1, st, st, be, tk, wd, wh, ta, at_, en, tk2, wm, ns, lt, ?_, ?_⟩
    · simp only [Ff_X3_takeWhole, fl_lt, w1, reduceIte, Int.reduceEq]; rfl
    · simp only [FfG_X8_after, FfG_X8_must, FfG_X8_takesWord, fl_lt, w2, reduceIte, Int.reduceEq, fl_c7]; rw [hst]; rfl
  · obtain ⟨st1, be1, tk1, wd1, wh1, at1, en1, tk3, wm1, ns1, lt1, a1, a2, a3, a4⟩ := rp_adv hT he be wd wh lt hb0 hb1
    rw [hbe] at a2
    have em : FfG_X8_must e at_ en tk2 wm ns fa pl lt tm nn cs' = (at1, en1, tk3, wm1, ns1, fa, pl, 0, lt1) := by
      simp only [FfG_X8_must, FfG_X8_takesWord, fl_lt, w2, reduceIte, Int.reduceEq, a2, fl_c6, fl_c7]
    rcases rp_num hT he a3 lo hi fn fp fa pl with ⟨st2, be2, tk4, wd2, wh2, at2, en2, tk5, wm2, ns2, lt2, b1, b2, b3, b4, b5, b6, b7, b8, b9, b10⟩ | ⟨q, b1, b2⟩
    · refine Or.inl ⟨wh1, st2, be2, tk4, wd2, wh2, at2, en2, tk5, wm2, ns2, lt2, ?_, ?_, b4, by omega, hlt, b7, b8, b9, b10⟩
      · simp only [Ff_X3_takeWhole, fl_lt, w1, reduceIte, a1, fl_c5, b1, fl_c3, b2]
      · simp only [FfG_X8_after, em, fl_c9, b3, fl_c10, reduceIte, Int.reduceEq]
    · refine Or.inr ⟨q, st1, st1, be1, tk1, wd1, wh1, ta, at1, en1, tk3, wm1, ns1, lt1, ?_, ?_⟩
      · simp only [Ff_X3_takeWhole, fl_lt, w1, reduceIte, a1, fl_c5, b1, fl_c3, Int.reduceEq]
      · simp only [FfG_X8_after, em, fl_c9, b2, fl_c10, reduceIte, Int.reduceEq]
end PUD
