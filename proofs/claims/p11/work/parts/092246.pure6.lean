section PUF

def rp_fc {A : Type} (t : Int × Int × Int × A) (q p : Int) : Prop := t.1 = 0 ∧ t.2.1 = q ∧ t.2.2.1 = p
def rp_fm {A : Type} (t : Int × Int × Int × Int × Int × Int × Int × Int × A) (q p : Int) : Prop := t.2.2.2.2.2.1 = q ∧ t.2.2.2.2.2.2.1 = p ∧ t.2.2.2.2.2.2.2.1 = 1
theorem rp_up_eq (f : Nat → Int) (i : Nat) (v : Int) : fl_up f i v i = v := if_pos rfl
theorem rp_up_ne (f : Nat → Int) {i k : Nat} (v : Int) (h : k ≠ i) : fl_up f i v k = f k := if_neg h
/-- gallery: readHall and galleryLine -/
theorem rp_hall {tp tm : Nat → Int} {e st be tk wd wh at_ en tk2 wm ns : Int} {lt fr : Nat → Int} (hT : rp_T tp tm e) (he : e ≤ 900) (hK : rp_K e st be tk wd wh at_ en tk2 wm ns lt) (hbe : be = en) (h11 : fr 11 = 0) (fn fp ta fg sp sa sh fa pl : Int) :
    (∃ v1 v2 v3 v4 st1 be1 tk1 wd1 wh1 at1 en1 tk3 wm1 ns1 lt1, Ff_X3_readHall fn fp e be wd wh ta tp fg sp sa sh = (1, fn, fp, st1, be1, tk1, wd1, wh1, v4, v1, v2, v3, v4) ∧ FfG_X8_galleryLine e at_ en tk2 wm ns fa pl fr tm lt = (at1, en1, tk3, wm1, ns1, fa, pl, 0, fl_up (fl_up (fl_up (fl_up (fl_up fr 0 v1) 1 v2) 2 v3) 3 v4) 11 1, lt1) ∧ rp_K e st1 be1 tk1 wd1 wh1 at1 en1 tk3 wm1 ns1 lt1 ∧ be ≤ st1 ∧ 2 ≤ v1 ∧ v1 ≤ 9 ∧ 1 ≤ v2 ∧ v2 ≤ 20 ∧ 0 ≤ v3 ∧ v3 ≤ v1 - 1 ∧ 0 ≤ v4 ∧ v4 ≤ 100) ∨
    (∃ q p, rp_fc (Ff_X3_readHall fn fp e be wd wh ta tp fg sp sa sh) q p ∧ rp_fm (FfG_X8_galleryLine e at_ en tk2 wm ns fa pl fr tm lt) q p) := by
  have hb0 : 0 ≤ be := hK.2.2.2.1
  have hb1 : be ≤ e := hK.2.2.2.2.1
  have h11' : fr 11 ≤ 0 := by omega
  obtain ⟨st1, be1, tk1, wd1, wh1, at1, en1, tk3, wm1, ns1, lt1, a1, a2, a3, a4⟩ := rp_adv hT he be wd wh lt hb0 hb1
  rw [hbe] at a2
  rcases rp_tw hT he a3 (nn := 7) (by decide) (by decide) rp_sw_figures 2 9 fn fp ta fa pl with ⟨v1, st2, be2, tk4, wd2, wh2, at2, en2, tk5, wm2, ns2, lt2, b1, b2, b3, b4, b5, b6, b7, b8, b9⟩ | ⟨q, p, st2, be2, tk4, wd2, wh2, ta2, at2, en2, tk5, wm2, ns2, lt2, b1, b2⟩
  rotate_left
  · refine Or.inr ⟨q, p, ?_, ?_⟩
    · simp only [Ff_X3_readHall, a1, b1, fl_lt, fl_c2, fl_c3, fl_c4, fl_c5, fl_c6, fl_c7, fl_c8, fl_c9, fl_c10, reduceIte, Int.reduceEq]; exact ⟨rfl, rfl, rfl⟩
    · simp only [FfG_X8_galleryLine, if_pos h11', a2, b2, fl_lt, fl_c2, fl_c3, fl_c4, fl_c5, fl_c6, fl_c7, fl_c8, fl_c9, fl_c10, reduceIte, Int.reduceEq]; exact ⟨rfl, rfl, rfl⟩
  rcases rp_tw hT he b3 (nn := 4) (by decide) (by decide) rp_sw_span 1 20 fn fp v1 fa pl with ⟨v2, st3, be3, tk6, wd3, wh3, at3, en3, tk7, wm3, ns3, lt3, c1, c2, c3, c4, c5, c6, c7, c8, c9⟩ | ⟨q, p, st3, be3, tk6, wd3, wh3, ta3, at3, en3, tk7, wm3, ns3, lt3, c1, c2⟩
  rotate_left
  · refine Or.inr ⟨q, p, ?_, ?_⟩
    · simp only [Ff_X3_readHall, a1, b1, c1, fl_lt, fl_c2, fl_c3, fl_c4, fl_c5, fl_c6, fl_c7, fl_c8, fl_c9, fl_c10, reduceIte, Int.reduceEq]; exact ⟨rfl, rfl, rfl⟩
    · simp only [FfG_X8_galleryLine, if_pos h11', a2, b2, c2, fl_lt, fl_c2, fl_c3, fl_c4, fl_c5, fl_c6, fl_c7, fl_c8, fl_c9, fl_c10, reduceIte, Int.reduceEq]; exact ⟨rfl, rfl, rfl⟩
  rcases rp_tw hT he c3 (nn := 6) (by decide) (by decide) rp_sw_stairs 0 (v1 - 1) fn fp v2 fa pl with ⟨v3, st4, be4, tk8, wd4, wh4, at4, en4, tk9, wm4, ns4, lt4, d1, d2, d3, d4, d5, d6, d7, d8, d9⟩ | ⟨q, p, st4, be4, tk8, wd4, wh4, ta4, at4, en4, tk9, wm4, ns4, lt4, d1, d2⟩
  rotate_left
  · refine Or.inr ⟨q, p, ?_, ?_⟩
    · simp only [Ff_X3_readHall, a1, b1, c1, d1, fl_lt, fl_c2, fl_c3, fl_c4, fl_c5, fl_c6, fl_c7, fl_c8, fl_c9, fl_c10, reduceIte, Int.reduceEq]; exact ⟨rfl, rfl, rfl⟩
    · simp only [FfG_X8_galleryLine, if_pos h11', a2, b2, c2, d2, fl_lt, fl_c2, fl_c3, fl_c4, fl_c5, fl_c6, fl_c7, fl_c8, fl_c9, fl_c10, reduceIte, Int.reduceEq]; exact ⟨rfl, rfl, rfl⟩
  rcases rp_tw hT he d3 (nn := 4) (by decide) (by decide) rp_sw_shut 0 100 fn fp v3 fa pl with ⟨v4, st5, be5, tk10, wd5, wh5, at5, en5, tk11, wm5, ns5, lt5, f1, f2, f3, f4, f5, f6, f7, f8, f9⟩ | ⟨q, p, st5, be5, tk10, wd5, wh5, ta5, at5, en5, tk11, wm5, ns5, lt5, f1, f2⟩
  rotate_left
  · refine Or.inr ⟨q, p, ?_, ?_⟩
    · simp only [Ff_X3_readHall, a1, b1, c1, d1, f1, fl_lt, fl_c2, fl_c3, fl_c4, fl_c5, fl_c6, fl_c7, fl_c8, fl_c9, fl_c10, reduceIte, Int.reduceEq]; exact ⟨rfl, rfl, rfl⟩
    · simp only [FfG_X8_galleryLine, if_pos h11', a2, b2, c2, d2, f2, fl_lt, fl_c2, fl_c3, fl_c4, fl_c5, fl_c6, fl_c7, fl_c8, fl_c9, fl_c10, reduceIte, Int.reduceEq]; exact ⟨rfl, rfl, rfl⟩
  refine Or.inl ⟨v1, v2, v3, v4, st5, be5, tk10, wd5, wh5, at5, en5, tk11, wm5, ns5, lt5, ?_, ?_, f3, by omega, b6, b7, c6, c7, d6, d7, f6, f7⟩
  · simp only [Ff_X3_readHall, a1, b1, c1, d1, f1, fl_lt, fl_c2, fl_c3, fl_c4, fl_c5, fl_c6, fl_c7, fl_c8, fl_c9, fl_c10, reduceIte, Int.reduceEq]
  · simp only [FfG_X8_galleryLine, if_pos h11', a2, b2, c2, d2, f2, fl_lt, fl_c2, fl_c3, fl_c4, fl_c5, fl_c6, fl_c7, fl_c8, fl_c9, fl_c10, reduceIte, Int.reduceEq]
/-- law: readLaw and lawLine -/
theorem rp_law {tp tm : Nat → Int} {e st be tk wd wh at_ en tk2 wm ns : Int} {lt fr : Nat → Int} (hT : rp_T tp tm e) (he : e ≤ 900) (hK : rp_K e st be tk wd wh at_ en tk2 wm ns lt) (hbe : be = en) (h10 : fr 10 = 0) (h11 : fr 11 = 1) (fn fp ta fg lw ti pu fi fa pl : Int) (hfg : fg = fr 0) :
    (∃ v1 v2 v3 st1 be1 tk1 wd1 wh1 at1 en1 tk3 wm1 ns1 lt1, Ff_X3_readLaw fn fp e be wd wh ta tp fg lw ti pu fi = (1, fn, fp, st1, be1, tk1, wd1, wh1, v3, 1, v1, v2, v3) ∧ FfG_X8_lawLine e at_ en tk2 wm ns fa pl fr tm lt = (at1, en1, tk3, wm1, ns1, fa, pl, 0, fl_up (fl_up (fl_up (fl_up fr 7 v1) 8 v2) 9 v3) 10 1, lt1) ∧ rp_K e st1 be1 tk1 wd1 wh1 at1 en1 tk3 wm1 ns1 lt1 ∧ be ≤ st1 ∧ 0 ≤ v1 ∧ v1 ≤ fg - 1 ∧ 0 ≤ v2 ∧ v2 ≤ fg - 1 ∧ 0 ≤ v3 ∧ v3 ≤ fg - 1) ∨
    (∃ q p, rp_fc (Ff_X3_readLaw fn fp e be wd wh ta tp fg lw ti pu fi) q p ∧ rp_fm (FfG_X8_lawLine e at_ en tk2 wm ns fa pl fr tm lt) q p) := by
  have hb0 : 0 ≤ be := hK.2.2.2.1
  have hb1 : be ≤ e := hK.2.2.2.2.1
  have h10' : fr 10 ≤ 0 := by omega
  have h11' : ¬ fr 11 = 0 := by omega
  have la : Ff_X8_last fr = fg - 1 := by rw [hfg]; rfl
  have lb : ∀ v, Ff_X8_last (fl_up fr 7 v) = fg - 1 := fun v => by rw [hfg]; rfl
  have lc : ∀ v w, Ff_X8_last (fl_up (fl_up fr 7 v) 8 w) = fg - 1 := fun v w => by rw [hfg]; rfl
  obtain ⟨st1, be1, tk1, wd1, wh1, at1, en1, tk3, wm1, ns1, lt1, a1, a2, a3, a4⟩ := rp_adv hT he be wd wh lt hb0 hb1
  rw [hbe] at a2
  rcases rp_tw hT he a3 (nn := 5) (by decide) (by decide) rp_sw_times 0 (fg - 1) fn fp ta fa pl with ⟨v1, st2, be2, tk4, wd2, wh2, at2, en2, tk5, wm2, ns2, lt2, b1, b2, b3, b4, b5, b6, b7, b8, b9⟩ | ⟨q, p, st2, be2, tk4, wd2, wh2, ta2, at2, en2, tk5, wm2, ns2, lt2, b1, b2⟩
  rotate_left
  · refine Or.inr ⟨q, p, ?_, ?_⟩
    · simp only [Ff_X3_readLaw, a1, b1, fl_lt, fl_c2, fl_c3, fl_c4, fl_c5, fl_c6, fl_c7, fl_c8, fl_c9, fl_c10, reduceIte, Int.reduceEq]; exact ⟨rfl, rfl, rfl⟩
    · simp only [FfG_X8_lawLine, if_pos h10', if_neg h11', a2, la, b2, fl_lt, fl_c2, fl_c3, fl_c4, fl_c5, fl_c6, fl_c7, fl_c8, fl_c9, fl_c10, reduceIte, Int.reduceEq]; exact ⟨rfl, rfl, rfl⟩
  rcases rp_tw hT he b3 (nn := 4) (by decide) (by decide) rp_sw_plus 0 (fg - 1) fn fp v1 fa pl with ⟨v2, st3, be3, tk6, wd3, wh3, at3, en3, tk7, wm3, ns3, lt3, c1, c2, c3, c4, c5, c6, c7, c8, c9⟩ | ⟨q, p, st3, be3, tk6, wd3, wh3, ta3, at3, en3, tk7, wm3, ns3, lt3, c1, c2⟩
  rotate_left
  · refine Or.inr ⟨q, p, ?_, ?_⟩
    · simp only [Ff_X3_readLaw, a1, b1, c1, fl_lt, fl_c2, fl_c3, fl_c4, fl_c5, fl_c6, fl_c7, fl_c8, fl_c9, fl_c10, reduceIte, Int.reduceEq]; exact ⟨rfl, rfl, rfl⟩
    · simp only [FfG_X8_lawLine, if_pos h10', if_neg h11', a2, la, b2, lb, c2, fl_lt, fl_c2, fl_c3, fl_c4, fl_c5, fl_c6, fl_c7, fl_c8, fl_c9, fl_c10, reduceIte, Int.reduceEq]; exact ⟨rfl, rfl, rfl⟩
  rcases rp_tw hT he c3 (nn := 5) (by decide) (by decide) rp_sw_first 0 (fg - 1) fn fp v2 fa pl with ⟨v3, st4, be4, tk8, wd4, wh4, at4, en4, tk9, wm4, ns4, lt4, d1, d2, d3, d4, d5, d6, d7, d8, d9⟩ | ⟨q, p, st4, be4, tk8, wd4, wh4, ta4, at4, en4, tk9, wm4, ns4, lt4, d1, d2⟩
  rotate_left
  · refine Or.inr ⟨q, p, ?_, ?_⟩
    · simp only [Ff_X3_readLaw, a1, b1, c1, d1, fl_lt, fl_c2, fl_c3, fl_c4, fl_c5, fl_c6, fl_c7, fl_c8, fl_c9, fl_c10, reduceIte, Int.reduceEq]; exact ⟨rfl, rfl, rfl⟩
    · simp only [FfG_X8_lawLine, if_pos h10', if_neg h11', a2, la, b2, lb, c2, lc, d2, fl_lt, fl_c2, fl_c3, fl_c4, fl_c5, fl_c6, fl_c7, fl_c8, fl_c9, fl_c10, reduceIte, Int.reduceEq]; exact ⟨rfl, rfl, rfl⟩
  refine Or.inl ⟨v1, v2, v3, st4, be4, tk8, wd4, wh4, at4, en4, tk9, wm4, ns4, lt4, ?_, ?_, d3, by omega, b6, b7, c6, c7, d6, d7⟩
  · simp only [Ff_X3_readLaw, a1, b1, c1, d1, fl_lt, fl_c2, fl_c3, fl_c4, fl_c5, fl_c6, fl_c7, fl_c8, fl_c9, fl_c10, reduceIte, Int.reduceEq]
  · simp only [FfG_X8_lawLine, if_pos h10', if_neg h11', a2, la, b2, lb, c2, lc, d2, fl_lt, fl_c2, fl_c3, fl_c4, fl_c5, fl_c6, fl_c7, fl_c8, fl_c9, fl_c10, reduceIte, Int.reduceEq]
end PUF
