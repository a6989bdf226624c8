section P092244_pure4
section PUD
/-- a given WORD: takeWord and must -/
theorem rp_tkw {tp tm : Nat → Int} {e st be tk wd wh at_ en tk2 wm ns nn : Int} {lt cs cs' : Nat → Int} (hT : rp_T tp tm e) (he : e ≤ 900) (hK : rp_K e st be tk wd wh at_ en tk2 wm ns lt) (hn0 : 0 ≤ nn) (hn : nn ≤ 8) (hd : ∀ k : Nat, k < 8 → (k : Int) < nn → 97 ≤ cs k ∧ cs k ≤ 122 ∧ cs' k = cs k) (fn fp fa pl : Int) :
    (∃ st1 be1 tk1 wd1 wh1 at1 en1 tk3 wm1 ns1 lt1, Ff_X3_takeWord fn fp e st be tk wd wh tp nn cs = (1, fn, fp, st1, be1, tk1, wd1, wh1) ∧ FfG_X8_must e at_ en tk2 wm ns fa pl lt tm nn cs' = (at1, en1, tk3, wm1, ns1, fa, pl, 0, lt1) ∧ rp_K e st1 be1 tk1 wd1 wh1 at1 en1 tk3 wm1 ns1 lt1 ∧ be ≤ st1 ∧ st < be) ∨
    (Ff_X3_takeWord fn fp e st be tk wd wh tp nn cs = (0, 1, st, st, be, tk, wd, wh) ∧ FfG_X8_must e at_ en tk2 wm ns fa pl lt tm nn cs' = (at_, en, tk2, wm, ns, 1, st, 1, lt)) := by
  have hst : st = at_ := hK.1
  have hb0 : 0 ≤ be := hK.2.2.2.1
  have hb1 : be ≤ e := hK.2.2.2.2.1
  rcases rp_isw hK hn0 hn hd with ⟨w1, w2⟩ | ⟨w1, w2, -, -, hbe, hlt⟩
  · refine Or.inr ⟨?_, ?_⟩
    · simp only [Ff_X3_takeWord, fl_lt, w1, reduceIte, Int.reduceEq]; rfl
    · simp only [FfG_X8_must, FfG_X8_takesWord, fl_lt, w2, reduceIte, Int.reduceEq, fl_c7]; rw [hst]; rfl
  · obtain ⟨st1, be1, tk1, wd1, wh1, at1, en1, tk3, wm1, ns1, lt1, a1, a2, a3, a4⟩ := rp_adv hT he be wd wh lt hb0 hb1
    rw [hbe] at a2
    refine Or.inl ⟨st1, be1, tk1, wd1, wh1, at1, en1, tk3, wm1, ns1, lt1, ?_, ?_, a3, a4, hlt⟩
    · simp only [Ff_X3_takeWord, fl_lt, w1, reduceIte, a1, fl_c5]
    · simp only [FfG_X8_must, FfG_X8_takesWord, fl_lt, w2, reduceIte, Int.reduceEq, a2, fl_c6, fl_c7]
/-- a WHOLE: within bounds, and on: isWholeWithin, advance, and number -/
theorem rp_num {tp tm : Nat → Int} {e st be tk wd wh at_ en tk2 wm ns : Int} {lt : Nat → Int} (hT : rp_T tp tm e) (he : e ≤ 900) (hK : rp_K e st be tk wd wh at_ en tk2 wm ns lt) (lo hi fn fp fa pl : Int) :
    (∃ st1 be1 tk1 wd1 wh1 at1 en1 tk3 wm1 ns1 lt1, Ff_X3_isWholeWithin lo hi fn fp st tk wh = (1, fn, fp) ∧ Ff_X3_advance e be wd wh tp = (st1, be1, tk1, wd1, wh1) ∧ FfG_X8_number lo hi e at_ en tk2 wm ns fa pl tm lt = (wh, at1, en1, tk3, wm1, ns1, fa, pl, 0, lt1) ∧ rp_K e st1 be1 tk1 wd1 wh1 at1 en1 tk3 wm1 ns1 lt1 ∧ be ≤ st1 ∧ st < be ∧ lo ≤ wh ∧ wh ≤ hi ∧ 0 ≤ wh ∧ wh ≤ 999) ∨
    (∃ q, Ff_X3_isWholeWithin lo hi fn fp st tk wh = (0, q, st) ∧ FfG_X8_number lo hi e at_ en tk2 wm ns fa pl tm lt = (lo, at_, en, tk2, wm, ns, q, st, 1, lt)) := by
  have hb0 : 0 ≤ be := hK.2.2.2.1
  have hb1 : be ≤ e := hK.2.2.2.2.1
  rcases rp_iww hK lo hi fn fp fa pl with ⟨w1, w2, -, w4, w5, w6, hbe, hlt, w7, w8⟩ | ⟨q, w1, w2⟩
  · obtain ⟨st1, be1, tk1, wd1, wh1, at1, en1, tk3, wm1, ns1, lt1, a1, a2, a3, a4⟩ := rp_adv hT he be wd wh lt hb0 hb1
    rw [hbe] at a2
    refine Or.inl ⟨st1, be1, tk1, wd1, wh1, at1, en1, tk3, wm1, ns1, lt1, w1, a1, ?_, a3, a4, hlt, w5, w6, w7, w8⟩
    simp only [FfG_X8_number, FfG_X8_pass, w2, a2, fl_c4, fl_c6, reduceIte, Int.reduceEq]
  · refine Or.inr ⟨q, w1, ?_⟩
    simp only [FfG_X8_number, w2, fl_c4, reduceIte]
/-- a WORD and the WHOLE behind it: takeWhole and after -/
theorem rp_tw {tp tm : Nat → Int} {e st be tk wd wh at_ en tk2 wm ns nn : Int} {lt cs cs' : Nat → Int} (hT : rp_T tp tm e) (he : e ≤ 900) (hK : rp_K e st be tk wd wh at_ en tk2 wm ns lt) (hn0 : 0 ≤ nn) (hn : nn ≤ 8) (hd : ∀ k : Nat, k < 8 → (k : Int) < nn → 97 ≤ cs k ∧ cs k ≤ 122 ∧ cs' k = cs k) (lo hi fn fp ta fa pl : Int) :
    (∃ v st1 be1 tk1 wd1 wh1 at1 en1 tk3 wm1 ns1 lt1, Ff_X3_takeWhole lo hi fn fp e st be tk wd wh ta tp nn cs = (1, fn, fp, st1, be1, tk1, wd1, wh1, v) ∧ FfG_X8_after lo hi e at_ en tk2 wm ns fa pl lt tm nn cs' = (v, at1, en1, tk3, wm1, ns1, fa, pl, 0, lt1) ∧ rp_K e st1 be1 tk1 wd1 wh1 at1 en1 tk3 wm1 ns1 lt1 ∧ be ≤ st1 ∧ st < be ∧ lo ≤ v ∧ v ≤ hi ∧ 0 ≤ v ∧ v ≤ 999) ∨
    (∃ q fp1 st1 be1 tk1 wd1 wh1 ta1 at1 en1 tk3 wm1 ns1 lt1, Ff_X3_takeWhole lo hi fn fp e st be tk wd wh ta tp nn cs = (0, q, fp1, st1, be1, tk1, wd1, wh1, ta1) ∧ FfG_X8_after lo hi e at_ en tk2 wm ns fa pl lt tm nn cs' = (lo, at1, en1, tk3, wm1, ns1, q, fp1, 1, lt1)) := by
  have hst : st = at_ := hK.1
  have hb0 : 0 ≤ be := hK.2.2.2.1
  have hb1 : be ≤ e := hK.2.2.2.2.1
  rcases rp_isw hK hn0 hn hd with ⟨w1, w2⟩ | ⟨w1, w2, -, -, hbe, hlt⟩
  · refine Or.inr ⟨1, st, st, be, tk, wd, wh, ta, at_, en, tk2, wm, ns, lt, ?_, ?_⟩
    · simp only [Ff_X3_takeWhole, fl_lt, w1, reduceIte, Int.reduceEq]; rfl
    · simp only [FfG_X8_after, FfG_X8_must, FfG_X8_takesWord, fl_lt, w2, reduceIte, Int.reduceEq, fl_c7]; rw [hst]; rfl
  · obtain ⟨st1, be1, tk1, wd1, wh1, at1, en1, tk3, wm1, ns1, lt1, a1, a2, a3, a4⟩ := rp_adv hT he be wd wh lt hb0 hb1
    rw [hbe] at a2
    have em : FfG_X8_must e at_ en tk2 wm ns fa pl lt tm nn cs' = (at1, en1, tk3, wm1, ns1, fa, pl, 0, lt1) := by
      simp only [FfG_X8_must, FfG_X8_takesWord, fl_lt, w2, reduceIte, Int.reduceEq, a2, fl_c6, fl_c7]
    rcases rp_num hT he a3 lo hi fn fp fa pl with ⟨st2, be2, tk4, wd2, wh2, at2, en2, tk5, wm2, ns2, lt2, b1, b2, b3, b4, b5, b6, b7, b8, b9, b10⟩ | ⟨q, b1, b2⟩
    · refine Or.inl ⟨wh1, st2, be2, tk4, wd2, wh2, at2, en2, tk5, wm2, ns2, lt2, ?_, ?_, b4, by omega, hlt, b7, b8, b9, b10⟩
      · simp only [Ff_X3_takeWhole, fl_lt, w1, reduceIte, a1, fl_c5, b1, fl_c3, b2]
      · simp only [FfG_X8_after, em, fl_c9, b3, fl_c10, reduceIte, Int.reduceEq]
    · refine Or.inr ⟨q, st1, st1, be1, tk1, wd1, wh1, ta, at1, en1, tk3, wm1, ns1, lt1, ?_, ?_⟩
      · simp only [Ff_X3_takeWhole, fl_lt, w1, reduceIte, a1, fl_c5, b1, fl_c3, Int.reduceEq]
      · simp only [FfG_X8_after, em, fl_c9, b2, fl_c10, reduceIte, Int.reduceEq]
end PUD
end P092244_pure4
section P092245_pure5
section PUE
theorem rp_sw_gallery : ∀ k : Nat, k < 8 → (k : Int) < 7 → 97 ≤ (fl_A (sxc 0)) k ∧ (fl_A (sxc 0)) k ≤ 122 ∧ (fl_A (sxc 18)) k = (fl_A (sxc 0)) k := by decide +kernel
theorem rp_sw_law : ∀ k : Nat, k < 8 → (k : Int) < 3 → 97 ≤ (fl_A (sxc 1)) k ∧ (fl_A (sxc 1)) k ≤ 122 ∧ (fl_A (sxc 19)) k = (fl_A (sxc 1)) k := by decide +kernel
theorem rp_sw_figure : ∀ k : Nat, k < 8 → (k : Int) < 6 → 97 ≤ (fl_A (sxc 2)) k ∧ (fl_A (sxc 2)) k ≤ 122 ∧ (fl_A (sxc 20)) k = (fl_A (sxc 2)) k := by decide +kernel
theorem rp_sw_watcher : ∀ k : Nat, k < 8 → (k : Int) < 7 → 97 ≤ (fl_A (sxc 3)) k ∧ (fl_A (sxc 3)) k ≤ 122 ∧ (fl_A (sxc 21)) k = (fl_A (sxc 3)) k := by decide +kernel
theorem rp_sw_seen : ∀ k : Nat, k < 8 → (k : Int) < 4 → 97 ≤ (fl_A (sxc 4)) k ∧ (fl_A (sxc 4)) k ≤ 122 ∧ (fl_A (sxc 22)) k = (fl_A (sxc 4)) k := by decide +kernel
theorem rp_sw_figures : ∀ k : Nat, k < 8 → (k : Int) < 7 → 97 ≤ (fl_A (sxc 5)) k ∧ (fl_A (sxc 5)) k ≤ 122 ∧ (fl_A (sxc 23)) k = (fl_A (sxc 5)) k := by decide +kernel
theorem rp_sw_span : ∀ k : Nat, k < 8 → (k : Int) < 4 → 97 ≤ (fl_A (sxc 6)) k ∧ (fl_A (sxc 6)) k ≤ 122 ∧ (fl_A (sxc 24)) k = (fl_A (sxc 6)) k := by decide +kernel
theorem rp_sw_stairs : ∀ k : Nat, k < 8 → (k : Int) < 6 → 97 ≤ (fl_A (sxc 7)) k ∧ (fl_A (sxc 7)) k ≤ 122 ∧ (fl_A (sxc 25)) k = (fl_A (sxc 7)) k := by decide +kernel
theorem rp_sw_shut : ∀ k : Nat, k < 8 → (k : Int) < 4 → 97 ≤ (fl_A (sxc 8)) k ∧ (fl_A (sxc 8)) k ≤ 122 ∧ (fl_A (sxc 26)) k = (fl_A (sxc 8)) k := by decide +kernel
theorem rp_sw_times : ∀ k : Nat, k < 8 → (k : Int) < 5 → 97 ≤ (fl_A (sxc 9)) k ∧ (fl_A (sxc 9)) k ≤ 122 ∧ (fl_A (sxc 27)) k = (fl_A (sxc 9)) k := by decide +kernel
theorem rp_sw_plus : ∀ k : Nat, k < 8 → (k : Int) < 4 → 97 ≤ (fl_A (sxc 10)) k ∧ (fl_A (sxc 10)) k ≤ 122 ∧ (fl_A (sxc 28)) k = (fl_A (sxc 10)) k := by decide +kernel
theorem rp_sw_first : ∀ k : Nat, k < 8 → (k : Int) < 5 → 97 ≤ (fl_A (sxc 11)) k ∧ (fl_A (sxc 11)) k ≤ 122 ∧ (fl_A (sxc 29)) k = (fl_A (sxc 11)) k := by decide +kernel
theorem rp_sw_is : ∀ k : Nat, k < 8 → (k : Int) < 2 → 97 ≤ (fl_A (sxc 12)) k ∧ (fl_A (sxc 12)) k ≤ 122 ∧ (fl_A (sxc 30)) k = (fl_A (sxc 12)) k := by decide +kernel
theorem rp_sw_walks : ∀ k : Nat, k < 8 → (k : Int) < 5 → 97 ≤ (fl_A (sxc 13)) k ∧ (fl_A (sxc 13)) k ≤ 122 ∧ (fl_A (sxc 31)) k = (fl_A (sxc 13)) k := by decide +kernel
theorem rp_sw_speaks : ∀ k : Nat, k < 8 → (k : Int) < 6 → 97 ≤ (fl_A (sxc 14)) k ∧ (fl_A (sxc 14)) k ≤ 122 ∧ (fl_A (sxc 32)) k = (fl_A (sxc 14)) k := by decide +kernel
theorem rp_sw_from : ∀ k : Nat, k < 8 → (k : Int) < 4 → 97 ≤ (fl_A (sxc 15)) k ∧ (fl_A (sxc 15)) k ≤ 122 ∧ (fl_A (sxc 33)) k = (fl_A (sxc 15)) k := by decide +kernel
theorem rp_sw_to : ∀ k : Nat, k < 8 → (k : Int) < 2 → 97 ≤ (fl_A (sxc 16)) k ∧ (fl_A (sxc 16)) k ≤ 122 ∧ (fl_A (sxc 34)) k = (fl_A (sxc 16)) k := by decide +kernel
theorem rp_sw_at : ∀ k : Nat, k < 8 → (k : Int) < 2 → 97 ≤ (fl_A (sxc 17)) k ∧ (fl_A (sxc 17)) k ≤ 122 ∧ (fl_A (sxc 35)) k = (fl_A (sxc 17)) k := by decide +kernel

/-- the names told, here and there -/
def rp_N (nm : Nat → Int) (c : Int) (fr : Nat → Int) : Prop :=
  (∀ s : Nat, s < 12 → 0 ≤ fr (48 + s) ∧ fr (48 + s) ≤ 8 ∧ rp_dg (fun k => fr (60 + 8 * s + k)) (fr (48 + s)).toNat) ∧
  (∀ i : Nat, (i : Int) < c → ∃ s : Nat, s < 12 ∧ 0 < fr (48 + s) ∧ nm i = rp_pk (fun k => fr (60 + 8 * s + k)) (fr (48 + s)).toNat) ∧
  (∀ s : Nat, s < 12 → 0 < fr (48 + s) → ∃ i : Nat, (i : Int) < c ∧ nm i = rp_pk (fun k => fr (60 + 8 * s + k)) (fr (48 + s)).toNat)
theorem rp_knc {fn fp c e st be tk wd wh : Int} {nm tp : Nat → Int} (hc0 : 0 ≤ c) (hc : c ≤ 12) : ∀ (m : Nat) (j : Int), c + 1 - j ≤ (m : Int) → 0 ≤ j → j ≤ c → (∀ i : Nat, (i : Int) < j → nm i ≠ wd) →
    ((∃ i : Nat, (i : Int) < c ∧ nm i = wd) ∧ fl_wh (Sf_X3_takeName_61_1 fn fp c e st be tk wd wh nm tp) (0, 0, 0, 0, 0, 0, 0, 0, 0, (fun _ => 0)) m j = (0, 3, st, c, st, be, tk, wd, wh, nm)) ∨
    ((∀ i : Nat, (i : Int) < c → nm i ≠ wd) ∧ fl_wh (Sf_X3_takeName_61_1 fn fp c e st be tk wd wh nm tp) (0, 0, 0, 0, 0, 0, 0, 0, 0, (fun _ => 0)) m j = if 12 ≤ c then Gf_X3_takeName_127_1 fn fp e be wd wh tp c nm else Gf_X3_takeName_127_1 fn fp e be wd wh tp (c + 1) (fl_up nm c.toNat wd)) := by
  intro m
  induction m with
  | zero => intro j h1 h2 h3; omega
  | succ m ih =>
    intro j h1 h2 h3 h4
    by_cases hj : c ≤ j
    · have hs : Sf_X3_takeName_61_1 fn fp c e st be tk wd wh nm tp j = .inr (if 12 ≤ c then Gf_X3_takeName_127_1 fn fp e be wd wh tp c nm else Gf_X3_takeName_127_1 fn fp e be wd wh tp (c + 1) (fl_up nm c.toNat wd)) := by
        simp only [Sf_X3_takeName_61_1, fl_lt]; rw [if_pos hj]
      rw [fl_wh_r hs]
      exact Or.inr ⟨fun i hi => h4 i (by omega), rfl⟩
    · by_cases q : nm j.toNat = wd
      · have hs : Sf_X3_takeName_61_1 fn fp c e st be tk wd wh nm tp j = .inr (0, 3, st, c, st, be, tk, wd, wh, nm) := by
          simp only [Sf_X3_takeName_61_1, fl_lt]; rw [if_neg hj, if_pos (rp_cmp0.mpr q)]; rfl
        rw [fl_wh_r hs]
        exact Or.inl ⟨⟨j.toNat, by omega, q⟩, rfl⟩
      · have hs : Sf_X3_takeName_61_1 fn fp c e st be tk wd wh nm tp j = .inl (j + 1) := by
          simp only [Sf_X3_takeName_61_1, fl_lt]; rw [if_neg hj, if_neg (fun h => q (rp_cmp0.mp h))]
        rw [fl_wh_l hs]
        refine ih (j + 1) (by omega) (by omega) (by omega) (fun i hi => ?_)
        by_cases hi2 : i = j.toNat
        · rw [hi2]; exact q
        · exact h4 i (by omega)
theorem rp_kin {ns : Int} {fr lt : Nat → Int} {s : Nat} (hn0 : 0 ≤ ns) : ∀ (m : Nat) (k : Int), ns + 1 - k ≤ (m : Int) → 0 ≤ k → k ≤ ns → (∀ i : Nat, i < k.toNat → fr (60 + 8 * s + i) = lt i) →
    ((∀ i : Nat, i < ns.toNat → fr (60 + 8 * s + i) = lt i) ∧ fl_wh (fun t9 => Sf_X8_isKnown_44_1 ns fr lt (s : Int) t9.1 t9.2) (Sum.inr 0) m (k, 1) = Sum.inr 1) ∨
    ((¬ ∀ i : Nat, i < ns.toNat → fr (60 + 8 * s + i) = lt i) ∧ fl_wh (fun t9 => Sf_X8_isKnown_44_1 ns fr lt (s : Int) t9.1 t9.2) (Sum.inr 0) m (k, 1) = Sum.inl ((s : Int) + 1)) := by
  intro m
  induction m with
  | zero => intro k h1 h2 h3; omega
  | succ m ih =>
    intro k h1 h2 h3 h4
    by_cases hk : ns ≤ k
    · have hs : Sf_X8_isKnown_44_1 ns fr lt (s : Int) k 1 = .inr (Sum.inr 1) := by
        unfold Sf_X8_isKnown_44_1; rw [if_pos hk]; rfl
      rw [fl_wh_r (step := fun t9 : Int × Int => Sf_X8_isKnown_44_1 ns fr lt (s : Int) t9.1 t9.2) (s := (k, 1)) hs]
      exact Or.inl ⟨fun i hi => h4 i (by omega), rfl⟩
    · have ix : (60 + 8 * (s : Int) + k).toNat = 60 + 8 * s + k.toNat := by omega
      by_cases q : fr (60 + 8 * s + k.toNat) = lt k.toNat
      · have hs : Sf_X8_isKnown_44_1 ns fr lt (s : Int) k 1 = .inl (k + 1, 1) := by
          simp only [Sf_X8_isKnown_44_1, fl_lt]; rw [if_neg hk, if_neg (by decide), ix, if_pos q]; rfl
        rw [fl_wh_l (step := fun t9 : Int × Int => Sf_X8_isKnown_44_1 ns fr lt (s : Int) t9.1 t9.2) (s := (k, 1)) hs]
        refine ih (k + 1) (by omega) (by omega) (by omega) (fun i hi => ?_)
        by_cases hi2 : i = k.toNat
        · rw [hi2]; exact q
        · exact h4 i (by omega)
      · have hs : Sf_X8_isKnown_44_1 ns fr lt (s : Int) k 1 = .inl (k + 1, 0) := by
          simp only [Sf_X8_isKnown_44_1, fl_lt]; rw [if_neg hk, if_neg (by decide), ix, if_neg q]; rfl
        rw [fl_wh_l (step := fun t9 : Int × Int => Sf_X8_isKnown_44_1 ns fr lt (s : Int) t9.1 t9.2) (s := (k, 1)) hs]
        refine Or.inr ⟨fun h => q (h k.toNat (by omega)), ?_⟩
        cases m with
        | zero => omega
        | succ m =>
          have hs2 : Sf_X8_isKnown_44_1 ns fr lt (s : Int) (k + 1) 0 = .inr (Sum.inl ((s : Int) + 1)) := by
            unfold Sf_X8_isKnown_44_1
            by_cases hk2 : ns ≤ k + 1
            · rw [if_pos hk2]; rfl
            · rw [if_neg hk2, if_pos rfl]; rfl
          rw [fl_wh_r (step := fun t9 : Int × Int => Sf_X8_isKnown_44_1 ns fr lt (s : Int) t9.1 t9.2) (s := (k + 1, 0)) hs2]
theorem rp_kn0 {ns : Int} {fr lt : Nat → Int} {s : Nat} : Gf_X8_isKnown_40_1 ns fr lt (s : Int) = Sum.inl ((s : Int) + 1) := by
  have hs2 : Sf_X8_isKnown_44_1 ns fr lt (s : Int) 0 0 = .inr (Sum.inl ((s : Int) + 1)) := by
    unfold Sf_X8_isKnown_44_1
    by_cases hk2 : ns ≤ 0
    · rw [if_pos hk2]; rfl
    · rw [if_neg hk2, if_pos rfl]; rfl
  exact fl_wh_r (n := 8) (d := Sum.inr 0) (step := fun t9 : Int × Int => Sf_X8_isKnown_44_1 ns fr lt (s : Int) t9.1 t9.2) (s := (0, 0)) hs2
/-- is the name known, there -/
theorem rp_knm {ns : Int} {fr lt : Nat → Int} (hn0 : 0 ≤ ns) (hn8 : ns ≤ 8) :
    ((∃ s : Nat, s < 12 ∧ 0 < fr (48 + s) ∧ fr (48 + s) = ns ∧ ∀ i : Nat, i < ns.toNat → fr (60 + 8 * s + i) = lt i) ∧ Ff_X8_isKnown ns fr lt = 1) ∨
    ((∀ s : Nat, s < 12 → 0 < fr (48 + s) → fr (48 + s) = ns → ¬ ∀ i : Nat, i < ns.toNat → fr (60 + 8 * s + i) = lt i) ∧ Ff_X8_isKnown ns fr lt = 0) := by
  have main : ∀ (m : Nat) (j : Nat), 13 ≤ m + j → j ≤ 12 → (∀ s : Nat, s < j → 0 < fr (48 + s) → fr (48 + s) = ns → ¬ ∀ i : Nat, i < ns.toNat → fr (60 + 8 * s + i) = lt i) →
      ((∃ s : Nat, s < 12 ∧ 0 < fr (48 + s) ∧ fr (48 + s) = ns ∧ ∀ i : Nat, i < ns.toNat → fr (60 + 8 * s + i) = lt i) ∧ fl_wh (Sf_X8_isKnown_2_1 ns fr lt) 0 m (j : Int) = 1) ∨
      ((∀ s : Nat, s < 12 → 0 < fr (48 + s) → fr (48 + s) = ns → ¬ ∀ i : Nat, i < ns.toNat → fr (60 + 8 * s + i) = lt i) ∧ fl_wh (Sf_X8_isKnown_2_1 ns fr lt) 0 m (j : Int) = 0) := by
    intro m
    induction m with
    | zero => intro j h1 h2; omega
    | succ m ih =>
      intro j h1 h2 h3
      by_cases hj : 12 ≤ (j : Int)
      · have hs : Sf_X8_isKnown_2_1 ns fr lt (j : Int) = .inr 0 := by
          unfold Sf_X8_isKnown_2_1; rw [if_pos hj]
        rw [fl_wh_r hs]
        exact Or.inr ⟨fun s hs2 => h3 s (by omega), rfl⟩
      · have ix : (48 + (j : Int)).toNat = 48 + j := by omega
        have next : Sf_X8_isKnown_2_1 ns fr lt (j : Int) = .inl ((j : Int) + 1) → (0 < fr (48 + j) → fr (48 + j) = ns → ¬ ∀ i : Nat, i < ns.toNat → fr (60 + 8 * j + i) = lt i) →
            ((∃ s : Nat, s < 12 ∧ 0 < fr (48 + s) ∧ fr (48 + s) = ns ∧ ∀ i : Nat, i < ns.toNat → fr (60 + 8 * s + i) = lt i) ∧ fl_wh (Sf_X8_isKnown_2_1 ns fr lt) 0 (m + 1) (j : Int) = 1) ∨
            ((∀ s : Nat, s < 12 → 0 < fr (48 + s) → fr (48 + s) = ns → ¬ ∀ i : Nat, i < ns.toNat → fr (60 + 8 * s + i) = lt i) ∧ fl_wh (Sf_X8_isKnown_2_1 ns fr lt) 0 (m + 1) (j : Int) = 0) := by
          intro hs hno
          rw [fl_wh_l hs]
          have := ih (j + 1) (by omega) (by omega) (fun s hs2 => by
            by_cases e : s = j
            · subst e; exact hno
            · exact h3 s (by omega))
          rw [show ((j + 1 : Nat) : Int) = (j : Int) + 1 by omega] at this
          exact this
        by_cases h0 : fr (48 + j) ≤ 0
        · refine next ?_ (fun q => by omega)
          simp only [Sf_X8_isKnown_2_1, fl_lt]; rw [if_neg hj, ix, if_pos h0]; exact rp_kn0
        · by_cases hq : fr (48 + j) = ns
          · have hun : Sf_X8_isKnown_2_1 ns fr lt (j : Int) = Gf_X8_isKnown_41_1 ns fr lt (j : Int) 1 := by
              simp only [Sf_X8_isKnown_2_1, fl_lt]; rw [if_neg hj, ix, if_neg h0, if_pos hq]
            rcases rp_kin (ns := ns) (fr := fr) (lt := lt) (s := j) hn0 9 0 (by omega) (by omega) hn0 (fun i hi => by omega) with ⟨a, b⟩ | ⟨a, b⟩
            · rw [fl_wh_r (hun.trans b)]
              exact Or.inl ⟨⟨j, by omega, by omega, hq, a⟩, rfl⟩
            · exact next (hun.trans b) (fun _ _ => a)
          · refine next ?_ (fun _ q => absurd q hq)
            simp only [Sf_X8_isKnown_2_1, fl_lt]; rw [if_neg hj, ix, if_neg h0, if_neg hq]; exact rp_kn0
  exact main 13 0 (by omega) (by omega) (fun s hs => by omega)

theorem rp_nnl {a : Nat} {e en ns fa pl : Int} {lt tm fr : Nat → Int} (hn0 : 0 ≤ ns) : ∀ (m : Nat) (j : Int) (f : Nat → Int), ns + 1 - j ≤ (m : Int) → 0 ≤ j → j ≤ ns → (∀ i : Nat, f i = if 60 + 8 * a ≤ i ∧ i < 60 + 8 * a + j.toNat then lt (i - (60 + 8 * a)) else fr i) →
    ∃ frL : Nat → Int, (∀ i : Nat, frL i = if 60 + 8 * a ≤ i ∧ i < 60 + 8 * a + ns.toNat then lt (i - (60 + 8 * a)) else fr i) ∧
      fl_wh (fun t9 => SfG_X8_newName_103_1 (a : Int) e en ns fa pl lt tm t9.1 t9.2) (0, 0, 0, 0, 0, 0, 0, 0, (fun _ => 0), (fun _ => 0)) m (j, f) = fl_c6 (Ff_X8_next e en tm lt) (fun x1 x2 x3 x4 x5 x6 => (x1, x2, x3, x4, x5, fa, pl, 0, x6, fl_up frL (48 + a) ns)) := by
  intro m
  induction m with
  | zero => intro j f h1 h2 h3; omega
  | succ m ih =>
    intro j f h1 h2 h3 h4
    by_cases hj : ns ≤ j
    · have ix : (48 + (a : Int)).toNat = 48 + a := by omega
      have ej : j = ns := by omega
      have hs : SfG_X8_newName_103_1 (a : Int) e en ns fa pl lt tm j f = .inr (fl_c6 (Ff_X8_next e en tm lt) (fun x1 x2 x3 x4 x5 x6 => (x1, x2, x3, x4, x5, fa, pl, 0, x6, fl_up f (48 + a) ns))) := by
        simp only [SfG_X8_newName_103_1, fl_lt]; rw [if_pos hj, ix]
      rw [fl_wh_r (step := fun t9 : Int × (Nat → Int) => SfG_X8_newName_103_1 (a : Int) e en ns fa pl lt tm t9.1 t9.2) (s := (j, f)) hs]
      exact ⟨f, by rw [← ej]; exact h4, rfl⟩
    · have ix : (60 + 8 * (a : Int) + j).toNat = 60 + 8 * a + j.toNat := by omega
      have hs : SfG_X8_newName_103_1 (a : Int) e en ns fa pl lt tm j f = .inl (j + 1, fl_up f (60 + 8 * a + j.toNat) (lt j.toNat)) := by
        simp only [SfG_X8_newName_103_1, fl_lt]; rw [if_neg hj, ix]
      rw [fl_wh_l (step := fun t9 : Int × (Nat → Int) => SfG_X8_newName_103_1 (a : Int) e en ns fa pl lt tm t9.1 t9.2) (s := (j, f)) hs]
      refine ih (j + 1) _ (by omega) (by omega) (by omega) (fun i => ?_)
      unfold fl_up
      by_cases hi : i = 60 + 8 * a + j.toNat
      · rw [if_pos hi, if_pos (by omega)]; exact congrArg lt (by omega)
      · rw [if_neg hi, h4 i]
        by_cases hi2 : 60 + 8 * a ≤ i ∧ i < 60 + 8 * a + j.toNat
        · rw [if_pos hi2, if_pos (by omega)]
        · rw [if_neg hi2, if_neg (by omega)]
/-- a new name: takeName and newName -/
theorem rp_nn {tp tm : Nat → Int} {e st be tk wd wh at_ en tk2 wm ns c : Int} {lt nm fr : Nat → Int} {a : Nat} (hT : rp_T tp tm e) (he : e ≤ 900) (hK : rp_K e st be tk wd wh at_ en tk2 wm ns lt) (hN : rp_N nm c fr) (ha : a < 12) (hfa : fr (48 + a) = 0) (hc0 : 0 ≤ c) (hc : c ≤ 11) (fn fp fa pl : Int) :
    (∃ nm1 st1 be1 tk1 wd1 wh1 at1 en1 tk3 wm1 ns1 lt1 fr1 z, Ff_X3_takeName fn fp c e st be tk wd wh nm tp = (1, fn, fp, c + 1, st1, be1, tk1, wd1, wh1, nm1) ∧ FfG_X8_newName (a : Int) e at_ en tk2 wm ns fa pl lt fr tm = (at1, en1, tk3, wm1, ns1, fa, pl, 0, lt1, fr1) ∧ rp_K e st1 be1 tk1 wd1 wh1 at1 en1 tk3 wm1 ns1 lt1 ∧ be ≤ st1 ∧ st < be ∧ rp_N nm1 (c + 1) fr1 ∧ (∀ i : Nat, i < 48 → fr1 i = fr i) ∧ (∀ s : Nat, s < 12 → fr1 (48 + s) = if s = a then z else fr (48 + s)) ∧ 0 ≤ z) ∨
    (∃ q st1 be1 tk1 wd1 wh1 nm1 c1 at1 en1 tk3 wm1 ns1 lt1 fr1, Ff_X3_takeName fn fp c e st be tk wd wh nm tp = (0, q, st, c1, st1, be1, tk1, wd1, wh1, nm1) ∧ FfG_X8_newName (a : Int) e at_ en tk2 wm ns fa pl lt fr tm = (at1, en1, tk3, wm1, ns1, q, st, 1, lt1, fr1)) := by
  have hst : st = at_ := hK.1
  have hb0 : 0 ≤ be := hK.2.2.2.1
  have hb1 : be ≤ e := hK.2.2.2.2.1
  have bad : ∀ (h1 : Ff_X3_takeName fn fp c e st be tk wd wh nm tp = Gf_X3_takeName_53_1 c st be tk wd wh nm) (h2 : FfG_X8_newName (a : Int) e at_ en tk2 wm ns fa pl lt fr tm = fl_c2 (FfG_X8_wrong 1 at_) (fun x y => (at_, en, tk2, wm, ns, x, y, 1, lt, fr))), (∃ q st1 be1 tk1 wd1 wh1 nm1 c1 at1 en1 tk3 wm1 ns1 lt1 fr1, Ff_X3_takeName fn fp c e st be tk wd wh nm tp = (0, q, st, c1, st1, be1, tk1, wd1, wh1, nm1) ∧ FfG_X8_newName (a : Int) e at_ en tk2 wm ns fa pl lt fr tm = (at1, en1, tk3, wm1, ns1, q, st, 1, lt1, fr1)) := by
    intro h1 h2
    refine ⟨1, st, be, tk, wd, wh, nm, c, at_, en, tk2, wm, ns, lt, fr, h1, ?_⟩
    rw [h2, hst]; rfl
  by_cases htk : tk = 1
  · have hK' := hK
    obtain ⟨-, -, -, -, -, h6⟩ := hK'
    have h7 : tk2 = 2 ∧ be = en ∧ st < be ∧ 1 ≤ ns ∧ ns ≤ 8 ∧ rp_dg lt ns.toNat ∧ wd = rp_pk lt ns.toNat := by
      rcases h6 with ⟨x, -⟩ | ⟨x, -⟩ | ⟨x, -⟩ | ⟨x, y⟩ | ⟨x, -⟩
      · omega
      · omega
      · omega
      · exact y
      · omega
    obtain ⟨h8, hbe, hlt, hn1, hn8, hdg, hwd⟩ := h7
    have hn0 : 0 ≤ ns := by omega
    have w1 := rp_isw hK (nn := 7) (by decide) (by decide) rp_sw_gallery
    have w2 := rp_isw hK (nn := 3) (by decide) (by decide) rp_sw_law
    have w3 := rp_isw hK (nn := 6) (by decide) (by decide) rp_sw_figure
    have w4 := rp_isw hK (nn := 7) (by decide) (by decide) rp_sw_watcher
    have w5 := rp_isw hK (nn := 4) (by decide) (by decide) rp_sw_seen
    have uc : Ff_X3_takeName fn fp c e st be tk wd wh nm tp = if Ff_X3_isWord tk wd 7 (fl_A (sxc 0)) = 1 then Gf_X3_takeName_53_1 c st be tk wd wh nm else if Ff_X3_isWord tk wd 3 (fl_A (sxc 1)) = 1 then Gf_X3_takeName_53_1 c st be tk wd wh nm else if Ff_X3_isWord tk wd 6 (fl_A (sxc 2)) = 1 then Gf_X3_takeName_53_1 c st be tk wd wh nm else if Ff_X3_isWord tk wd 7 (fl_A (sxc 3)) = 1 then Gf_X3_takeName_53_1 c st be tk wd wh nm else if Ff_X3_isWord tk wd 4 (fl_A (sxc 4)) = 1 then Gf_X3_takeName_53_1 c st be tk wd wh nm else fl_wh (Sf_X3_takeName_61_1 fn fp c e st be tk wd wh nm tp) (0, 0, 0, 0, 0, 0, 0, 0, 0, (fun _ => 0)) 13 0 := by
      unfold Ff_X3_takeName; rw [if_pos htk]; rfl
    have um : FfG_X8_newName (a : Int) e at_ en tk2 wm ns fa pl lt fr tm = if FfG_X8_isWord tk2 ns lt 7 (fl_A (sxc 18)) = 0 then (if FfG_X8_isWord tk2 ns lt 3 (fl_A (sxc 19)) = 0 then (if FfG_X8_isWord tk2 ns lt 6 (fl_A (sxc 20)) = 0 then (if FfG_X8_isWord tk2 ns lt 7 (fl_A (sxc 21)) = 0 then (if FfG_X8_isWord tk2 ns lt 4 (fl_A (sxc 22)) = 0 then (if Ff_X8_isKnown ns fr lt = 1 then fl_c2 (FfG_X8_wrong 3 at_) (fun x y => (at_, en, tk2, wm, ns, x, y, 1, lt, fr)) else fl_wh (fun t9 => SfG_X8_newName_103_1 (a : Int) e en ns fa pl lt tm t9.1 t9.2) (0, 0, 0, 0, 0, 0, 0, 0, (fun _ => 0), (fun _ => 0)) 9 (0, fr)) else fl_c2 (FfG_X8_wrong 1 at_) (fun x y => (at_, en, tk2, wm, ns, x, y, 1, lt, fr))) else fl_c2 (FfG_X8_wrong 1 at_) (fun x y => (at_, en, tk2, wm, ns, x, y, 1, lt, fr))) else fl_c2 (FfG_X8_wrong 1 at_) (fun x y => (at_, en, tk2, wm, ns, x, y, 1, lt, fr))) else fl_c2 (FfG_X8_wrong 1 at_) (fun x y => (at_, en, tk2, wm, ns, x, y, 1, lt, fr))) else fl_c2 (FfG_X8_wrong 1 at_) (fun x y => (at_, en, tk2, wm, ns, x, y, 1, lt, fr)) := by
      unfold FfG_X8_newName; rw [if_pos h8]; rfl
    rcases w1 with ⟨a1, b1⟩ | ⟨a1, b1, -⟩
    rotate_left
    · exact Or.inr (bad (by rw [uc, if_pos a1]) (by rw [um, b1, if_neg (by decide)]))
    rw [a1, if_neg (by decide)] at uc; rw [b1, if_pos rfl] at um
    rcases w2 with ⟨a1, b1⟩ | ⟨a1, b1, -⟩
    rotate_left
    · exact Or.inr (bad (by rw [uc, if_pos a1]) (by rw [um, b1, if_neg (by decide)]))
    rw [a1, if_neg (by decide)] at uc; rw [b1, if_pos rfl] at um
    rcases w3 with ⟨a1, b1⟩ | ⟨a1, b1, -⟩
    rotate_left
    · exact Or.inr (bad (by rw [uc, if_pos a1]) (by rw [um, b1, if_neg (by decide)]))
    rw [a1, if_neg (by decide)] at uc; rw [b1, if_pos rfl] at um
    rcases w4 with ⟨a1, b1⟩ | ⟨a1, b1, -⟩
    rotate_left
    · exact Or.inr (bad (by rw [uc, if_pos a1]) (by rw [um, b1, if_neg (by decide)]))
    rw [a1, if_neg (by decide)] at uc; rw [b1, if_pos rfl] at um
    rcases w5 with ⟨a1, b1⟩ | ⟨a1, b1, -⟩
    rotate_left
    · exact Or.inr (bad (by rw [uc, if_pos a1]) (by rw [um, b1, if_neg (by decide)]))
    rw [a1, if_neg (by decide)] at uc; rw [b1, if_pos rfl] at um
    obtain ⟨n1, n2, n3⟩ := hN
    rcases rp_knc (fn := fn) (fp := fp) (e := e) (st := st) (be := be) (tk := tk) (wd := wd) (wh := wh) (nm := nm) (tp := tp) hc0 (by omega) 13 0 (by omega) (by omega) hc0 (fun i hi => by omega) with ⟨⟨i, i1, i2⟩, kc⟩ | ⟨hno, kc⟩
    · -- told before
      rcases rp_knm (ns := ns) (fr := fr) (lt := lt) hn0 hn8 with ⟨-, km⟩ | ⟨hno, km⟩
      · rw [kc] at uc
        rw [km, if_pos rfl] at um
        refine Or.inr ⟨3, st, be, tk, wd, wh, nm, c, at_, en, tk2, wm, ns, lt, fr, uc, ?_⟩
        rw [um, hst]; rfl
      · exfalso
        obtain ⟨s, s1, s2, s3⟩ := n2 i i1
        rw [i2, hwd] at s3
        obtain ⟨e1, e2⟩ := rp_pk_inj hdg (n1 s s1).2.2 s3
        have h9 := (n1 s s1).1
        exact hno s s1 s2 (by omega) (fun k hk => (e2 k hk).symm)
    · rcases rp_knm (ns := ns) (fr := fr) (lt := lt) hn0 hn8 with ⟨⟨s, s1, s2, s3, s4⟩, km⟩ | ⟨-, km⟩
      · exfalso
        obtain ⟨i, i1, i2⟩ := n3 s s1 s2
        refine hno i i1 ?_
        rw [i2, hwd, s3]
        exact rp_pk_cg s4
      · rw [kc, if_neg (by omega)] at uc
        rw [km, if_neg (by decide)] at um
        obtain ⟨frL, f1, f2⟩ := rp_nnl (a := a) (e := e) (en := en) (ns := ns) (fa := fa) (pl := pl) (lt := lt) (tm := tm) (fr := fr) hn0 9 0 fr (by omega) (by omega) hn0 (fun i => by rw [if_neg (by omega)])
        rw [f2] at um
        obtain ⟨st1, be1, tk1, wd1, wh1, at1, en1, tk3, wm1, ns1, lt1, a1, a2, a3, a4⟩ := rp_adv hT he be wd wh lt hb0 hb1
        rw [hbe] at a2
        have u1 : ∀ s : Nat, s < 12 → fl_up frL (48 + a) ns (48 + s) = if s = a then ns else fr (48 + s) := by
          intro s hs
          unfold fl_up
          by_cases q : s = a
          · rw [if_pos (by omega), if_pos q]
          · rw [if_neg (by omega), if_neg q, f1, if_neg (by omega)]
        have u2 : ∀ s k : Nat, s < 12 → k < 8 → fl_up frL (48 + a) ns (60 + 8 * s + k) = if s = a ∧ k < ns.toNat then lt k else fr (60 + 8 * s + k) := by
          intro s k hs hk
          unfold fl_up
          rw [if_neg (by omega), f1]
          by_cases q : s = a ∧ k < ns.toNat
          · obtain ⟨q1, q2⟩ := q
            subst q1
            rw [if_pos (by omega), if_pos ⟨rfl, q2⟩]
            exact congrArg lt (by omega)
          · rw [if_neg (by omega), if_neg q]
        have u3 : ∀ s : Nat, s < 12 → s ≠ a → ∀ k : Nat, k < (fr (48 + s)).toNat → fr (60 + 8 * s + k) = fl_up frL (48 + a) ns (60 + 8 * s + k) := by
          intro s hs hne k hk
          have h9 := (n1 s hs).2.1
          rw [u2 s k hs (by omega), if_neg (fun q => hne q.1)]
        have u4 : ∀ k : Nat, k < ns.toNat → lt k = fl_up frL (48 + a) ns (60 + 8 * a + k) := by
          intro k hk
          rw [u2 a k ha (by omega), if_pos ⟨rfl, hk⟩]
        refine Or.inl ⟨fl_up nm c.toNat wd, st1, be1, tk1, wd1, wh1, at1, en1, tk3, wm1, ns1, lt1, fl_up frL (48 + a) ns, ns, ?_, ?_, a3, a4, hlt, ⟨?_, ?_, ?_⟩, ?_, u1, hn0⟩
        · rw [uc]; unfold Gf_X3_takeName_127_1; rw [a1]; rfl
        · rw [um, a2]; rfl
        · intro s hs
          rw [u1 s hs]
          by_cases q : s = a
          · rw [if_pos q]
            refine ⟨hn0, hn8, fun k hk => ?_⟩
            rw [q]
            show 97 ≤ fl_up frL (48 + a) ns (60 + 8 * a + k) ∧ fl_up frL (48 + a) ns (60 + 8 * a + k) ≤ 122
            rw [← u4 k hk]; exact hdg k hk
          · rw [if_neg q]
            refine ⟨(n1 s hs).1, (n1 s hs).2.1, fun k hk => ?_⟩
            show 97 ≤ fl_up frL (48 + a) ns (60 + 8 * s + k) ∧ fl_up frL (48 + a) ns (60 + 8 * s + k) ≤ 122
            rw [← u3 s hs q k hk]; exact (n1 s hs).2.2 k hk
        · intro i hi
          by_cases q : i = c.toNat
          · refine ⟨a, ha, ?_, ?_⟩
            · rw [u1 a ha, if_pos rfl]; omega
            · rw [u1 a ha, if_pos rfl]
              unfold fl_up; rw [if_pos q, hwd]
              exact rp_pk_cg u4
          · obtain ⟨s, s1, s2, s3⟩ := n2 i (by omega)
            have hne : s ≠ a := fun h => by rw [h, hfa] at s2; omega
            refine ⟨s, s1, ?_, ?_⟩
            · rw [u1 s s1, if_neg hne]; exact s2
            · rw [u1 s s1, if_neg hne]
              show (if i = c.toNat then wd else nm i) = _
              rw [if_neg q, s3]
              exact rp_pk_cg (u3 s s1 hne)
        · intro s hs hs2
          by_cases q : s = a
          · refine ⟨c.toNat, by omega, ?_⟩
            rw [u1 s hs, if_pos q]
            show (if c.toNat = c.toNat then wd else nm c.toNat) = _
            rw [if_pos rfl, hwd, q]
            exact rp_pk_cg u4
          · rw [u1 s hs, if_neg q] at hs2
            obtain ⟨i, i1, i2⟩ := n3 s hs hs2
            refine ⟨i, by omega, ?_⟩
            rw [u1 s hs, if_neg q]
            show (if i = c.toNat then wd else nm i) = _
            rw [if_neg (by omega), i2]
            exact rp_pk_cg (u3 s hs q)
        · intro i hi
          show (if i = 48 + a then ns else frL i) = fr i
          rw [if_neg (by omega), f1, if_neg (by omega)]
  · refine Or.inr (bad ?_ ?_)
    · unfold Ff_X3_takeName; rw [if_neg htk]
    · have h7 : tk2 ≠ 2 := by
        obtain ⟨-, -, -, -, -, h6⟩ := hK
        rcases h6 with ⟨x, y⟩ | ⟨x, y⟩ | ⟨x, y, -⟩ | ⟨x, y⟩ | ⟨x, y, -⟩
        · omega
        · omega
        · omega
        · exact absurd x htk
        · omega
      unfold FfG_X8_newName; rw [if_neg h7]
end PUE
end P092245_pure5
section P092246_pure6
section PUF

def rp_fc {A : Type} (t : Int × Int × Int × A) (q p : Int) : Prop := t.1 = 0 ∧ t.2.1 = q ∧ t.2.2.1 = p
def rp_fm {A : Type} (t : Int × Int × Int × Int × Int × Int × Int × Int × A) (q p : Int) : Prop := t.2.2.2.2.2.1 = q ∧ t.2.2.2.2.2.2.1 = p ∧ t.2.2.2.2.2.2.2.1 = 1
theorem rp_up_eq (f : Nat → Int) (i : Nat) (v : Int) : fl_up f i v i = v := if_pos rfl
theorem rp_up_ne (f : Nat → Int) {i k : Nat} (v : Int) (h : k ≠ i) : fl_up f i v k = f k := if_neg h
/-- gallery: readHall and galleryLine -/
theorem rp_hall {tp tm : Nat → Int} {e st be tk wd wh at_ en tk2 wm ns : Int} {lt fr : Nat → Int} (hT : rp_T tp tm e) (he : e ≤ 900) (hK : rp_K e st be tk wd wh at_ en tk2 wm ns lt) (hbe : be = en) (h11 : fr 11 = 0) (fn fp ta fg sp sa sh fa pl : Int) :
    (∃ v1 v2 v3 v4 st1 be1 tk1 wd1 wh1 at1 en1 tk3 wm1 ns1 lt1, Ff_X3_readHall fn fp e be wd wh ta tp fg sp sa sh = (1, fn, fp, st1, be1, tk1, wd1, wh1, v4, v1, v2, v3, v4) ∧ FfG_X8_galleryLine e at_ en tk2 wm ns fa pl fr tm lt = (at1, en1, tk3, wm1, ns1, fa, pl, 0, fl_up (fl_up (fl_up (fl_up (fl_up fr 0 v1) 1 v2) 2 v3) 3 v4) 11 1, lt1) ∧ rp_K e st1 be1 tk1 wd1 wh1 at1 en1 tk3 wm1 ns1 lt1 ∧ be ≤ st1 ∧ 2 ≤ v1 ∧ v1 ≤ 9 ∧ 1 ≤ v2 ∧ v2 ≤ 20 ∧ 0 ≤ v3 ∧ v3 ≤ v1 - 1 ∧ 0 ≤ v4 ∧ v4 ≤ 100) ∨
    (∃ q p, rp_fc (Ff_X3_readHall fn fp e be wd wh ta tp fg sp sa sh) q p ∧ rp_fm (FfG_X8_galleryLine e at_ en tk2 wm ns fa pl fr tm lt) q p) := by
  have hb0 : 0 ≤ be := hK.2.2.2.1
  have hb1 : be ≤ e := hK.2.2.2.2.1
  have h11' : fr 11 ≤ 0 := by omega
  obtain ⟨st1, be1, tk1, wd1, wh1, at1, en1, tk3, wm1, ns1, lt1, a1, a2, a3, a4⟩ := rp_adv hT he be wd wh lt hb0 hb1
  rw [hbe] at a2
  rcases rp_tw hT he a3 (nn := 7) (by decide) (by decide) rp_sw_figures 2 9 fn fp ta fa pl with ⟨v1, st2, be2, tk4, wd2, wh2, at2, en2, tk5, wm2, ns2, lt2, b1, b2, b3, b4, b5, b6, b7, b8, b9⟩ | ⟨q, p, st2, be2, tk4, wd2, wh2, ta2, at2, en2, tk5, wm2, ns2, lt2, b1, b2⟩
  rotate_left
  · refine Or.inr ⟨q, p, ?_, ?_⟩
    · simp only [Ff_X3_readHall, a1, b1, fl_lt, fl_c2, fl_c3, fl_c4, fl_c5, fl_c6, fl_c7, fl_c8, fl_c9, fl_c10, reduceIte, Int.reduceEq]; exact ⟨rfl, rfl, rfl⟩
    · simp only [FfG_X8_galleryLine, if_pos h11', a2, b2, fl_lt, fl_c2, fl_c3, fl_c4, fl_c5, fl_c6, fl_c7, fl_c8, fl_c9, fl_c10, reduceIte, Int.reduceEq]; exact ⟨rfl, rfl, rfl⟩
  rcases rp_tw hT he b3 (nn := 4) (by decide) (by decide) rp_sw_span 1 20 fn fp v1 fa pl with ⟨v2, st3, be3, tk6, wd3, wh3, at3, en3, tk7, wm3, ns3, lt3, c1, c2, c3, c4, c5, c6, c7, c8, c9⟩ | ⟨q, p, st3, be3, tk6, wd3, wh3, ta3, at3, en3, tk7, wm3, ns3, lt3, c1, c2⟩
  rotate_left
  · refine Or.inr ⟨q, p, ?_, ?_⟩
    · simp only [Ff_X3_readHall, a1, b1, c1, fl_lt, fl_c2, fl_c3, fl_c4, fl_c5, fl_c6, fl_c7, fl_c8, fl_c9, fl_c10, reduceIte, Int.reduceEq]; exact ⟨rfl, rfl, rfl⟩
    · simp only [FfG_X8_galleryLine, if_pos h11', a2, b2, c2, fl_lt, fl_c2, fl_c3, fl_c4, fl_c5, fl_c6, fl_c7, fl_c8, fl_c9, fl_c10, reduceIte, Int.reduceEq]; exact ⟨rfl, rfl, rfl⟩
  rcases rp_tw hT he c3 (nn := 6) (by decide) (by decide) rp_sw_stairs 0 (v1 - 1) fn fp v2 fa pl with ⟨v3, st4, be4, tk8, wd4, wh4, at4, en4, tk9, wm4, ns4, lt4, d1, d2, d3, d4, d5, d6, d7, d8, d9⟩ | ⟨q, p, st4, be4, tk8, wd4, wh4, ta4, at4, en4, tk9, wm4, ns4, lt4, d1, d2⟩
  rotate_left
  · refine Or.inr ⟨q, p, ?_, ?_⟩
    · simp only [Ff_X3_readHall, a1, b1, c1, d1, fl_lt, fl_c2, fl_c3, fl_c4, fl_c5, fl_c6, fl_c7, fl_c8, fl_c9, fl_c10, reduceIte, Int.reduceEq]; exact ⟨rfl, rfl, rfl⟩
    · simp only [FfG_X8_galleryLine, if_pos h11', a2, b2, c2, d2, fl_lt, fl_c2, fl_c3, fl_c4, fl_c5, fl_c6, fl_c7, fl_c8, fl_c9, fl_c10, reduceIte, Int.reduceEq]; exact ⟨rfl, rfl, rfl⟩
  rcases rp_tw hT he d3 (nn := 4) (by decide) (by decide) rp_sw_shut 0 100 fn fp v3 fa pl with ⟨v4, st5, be5, tk10, wd5, wh5, at5, en5, tk11, wm5, ns5, lt5, f1, f2, f3, f4, f5, f6, f7, f8, f9⟩ | ⟨q, p, st5, be5, tk10, wd5, wh5, ta5, at5, en5, tk11, wm5, ns5, lt5, f1, f2⟩
  rotate_left
  · refine Or.inr ⟨q, p, ?_, ?_⟩
    · simp only [Ff_X3_readHall, a1, b1, c1, d1, f1, fl_lt, fl_c2, fl_c3, fl_c4, fl_c5, fl_c6, fl_c7, fl_c8, fl_c9, fl_c10, reduceIte, Int.reduceEq]; exact ⟨rfl, rfl, rfl⟩
    · simp only [FfG_X8_galleryLine, if_pos h11', a2, b2, c2, d2, f2, fl_lt, fl_c2, fl_c3, fl_c4, fl_c5, fl_c6, fl_c7, fl_c8, fl_c9, fl_c10, reduceIte, Int.reduceEq]; exact ⟨rfl, rfl, rfl⟩
  refine Or.inl ⟨v1, v2, v3, v4, st5, be5, tk10, wd5, wh5, at5, en5, tk11, wm5, ns5, lt5, ?_, ?_, f3, by omega, b6, b7, c6, c7, d6, d7, f6, f7⟩
  · simp only [Ff_X3_readHall, a1, b1, c1, d1, f1, fl_lt, fl_c2, fl_c3, fl_c4, fl_c5, fl_c6, fl_c7, fl_c8, fl_c9, fl_c10, reduceIte, Int.reduceEq]
  · simp only [FfG_X8_galleryLine, if_pos h11', a2, b2, c2, d2, f2, fl_lt, fl_c2, fl_c3, fl_c4, fl_c5, fl_c6, fl_c7, fl_c8, fl_c9, fl_c10, reduceIte, Int.reduceEq]
/-- law: readLaw and lawLine -/
theorem rp_law {tp tm : Nat → Int} {e st be tk wd wh at_ en tk2 wm ns : Int} {lt fr : Nat → Int} (hT : rp_T tp tm e) (he : e ≤ 900) (hK : rp_K e st be tk wd wh at_ en tk2 wm ns lt) (hbe : be = en) (h10 : fr 10 = 0) (h11 : fr 11 = 1) (fn fp ta fg lw ti pu fi fa pl : Int) (hfg : fg = fr 0) :
    (∃ v1 v2 v3 st1 be1 tk1 wd1 wh1 at1 en1 tk3 wm1 ns1 lt1, Ff_X3_readLaw fn fp e be wd wh ta tp fg lw ti pu fi = (1, fn, fp, st1, be1, tk1, wd1, wh1, v3, 1, v1, v2, v3) ∧ FfG_X8_lawLine e at_ en tk2 wm ns fa pl fr tm lt = (at1, en1, tk3, wm1, ns1, fa, pl, 0, fl_up (fl_up (fl_up (fl_up fr 7 v1) 8 v2) 9 v3) 10 1, lt1) ∧ rp_K e st1 be1 tk1 wd1 wh1 at1 en1 tk3 wm1 ns1 lt1 ∧ be ≤ st1 ∧ 0 ≤ v1 ∧ v1 ≤ fg - 1 ∧ 0 ≤ v2 ∧ v2 ≤ fg - 1 ∧ 0 ≤ v3 ∧ v3 ≤ fg - 1) ∨
    (∃ q p, rp_fc (Ff_X3_readLaw fn fp e be wd wh ta tp fg lw ti pu fi) q p ∧ rp_fm (FfG_X8_lawLine e at_ en tk2 wm ns fa pl fr tm lt) q p) := by
  have hb0 : 0 ≤ be := hK.2.2.2.1
  have hb1 : be ≤ e := hK.2.2.2.2.1
  have h10' : fr 10 ≤ 0 := by omega
  have h11' : ¬ fr 11 = 0 := by omega
  have la : Ff_X8_last fr = fg - 1 := by rw [hfg]; rfl
  have lb : ∀ v, Ff_X8_last (fl_up fr 7 v) = fg - 1 := fun v => by rw [hfg]; rfl
  have lc : ∀ v w, Ff_X8_last (fl_up (fl_up fr 7 v) 8 w) = fg - 1 := fun v w => by rw [hfg]; rfl
  obtain ⟨st1, be1, tk1, wd1, wh1, at1, en1, tk3, wm1, ns1, lt1, a1, a2, a3, a4⟩ := rp_adv hT he be wd wh lt hb0 hb1
  rw [hbe] at a2
  rcases rp_tw hT he a3 (nn := 5) (by decide) (by decide) rp_sw_times 0 (fg - 1) fn fp ta fa pl with ⟨v1, st2, be2, tk4, wd2, wh2, at2, en2, tk5, wm2, ns2, lt2, b1, b2, b3, b4, b5, b6, b7, b8, b9⟩ | ⟨q, p, st2, be2, tk4, wd2, wh2, ta2, at2, en2, tk5, wm2, ns2, lt2, b1, b2⟩
  rotate_left
  · refine Or.inr ⟨q, p, ?_, ?_⟩
    · simp only [Ff_X3_readLaw, a1, b1, fl_lt, fl_c2, fl_c3, fl_c4, fl_c5, fl_c6, fl_c7, fl_c8, fl_c9, fl_c10, reduceIte, Int.reduceEq]; exact ⟨rfl, rfl, rfl⟩
    · simp only [FfG_X8_lawLine, if_pos h10', if_neg h11', a2, la, b2, fl_lt, fl_c2, fl_c3, fl_c4, fl_c5, fl_c6, fl_c7, fl_c8, fl_c9, fl_c10, reduceIte, Int.reduceEq]; exact ⟨rfl, rfl, rfl⟩
  rcases rp_tw hT he b3 (nn := 4) (by decide) (by decide) rp_sw_plus 0 (fg - 1) fn fp v1 fa pl with ⟨v2, st3, be3, tk6, wd3, wh3, at3, en3, tk7, wm3, ns3, lt3, c1, c2, c3, c4, c5, c6, c7, c8, c9⟩ | ⟨q, p, st3, be3, tk6, wd3, wh3, ta3, at3, en3, tk7, wm3, ns3, lt3, c1, c2⟩
  rotate_left
  · refine Or.inr ⟨q, p, ?_, ?_⟩
    · simp only [Ff_X3_readLaw, a1, b1, c1, fl_lt, fl_c2, fl_c3, fl_c4, fl_c5, fl_c6, fl_c7, fl_c8, fl_c9, fl_c10, reduceIte, Int.reduceEq]; exact ⟨rfl, rfl, rfl⟩
    · simp only [FfG_X8_lawLine, if_pos h10', if_neg h11', a2, la, b2, lb, c2, fl_lt, fl_c2, fl_c3, fl_c4, fl_c5, fl_c6, fl_c7, fl_c8, fl_c9, fl_c10, reduceIte, Int.reduceEq]; exact ⟨rfl, rfl, rfl⟩
  rcases rp_tw hT he c3 (nn := 5) (by decide) (by decide) rp_sw_first 0 (fg - 1) fn fp v2 fa pl with ⟨v3, st4, be4, tk8, wd4, wh4, at4, en4, tk9, wm4, ns4, lt4, d1, d2, d3, d4, d5, d6, d7, d8, d9⟩ | ⟨q, p, st4, be4, tk8, wd4, wh4, ta4, at4, en4, tk9, wm4, ns4, lt4, d1, d2⟩
  rotate_left
  · refine Or.inr ⟨q, p, ?_, ?_⟩
    · simp only [Ff_X3_readLaw, a1, b1, c1, d1, fl_lt, fl_c2, fl_c3, fl_c4, fl_c5, fl_c6, fl_c7, fl_c8, fl_c9, fl_c10, reduceIte, Int.reduceEq]; exact ⟨rfl, rfl, rfl⟩
    · simp only [FfG_X8_lawLine, if_pos h10', if_neg h11', a2, la, b2, lb, c2, lc, d2, fl_lt, fl_c2, fl_c3, fl_c4, fl_c5, fl_c6, fl_c7, fl_c8, fl_c9, fl_c10, reduceIte, Int.reduceEq]; exact ⟨rfl, rfl, rfl⟩
  refine Or.inl ⟨v1, v2, v3, st4, be4, tk8, wd4, wh4, at4, en4, tk9, wm4, ns4, lt4, ?_, ?_, d3, by omega, b6, b7, c6, c7, d6, d7⟩
  · simp only [Ff_X3_readLaw, a1, b1, c1, d1, fl_lt, fl_c2, fl_c3, fl_c4, fl_c5, fl_c6, fl_c7, fl_c8, fl_c9, fl_c10, reduceIte, Int.reduceEq]
  · simp only [FfG_X8_lawLine, if_pos h10', if_neg h11', a2, la, b2, lb, c2, lc, d2, fl_lt, fl_c2, fl_c3, fl_c4, fl_c5, fl_c6, fl_c7, fl_c8, fl_c9, fl_c10, reduceIte, Int.reduceEq]
end PUF
end P092246_pure6
section P092247_pure7
section PUG

def rp_Df (tb : Int) (kd me fr : Nat → Int) : Prop := 0 ≤ tb ∧ tb ≤ 511 ∧ (∀ f : Nat, f < 9 → kd f = fr (12 + 2 * f) ∧ me f = fr (13 + 2 * f) ∧ 0 ≤ fr (12 + 2 * f) ∧ (Ff_X7_hasBit tb (f : Int) = 1 ↔ 0 < fr (12 + 2 * f))) ∧ Ff_J6_bitCount_0f7a4 tb = fr 4 ∧ 0 ≤ fr 4 ∧ fr 4 ≤ 9
def rp_Dw (wc : Int) (wf wt fr : Nat → Int) : Prop := wc = fr 5 ∧ 0 ≤ wc ∧ wc ≤ 3 ∧ ∀ w : Nat, (w : Int) < wc → wf w = fr (30 + 2 * w) ∧ wt w = fr (31 + 2 * w)
def rp_Ds (sc : Int) (sf sm fr : Nat → Int) : Prop := sc = fr 6 ∧ 0 ≤ sc ∧ sc ≤ 6 ∧ ∀ i : Nat, (i : Int) < sc → sf i = fr (36 + 2 * i) ∧ sm i = fr (37 + 2 * i)
def rp_Dn (c : Int) (nm fr : Nat → Int) : Prop := c = fr 4 + fr 5 ∧ rp_N nm c fr ∧ ∀ s : Nat, s < 12 → 0 < fr (48 + s) → (s : Int) < fr 4 ∨ (9 ≤ s ∧ (s : Int) < 9 + fr 5)
def rp_Dh (fg sp sa sh lw ti pu fi : Int) (fr : Nat → Int) : Prop :=
  (fg = fr 0 ∧ (fr 11 = 0 ∨ fr 11 = 1) ∧ (fr 11 = 0 → fr 0 = 0 ∧ fr 10 = 0 ∧ fr 4 = 0 ∧ fr 5 = 0 ∧ fr 6 = 0) ∧ (fr 11 = 1 → 2 ≤ fr 0 ∧ fr 0 ≤ 9 ∧ sp = fr 1 ∧ sa = fr 2 ∧ sh = fr 3)) ∧
  lw = fr 10 ∧ (lw = 0 ∨ lw = 1) ∧ (lw = 1 → ti = fr 7 ∧ pu = fr 8 ∧ fi = fr 9 ∧ (0 ≤ fi ∧ fi ≤ fg - 1))
/-- what is told so far, here and there -/
def rp_D (fg sp sa sh lw ti pu fi tb sc wc c : Int) (kd me sf sm wf wt nm fr : Nat → Int) : Prop :=
  rp_Dh fg sp sa sh lw ti pu fi fr ∧ rp_Df tb kd me fr ∧ rp_Dw wc wf wt fr ∧ rp_Ds sc sf sm fr ∧ rp_Dn c nm fr
theorem rp_Df_cg {tb : Int} {kd me fr fr' : Nat → Int} (h : rp_Df tb kd me fr) (q : ∀ i : Nat, (12 ≤ i ∧ i < 30) ∨ i = 4 → fr' i = fr i) : rp_Df tb kd me fr' := by
  obtain ⟨a, b, c, d, e, f⟩ := h
  have q4 := q 4 (Or.inr rfl)
  refine ⟨a, b, fun k hk => ?_, by rw [q4]; exact d, by omega, by omega⟩
  rw [q (12 + 2 * k) (Or.inl (by omega)), q (13 + 2 * k) (Or.inl (by omega))]
  exact c k hk
theorem rp_Dw_cg {wc : Int} {wf wt fr fr' : Nat → Int} (h : rp_Dw wc wf wt fr) (q : ∀ i : Nat, (30 ≤ i ∧ i < 36) ∨ i = 5 → fr' i = fr i) : rp_Dw wc wf wt fr' := by
  obtain ⟨a, b, c, d⟩ := h
  have q5 := q 5 (Or.inr rfl)
  refine ⟨by omega, b, c, fun k hk => ?_⟩
  rw [q (30 + 2 * k) (Or.inl (by omega)), q (31 + 2 * k) (Or.inl (by omega))]
  exact d k hk
theorem rp_Ds_cg {sc : Int} {sf sm fr fr' : Nat → Int} (h : rp_Ds sc sf sm fr) (q : ∀ i : Nat, (36 ≤ i ∧ i < 48) ∨ i = 6 → fr' i = fr i) : rp_Ds sc sf sm fr' := by
  obtain ⟨a, b, c, d⟩ := h
  have q6 := q 6 (Or.inr rfl)
  refine ⟨by omega, b, c, fun k hk => ?_⟩
  rw [q (36 + 2 * k) (Or.inl (by omega)), q (37 + 2 * k) (Or.inl (by omega))]
  exact d k hk
theorem rp_N_cg {nm : Nat → Int} {c : Int} {fr fr' : Nat → Int} (h : rp_N nm c fr) (q : ∀ i : Nat, 48 ≤ i ∧ i < 156 → fr' i = fr i) : rp_N nm c fr' := by
  obtain ⟨a, b, d⟩ := h
  have z : ∀ s : Nat, s < 12 → fr' (48 + s) = fr (48 + s) := fun s hs => q _ (by omega)
  have y : ∀ s : Nat, s < 12 → ∀ k : Nat, k < (fr (48 + s)).toNat → fr (60 + 8 * s + k) = fr' (60 + 8 * s + k) := fun s hs k hk => by
    have h1 := (a s hs).2.1
    exact (q _ (by omega)).symm
  refine ⟨fun s hs => ?_, fun i hi => ?_, fun s hs h0 => ?_⟩
  · rw [z s hs]
    refine ⟨(a s hs).1, (a s hs).2.1, fun k hk => ?_⟩
    show 97 ≤ fr' (60 + 8 * s + k) ∧ fr' (60 + 8 * s + k) ≤ 122
    rw [← y s hs k hk]; exact (a s hs).2.2 k hk
  · obtain ⟨s, s1, s2, s3⟩ := b i hi
    refine ⟨s, s1, by rw [z s s1]; exact s2, ?_⟩
    rw [z s s1, s3]; exact rp_pk_cg (y s s1)
  · rw [z s hs] at h0
    obtain ⟨i, i1, i2⟩ := d s hs h0
    refine ⟨i, i1, ?_⟩
    rw [z s hs, i2]; exact rp_pk_cg (y s hs)
theorem rp_Dn_cg {c : Int} {nm fr fr' : Nat → Int} (h : rp_Dn c nm fr) (q : ∀ i : Nat, (48 ≤ i ∧ i < 156) ∨ i = 4 ∨ i = 5 → fr' i = fr i) : rp_Dn c nm fr' := by
  obtain ⟨a, b, d⟩ := h
  have q4 := q 4 (Or.inr (Or.inl rfl))
  have q5 := q 5 (Or.inr (Or.inr rfl))
  refine ⟨by omega, rp_N_cg b (fun i hi => q i (Or.inl hi)), fun s hs h0 => ?_⟩
  rw [q (48 + s) (Or.inl (by omega))] at h0
  rw [q4, q5]; exact d s hs h0
/-- watcher: readWatcher and watcherLine -/
theorem rp_watch {tp tm : Nat → Int} {e be wd wh : Int} (hT : rp_T tp tm e) (he : e ≤ 900) {st1 be1 tk1 wd1 wh1 at1 en1 tk3 wm1 ns1 : Int} {lt1 : Nat → Int} (a1 : Ff_X3_advance e be wd wh tp = (st1, be1, tk1, wd1, wh1)) (a3 : rp_K e st1 be1 tk1 wd1 wh1 at1 en1 tk3 wm1 ns1 lt1)
    {fg sp sa sh lw ti pu fi tb sc wc c : Int} {kd me sf sm wf wt nm fr : Nat → Int} (hD : rp_D fg sp sa sh lw ti pu fi tb sc wc c kd me sf sm wf wt nm fr) (hw : wc < 3) (hT11 : ¬ fr 11 = 0) (fn fp ta fa pl : Int) :
    (∃ c' ta' wc' wf' wt' nm' fr' st2 be2 tk4 wd2 wh2 at2 en2 tk5 wm2 ns2 lt2, Ff_X3_readWatcher fn fp c e be wd wh ta tp nm fg wc wf wt = (1, fn, fp, c', st2, be2, tk4, wd2, wh2, ta', nm', wc', wf', wt') ∧ FfG_X8_watcherLine e at1 en1 tk3 wm1 ns1 fa pl fr lt1 tm = (at2, en2, tk5, wm2, ns2, fa, pl, 0, fr', lt2) ∧ rp_K e st2 be2 tk4 wd2 wh2 at2 en2 tk5 wm2 ns2 lt2 ∧ st1 < st2 ∧ rp_D fg sp sa sh lw ti pu fi tb sc wc' c' kd me sf sm wf' wt' nm' fr') ∨
    (∃ q p, rp_fc (Ff_X3_readWatcher fn fp c e be wd wh ta tp nm fg wc wf wt) q p ∧ rp_fm (FfG_X8_watcherLine e at1 en1 tk3 wm1 ns1 fa pl fr lt1 tm) q p) := by
  obtain ⟨hh, hf, ⟨w1, w2, w3, w4⟩, hs, n1, n2, n3⟩ := hD
  have hf' := hf
  obtain ⟨-, -, -, -, f4, f9⟩ := hf'
  have ea : (9 + fr 5) = ((9 + wc.toNat : Nat) : Int) := by omega
  have hslot : fr (48 + (9 + wc.toNat)) = 0 := by
    have h1 := (n2.1 (9 + wc.toNat) (by omega)).1
    by_cases h0 : 0 < fr (48 + (9 + wc.toNat))
    · have := n3 _ (by omega) h0; omega
    · omega
  rcases rp_nn hT he a3 n2 (a := 9 + wc.toNat) (by omega) hslot (by omega) (by omega) fn fp fa pl with ⟨nm1, st2, be2, tk4, wd2, wh2, at2, en2, tk5, wm2, ns2, lt2, fr1, z, b1, b2, b3, b4, b5, b6, b7, b8, b9⟩ | ⟨q, st2, be2, tk4, wd2, wh2, nm1, c1, at2, en2, tk5, wm2, ns2, lt2, fr1, b1, b2⟩
  rotate_left
  · rw [← ea] at b2
    refine Or.inr ⟨q, st1, ?_, ?_⟩
    · simp only [Ff_X3_readWatcher, a1, b1, fl_lt, fl_c2, fl_c3, fl_c4, fl_c5, fl_c6, fl_c7, fl_c8, fl_c9, fl_c10, reduceIte, Int.reduceEq]; exact ⟨rfl, rfl, rfl⟩
    · simp only [FfG_X8_watcherLine, b2, fl_lt, fl_c2, fl_c3, fl_c4, fl_c5, fl_c6, fl_c7, fl_c8, fl_c9, fl_c10, reduceIte, Int.reduceEq]; exact ⟨rfl, rfl, rfl⟩
  rw [← ea] at b2
  have hfg : fg = fr 0 := hh.1.1
  have la : Ff_X8_last fr1 = fg - 1 := by rw [hfg, ← b7 0 (by omega)]; rfl
  rcases rp_tw hT he b3 (nn := 4) (by decide) (by decide) rp_sw_from 0 (fg - 1) fn fp ta fa pl with ⟨v1, st3, be3, tk6, wd3, wh3, at3, en3, tk7, wm3, ns3, lt3, c1, c2, c3, c4, c5, c6, c7, c8, c9⟩ | ⟨q, p, st3, be3, tk6, wd3, wh3, ta3, at3, en3, tk7, wm3, ns3, lt3, c1, c2⟩
  rotate_left
  · refine Or.inr ⟨q, p, ?_, ?_⟩
    · simp only [Ff_X3_readWatcher, a1, b1, c1, fl_lt, fl_c2, fl_c3, fl_c4, fl_c5, fl_c6, fl_c7, fl_c8, fl_c9, fl_c10, reduceIte, Int.reduceEq]; exact ⟨rfl, rfl, rfl⟩
    · simp only [FfG_X8_watcherLine, b2, la, c2, fl_lt, fl_c2, fl_c3, fl_c4, fl_c5, fl_c6, fl_c7, fl_c8, fl_c9, fl_c10, reduceIte, Int.reduceEq]; exact ⟨rfl, rfl, rfl⟩
  have ix : (30 + 2 * fr 5).toNat = 30 + 2 * wc.toNat := by omega
  have ix2 : (30 + 2 * fr 5 + 1).toNat = 31 + 2 * wc.toNat := by omega
  have lb : Ff_X8_last (fl_up fr1 (30 + 2 * wc.toNat) v1) = fg - 1 := by
    rw [← la]; unfold Ff_X8_last; rw [rp_up_ne _ _ (by omega)]
  rcases rp_tw hT he c3 (nn := 2) (by decide) (by decide) rp_sw_to 0 (fg - 1) fn fp v1 fa pl with ⟨v2, st4, be4, tk8, wd4, wh4, at4, en4, tk9, wm4, ns4, lt4, d1, d2, d3, d4, d5, d6, d7, d8, d9⟩ | ⟨q, p, st4, be4, tk8, wd4, wh4, ta4, at4, en4, tk9, wm4, ns4, lt4, d1, d2⟩
  rotate_left
  · refine Or.inr ⟨q, p, ?_, ?_⟩
    · simp only [Ff_X3_readWatcher, a1, b1, c1, d1, fl_lt, fl_c2, fl_c3, fl_c4, fl_c5, fl_c6, fl_c7, fl_c8, fl_c9, fl_c10, reduceIte, Int.reduceEq]; exact ⟨rfl, rfl, rfl⟩
    · simp only [FfG_X8_watcherLine, b2, la, c2, ix, lb, d2, fl_lt, fl_c2, fl_c3, fl_c4, fl_c5, fl_c6, fl_c7, fl_c8, fl_c9, fl_c10, reduceIte, Int.reduceEq]; exact ⟨rfl, rfl, rfl⟩
  have hadd : Ff_X6_add v1 v2 wc wf wt = (wc + 1, fl_up wf wc.toNat v1, fl_up wt wc.toNat v2) := by
    unfold Ff_X6_add; rw [if_neg (by omega)]; rfl
  have x5 : (fl_up (fl_up fr1 (30 + 2 * wc.toNat) v1) (31 + 2 * wc.toNat) v2) 5 = fr 5 := by
    rw [rp_up_ne _ _ (by omega), rp_up_ne _ _ (by omega), b7 5 (by omega)]
  refine Or.inl ⟨c + 1, v2, wc + 1, fl_up wf wc.toNat v1, fl_up wt wc.toNat v2, nm1, fl_up (fl_up (fl_up fr1 (30 + 2 * wc.toNat) v1) (31 + 2 * wc.toNat) v2) 5 (fr 5 + 1), st4, be4, tk8, wd4, wh4, at4, en4, tk9, wm4, ns4, lt4, ?_, ?_, d3, by omega, ?_⟩
  · simp only [Ff_X3_readWatcher, a1, b1, c1, d1, hadd, fl_lt, fl_c2, fl_c3, fl_c4, fl_c5, fl_c6, fl_c7, fl_c8, fl_c9, fl_c10, reduceIte, Int.reduceEq]
  · simp only [FfG_X8_watcherLine, b2, la, c2, ix, ix2, lb, d2, x5, fl_lt, fl_c2, fl_c3, fl_c4, fl_c5, fl_c6, fl_c7, fl_c8, fl_c9, fl_c10, reduceIte, Int.reduceEq]
  · have g : ∀ i : Nat, i ≠ 5 → i ≠ 30 + 2 * wc.toNat → i ≠ 31 + 2 * wc.toNat → (fl_up (fl_up (fl_up fr1 (30 + 2 * wc.toNat) v1) (31 + 2 * wc.toNat) v2) 5 (fr 5 + 1)) i = fr1 i := fun i i1 i2 i3 => by
      rw [rp_up_ne _ _ i1, rp_up_ne _ _ i3, rp_up_ne _ _ i2]
    have g0 : ∀ i : Nat, i < 48 → i ≠ 5 → i ≠ 30 + 2 * wc.toNat → i ≠ 31 + 2 * wc.toNat → (fl_up (fl_up (fl_up fr1 (30 + 2 * wc.toNat) v1) (31 + 2 * wc.toNat) v2) 5 (fr 5 + 1)) i = fr i := fun i i0 i1 i2 i3 => by rw [g i i1 i2 i3, b7 i i0]
    refine ⟨?_, rp_Df_cg hf (fun i hi => g0 i (by omega) (by omega) (by omega) (by omega)), ⟨?_, by omega, by omega, ?_⟩, rp_Ds_cg hs (fun i hi => g0 i (by omega) (by omega) (by omega) (by omega)), ?_, ?_, ?_⟩
    · obtain ⟨⟨k1, k2, k3, k4⟩, k5, k6, k7⟩ := hh
      unfold rp_Dh
      rw [g0 0 (by omega) (by omega) (by omega) (by omega), g0 1 (by omega) (by omega) (by omega) (by omega), g0 2 (by omega) (by omega) (by omega) (by omega), g0 3 (by omega) (by omega) (by omega) (by omega), g0 4 (by omega) (by omega) (by omega) (by omega), g0 6 (by omega) (by omega) (by omega) (by omega), g0 7 (by omega) (by omega) (by omega) (by omega), g0 8 (by omega) (by omega) (by omega) (by omega), g0 9 (by omega) (by omega) (by omega) (by omega), g0 10 (by omega) (by omega) (by omega) (by omega), g0 11 (by omega) (by omega) (by omega) (by omega), rp_up_eq]
      refine ⟨⟨k1, k2, fun h => ?_, k4⟩, k5, k6, k7⟩
      exact absurd h hT11
    · rw [rp_up_eq]; omega
    · intro w hw2
      by_cases q : w = wc.toNat
      · subst q
        rw [rp_up_eq, rp_up_eq]
        constructor
        · rw [rp_up_ne _ _ (by omega), rp_up_ne _ _ (by omega), rp_up_eq]
        · rw [rp_up_ne _ _ (by omega), rp_up_eq]
      · rw [rp_up_ne _ _ q, rp_up_ne _ _ q, g0 _ (by omega) (by omega) (by omega) (by omega), g0 _ (by omega) (by omega) (by omega) (by omega)]
        exact w4 w (by omega)
    · rw [g0 4 (by omega) (by omega) (by omega) (by omega), rp_up_eq]; omega
    · exact rp_N_cg b6 (fun i hi => g i (by omega) (by omega) (by omega))
    · intro s hs2 h0
      rw [g (48 + s) (by omega) (by omega) (by omega), b8 s hs2] at h0
      rw [g0 4 (by omega) (by omega) (by omega) (by omega), rp_up_eq]
      by_cases q : s = 9 + wc.toNat
      · right; omega
      · rw [if_neg q] at h0
        have := n3 s hs2 h0; omega
end PUG
end P092247_pure7
section P0922470_pure70
section PUH0
def rp_pc (n : Nat) : Nat := (n >>> 0) % 2 + (n >>> 1) % 2 + (n >>> 2) % 2 + (n >>> 3) % 2 + (n >>> 4) % 2 + (n >>> 5) % 2 + (n >>> 6) % 2 + (n >>> 7) % 2 + (n >>> 8) % 2
set_option maxRecDepth 20000 in
theorem rp_z1 : ∀ n : Fin 512, ∀ g : Fin 9, Ff_X7_hasBit (n.val : Int) (g.val : Int) = if (n.val >>> g.val) % 2 = 1 then 1 else 0 := by decide +kernel
set_option maxRecDepth 20000 in
theorem rp_z2 : ∀ tb : Fin 512, ∀ f : Fin 9, fl_or (tb.val : Int) (fl_shl 1 (f.val : Int)) = ((tb.val ||| (1 <<< f.val) : Nat) : Int) := by decide +kernel
theorem rp_tb (x g : Nat) : ((x >>> g) % 2 = 1) ↔ x.testBit g = true := by
  rw [Nat.testBit_eq_decide_div_mod_eq, Nat.shiftRight_eq_div_pow, decide_eq_true_iff]
theorem rp_ob (x f g : Nat) : (((x ||| (1 <<< f)) >>> g) % 2 = 1) ↔ ((x >>> g) % 2 = 1 ∨ g = f) := by
  rw [rp_tb, rp_tb, Nat.testBit_or, Nat.one_shiftLeft, Nat.testBit_two_pow, Bool.or_eq_true, decide_eq_true_iff]
  exact ⟨fun h => h.elim Or.inl (fun h => Or.inr h.symm), fun h => h.elim Or.inl (fun h => Or.inr h.symm)⟩
set_option maxRecDepth 20000 in
theorem rp_z3 : ∀ tb : Fin 512, ∀ f : Fin 9, (tb.val ||| (1 <<< f.val)) < 512 ∧ ((tb.val >>> f.val) % 2 = 1 ∨ rp_pc (tb.val ||| (1 <<< f.val)) = rp_pc tb.val + 1) := by decide +kernel
set_option maxRecDepth 20000 in
theorem rp_z4 : ∀ n : Fin 512, Ff_J6_bitCount_0f7a4 (n.val : Int) = ((rp_pc n.val : Nat) : Int) := by decide +kernel
theorem rp_zi {p : Prop} [Decidable p] : ((if p then (1 : Int) else 0) = 1) ↔ p := by
  by_cases h : p
  · rw [if_pos h]; exact ⟨fun _ => h, fun _ => rfl⟩
  · rw [if_neg h]; exact ⟨fun q => absurd q (by decide), fun q => absurd q h⟩
theorem rp_bits : ∀ tb : Fin 512, ∀ f : Fin 9, (0 ≤ fl_or (tb.val : Int) (fl_shl 1 (f.val : Int)) ∧ fl_or (tb.val : Int) (fl_shl 1 (f.val : Int)) ≤ 511) ∧ (Ff_X7_hasBit (tb.val : Int) (f.val : Int) = 1 ∨ Ff_J6_bitCount_0f7a4 (fl_or (tb.val : Int) (fl_shl 1 (f.val : Int))) = Ff_J6_bitCount_0f7a4 (tb.val : Int) + 1) ∧ ∀ g : Fin 9, (Ff_X7_hasBit (fl_or (tb.val : Int) (fl_shl 1 (f.val : Int))) (g.val : Int) = 1 ↔ (Ff_X7_hasBit (tb.val : Int) (g.val : Int) = 1 ∨ g.val = f.val)) := by
  intro tb f
  obtain ⟨h1, h2⟩ := rp_z3 tb f
  have e1 := rp_z1 ⟨tb.val ||| (1 <<< f.val), h1⟩
  have e4 := rp_z4 ⟨tb.val ||| (1 <<< f.val), h1⟩
  have h5 : ∀ q : Nat, q < 512 → (0 : Int) ≤ (q : Int) ∧ (q : Int) ≤ 511 := fun q h => by omega
  rw [rp_z2 tb f]
  refine ⟨h5 _ h1, ?_, fun g => ?_⟩
  · rw [rp_z1 tb f, rp_zi]
    rcases h2 with h2 | h2
    · exact Or.inl h2
    · right
      have e5 : Ff_J6_bitCount_0f7a4 ((tb.val ||| (1 <<< f.val) : Nat) : Int) = ((rp_pc (tb.val ||| (1 <<< f.val)) : Nat) : Int) := e4
      rw [e5, rp_z4 tb, h2]
      rfl
  · have e5 : Ff_X7_hasBit ((tb.val ||| (1 <<< f.val) : Nat) : Int) (g.val : Int) = if ((tb.val ||| (1 <<< f.val)) >>> g.val) % 2 = 1 then 1 else 0 := e1 g
    rw [e5, rp_z1 tb g, rp_zi, rp_zi]
    exact rp_ob tb.val f.val g.val
end PUH0
end P0922470_pure70
