section PUC
theorem rp_cmp0 {x y : Int} : fl_cmp x y = 0 ↔ x = y := by
  unfold fl_cmp
  by_cases h : y < x
  · rw [if_pos h]; constructor
    · intro q; exact absurd q (by decide)
    · intro q; omega
  · rw [if_neg h]
    by_cases h2 : x = y
    · rw [if_pos h2]; exact ⟨fun _ => h2, fun _ => rfl⟩
    · rw [if_neg h2]; constructor
      · intro q; exact absurd q (by decide)
      · intro q; exact absurd q h2
/-- is it a word, there -/
theorem rp_isc {wd nn : Int} {cs : Nat → Int} (hn0 : 0 ≤ nn) (hn : nn ≤ 8) (hd : rp_dg cs nn.toNat) : Ff_X3_isWord 1 wd nn cs = if wd = rp_pk cs nn.toNat then 1 else 0 := by
  have main : ∀ (m : Nat) (j : Int), nn + 1 - j ≤ (m : Int) → 0 ≤ j → j ≤ nn → fl_wh (fun t9 => Sf_X3_isWord_15_1 wd nn cs t9.1 t9.2) 0 m (j, rp_pk cs j.toNat) = if wd = rp_pk cs nn.toNat then 1 else 0 := by
    intro m
    induction m with
    | zero => intro j h1 h2 h3; omega
    | succ m ih =>
      intro j h1 h2 h3
      by_cases hj : nn ≤ j
      · have ej : j = nn := by omega
        subst ej
        have hc : Sf_X3_isWord_15_1 wd j cs j (rp_pk cs j.toNat) = .inr (if fl_cmp wd (rp_pk cs j.toNat) = 0 then 1 else 0) := by
          simp only [Sf_X3_isWord_15_1, fl_lt]
          rw [if_pos hj]
        rw [fl_wh_r (step := fun t9 : Int × Int => Sf_X3_isWord_15_1 wd j cs t9.1 t9.2) (s := (j, rp_pk cs j.toNat)) hc]
        by_cases q : wd = rp_pk cs j.toNat
        · rw [if_pos (rp_cmp0.mpr q), if_pos q]
        · rw [if_neg (fun h => q (rp_cmp0.mp h)), if_neg q]
      · have hd1 := rp_dg_le hd (m := j.toNat) (by omega)
        have hdj := hd j.toNat (by omega)
        have q1 := rp_pk_lo hd1
        have q2 := rp_pk_7 hd1 (by omega)
        have ep : fl_lor (fl_lshl (rp_pk cs j.toNat) 8) (cs j.toNat) = rp_pk cs (j + 1).toNat := by
          rw [rp_push (by omega) (by omega) (by omega) (by omega), show (j + 1).toNat = j.toNat + 1 by omega]; rfl
        have hc : Sf_X3_isWord_15_1 wd nn cs j (rp_pk cs j.toNat) = .inl (j + 1, rp_pk cs (j + 1).toNat) := by
          simp only [Sf_X3_isWord_15_1, fl_lt]
          rw [if_neg hj, ep]
        rw [fl_wh_l (step := fun t9 : Int × Int => Sf_X3_isWord_15_1 wd nn cs t9.1 t9.2) (s := (j, rp_pk cs j.toNat)) hc]
        exact ih (j + 1) (by omega) (by omega) (by omega)
  unfold Ff_X3_isWord
  rw [if_pos rfl]
  exact main 9 0 (by omega) (by omega) hn0
theorem rp_ism0 {ns : Int} {lt cs : Nat → Int} : ∀ (m : Nat) (j : Int), ns + 1 - j ≤ (m : Int) → j ≤ ns → fl_wh (fun t9 => SfG_X8_isWord_32_1 ns lt cs t9.1 t9.2) 0 m (j, 0) = 0 := by
  intro m
  induction m with
  | zero => intro j h1 h2; omega
  | succ m ih =>
    intro j h1 h2
    by_cases hj : ns ≤ j
    · have hc : SfG_X8_isWord_32_1 ns lt cs j 0 = .inr 0 := by
        unfold SfG_X8_isWord_32_1; rw [if_pos hj]
      rw [fl_wh_r (step := fun t9 : Int × Int => SfG_X8_isWord_32_1 ns lt cs t9.1 t9.2) (s := (j, 0)) hc]
    · have hc : SfG_X8_isWord_32_1 ns lt cs j 0 = .inl (j + 1, 0) := by
        unfold SfG_X8_isWord_32_1; rw [if_neg hj, if_pos rfl]; rfl
      rw [fl_wh_l (step := fun t9 : Int × Int => SfG_X8_isWord_32_1 ns lt cs t9.1 t9.2) (s := (j, 0)) hc]
      exact ih (j + 1) (by omega) (by omega)
theorem rp_ism1 {ns : Int} {lt cs : Nat → Int} : ∀ (m : Nat) (j : Int), ns + 1 - j ≤ (m : Int) → 0 ≤ j → j ≤ ns → (∀ k : Nat, k < j.toNat → lt k = cs k) →
    (fl_wh (fun t9 => SfG_X8_isWord_32_1 ns lt cs t9.1 t9.2) 0 m (j, 1) = 1 ∧ ∀ k : Nat, k < ns.toNat → lt k = cs k) ∨ (fl_wh (fun t9 => SfG_X8_isWord_32_1 ns lt cs t9.1 t9.2) 0 m (j, 1) = 0 ∧ ¬ ∀ k : Nat, k < ns.toNat → lt k = cs k) := by
  intro m
  induction m with
  | zero => intro j h1 h2 h3; omega
  | succ m ih =>
    intro j h1 h2 h3 h4
    by_cases hj : ns ≤ j
    · have hc : SfG_X8_isWord_32_1 ns lt cs j 1 = .inr 1 := by
        unfold SfG_X8_isWord_32_1; rw [if_pos hj]
      rw [fl_wh_r (step := fun t9 : Int × Int => SfG_X8_isWord_32_1 ns lt cs t9.1 t9.2) (s := (j, 1)) hc]
      exact Or.inl ⟨rfl, fun k hk => h4 k (by omega)⟩
    · by_cases q : lt j.toNat = cs j.toNat
      · have hc : SfG_X8_isWord_32_1 ns lt cs j 1 = .inl (j + 1, 1) := by
          simp only [SfG_X8_isWord_32_1, fl_lt]; rw [if_neg hj, if_neg (by decide), if_pos q]; rfl
        rw [fl_wh_l (step := fun t9 : Int × Int => SfG_X8_isWord_32_1 ns lt cs t9.1 t9.2) (s := (j, 1)) hc]
        refine ih (j + 1) (by omega) (by omega) (by omega) (fun k hk => ?_)
        by_cases hk2 : k = j.toNat
        · rw [hk2]; exact q
        · exact h4 k (by omega)
      · have hc : SfG_X8_isWord_32_1 ns lt cs j 1 = .inl (j + 1, 0) := by
          simp only [SfG_X8_isWord_32_1, fl_lt]; rw [if_neg hj, if_neg (by decide), if_neg q]; rfl
        rw [fl_wh_l (step := fun t9 : Int × Int => SfG_X8_isWord_32_1 ns lt cs t9.1 t9.2) (s := (j, 1)) hc]
        exact Or.inr ⟨rp_ism0 m (j + 1) (by omega) (by omega), fun h => q (h j.toNat (by omega))⟩
/-- is it that word: here as there -/
theorem rp_isw {e st be tk wd wh at_ en tk2 wm ns nn : Int} {lt cs cs' : Nat → Int} (hK : rp_K e st be tk wd wh at_ en tk2 wm ns lt) (hn0 : 0 ≤ nn) (hn : nn ≤ 8) (hd : ∀ k : Nat, k < 8 → (k : Int) < nn → 97 ≤ cs k ∧ cs k ≤ 122 ∧ cs' k = cs k) :
    (Ff_X3_isWord tk wd nn cs = 0 ∧ FfG_X8_isWord tk2 ns lt nn cs' = 0) ∨ (Ff_X3_isWord tk wd nn cs = 1 ∧ FfG_X8_isWord tk2 ns lt nn cs' = 1 ∧ tk = 1 ∧ tk2 = 2 ∧ be = en ∧ st < be) := by
  have hd1 : rp_dg cs nn.toNat := fun k hk => ⟨(hd k (by omega) (by omega)).1, (hd k (by omega) (by omega)).2.1⟩
  have z : ∀ t : Int, t ≠ 1 → Ff_X3_isWord t wd nn cs = 0 := fun t h => by unfold Ff_X3_isWord; rw [if_neg h]
  have z2 : ∀ t : Int, t ≠ 2 → FfG_X8_isWord t ns lt nn cs' = 0 := fun t h => by unfold FfG_X8_isWord; rw [if_neg h]
  obtain ⟨h1, h2, h3, h4, h5, h6⟩ := hK
  rcases h6 with ⟨a, b⟩ | ⟨a, b⟩ | ⟨a, b, -⟩ | ⟨a, b, c, d, f0, f, g, hw⟩ | ⟨a, b, -⟩
  · subst a; subst b; exact Or.inl ⟨z _ (by decide), z2 _ (by decide)⟩
  · subst a; subst b; exact Or.inl ⟨z _ (by decide), z2 _ (by decide)⟩
  · subst a; subst b; exact Or.inl ⟨z _ (by decide), z2 _ (by decide)⟩
  · subst a; subst b
    rw [rp_isc hn0 hn hd1]
    have hu : FfG_X8_isWord 2 ns lt nn cs' = if ns = nn then fl_wh (fun t9 => SfG_X8_isWord_32_1 ns lt cs' t9.1 t9.2) 0 9 (0, 1) else 0 := by unfold FfG_X8_isWord; rw [if_pos rfl]; rfl
    rw [hu]
    by_cases hl : ns = nn
    · rw [if_pos hl]
      rcases rp_ism1 (ns := ns) (lt := lt) (cs := cs') 9 0 (by omega) (by omega) (by omega) (fun k hk => by omega) with ⟨q1, q2⟩ | ⟨q1, q2⟩
      · refine Or.inr ⟨if_pos ?_, q1, rfl, rfl, c, d⟩
        rw [hw, hl]
        exact rp_pk_cg (fun k hk => by rw [q2 k (by omega)]; exact (hd k (by omega) (by omega)).2.2)
      · refine Or.inl ⟨if_neg ?_, q1⟩
        intro he
        rw [hw] at he
        obtain ⟨-, e2⟩ := rp_pk_inj g hd1 he
        exact q2 (fun k hk => by rw [e2 k hk]; exact ((hd k (by omega) (by omega)).2.2).symm)
    · rw [if_neg hl]
      refine Or.inl ⟨if_neg ?_, rfl⟩
      intro he
      rw [hw] at he
      obtain ⟨e1, -⟩ := rp_pk_inj g hd1 he
      omega
  · subst a; subst b; exact Or.inl ⟨z _ (by decide), z2 _ (by decide)⟩
theorem rp_in (x lo hi : Int) : Ff_X7_within x lo hi = Ff_X8_in x lo hi := rfl
theorem rp_in1 {x lo hi : Int} (h1 : lo ≤ x) (h2 : x ≤ hi) : Ff_X8_in x lo hi = 1 := by
  unfold Ff_X8_in; rw [if_neg (by omega), if_neg (by omega)]
theorem rp_in0 {x lo hi : Int} (h : ¬ (lo ≤ x ∧ x ≤ hi)) : Ff_X8_in x lo hi = 0 := by
  unfold Ff_X8_in
  by_cases h1 : x < lo
  · rw [if_pos h1]
  · rw [if_neg h1, if_pos (by omega)]
/-- a WHOLE within bounds: isWholeWithin and numberHere -/
theorem rp_iww {e st be tk wd wh at_ en tk2 wm ns : Int} {lt : Nat → Int} (hK : rp_K e st be tk wd wh at_ en tk2 wm ns lt) (lo hi fn fp fa pl : Int) :
    (Ff_X3_isWholeWithin lo hi fn fp st tk wh = (1, fn, fp) ∧ FfG_X8_numberHere lo hi at_ tk2 wm fa pl = (wh, fa, pl, 0) ∧ tk = 2 ∧ wh = wm ∧ lo ≤ wh ∧ wh ≤ hi ∧ be = en ∧ st < be ∧ 0 ≤ wh ∧ wh ≤ 999) ∨
    (∃ q, Ff_X3_isWholeWithin lo hi fn fp st tk wh = (0, q, st) ∧ FfG_X8_numberHere lo hi at_ tk2 wm fa pl = (lo, q, st, 1)) := by
  obtain ⟨h1, h2, h3, h4, h5, h6⟩ := hK
  subst h1
  have z : ∀ t t2 : Int, t ≠ 2 → t2 ≠ 3 → (∃ q, Ff_X3_isWholeWithin lo hi fn fp st t wh = (0, q, st) ∧ FfG_X8_numberHere lo hi st t2 wm fa pl = (lo, q, st, 1)) := by
    intro t t2 a b
    refine ⟨1, ?_, ?_⟩
    · unfold Ff_X3_isWholeWithin; rw [if_neg a]; rfl
    · unfold FfG_X8_numberHere; rw [if_neg b]; rfl
  rcases h6 with ⟨a, b⟩ | ⟨a, b⟩ | ⟨a, b, -⟩ | ⟨a, b, -⟩ | ⟨a, b, c, d, f, g, k⟩
  · subst a; subst b; exact Or.inr (z _ _ (by decide) (by decide))
  · subst a; subst b; exact Or.inr (z _ _ (by decide) (by decide))
  · subst a; subst b; exact Or.inr (z _ _ (by decide) (by decide))
  · subst a; subst b; exact Or.inr (z _ _ (by decide) (by decide))
  · subst a; subst b; subst f
    by_cases hb : lo ≤ wh ∧ wh ≤ hi
    · refine Or.inl ⟨?_, ?_, rfl, rfl, hb.1, hb.2, c, d, g, k⟩
      · simp only [Ff_X3_isWholeWithin, fl_lt, rp_in, rp_in1 hb.1 hb.2, reduceIte]
      · simp only [FfG_X8_numberHere, fl_lt, rp_in1 hb.1 hb.2, reduceIte]
    · refine Or.inr ⟨4, ?_, ?_⟩
      · simp only [Ff_X3_isWholeWithin, fl_lt, rp_in, rp_in0 hb, reduceIte, Int.reduceEq]; rfl
      · simp only [FfG_X8_numberHere, fl_lt, rp_in0 hb, reduceIte, Int.reduceEq]; rfl
end PUC
