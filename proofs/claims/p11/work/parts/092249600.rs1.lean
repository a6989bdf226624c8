section RSA
/-- a bit set: here and there -/
theorem rs_hb (x k : Int) : Ff_X8_hasBit x k = Ff_X7_hasBit x k := rfl
theorem rs_hb01 (x k : Int) : Ff_X7_hasBit x k = 0 ∨ Ff_X7_hasBit x k = 1 := by
  unfold Ff_X7_hasBit
  rw [fl_lt_eq rfl, fl_lt_eq rfl]
  split
  · exact Or.inr rfl
  · exact Or.inl rfl
theorem rs_bit {b f : Int} (h0 : 0 ≤ b) (h1 : b ≤ 511) (f0 : 0 ≤ f) (f8 : f ≤ 8) : (0 ≤ fl_or b (fl_shl 1 f) ∧ fl_or b (fl_shl 1 f) ≤ 511) ∧ ∀ g : Int, 0 ≤ g → g ≤ 8 → (Ff_X7_hasBit (fl_or b (fl_shl 1 f)) g = 1 ↔ (Ff_X7_hasBit b g = 1 ∨ g = f)) := by
  have h := rp_bits ⟨b.toNat, by omega⟩ ⟨f.toNat, by omega⟩
  simp only [Int.toNat_of_nonneg h0, Int.toNat_of_nonneg f0] at h
  obtain ⟨a1, a2, a3⟩ := h
  clear a2
  refine ⟨a1, fun g g0 g8 => ?_⟩
  have hg := a3 ⟨g.toNat, by omega⟩
  simp only [Int.toNat_of_nonneg g0] at hg
  rw [hg]
  constructor
  · rintro (q | q)
    · exact Or.inl q
    · exact Or.inr (by omega)
  · rintro (q | q)
    · exact Or.inl q
    · exact Or.inr (by omega)
/-- where a watcher is: here and there -/
theorem rs_at (w mi : Int) (f t : Nat → Int) : Ff_X8_watcherAt w mi t f = Ff_X6_placeOf w mi t f := by
  unfold Ff_X8_watcherAt Ff_X6_placeOf
  simp only [fl_lt]
  generalize t w.toNat = a
  generalize f w.toNat = b
  by_cases h : a ≤ b
  · by_cases h2 : a = b
    · subst h2
      rw [if_pos (by omega), if_pos (by omega), if_pos h, if_neg (by omega)]
    · have e : -(a - b) = b - a := by omega
      have h3 : ¬ (0 ≤ a - b) := by omega
      have h4 : ¬ (b - a = 0) := by omega
      have h5 : 0 < b - a := by omega
      rw [e]
      simp only [h, h3, h4, h5, reduceIte]
      by_cases h6 : fl_rem mi (2 * (b - a)) ≤ b - a
      · rw [if_pos h6, if_neg (by omega)]
      · rw [if_neg h6, if_pos (by omega)]
  · have h3 : 0 ≤ a - b := by omega
    have h4 : ¬ (a - b = 0) := by omega
    have h5 : 0 < a - b := by omega
    simp only [h, h3, h4, h5, reduceIte]
    by_cases h6 : fl_rem mi (2 * (a - b)) ≤ a - b
    · rw [if_pos h6, if_neg (by omega)]
    · rw [if_neg h6, if_pos (by omega)]
theorem rs_irem {x y : Int} (h0 : 0 ≤ x) (h1 : x ≤ 2147483647) (h2 : 0 < y) (h3 : y ≤ 2147483647) : fl_rem x y = x % y := by
  have e1 := rp_ofi (x := x) (by omega) h1
  have e2 := rp_ofi (x := y) (by omega) h3
  have q := (ai_rem2 (x := Int32.ofInt x) (y := Int32.ofInt y) rfl (by rw [e1]; exact h0) (by rw [e2]; exact h2) (Int.le_refl _)).1
  rw [e1, e2] at q
  exact q
theorem rs_at8 {w mi : Int} {f t : Nat → Int} (h0 : 0 ≤ mi) (h1 : mi ≤ 2147483647) (hf : 0 ≤ f w.toNat ∧ f w.toNat ≤ 8) (ht : 0 ≤ t w.toNat ∧ t w.toNat ≤ 8) : 0 ≤ Ff_X6_placeOf w mi t f ∧ Ff_X6_placeOf w mi t f ≤ 8 := by
  unfold Ff_X6_placeOf
  simp only [fl_lt]
  generalize t w.toNat = a at ht ⊢
  generalize f w.toNat = b at hf ⊢
  by_cases h : a ≤ b
  · rw [if_pos h]
    by_cases h5 : 0 < b - a
    · rw [if_pos h5, rs_irem h0 h1 (by omega) (by omega)]
      have m0 := Int.emod_nonneg mi (show 2 * (b - a) ≠ 0 by omega)
      have m1 := Int.emod_lt_of_pos mi (show 0 < 2 * (b - a) by omega)
      generalize mi % (2 * (b - a)) = k at m0 m1 ⊢
      by_cases h6 : b - a < k
      · rw [if_pos h6, rp_isub (by omega) (by omega) (by omega) (by omega) (by omega) (by omega)]; omega
      · rw [if_neg h6, rp_isub (by omega) (by omega) (by omega) (by omega) (by omega) (by omega)]; omega
    · rw [if_neg h5]; omega
  · rw [if_neg h, if_pos (by omega), rs_irem h0 h1 (by omega) (by omega)]
    have m0 := Int.emod_nonneg mi (show 2 * (a - b) ≠ 0 by omega)
    have m1 := Int.emod_lt_of_pos mi (show 0 < 2 * (a - b) by omega)
    generalize mi % (2 * (a - b)) = k at m0 m1 ⊢
    by_cases h6 : a - b < k
    · rw [if_pos h6]; omega
    · rw [if_neg h6]; omega
/-- the places of watchers in a minute, as bits -/
theorem rs_pi {mi c : Int} {t f : Nat → Int} (hp : ∀ w : Nat, (w : Int) < c → 0 ≤ Ff_X6_placeOf (w : Int) mi t f ∧ Ff_X6_placeOf (w : Int) mi t f ≤ 8) :
    ∀ (m : Nat) (j b : Int), c + 1 - j ≤ (m : Int) → 0 ≤ j → j ≤ c → 0 ≤ b → b ≤ 511 →
    ∃ B, fl_wh (fun t9 : Int × Int => Sf_X6_placesIn_7_1 mi c t f t9.1 t9.2) 0 m (j, b) = B ∧ 0 ≤ B ∧ B ≤ 511 ∧ ∀ p : Int, 0 ≤ p → p ≤ 8 → (Ff_X7_hasBit B p = 1 ↔ (Ff_X7_hasBit b p = 1 ∨ ∃ w : Nat, j ≤ (w : Int) ∧ (w : Int) < c ∧ Ff_X6_placeOf (w : Int) mi t f = p)) := by
  intro m
  induction m with
  | zero => intro j b h1 h2 h3; omega
  | succ m ih =>
    intro j b h1 h2 h3 h4 h5
    by_cases hj : c ≤ j
    · refine ⟨b, fl_wh_r (step := fun t9 : Int × Int => Sf_X6_placesIn_7_1 mi c t f t9.1 t9.2) (s := (j, b)) ?_, h4, h5, ?_⟩
      · show Sf_X6_placesIn_7_1 mi c t f j b = .inr b
        unfold Sf_X6_placesIn_7_1
        rw [if_pos hj]
      · intro p _ _
        constructor
        · exact Or.inl
        · rintro (h | ⟨w, a, b', _⟩)
          · exact h
          · omega
    · have hw := hp j.toNat (by omega)
      rw [Int.toNat_of_nonneg h2] at hw
      obtain ⟨⟨k1, k2⟩, k3⟩ := rs_bit h4 h5 hw.1 hw.2
      have st : Sf_X6_placesIn_7_1 mi c t f j b = .inl (j + 1, fl_or b (fl_shl 1 (Ff_X6_placeOf j mi t f))) := by
        unfold Sf_X6_placesIn_7_1
        rw [if_neg hj]; rfl
      obtain ⟨B, e1, e2, e3, e4⟩ := ih (j + 1) _ (by omega) (by omega) (by omega) k1 k2
      refine ⟨B, (fl_wh_l (step := fun t9 : Int × Int => Sf_X6_placesIn_7_1 mi c t f t9.1 t9.2) (s := (j, b)) st).trans e1, e2, e3, fun p p0 p8 => ?_⟩
      rw [e4 p p0 p8, k3 p p0 p8]
      constructor
      · rintro ((h | h) | ⟨w, w1, w2, w3⟩)
        · exact Or.inl h
        · exact Or.inr ⟨j.toNat, by omega, by omega, by rw [Int.toNat_of_nonneg h2]; exact h.symm⟩
        · exact Or.inr ⟨w, by omega, w2, w3⟩
      · rintro (h | ⟨w, w1, w2, w3⟩)
        · exact Or.inl (Or.inl h)
        · by_cases q : (w : Int) = j
          · exact Or.inl (Or.inr (by rw [← w3, q]))
          · exact Or.inr ⟨w, by omega, w2, w3⟩
theorem rs_iw {p mi c : Int} {r t f : Nat → Int} (hc : r 5 = c) : ∀ (m : Nat) (j : Int), c + 1 - j ≤ (m : Int) → 0 ≤ j → j ≤ c →
    (fl_wh (Sf_X8_isWatched_15_1 p mi r t f) 0 m j = 0 ∨ fl_wh (Sf_X8_isWatched_15_1 p mi r t f) 0 m j = 1) ∧ (fl_wh (Sf_X8_isWatched_15_1 p mi r t f) 0 m j = 1 ↔ ∃ w : Nat, j ≤ (w : Int) ∧ (w : Int) < c ∧ Ff_X6_placeOf (w : Int) mi t f = p) := by
  intro m
  induction m with
  | zero => intro j h1 h2 h3; omega
  | succ m ih =>
    intro j h1 h2 h3
    by_cases hj : c ≤ j
    · have st : Sf_X8_isWatched_15_1 p mi r t f j = .inr 0 := by
        unfold Sf_X8_isWatched_15_1
        rw [hc, fl_lt_eq rfl, if_pos hj]
      rw [fl_wh_r (step := Sf_X8_isWatched_15_1 p mi r t f) (s := j) st]
      refine ⟨Or.inl rfl, ⟨fun h => absurd h (by decide), ?_⟩⟩
      rintro ⟨w, a, b, _⟩
      omega
    · by_cases hw : Ff_X6_placeOf j mi t f = p
      · have st : Sf_X8_isWatched_15_1 p mi r t f j = .inr 1 := by
          unfold Sf_X8_isWatched_15_1
          rw [hc, fl_lt_eq rfl, if_neg hj, rs_at, fl_lt_eq rfl, if_pos hw]
        rw [fl_wh_r (step := Sf_X8_isWatched_15_1 p mi r t f) (s := j) st]
        refine ⟨Or.inr rfl, ⟨fun _ => ⟨j.toNat, by omega, by omega, by rw [Int.toNat_of_nonneg h2]; exact hw⟩, fun _ => rfl⟩⟩
      · have st : Sf_X8_isWatched_15_1 p mi r t f j = .inl (j + 1) := by
          unfold Sf_X8_isWatched_15_1
          rw [hc, fl_lt_eq rfl, if_neg hj, rs_at, fl_lt_eq rfl, if_neg hw]; rfl
        rw [fl_wh_l (step := Sf_X8_isWatched_15_1 p mi r t f) (s := j) st]
        obtain ⟨i1, i2⟩ := ih (j + 1) (by omega) (by omega) (by omega)
        refine ⟨i1, i2.trans ⟨?_, ?_⟩⟩
        · rintro ⟨w, a, b, d⟩
          exact ⟨w, by omega, b, d⟩
        · rintro ⟨w, a, b, d⟩
          refine ⟨w, ?_, b, d⟩
          by_cases q : (w : Int) = j
          · rw [q] at d; exact absurd d hw
          · omega
/-- the watchers alike: those that watch here, and there -/
def rs_W (c po : Int) (wf wt : Nat → Int) (sd : Int) (r f t : Nat → Int) : Prop := c = r 5 ∧ 0 ≤ c ∧ c ≤ 3 ∧ po = sd ∧ 0 ≤ po ∧ po ≤ 511 ∧ ∀ w : Nat, (w : Int) < c → wf w = f w ∧ wt w = t w ∧ (0 ≤ f w ∧ f w ≤ 8) ∧ (0 ≤ t w ∧ t w ≤ 8)
theorem rs_pocg {w mi : Int} {f t f' t' : Nat → Int} (hf : f' w.toNat = f w.toNat) (ht : t' w.toNat = t w.toNat) : Ff_X6_placeOf w mi t' f' = Ff_X6_placeOf w mi t f := by
  unfold Ff_X6_placeOf
  rw [hf, ht]
theorem rs_W8 {c po sd : Int} {wf wt r f t : Nat → Int} (h : rs_W c po wf wt sd r f t) {mi : Int} (h0 : 0 ≤ mi) (h1 : mi ≤ 2147483647) (w : Nat) (hw : (w : Int) < c) : 0 ≤ Ff_X6_placeOf (w : Int) mi wt wf ∧ Ff_X6_placeOf (w : Int) mi wt wf ≤ 8 ∧ Ff_X6_placeOf (w : Int) mi t f = Ff_X6_placeOf (w : Int) mi wt wf := by
  obtain ⟨-, -, -, -, -, -, k⟩ := h
  obtain ⟨k1, k2, k3, k4⟩ := k w hw
  have e : ((w : Int)).toNat = w := Int.toNat_natCast w
  have q := rs_at8 (w := (w : Int)) (f := wf) (t := wt) h0 h1 (by rw [e, k1]; exact k3) (by rw [e, k2]; exact k4)
  exact ⟨q.1, q.2, rs_pocg (by rw [e, k1]) (by rw [e, k2])⟩
/-- watched at a place: here and there -/
theorem rs_wat {c po sd : Int} {wf wt r f t : Nat → Int} (h : rs_W c po wf wt sd r f t) {mi : Int} (h0 : 0 ≤ mi) (h1 : mi ≤ 2147483647) :
    0 ≤ Ff_X6_placesIn mi c po wt wf ∧ Ff_X6_placesIn mi c po wt wf ≤ 511 ∧ ∀ p : Int, 0 ≤ p → p ≤ 8 → Ff_X8_isWatched p mi sd r t f = Ff_X7_hasBit (Ff_X6_placesIn mi c po wt wf) p := by
  obtain ⟨k1, k2, k3, k4, k5, k6, k7⟩ := id h
  obtain ⟨B, e1, e2, e3, e4⟩ := rs_pi (mi := mi) (c := c) (t := wt) (f := wf) (fun w hw => ⟨(rs_W8 h h0 h1 w hw).1, (rs_W8 h h0 h1 w hw).2.1⟩) 4 0 po (by omega) (by omega) k2 k5 k6
  have eB : Ff_X6_placesIn mi c po wt wf = B := e1
  rw [eB]
  refine ⟨e2, e3, fun p p0 p8 => ?_⟩
  have e5 := e4 p p0 p8
  unfold Ff_X8_isWatched
  rw [rs_hb, fl_lt_eq rfl, ← k4]
  obtain ⟨i1, i2⟩ := rs_iw (p := p) (mi := mi) (c := c) (r := r) (t := t) (f := f) k1.symm 4 0 (by omega) (by omega) k2
  by_cases q : Ff_X7_hasBit po p = 1
  · rw [if_pos q]
    exact (e5.mpr (Or.inl q)).symm
  · rw [if_neg q]
    by_cases q2 : ∃ w : Nat, (0 : Int) ≤ (w : Int) ∧ (w : Int) < c ∧ Ff_X6_placeOf (w : Int) mi t f = p
    · rw [i2.mpr q2]
      obtain ⟨w, a, b, d⟩ := q2
      exact (e5.mpr (Or.inr ⟨w, a, b, by rw [← (rs_W8 h h0 h1 w b).2.2]; exact d⟩)).symm
    · have z1 : fl_wh (Sf_X8_isWatched_15_1 p mi r t f) 0 4 0 = 0 := i1.resolve_right (fun z => q2 (i2.mp z))
      rw [z1]
      refine ((rs_hb01 B p).resolve_right (fun z => ?_)).symm
      rcases e5.mp z with z | ⟨w, a, b, d⟩
      · exact q z
      · exact q2 ⟨w, a, b, by rw [(rs_W8 h h0 h1 w b).2.2]; exact d⟩
set_option maxRecDepth 20000 in
theorem rs_b9 : ∀ w : Fin 512, Ff_X7_hasBit (w.val : Int) 9 = 0 := by decide +kernel
theorem rs_wat9 {c po sd : Int} {wf wt r f t : Nat → Int} (h : rs_W c po wf wt sd r f t) {mi : Int} (h0 : 0 ≤ mi) (h1 : mi ≤ 2147483647) : Ff_X8_isWatched 9 mi sd r t f = 0 := by
  obtain ⟨k1, k2, k3, k4, k5, k6, k7⟩ := id h
  unfold Ff_X8_isWatched
  have b9 := rs_b9 ⟨po.toNat, by omega⟩
  simp only [Int.toNat_of_nonneg k5] at b9
  rw [rs_hb, fl_lt_eq rfl, ← k4, b9, if_neg (by decide)]
  obtain ⟨i1, i2⟩ := rs_iw (p := 9) (mi := mi) (c := c) (r := r) (t := t) (f := f) k1.symm 4 0 (by omega) (by omega) k2
  refine i1.resolve_right (fun z => ?_)
  obtain ⟨w, a, b, d⟩ := i2.mp z
  have q := rs_W8 h h0 h1 w b
  omega
set_option maxRecDepth 20000 in
theorem rs_hd0 : ∀ w : Fin 512, ∀ f : Fin 9, (Ff_X0_isHeardAt (f.val : Int) (w.val : Int) = 1 ↔ ((1 ≤ (f.val : Int) ∧ Ff_X7_hasBit (w.val : Int) ((f.val : Int) - 1) = 1) ∨ Ff_X7_hasBit (w.val : Int) (f.val : Int) = 1 ∨ ((f.val : Int) ≤ 7 ∧ Ff_X7_hasBit (w.val : Int) ((f.val : Int) + 1) = 1))) := by decide +kernel
theorem rs_hd {w f : Int} (w0 : 0 ≤ w) (w1 : w ≤ 511) (f0 : 0 ≤ f) (f1 : f ≤ 8) : Ff_X0_isHeardAt f w = 1 ↔ ((1 ≤ f ∧ Ff_X7_hasBit w (f - 1) = 1) ∨ Ff_X7_hasBit w f = 1 ∨ (f ≤ 7 ∧ Ff_X7_hasBit w (f + 1) = 1)) := by
  have h := rs_hd0 ⟨w.toNat, by omega⟩ ⟨f.toNat, by omega⟩
  simp only [Int.toNat_of_nonneg w0, Int.toNat_of_nonneg f0] at h
  exact h
end RSA
