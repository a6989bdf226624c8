section P092249600_rs1
section RSA
/-- a bit set: here and there -/
theorem rs_hb (x k : Int) : Ff_X8_hasBit x k = Ff_X7_hasBit x k := rfl
theorem rs_hb01 (x k : Int) : Ff_X7_hasBit x k = 0 ∨ Ff_X7_hasBit x k = 1 := by
  unfold Ff_X7_hasBit
  rw [fl_lt_eq rfl, fl_lt_eq rfl]
  split
  · exact Or.inr rfl
  · exact Or.inl rfl
theorem rs_bit {b f : Int} (h0 : 0 ≤ b) (h1 : b ≤ 511) (f0 : 0 ≤ f) (f8 : f ≤ 8) : (0 ≤ fl_or b (fl_shl 1 f) ∧ fl_or b (fl_shl 1 f) ≤ 511) ∧ ∀ g : Int, 0 ≤ g → g ≤ 8 → (Ff_X7_hasBit (fl_or b (fl_shl 1 f)) g = 1 ↔ (Ff_X7_hasBit b g = 1 ∨ g = f)) := by
  have h := rp_bits ⟨b.toNat, by omega⟩ ⟨f.toNat, by omega⟩
  simp only [Int.toNat_of_nonneg h0, Int.toNat_of_nonneg f0] at h
  obtain ⟨a1, a2, a3⟩ := h
  clear a2
  refine ⟨a1, fun g g0 g8 => ?_⟩
  have hg := a3 ⟨g.toNat, by omega⟩
  simp only [Int.toNat_of_nonneg g0] at hg
  rw [hg]
  constructor
  · rintro (q | q)
    · exact Or.inl q
    · exact Or.inr (by omega)
  · rintro (q | q)
    · exact Or.inl q
    · exact Or.inr (by omega)
/-- where a watcher is: here and there -/
theorem rs_at (w mi : Int) (f t : Nat → Int) : Ff_X8_watcherAt w mi t f = Ff_X6_placeOf w mi t f := by
  unfold Ff_X8_watcherAt Ff_X6_placeOf
  simp only [fl_lt]
  generalize t w.toNat = a
  generalize f w.toNat = b
  by_cases h : a ≤ b
  · by_cases h2 : a = b
    · subst h2
      rw [if_pos (by omega), if_pos (by omega), if_pos h, if_neg (by omega)]
    · have e : -(a - b) = b - a := by omega
      have h3 : ¬ (0 ≤ a - b) := by omega
      have h4 : ¬ (b - a = 0) := by omega
      have h5 : 0 < b - a := by omega
      rw [e]
      simp only [h, h3, h4, h5, reduceIte]
      by_cases h6 : fl_rem mi (2 * (b - a)) ≤ b - a
      · rw [if_pos h6, if_neg (by omega)]
      · rw [if_neg h6, if_pos (by omega)]
  · have h3 : 0 ≤ a - b := by omega
    have h4 : ¬ (a - b = 0) := by omega
    have h5 : 0 < a - b := by omega
    simp only [h, h3, h4, h5, reduceIte]
    by_cases h6 : fl_rem mi (2 * (a - b)) ≤ a - b
    · rw [if_pos h6, if_neg (by omega)]
    · rw [if_neg h6, if_pos (by omega)]
theorem rs_irem {x y : Int} (h0 : 0 ≤ x) (h1 : x ≤ 2147483647) (h2 : 0 < y) (h3 : y ≤ 2147483647) : fl_rem x y = x % y := by
  have e1 := rp_ofi (x := x) (by omega) h1
  have e2 := rp_ofi (x := y) (by omega) h3
  have q := (ai_rem2 (x := Int32.ofInt x) (y := Int32.ofInt y) rfl (by rw [e1]; exact h0) (by rw [e2]; exact h2) (Int.le_refl _)).1
  rw [e1, e2] at q
  exact q
theorem rs_at8 {w mi : Int} {f t : Nat → Int} (h0 : 0 ≤ mi) (h1 : mi ≤ 2147483647) (hf : 0 ≤ f w.toNat ∧ f w.toNat ≤ 8) (ht : 0 ≤ t w.toNat ∧ t w.toNat ≤ 8) : 0 ≤ Ff_X6_placeOf w mi t f ∧ Ff_X6_placeOf w mi t f ≤ 8 := by
  unfold Ff_X6_placeOf
  simp only [fl_lt]
  generalize t w.toNat = a at ht ⊢
  generalize f w.toNat = b at hf ⊢
  by_cases h : a ≤ b
  · rw [if_pos h]
    by_cases h5 : 0 < b - a
    · rw [if_pos h5, rs_irem h0 h1 (by omega) (by omega)]
      have m0 := Int.emod_nonneg mi (show 2 * (b - a) ≠ 0 by omega)
      have m1 := Int.emod_lt_of_pos mi (show 0 < 2 * (b - a) by omega)
      generalize mi % (2 * (b - a)) = k at m0 m1 ⊢
      by_cases h6 : b - a < k
      · rw [if_pos h6, rp_isub (by omega) (by omega) (by omega) (by omega) (by omega) (by omega)]; omega
      · rw [if_neg h6, rp_isub (by omega) (by omega) (by omega) (by omega) (by omega) (by omega)]; omega
    · rw [if_neg h5]; omega
  · rw [if_neg h, if_pos (by omega), rs_irem h0 h1 (by omega) (by omega)]
    have m0 := Int.emod_nonneg mi (show 2 * (a - b) ≠ 0 by omega)
    have m1 := Int.emod_lt_of_pos mi (show 0 < 2 * (a - b) by omega)
    generalize mi % (2 * (a - b)) = k at m0 m1 ⊢
    by_cases h6 : a - b < k
    · rw [if_pos h6]; omega
    · rw [if_neg h6]; omega
/-- the places of watchers in a minute, as bits -/
theorem rs_pi {mi c : Int} {t f : Nat → Int} (hp : ∀ w : Nat, (w : Int) < c → 0 ≤ Ff_X6_placeOf (w : Int) mi t f ∧ Ff_X6_placeOf (w : Int) mi t f ≤ 8) :
    ∀ (m : Nat) (j b : Int), c + 1 - j ≤ (m : Int) → 0 ≤ j → j ≤ c → 0 ≤ b → b ≤ 511 →
    ∃ B, fl_wh (fun t9 : Int × Int => Sf_X6_placesIn_7_1 mi c t f t9.1 t9.2) 0 m (j, b) = B ∧ 0 ≤ B ∧ B ≤ 511 ∧ ∀ p : Int, 0 ≤ p → p ≤ 8 → (Ff_X7_hasBit B p = 1 ↔ (Ff_X7_hasBit b p = 1 ∨ ∃ w : Nat, j ≤ (w : Int) ∧ (w : Int) < c ∧ Ff_X6_placeOf (w : Int) mi t f = p)) := by
  intro m
  induction m with
  | zero => intro j b h1 h2 h3; omega
  | succ m ih =>
    intro j b h1 h2 h3 h4 h5
    by_cases hj : c ≤ j
    · refine ⟨b, fl_wh_r (step := fun t9 : Int × Int => Sf_X6_placesIn_7_1 mi c t f t9.1 t9.2) (s := (j, b)) ?_, h4, h5, ?_⟩
      · show Sf_X6_placesIn_7_1 mi c t f j b = .inr b
        unfold Sf_X6_placesIn_7_1
        rw [if_pos hj]
      · intro p _ _
        constructor
        · exact Or.inl
        · rintro (h | ⟨w, a, b', _⟩)
          · exact h
          · omega
    · have hw := hp j.toNat (by omega)
      rw [Int.toNat_of_nonneg h2] at hw
      obtain ⟨⟨k1, k2⟩, k3⟩ := rs_bit h4 h5 hw.1 hw.2
      have st : Sf_X6_placesIn_7_1 mi c t f j b = .inl (j + 1, fl_or b (fl_shl 1 (Ff_X6_placeOf j mi t f))) := by
        unfold Sf_X6_placesIn_7_1
        rw [if_neg hj]; rfl
      obtain ⟨B, e1, e2, e3, e4⟩ := ih (j + 1) _ (by omega) (by omega) (by omega) k1 k2
      refine ⟨B, (fl_wh_l (step := fun t9 : Int × Int => Sf_X6_placesIn_7_1 mi c t f t9.1 t9.2) (s := (j, b)) st).trans e1, e2, e3, fun p p0 p8 => ?_⟩
      rw [e4 p p0 p8, k3 p p0 p8]
      constructor
      · rintro ((h | h) | ⟨w, w1, w2, w3⟩)
        · exact Or.inl h
        · exact Or.inr ⟨j.toNat, by omega, by omega, by rw [Int.toNat_of_nonneg h2]; exact h.symm⟩
        · exact Or.inr ⟨w, by omega, w2, w3⟩
      · rintro (h | ⟨w, w1, w2, w3⟩)
        · exact Or.inl (Or.inl h)
        · by_cases q : (w : Int) = j
          · exact Or.inl (Or.inr (by rw [← w3, q]))
          · exact Or.inr ⟨w, by omega, w2, w3⟩
theorem rs_iw {p mi c : Int} {r t f : Nat → Int} (hc : r 5 = c) : ∀ (m : Nat) (j : Int), c + 1 - j ≤ (m : Int) → 0 ≤ j → j ≤ c →
    (fl_wh (Sf_X8_isWatched_15_1 p mi r t f) 0 m j = 0 ∨ fl_wh (Sf_X8_isWatched_15_1 p mi r t f) 0 m j = 1) ∧ (fl_wh (Sf_X8_isWatched_15_1 p mi r t f) 0 m j = 1 ↔ ∃ w : Nat, j ≤ (w : Int) ∧ (w : Int) < c ∧ Ff_X6_placeOf (w : Int) mi t f = p) := by
  intro m
  induction m with
  | zero => intro j h1 h2 h3; omega
  | succ m ih =>
    intro j h1 h2 h3
    by_cases hj : c ≤ j
    · have st : Sf_X8_isWatched_15_1 p mi r t f j = .inr 0 := by
        unfold Sf_X8_isWatched_15_1
        rw [hc, fl_lt_eq rfl, if_pos hj]
      rw [fl_wh_r (step := Sf_X8_isWatched_15_1 p mi r t f) (s := j) st]
      refine ⟨Or.inl rfl, ⟨fun h => absurd h (by decide), ?_⟩⟩
      rintro ⟨w, a, b, _⟩
      omega
    · by_cases hw : Ff_X6_placeOf j mi t f = p
      · have st : Sf_X8_isWatched_15_1 p mi r t f j = .inr 1 := by
          unfold Sf_X8_isWatched_15_1
          rw [hc, fl_lt_eq rfl, if_neg hj, rs_at, fl_lt_eq rfl, if_pos hw]
        rw [fl_wh_r (step := Sf_X8_isWatched_15_1 p mi r t f) (s := j) st]
        refine ⟨Or.inr rfl, ⟨fun _ => ⟨j.toNat, by omega, by omega, by rw [Int.toNat_of_nonneg h2]; exact hw⟩, fun _ => rfl⟩⟩
      · have st : Sf_X8_isWatched_15_1 p mi r t f j = .inl (j + 1) := by
          unfold Sf_X8_isWatched_15_1
          rw [hc, fl_lt_eq rfl, if_neg hj, rs_at, fl_lt_eq rfl, if_neg hw]; rfl
        rw [fl_wh_l (step := Sf_X8_isWatched_15_1 p mi r t f) (s := j) st]
        obtain ⟨i1, i2⟩ := ih (j + 1) (by omega) (by omega) (by omega)
        refine ⟨i1, i2.trans ⟨?_, ?_⟩⟩
        · rintro ⟨w, a, b, d⟩
          exact ⟨w, by omega, b, d⟩
        · rintro ⟨w, a, b, d⟩
          refine ⟨w, ?_, b, d⟩
          by_cases q : (w : Int) = j
          · rw [q] at d; exact absurd d hw
          · omega
/-- the watchers alike: those that watch here, and there -/
def rs_W (c po : Int) (wf wt : Nat → Int) (sd : Int) (r f t : Nat → Int) : Prop := c = r 5 ∧ 0 ≤ c ∧ c ≤ 3 ∧ po = sd ∧ 0 ≤ po ∧ po ≤ 511 ∧ ∀ w : Nat, (w : Int) < c → wf w = f w ∧ wt w = t w ∧ (0 ≤ f w ∧ f w ≤ 8) ∧ (0 ≤ t w ∧ t w ≤ 8)
theorem rs_pocg {w mi : Int} {f t f' t' : Nat → Int} (hf : f' w.toNat = f w.toNat) (ht : t' w.toNat = t w.toNat) : Ff_X6_placeOf w mi t' f' = Ff_X6_placeOf w mi t f := by
  unfold Ff_X6_placeOf
  rw [hf, ht]
theorem rs_W8 {c po sd : Int} {wf wt r f t : Nat → Int} (h : rs_W c po wf wt sd r f t) {mi : Int} (h0 : 0 ≤ mi) (h1 : mi ≤ 2147483647) (w : Nat) (hw : (w : Int) < c) : 0 ≤ Ff_X6_placeOf (w : Int) mi wt wf ∧ Ff_X6_placeOf (w : Int) mi wt wf ≤ 8 ∧ Ff_X6_placeOf (w : Int) mi t f = Ff_X6_placeOf (w : Int) mi wt wf := by
  obtain ⟨-, -, -, -, -, -, k⟩ := h
  obtain ⟨k1, k2, k3, k4⟩ := k w hw
  have e : ((w : Int)).toNat = w := Int.toNat_natCast w
  have q := rs_at8 (w := (w : Int)) (f := wf) (t := wt) h0 h1 (by rw [e, k1]; exact k3) (by rw [e, k2]; exact k4)
  exact ⟨q.1, q.2, rs_pocg (by rw [e, k1]) (by rw [e, k2])⟩
/-- watched at a place: here and there -/
theorem rs_wat {c po sd : Int} {wf wt r f t : Nat → Int} (h : rs_W c po wf wt sd r f t) {mi : Int} (h0 : 0 ≤ mi) (h1 : mi ≤ 2147483647) :
    0 ≤ Ff_X6_placesIn mi c po wt wf ∧ Ff_X6_placesIn mi c po wt wf ≤ 511 ∧ ∀ p : Int, 0 ≤ p → p ≤ 8 → Ff_X8_isWatched p mi sd r t f = Ff_X7_hasBit (Ff_X6_placesIn mi c po wt wf) p := by
  obtain ⟨k1, k2, k3, k4, k5, k6, k7⟩ := id h
  obtain ⟨B, e1, e2, e3, e4⟩ := rs_pi (mi := mi) (c := c) (t := wt) (f := wf) (fun w hw => ⟨(rs_W8 h h0 h1 w hw).1, (rs_W8 h h0 h1 w hw).2.1⟩) 4 0 po (by omega) (by omega) k2 k5 k6
  have eB : Ff_X6_placesIn mi c po wt wf = B := e1
  rw [eB]
  refine ⟨e2, e3, fun p p0 p8 => ?_⟩
  have e5 := e4 p p0 p8
  unfold Ff_X8_isWatched
  rw [rs_hb, fl_lt_eq rfl, ← k4]
  obtain ⟨i1, i2⟩ := rs_iw (p := p) (mi := mi) (c := c) (r := r) (t := t) (f := f) k1.symm 4 0 (by omega) (by omega) k2
  by_cases q : Ff_X7_hasBit po p = 1
  · rw [if_pos q]
    exact (e5.mpr (Or.inl q)).symm
  · rw [if_neg q]
    by_cases q2 : ∃ w : Nat, (0 : Int) ≤ (w : Int) ∧ (w : Int) < c ∧ Ff_X6_placeOf (w : Int) mi t f = p
    · rw [i2.mpr q2]
      obtain ⟨w, a, b, d⟩ := q2
      exact (e5.mpr (Or.inr ⟨w, a, b, by rw [← (rs_W8 h h0 h1 w b).2.2]; exact d⟩)).symm
    · have z1 : fl_wh (Sf_X8_isWatched_15_1 p mi r t f) 0 4 0 = 0 := i1.resolve_right (fun z => q2 (i2.mp z))
      rw [z1]
      refine ((rs_hb01 B p).resolve_right (fun z => ?_)).symm
      rcases e5.mp z with z | ⟨w, a, b, d⟩
      · exact q z
      · exact q2 ⟨w, a, b, by rw [(rs_W8 h h0 h1 w b).2.2]; exact d⟩
set_option maxRecDepth 20000 in
theorem rs_b9 : ∀ w : Fin 512, Ff_X7_hasBit (w.val : Int) 9 = 0 := by decide +kernel
theorem rs_wat9 {c po sd : Int} {wf wt r f t : Nat → Int} (h : rs_W c po wf wt sd r f t) {mi : Int} (h0 : 0 ≤ mi) (h1 : mi ≤ 2147483647) : Ff_X8_isWatched 9 mi sd r t f = 0 := by
  obtain ⟨k1, k2, k3, k4, k5, k6, k7⟩ := id h
  unfold Ff_X8_isWatched
  have b9 := rs_b9 ⟨po.toNat, by omega⟩
  simp only [Int.toNat_of_nonneg k5] at b9
  rw [rs_hb, fl_lt_eq rfl, ← k4, b9, if_neg (by decide)]
  obtain ⟨i1, i2⟩ := rs_iw (p := 9) (mi := mi) (c := c) (r := r) (t := t) (f := f) k1.symm 4 0 (by omega) (by omega) k2
  refine i1.resolve_right (fun z => ?_)
  obtain ⟨w, a, b, d⟩ := i2.mp z
  have q := rs_W8 h h0 h1 w b
  omega
set_option maxRecDepth 20000 in
theorem rs_hd0 : ∀ w : Fin 512, ∀ f : Fin 9, (Ff_X0_isHeardAt (f.val : Int) (w.val : Int) = 1 ↔ ((1 ≤ (f.val : Int) ∧ Ff_X7_hasBit (w.val : Int) ((f.val : Int) - 1) = 1) ∨ Ff_X7_hasBit (w.val : Int) (f.val : Int) = 1 ∨ ((f.val : Int) ≤ 7 ∧ Ff_X7_hasBit (w.val : Int) ((f.val : Int) + 1) = 1))) := by decide +kernel
theorem rs_hd {w f : Int} (w0 : 0 ≤ w) (w1 : w ≤ 511) (f0 : 0 ≤ f) (f1 : f ≤ 8) : Ff_X0_isHeardAt f w = 1 ↔ ((1 ≤ f ∧ Ff_X7_hasBit w (f - 1) = 1) ∨ Ff_X7_hasBit w f = 1 ∨ (f ≤ 7 ∧ Ff_X7_hasBit w (f + 1) = 1)) := by
  have h := rs_hd0 ⟨w.toNat, by omega⟩ ⟨f.toNat, by omega⟩
  simp only [Int.toNat_of_nonneg w0, Int.toNat_of_nonneg f0] at h
  exact h
end RSA
end P092249600_rs1
section P092249601_rs2
section RSB
/-- what is said is heard: there -/
theorem rs_spk {c po sd : Int} {wf wt r f t : Nat → Int} (hW : rs_W c po wf wt sd r f t) {row : Nat → Int} {T : Nat} (m0 : 0 ≤ row 21) (m1 : row 21 ≤ 2147483647) (p0 : 0 ≤ row T) (p8 : row T ≤ 8) (x26 : Int) :
    fl_wh (fun t9 : Int × Int => Sf_X8_speakOn_40_1 (T : Int) sd row r t f x26 t9.1 t9.2) (0, (fun _ => 0)) 12 (row T - 1, 0) = if Ff_X0_isHeardAt (row T) (Ff_X6_placesIn (row 21) c po wt wf) = 1 then (x26, fl_up row (9 + T) (fl_or (row (9 + T)) x26)) else (x26, row) := by
  have eT : ((T : Int)).toNat = T := Int.toNat_natCast T
  have eT9 : (9 + (T : Int)).toNat = 9 + T := by omega
  obtain ⟨w1, w2, w3⟩ := rs_wat hW m0 m1
  have w9 := rs_wat9 hW m0 m1
  have stp : ∀ p v : Int, p ≤ row T + 1 → (v = 0 ∨ v = 1) → ∃ v', Sf_X8_speakOn_40_1 (T : Int) sd row r t f x26 p v = .inl (p + 1, v') ∧ (v' = 0 ∨ v' = 1) ∧ (v' = 1 ↔ (v = 1 ∨ (0 ≤ p ∧ Ff_X8_isWatched p (row 21) sd r t f = 1))) := by
    intro p v hp hv
    unfold Sf_X8_speakOn_40_1
    rw [eT, fl_lt_eq rfl, fl_lt_eq rfl, if_neg (by omega)]
    rcases hv with hv | hv
    · rw [if_pos hv]
      by_cases hq : p < 0
      · rw [if_pos hq]
        refine ⟨0, rfl, Or.inl rfl, ⟨fun h => absurd h (by decide), ?_⟩⟩
        rintro (h | h) <;> omega
      · rw [if_neg hq, fl_lt_eq rfl, fl_lt_eq rfl]
        by_cases hw : Ff_X8_isWatched p (row 21) sd r t f = 1
        · rw [if_pos hw]
          exact ⟨1, rfl, Or.inr rfl, ⟨fun _ => Or.inr ⟨by omega, hw⟩, fun _ => rfl⟩⟩
        · rw [if_neg hw]
          refine ⟨0, rfl, Or.inl rfl, ⟨fun h => absurd h (by decide), ?_⟩⟩
          rintro (h | h)
          · omega
          · exact absurd h.2 hw
    · rw [if_neg (by omega)]
      exact ⟨1, rfl, Or.inr rfl, ⟨fun _ => Or.inl hv, fun _ => rfl⟩⟩
  have fin : ∀ v : Int, Sf_X8_speakOn_40_1 (T : Int) sd row r t f x26 (row T + 2) v = .inr (if v = 0 then (x26, row) else (x26, fl_up row (9 + T) (fl_or (row (9 + T)) x26))) := by
    intro v
    unfold Sf_X8_speakOn_40_1
    rw [eT, fl_lt_eq rfl, fl_lt_eq rfl, if_pos (by omega), fl_lt_eq rfl, eT9]
    rfl
  obtain ⟨v1, s1, a1, b1⟩ := stp (row T - 1) 0 (by omega) (Or.inl rfl)
  obtain ⟨v2, s2, a2, b2⟩ := stp (row T) v1 (by omega) a1
  obtain ⟨v3, s3, a3, b3⟩ := stp (row T + 1) v2 (by omega) a2
  rw [fl_wh_l (step := fun t9 : Int × Int => Sf_X8_speakOn_40_1 (T : Int) sd row r t f x26 t9.1 t9.2) s1, show row T - 1 + 1 = row T by omega,
    fl_wh_l (step := fun t9 : Int × Int => Sf_X8_speakOn_40_1 (T : Int) sd row r t f x26 t9.1 t9.2) s2,
    fl_wh_l (step := fun t9 : Int × Int => Sf_X8_speakOn_40_1 (T : Int) sd row r t f x26 t9.1 t9.2) s3, show row T + 1 + 1 = row T + 2 by omega,
    fl_wh_r (step := fun t9 : Int × Int => Sf_X8_speakOn_40_1 (T : Int) sd row r t f x26 t9.1 t9.2) (s := (row T + 2, v3)) (fin v3)]
  have key : v3 = 1 ↔ Ff_X0_isHeardAt (row T) (Ff_X6_placesIn (row 21) c po wt wf) = 1 := by
    rw [b3, b2, b1, rs_hd w1 w2 p0 p8]
    constructor
    · rintro (((h | ⟨h, g⟩) | ⟨h, g⟩) | ⟨h, g⟩)
      · omega
      · exact Or.inl ⟨by omega, by rw [← w3 _ h (by omega)]; exact g⟩
      · exact Or.inr (Or.inl (by rw [← w3 _ h (by omega)]; exact g))
      · by_cases q : row T = 8
        · rw [q] at g
          have g9 : Ff_X8_isWatched 9 (row 21) sd r t f = 1 := g
          omega
        · exact Or.inr (Or.inr ⟨by omega, by rw [← w3 _ h (by omega)]; exact g⟩)
    · rintro (⟨h, g⟩ | g | ⟨h, g⟩)
      · exact Or.inl (Or.inl (Or.inr ⟨by omega, by rw [w3 _ (by omega) (by omega)]; exact g⟩))
      · exact Or.inl (Or.inr ⟨by omega, by rw [w3 _ (by omega) (by omega)]; exact g⟩)
      · exact Or.inr ⟨by omega, by rw [w3 _ (by omega) (by omega)]; exact g⟩
  by_cases q : Ff_X0_isHeardAt (row T) (Ff_X6_placesIn (row 21) c po wt wf) = 1
  · rw [if_pos q, if_neg (by have := key.mpr q; omega)]
  · rw [if_neg q, if_pos (by have : ¬ v3 = 1 := fun z => q (key.mp z); omega)]
/-- the halls as minutes want them -/
def rs_G (fg sp sa ti pu : Int) (kd me r : Nat → Int) : Prop := (fg = r 0 ∧ 2 ≤ fg ∧ fg ≤ 9) ∧ (sp = r 1 ∧ 1 ≤ sp ∧ sp ≤ 20) ∧ (sa = r 2 ∧ 0 ≤ sa ∧ sa ≤ 8) ∧ (ti = r 7 ∧ 0 ≤ ti ∧ ti ≤ 8) ∧ (pu = r 8 ∧ 0 ≤ pu ∧ pu ≤ 8) ∧ ∀ k : Nat, k < 9 → kd k = r (12 + 2 * k) ∧ me k = r (13 + 2 * k) ∧ 0 ≤ me k ∧ me k ≤ 20 ∧ (kd k = 1 → 1 ≤ me k)
/-- a scene here, and its row there -/
def rs_S (fg sp : Int) (kd : Nat → Int) (mi tu sn go ca : Int) (pl he st : Nat → Int) : Prop := (mi = st 21 ∧ tu = st 19 ∧ sn = st 20 ∧ go = st 18 ∧ ca = st 22) ∧ 0 ≤ mi ∧ (0 ≤ tu ∧ tu < fg) ∧ (0 ≤ sn ∧ sn < sp) ∧ (0 ≤ go ∧ go ≤ 511) ∧ ∀ k : Nat, (k : Int) < fg → pl k = st k ∧ he k = st (9 + k) ∧ (0 ≤ pl k ∧ pl k ≤ 8) ∧ (Ff_X7_hasBit go (k : Int) = 1 → kd k = 1)
/-- a step: here -/
def rs_Q (sa mi tu sn go ca c po : Int) (kd me pl wf wt : Nat → Int) : Int × Int × (Nat → Int) := if Ff_X0_stepsIn tu (fl_iadd sn 1) kd me = 1 then Ff_X0_step tu sa mi go ca pl c po wt wf else (go, ca, pl)
def rs_E (mi tu sn c po : Int) (kd me pl wf wt he : Nat → Int) : Nat → Int := if Ff_X0_partSaid tu (fl_iadd sn 1) kd me = 0 then he else if Ff_X0_isHeardAt (pl tu.toNat) (Ff_X6_placesIn mi c po wt wf) = 1 then fl_up he tu.toNat (fl_or (he tu.toNat) (Ff_X0_partSaid tu (fl_iadd sn 1) kd me)) else he
theorem rs_passc (fg sp sa ti pu mi tu sn go ca c po : Int) (kd me pl wf wt he : Nat → Int) : Ff_X0_pass fg sp sa ti pu mi tu sn go ca kd me pl c po wt wf he =
    if fl_iadd sn 1 < sp then (fl_iadd mi 1, tu, fl_iadd sn 1, (rs_Q sa mi tu sn go ca c po kd me pl wf wt).1, (rs_Q sa mi tu sn go ca c po kd me pl wf wt).2.1, (rs_Q sa mi tu sn go ca c po kd me pl wf wt).2.2, rs_E mi tu sn c po kd me (rs_Q sa mi tu sn go ca c po kd me pl wf wt).2.2 wf wt he)
    else (fl_iadd mi 1, Ff_X0_next tu fg ti pu, 0, (rs_Q sa mi tu sn go ca c po kd me pl wf wt).1, (rs_Q sa mi tu sn go ca c po kd me pl wf wt).2.1, (rs_Q sa mi tu sn go ca c po kd me pl wf wt).2.2, rs_E mi tu sn c po kd me (rs_Q sa mi tu sn go ca c po kd me pl wf wt).2.2 wf wt he) := by
  unfold Ff_X0_pass rs_Q rs_E
  simp only [fl_lt, fl_c3, fl_c2, Ff_X5_startTurn]
  by_cases a : Ff_X0_stepsIn tu (fl_iadd sn 1) kd me = 1
  · simp only [if_pos a]
    generalize Ff_X0_step tu sa mi go ca pl c po wt wf = q
    by_cases b : Ff_X0_partSaid tu (fl_iadd sn 1) kd me = 0
    · simp only [if_pos b]
    · simp only [if_neg b]
      by_cases d : Ff_X0_isHeardAt (q.2.2 tu.toNat) (Ff_X6_placesIn mi c po wt wf) = 1
      · simp only [if_pos d]
      · simp only [if_neg d]
  · simp only [if_neg a]
    by_cases b : Ff_X0_partSaid tu (fl_iadd sn 1) kd me = 0
    · simp only [if_pos b]
    · simp only [if_neg b]
      by_cases d : Ff_X0_isHeardAt (pl tu.toNat) (Ff_X6_placesIn mi c po wt wf) = 1
      · simp only [if_pos d]
      · simp only [if_neg d]
/-- the minute ends: there -/
def rs_tm (tu : Int) (r row : Nat → Int) : Nat → Int := if r 1 ≤ fl_up row 21 (fl_iadd (row 21) 1) 20 + 1 then fl_up (fl_up (fl_up (fl_up row 21 (fl_iadd (row 21) 1)) 20 (fl_up row 21 (fl_iadd (row 21) 1) 20 + 1)) 20 0) 19 (Ff_X8_nextOf tu r) else fl_up (fl_up row 21 (fl_iadd (row 21) 1)) 20 (fl_up row 21 (fl_iadd (row 21) 1) 20 + 1)
def rs_M (sd : Int) (st r f t : Nat → Int) : Int × (Nat → Int) := if Ff_X7_hasBit (st 18) (st 19) = 1 then (0, st) else if r (12 + 2 * st 19).toNat = 1 then (0, Ff_X8_walkOn (st 19) sd st r t f) else if r (12 + 2 * st 19).toNat = 2 then Ff_X8_speakOn (st 19) sd 0 st r t f else (0, st)
theorem rs_passm (sd : Int) (st r f t : Nat → Int) : Ff_X8_minuteOn sd st r t f = (st 19, (if Ff_X7_hasBit ((rs_M sd st r f t).2 18) (st 19) = 1 then -1 else (rs_M sd st r f t).2 (st 19).toNat), (rs_M sd st r f t).1, rs_tm (st 19) r (rs_M sd st r f t).2) := by
  have hb : Ff_X8_hasBit = Ff_X7_hasBit := rfl
  unfold Ff_X8_minuteOn rs_M
  rw [hb]
  simp only [fl_lt, fl_c2]
  by_cases a : Ff_X7_hasBit (st 18) (st 19) = 1
  · simp only [if_pos a]
    unfold rs_tm
    split <;> rfl
  · simp only [if_neg a]
    by_cases b : r (12 + 2 * st 19).toNat = 1
    · simp only [if_pos b]
      generalize Ff_X8_walkOn (st 19) sd st r t f = row
      unfold rs_tm
      by_cases d : Ff_X7_hasBit (row 18) (st 19) = 1
      · simp only [if_pos d]
        split <;> rfl
      · simp only [if_neg d]
        split <;> rfl
    · simp only [if_neg b]
      by_cases b2 : r (12 + 2 * st 19).toNat = 2
      · simp only [if_pos b2]
        generalize Ff_X8_speakOn (st 19) sd 0 st r t f = q
        unfold rs_tm
        by_cases d : Ff_X7_hasBit (q.2 18) (st 19) = 1
        · simp only [if_pos d]
          split <;> rfl
        · simp only [if_neg d]
          split <;> rfl
      · simp only [if_neg b2, if_neg a]
        unfold rs_tm
        split <;> rfl
/-- a walk: there -/
theorem rs_walk {sd : Int} {st r f t : Nat → Int} {T : Nat} (p0 : 0 ≤ st T) (p8 : st T ≤ 8) (h20 : (st 20 + 1) % r (13 + 2 * T) = 0) (hT : T < 9) : Ff_X8_walkOn (T : Int) sd st r t f = (if Ff_X8_isWatched (Ff_X0_nearer (st T) (r 2)) (st 21) sd r t f = 1 then fl_up (fl_up (fl_up st T (Ff_X0_nearer (st T) (r 2))) T (T : Int)) 22 (fl_iadd (st 22) 1) else if Ff_X0_nearer (st T) (r 2) = r 2 then fl_up (fl_up st T (Ff_X0_nearer (st T) (r 2))) 18 (fl_or (st 18) (fl_shl 1 (T : Int))) else fl_up st T (Ff_X0_nearer (st T) (r 2))) := by
  have eT : ((T : Int)).toNat = T := Int.toNat_natCast T
  have eM : (12 + 2 * (T : Int) + 1).toNat = 13 + 2 * T := by omega
  have u21 : ∀ v : Int, fl_up st T v 21 = st 21 := fun v => rp_up_ne _ _ (by omega)
  have u18 : ∀ v : Int, fl_up st T v 18 = st 18 := fun v => rp_up_ne _ _ (by omega)
  have u22 : ∀ v w : Int, fl_up (fl_up st T v) T w 22 = st 22 := fun v w => by rw [rp_up_ne _ _ (by omega), rp_up_ne _ _ (by omega)]
  have uT : ∀ v : Int, fl_up st T v T = v := fun v => rp_up_eq _ _ _
  unfold Ff_X8_walkOn
  simp only [fl_lt, eT, eM, if_pos h20, u21, u18, u22, uT]
  unfold Ff_X0_nearer
  simp only [fl_lt]
  by_cases a : r 2 ≤ st T
  · rw [if_pos a]
    by_cases b : st T ≤ r 2
    · have e : st T = r 2 := by omega
      rw [if_pos b]
      simp only [if_pos e, show st T + 0 = st T by omega]
    · have e : ¬ st T = r 2 := by omega
      rw [if_neg b]
      have es : fl_isub (st T) 1 = st T + -1 := by rw [rp_isub (by omega) (by omega) (by omega) (by omega) (by omega) (by omega)]; omega
      simp only [if_neg e, if_pos a, es]
  · have e : ¬ st T = r 2 := by omega
    rw [if_neg a]
    simp only [if_neg e, if_neg a]
theorem rs_stay {sd : Int} {st r f t : Nat → Int} {T : Nat} (h20 : ¬ (st 20 + 1) % r (13 + 2 * T) = 0) : Ff_X8_walkOn (T : Int) sd st r t f = st := by
  have eM : (12 + 2 * (T : Int) + 1).toNat = 13 + 2 * T := by omega
  unfold Ff_X8_walkOn
  simp only [fl_lt, eM, if_neg h20]
end RSB
end P092249601_rs2
section P092249602_rs3
section RSC
theorem rs_up2 (f : Nat → Int) (i : Nat) (v w : Int) : fl_up (fl_up f i v) i w = fl_up f i w := by
  funext k
  by_cases q : k = i
  · rw [q, rp_up_eq, rp_up_eq]
  · rw [rp_up_ne _ _ q, rp_up_ne _ _ q, rp_up_ne _ _ q]
theorem rs_S_pl {fg sp mi tu sn go ca : Int} {kd pl he st : Nat → Int} (h : rs_S fg sp kd mi tu sn go ca pl he st) {T : Nat} (hT : T < 9) {v : Int} (v0 : 0 ≤ v) (v8 : v ≤ 8) : rs_S fg sp kd mi tu sn go ca (fl_up pl T v) he (fl_up st T v) := by
  obtain ⟨⟨s1, s2, s3, s4, s5⟩, m0, a2, a3, a4, hk⟩ := h
  refine ⟨⟨?_, ?_, ?_, ?_, ?_⟩, m0, a2, a3, a4, fun k hk' => ?_⟩
  · rw [rp_up_ne _ _ (by omega)]; exact s1
  · rw [rp_up_ne _ _ (by omega)]; exact s2
  · rw [rp_up_ne _ _ (by omega)]; exact s3
  · rw [rp_up_ne _ _ (by omega)]; exact s4
  · rw [rp_up_ne _ _ (by omega)]; exact s5
  · obtain ⟨k1, k2, k3, k4⟩ := hk k hk'
    refine ⟨?_, by rw [rp_up_ne _ _ (by omega)]; exact k2, ?_, k4⟩
    · by_cases q : k = T
      · rw [q, rp_up_eq, rp_up_eq]
      · rw [rp_up_ne _ _ q, rp_up_ne _ _ q]; exact k1
    · by_cases q : k = T
      · rw [q, rp_up_eq]; exact ⟨v0, v8⟩
      · rw [rp_up_ne _ _ q]; exact k3
theorem rs_S_ca {fg sp mi tu sn go ca : Int} {kd pl he st : Nat → Int} (hf : fg ≤ 9) (h : rs_S fg sp kd mi tu sn go ca pl he st) (v : Int) : rs_S fg sp kd mi tu sn go v pl he (fl_up st 22 v) := by
  obtain ⟨⟨s1, s2, s3, s4, s5⟩, m0, a2, a3, a4, hk⟩ := h
  refine ⟨⟨?_, ?_, ?_, ?_, (rp_up_eq _ _ _).symm⟩, m0, a2, a3, a4, fun k hk' => ?_⟩
  · rw [rp_up_ne _ _ (by omega)]; exact s1
  · rw [rp_up_ne _ _ (by omega)]; exact s2
  · rw [rp_up_ne _ _ (by omega)]; exact s3
  · rw [rp_up_ne _ _ (by omega)]; exact s4
  · rw [rp_up_ne _ _ (by omega), rp_up_ne _ _ (by omega)]; exact hk k hk'
theorem rs_S_go {fg sp mi tu sn go ca : Int} {kd pl he st : Nat → Int} (hf : fg ≤ 9) (h : rs_S fg sp kd mi tu sn go ca pl he st) {v : Int} (v0 : 0 ≤ v ∧ v ≤ 511) (hv : ∀ k : Nat, (k : Int) < fg → Ff_X7_hasBit v (k : Int) = 1 → kd k = 1) : rs_S fg sp kd mi tu sn v ca pl he (fl_up st 18 v) := by
  obtain ⟨⟨s1, s2, s3, s4, s5⟩, m0, a2, a3, a4, hk⟩ := h
  refine ⟨⟨?_, ?_, ?_, (rp_up_eq _ _ _).symm, ?_⟩, m0, a2, a3, v0, fun k hk' => ?_⟩
  · rw [rp_up_ne _ _ (by omega)]; exact s1
  · rw [rp_up_ne _ _ (by omega)]; exact s2
  · rw [rp_up_ne _ _ (by omega)]; exact s3
  · rw [rp_up_ne _ _ (by omega)]; exact s5
  · rw [rp_up_ne _ _ (by omega), rp_up_ne _ _ (by omega)]
    obtain ⟨k1, k2, k3, k4⟩ := hk k hk'
    exact ⟨k1, k2, k3, hv k hk'⟩
theorem rs_S_he {fg sp mi tu sn go ca : Int} {kd pl he st : Nat → Int} (hf : fg ≤ 9) (h : rs_S fg sp kd mi tu sn go ca pl he st) {T : Nat} (hT : T < 9) (v : Int) : rs_S fg sp kd mi tu sn go ca pl (fl_up he T v) (fl_up st (9 + T) v) := by
  obtain ⟨⟨s1, s2, s3, s4, s5⟩, m0, a2, a3, a4, hk⟩ := h
  refine ⟨⟨?_, ?_, ?_, ?_, ?_⟩, m0, a2, a3, a4, fun k hk' => ?_⟩
  · rw [rp_up_ne _ _ (by omega)]; exact s1
  · rw [rp_up_ne _ _ (by omega)]; exact s2
  · rw [rp_up_ne _ _ (by omega)]; exact s3
  · rw [rp_up_ne _ _ (by omega)]; exact s4
  · rw [rp_up_ne _ _ (by omega)]; exact s5
  · obtain ⟨k1, k2, k3, k4⟩ := hk k hk'
    refine ⟨by rw [rp_up_ne _ _ (by omega)]; exact k1, ?_, k3, k4⟩
    by_cases q : k = T
    · rw [q, rp_up_eq, rp_up_eq]
    · rw [rp_up_ne _ _ q, rp_up_ne _ _ (by omega)]; exact k2
set_option maxRecDepth 20000 in
theorem rs_sh : ∀ n : Fin 20, ¬ fl_shl 1 (n.val : Int) = 0 := by decide +kernel
theorem rs_near {p sa : Int} (p0 : 0 ≤ p) (p8 : p ≤ 8) (s0 : 0 ≤ sa) (s8 : sa ≤ 8) : 0 ≤ Ff_X0_nearer p sa ∧ Ff_X0_nearer p sa ≤ 8 := by
  unfold Ff_X0_nearer
  by_cases a : p = sa
  · rw [if_pos a]; omega
  · rw [if_neg a]
    by_cases b : sa ≤ p
    · rw [if_pos b, fl_lt_eq rfl, rp_isub (by omega) (by omega) (by omega) (by omega) (by omega) (by omega)]; omega
    · rw [if_neg b, fl_lt_eq rfl]; omega
theorem rs_mid {fg sp sa ti pu mi sn go ca c po sd : Int} {T : Nat} {kd me pl he wf wt r f t st : Nat → Int} (hG : rs_G fg sp sa ti pu kd me r) (hW : rs_W c po wf wt sd r f t) (hS : rs_S fg sp kd mi (T : Int) sn go ca pl he st) (hmi : mi ≤ 2000000000) :
    ∃ go1 ca1 pl1 he1 sd1 row1, rs_Q sa mi (T : Int) sn go ca c po kd me pl wf wt = (go1, ca1, pl1) ∧ rs_E mi (T : Int) sn c po kd me pl1 wf wt he = he1 ∧ rs_M sd st r f t = (sd1, row1) ∧ rs_S fg sp kd mi (T : Int) sn go1 ca1 pl1 he1 row1 ∧ sd1 = Ff_X0_partSaid (T : Int) (fl_iadd sn 1) kd me := by
  obtain ⟨⟨s1, s2, s3, s4, s5⟩, m0, ⟨t0, t1⟩, ⟨n0, n1⟩, ⟨g0, g1⟩, hk⟩ := id hS
  obtain ⟨⟨f1, f2, f3⟩, ⟨sp1, sp2, sp3⟩, ⟨sa1, sa2, sa3⟩, ⟨ti1, ti2, ti3⟩, ⟨pu1, pu2, pu3⟩, hkd⟩ := id hG
  have hT9 : T < 9 := by omega
  have eT : ((T : Int)).toNat = T := Int.toNat_natCast T
  obtain ⟨k1, k2, k3, k4⟩ := hk T t1
  obtain ⟨d1, d2, d3, d4, d5⟩ := hkd T hT9
  have es : fl_iadd sn 1 = sn + 1 := rp_iadd (by omega) (by omega) (by omega) (by omega) (by omega) (by omega)
  have e12 : (12 + 2 * st 19).toNat = 12 + 2 * T := by rw [← s2]; omega
  have hM : rs_M sd st r f t = if Ff_X7_hasBit go (T : Int) = 1 then (0, st) else if kd T = 1 then (0, Ff_X8_walkOn (T : Int) sd st r t f) else if kd T = 2 then Ff_X8_speakOn (T : Int) sd 0 st r t f else (0, st) := by
    unfold rs_M
    rw [e12, ← s2, ← s4, ← d1]
  have hwi : Ff_X7_within (T : Int) 0 8 = 1 := (rp_in _ _ _).trans (rp_in1 (by omega) (by omega))
  have hst : Ff_X0_stepsIn (T : Int) (sn + 1) kd me = if kd T = 1 then (if (sn + 1) % me T = 0 then 1 else 0) else 0 := by
    unfold Ff_X0_stepsIn
    rw [hwi, fl_lt_eq rfl, if_pos rfl, eT, fl_lt_eq rfl]
    by_cases q : kd T = 1
    · have q5 := d5 q
      rw [if_pos q, if_pos q, fl_lt_eq rfl, if_neg (by omega), rs_irem (by omega) (by omega) (by omega) (by omega), fl_lt_eq rfl]
    · rw [if_neg q, if_neg q]
  have hps : Ff_X0_partSaid (T : Int) (sn + 1) kd me = if kd T = 2 then (if me T < sn + 1 then 0 else fl_shl 1 sn) else 0 := by
    unfold Ff_X0_partSaid
    rw [hwi, fl_lt_eq rfl, if_pos rfl, eT, fl_lt_eq rfl]
    by_cases q : kd T = 2
    · rw [if_pos q, if_pos q, fl_lt_eq rfl]
      by_cases q2 : me T < sn + 1
      · rw [if_pos q2, if_pos q2]
      · rw [if_neg q2, if_neg q2, fl_lt_eq rfl, fl_lt_eq rfl, rp_isub (by omega) (by omega) (by omega) (by omega) (by omega) (by omega), show sn + 1 - 1 = sn by omega]
    · rw [if_neg q, if_neg q]
  by_cases hg : Ff_X7_hasBit go (T : Int) = 1
  · have hk1 : kd T = 1 := k4 hg
    refine ⟨go, ca, pl, he, 0, st, ?_, ?_, ?_, hS, ?_⟩
    · unfold rs_Q
      have eg : Ff_X0_step (T : Int) sa mi go ca pl c po wt wf = (go, ca, pl) := by
        unfold Ff_X0_step Ff_X5_isGone
        rw [hg]; rfl
      rw [eg]
      split <;> rfl
    · have hpz : Ff_X0_partSaid (T : Int) (sn + 1) kd me = 0 := by rw [hps, if_neg (by omega)]
      unfold rs_E
      rw [es, hpz, if_pos rfl]
    · rw [hM, if_pos hg]
    · rw [es, hps, if_neg (by omega)]
  · by_cases hk1 : kd T = 1
    · have hpz : Ff_X0_partSaid (T : Int) (sn + 1) kd me = 0 := by rw [hps, if_neg (by omega)]
      by_cases h20 : (sn + 1) % me T = 0
      · have h20' : (st 20 + 1) % r (13 + 2 * T) = 0 := by rw [← s3, ← d2]; exact h20
        have hw := rs_walk (sd := sd) (st := st) (r := r) (f := f) (t := t) (T := T) (by rw [← k1]; exact k3.1) (by rw [← k1]; exact k3.2) h20' hT9
        rw [← k1, ← sa1, ← s1, ← s5, ← s4] at hw
        obtain ⟨b1, b2, b3⟩ := rs_wat hW (mi := mi) m0 (by omega)
        have hR := rs_near k3.1 k3.2 sa2 sa3
        have hq : rs_Q sa mi (T : Int) sn go ca c po kd me pl wf wt = (if Ff_X7_hasBit (Ff_X6_placesIn mi c po wt wf) (Ff_X0_nearer (pl T) sa) = 1 then (go, fl_iadd ca 1, fl_up pl T (T : Int)) else if Ff_X0_nearer (pl T) sa = sa then (fl_or go (fl_shl 1 (T : Int)), ca, fl_up pl T (Ff_X0_nearer (pl T) sa)) else (go, ca, fl_up pl T (Ff_X0_nearer (pl T) sa))) := by
          unfold rs_Q
          rw [es, hst, if_pos hk1, if_pos h20, if_pos rfl]
          unfold Ff_X0_step Ff_X5_isGone
          simp only [fl_lt, eT, if_neg hg]
          rw [if_neg (by decide)]
        rw [b3 _ hR.1 hR.2] at hw
        generalize Ff_X0_nearer (pl T) sa = R at hR hq hw
        have hE : ∀ pl1 : Nat → Int, rs_E mi (T : Int) sn c po kd me pl1 wf wt he = he := fun pl1 => by unfold rs_E; rw [es, hpz, if_pos rfl]
        by_cases hb : Ff_X7_hasBit (Ff_X6_placesIn mi c po wt wf) R = 1
        · rw [if_pos hb] at hq hw
          rw [rs_up2] at hw
          refine ⟨_, _, _, he, 0, _, hq, hE _, by rw [hM, if_neg hg, if_pos hk1, hw], rs_S_ca f3 (rs_S_pl hS hT9 (by omega) (by omega)) _, by rw [es, hpz]⟩
        · rw [if_neg hb] at hq hw
          by_cases hs : R = sa
          · rw [if_pos hs] at hq hw
            obtain ⟨z1, z2⟩ := rs_bit g0 g1 (f := (T : Int)) (by omega) (by omega)
            refine ⟨_, _, _, he, 0, _, hq, hE _, by rw [hM, if_neg hg, if_pos hk1, hw], rs_S_go f3 (rs_S_pl hS hT9 hR.1 hR.2) z1 (fun k hk' h9 => ?_), by rw [es, hpz]⟩
            rcases (z2 (k : Int) (by omega) (by omega)).mp h9 with q | q
            · exact (hk k hk').2.2.2 q
            · have : k = T := by omega
              rw [this]; exact hk1
          · rw [if_neg hs] at hq hw
            exact ⟨_, _, _, he, 0, _, hq, hE _, by rw [hM, if_neg hg, if_pos hk1, hw], rs_S_pl hS hT9 hR.1 hR.2, by rw [es, hpz]⟩
      · refine ⟨go, ca, pl, he, 0, st, ?_, ?_, ?_, hS, ?_⟩
        · unfold rs_Q
          rw [es, hst, if_pos hk1, if_neg h20, if_neg (by decide)]
        · unfold rs_E
          rw [es, hpz, if_pos rfl]
        · rw [hM, if_neg hg, if_pos hk1, rs_stay (by rw [← s3, ← d2]; exact h20)]
        · rw [es, hpz]
    · have hq : rs_Q sa mi (T : Int) sn go ca c po kd me pl wf wt = (go, ca, pl) := by
        unfold rs_Q
        rw [es, hst, if_neg hk1, if_neg (by decide)]
      by_cases hk2 : kd T = 2
      · have hM2 : rs_M sd st r f t = Ff_X8_speakOn (T : Int) sd 0 st r t f := by rw [hM, if_neg hg, if_neg hk1, if_pos hk2]
        have e13 : (12 + 2 * (T : Int) + 1).toNat = 13 + 2 * T := by omega
        by_cases hm : me T < sn + 1
        · have hpz : Ff_X0_partSaid (T : Int) (sn + 1) kd me = 0 := by rw [hps, if_pos hk2, if_pos hm]
          refine ⟨go, ca, pl, he, 0, st, hq, ?_, ?_, hS, by rw [es, hpz]⟩
          · unfold rs_E
            rw [es, hpz, if_pos rfl]
          · rw [hM2]
            unfold Ff_X8_speakOn
            simp only [fl_lt, e13]
            rw [if_neg (by omega)]
        · have hpz : Ff_X0_partSaid (T : Int) (sn + 1) kd me = fl_shl 1 sn := by rw [hps, if_pos hk2, if_neg hm]
          have hnz := rs_sh ⟨sn.toNat, by omega⟩
          simp only [Int.toNat_of_nonneg n0] at hnz
          have hsk := rs_spk hW (row := st) (T := T) (by omega) (by omega) (by rw [← k1]; exact k3.1) (by rw [← k1]; exact k3.2) (fl_shl 1 sn)
          have hsp : Ff_X8_speakOn (T : Int) sd 0 st r t f = if Ff_X0_isHeardAt (pl T) (Ff_X6_placesIn mi c po wt wf) = 1 then (fl_shl 1 sn, fl_up st (9 + T) (fl_or (he T) (fl_shl 1 sn))) else (fl_shl 1 sn, st) := by
            rw [← k1, ← k2, ← s1] at hsk
            rw [← hsk]
            unfold Ff_X8_speakOn
            simp only [fl_lt, e13, eT]
            rw [if_pos (by omega), ← s3, ← k1]
          by_cases hh : Ff_X0_isHeardAt (pl T) (Ff_X6_placesIn mi c po wt wf) = 1
          · rw [if_pos hh] at hsp
            refine ⟨go, ca, pl, _, _, _, hq, ?_, by rw [hM2, hsp], rs_S_he f3 hS hT9 _, by rw [es, hpz]⟩
            unfold rs_E
            rw [es, hpz, if_neg hnz, eT, if_pos hh]
          · rw [if_neg hh] at hsp
            refine ⟨go, ca, pl, he, _, _, hq, ?_, by rw [hM2, hsp], hS, by rw [es, hpz]⟩
            unfold rs_E
            rw [es, hpz, if_neg hnz, eT, if_neg hh]
      · have hpz : Ff_X0_partSaid (T : Int) (sn + 1) kd me = 0 := by rw [hps, if_neg hk2]
        refine ⟨go, ca, pl, he, 0, st, hq, ?_, by rw [hM, if_neg hg, if_neg hk1, if_neg hk2], hS, by rw [es, hpz]⟩
        unfold rs_E
        rw [es, hpz, if_pos rfl]
theorem rs_next {fg sp sa ti pu : Int} {kd me r : Nat → Int} (hG : rs_G fg sp sa ti pu kd me r) (x : Int) : Ff_X8_nextOf x r = Ff_X0_next x fg ti pu ∧ 0 ≤ Ff_X0_next x fg ti pu ∧ Ff_X0_next x fg ti pu < fg := by
  obtain ⟨⟨f1, f2, f3⟩, -, -, ⟨ti1, -, -⟩, ⟨pu1, -, -⟩, -⟩ := hG
  unfold Ff_X8_nextOf Ff_X0_next
  simp only [fl_lt]
  rw [if_pos (by omega), ← f1, ← ti1, ← pu1, Int.mul_comm ti x]
  exact ⟨rfl, Int.emod_nonneg _ (by omega), Int.emod_lt_of_pos _ (by omega)⟩
theorem rs_tail {fg sp sa ti pu mi sn go ca : Int} {T : Nat} {kd me pl he r st : Nat → Int} (hG : rs_G fg sp sa ti pu kd me r) (hS : rs_S fg sp kd mi (T : Int) sn go ca pl he st) (hmi : mi ≤ 2000000000) :
    (sn + 1 < sp → rs_S fg sp kd (mi + 1) (T : Int) (sn + 1) go ca pl he (rs_tm (T : Int) r st)) ∧ (¬ sn + 1 < sp → rs_S fg sp kd (mi + 1) (Ff_X0_next (T : Int) fg ti pu) 0 go ca pl he (rs_tm (T : Int) r st)) := by
  obtain ⟨⟨s1, s2, s3, s4, s5⟩, m0, ⟨t0, t1⟩, ⟨n0, n1⟩, ⟨g0, g1⟩, hk⟩ := id hS
  obtain ⟨⟨f1, f2, f3⟩, ⟨sp1, sp2, sp3⟩, -⟩ := id hG
  obtain ⟨x1, x2, x3⟩ := rs_next hG (T : Int)
  have ei : fl_iadd (st 21) 1 = mi + 1 := by rw [← s1]; exact rp_iadd (by omega) (by omega) (by omega) (by omega) (by omega) (by omega)
  have e20 : fl_up st 21 (mi + 1) 20 = sn := by rw [rp_up_ne _ _ (by omega)]; exact s3.symm
  have er : rs_tm (T : Int) r st = if sp ≤ sn + 1 then fl_up (fl_up (fl_up (fl_up st 21 (mi + 1)) 20 (sn + 1)) 20 0) 19 (Ff_X0_next (T : Int) fg ti pu) else fl_up (fl_up st 21 (mi + 1)) 20 (sn + 1) := by
    unfold rs_tm
    rw [ei, e20, x1, ← sp1]
  have hr : ∀ row : Nat → Int, (∀ k : Nat, k < 19 ∨ k = 22 → row k = st k) → ∀ k : Nat, (k : Int) < fg → pl k = row k ∧ he k = row (9 + k) ∧ (0 ≤ pl k ∧ pl k ≤ 8) ∧ (Ff_X7_hasBit go (k : Int) = 1 → kd k = 1) := by
    intro row hrow k hk'
    rw [hrow k (by omega), hrow (9 + k) (by omega)]
    exact hk k hk'
  constructor
  · intro h
    rw [er, if_neg (by omega)]
    have hrow : ∀ k : Nat, k < 19 ∨ k = 22 → fl_up (fl_up st 21 (mi + 1)) 20 (sn + 1) k = st k := fun k hk' => by rw [rp_up_ne _ _ (by omega), rp_up_ne _ _ (by omega)]
    refine ⟨⟨?_, ?_, (rp_up_eq _ _ _).symm, ?_, ?_⟩, by omega, ⟨t0, t1⟩, by omega, ⟨g0, g1⟩, hr _ hrow⟩
    · rw [rp_up_ne _ _ (by omega), rp_up_eq]
    · rw [rp_up_ne _ _ (by omega), rp_up_ne _ _ (by omega)]; exact s2
    · rw [hrow 18 (by omega)]; exact s4
    · rw [hrow 22 (by omega)]; exact s5
  · intro h
    rw [er, if_pos (by omega), rs_up2]
    have hrow : ∀ k : Nat, k < 19 ∨ k = 22 → fl_up (fl_up (fl_up st 21 (mi + 1)) 20 0) 19 (Ff_X0_next (T : Int) fg ti pu) k = st k := fun k hk' => by rw [rp_up_ne _ _ (by omega), rp_up_ne _ _ (by omega), rp_up_ne _ _ (by omega)]
    refine ⟨⟨?_, (rp_up_eq _ _ _).symm, ?_, ?_, ?_⟩, by omega, ⟨x2, x3⟩, by omega, ⟨g0, g1⟩, hr _ hrow⟩
    · rw [rp_up_ne _ _ (by omega), rp_up_ne _ _ (by omega), rp_up_eq]
    · rw [rp_up_ne _ _ (by omega), rp_up_eq]
    · rw [hrow 18 (by omega)]; exact s4
    · rw [hrow 22 (by omega)]; exact s5
/-- a minute passes: here and there -/
theorem rs_pass {fg sp sa ti pu mi tu sn go ca c po sd : Int} {kd me pl he wf wt r f t st : Nat → Int} (hG : rs_G fg sp sa ti pu kd me r) (hW : rs_W c po wf wt sd r f t) (hS : rs_S fg sp kd mi tu sn go ca pl he st) (hmi : mi ≤ 2000000000) :
    ∃ tu1 sn1 go1 ca1 pl1 he1 st1, Ff_X0_pass fg sp sa ti pu mi tu sn go ca kd me pl c po wt wf he = (mi + 1, tu1, sn1, go1, ca1, pl1, he1) ∧ Ff_X8_minuteOn sd st r t f = (tu, (if Ff_X7_hasBit go1 tu = 1 then -1 else pl1 tu.toNat), Ff_X0_partSaid tu (fl_iadd sn 1) kd me, st1) ∧ rs_S fg sp kd (mi + 1) tu1 sn1 go1 ca1 pl1 he1 st1 := by
  obtain ⟨⟨s1, s2, s3, s4, s5⟩, m0, ⟨t0, t1⟩, ⟨n0, n1⟩, -, hk⟩ := id hS
  obtain ⟨⟨f1, f2, f3⟩, ⟨sp1, sp2, sp3⟩, -⟩ := id hG
  obtain ⟨T, hT⟩ : ∃ T : Nat, tu = (T : Int) := ⟨tu.toNat, by omega⟩
  subst hT
  obtain ⟨go1, ca1, pl1, he1, sd1, row1, q1, q2, q3, q4, q5⟩ := rs_mid hG hW hS hmi
  obtain ⟨⟨z1, z2, z3, z4, z5⟩, -, -, -, -, zk⟩ := id q4
  obtain ⟨w1, w2⟩ := rs_tail hG q4 hmi
  have es : fl_iadd sn 1 = sn + 1 := rp_iadd (by omega) (by omega) (by omega) (by omega) (by omega) (by omega)
  have em : fl_iadd mi 1 = mi + 1 := rp_iadd (by omega) (by omega) (by omega) (by omega) (by omega) (by omega)
  have eT : ((T : Int)).toNat = T := Int.toNat_natCast T
  have hm : Ff_X8_minuteOn sd st r t f = ((T : Int), (if Ff_X7_hasBit go1 (T : Int) = 1 then -1 else pl1 ((T : Int)).toNat), Ff_X0_partSaid (T : Int) (fl_iadd sn 1) kd me, rs_tm (T : Int) r row1) := by
    rw [rs_passm, q3, ← s2]
    simp only
    rw [← z4, eT, ← (zk T t1).1, q5]
  have hc := rs_passc fg sp sa ti pu mi (T : Int) sn go ca c po kd me pl wf wt he
  rw [q1] at hc
  simp only at hc
  rw [q2, es, em] at hc
  by_cases h : sn + 1 < sp
  · rw [if_pos h] at hc
    exact ⟨_, _, _, _, _, _, _, hc, hm, w1 h⟩
  · rw [if_neg h] at hc
    exact ⟨_, _, _, _, _, _, _, hc, hm, w2 h⟩
end RSC
end P092249602_rs3
section P092249603_rs4
section RSD
theorem rs_cp0 (m t s g c : Int) (pl he a b : Nat → Int) : Sf_X5_copyFrom_42_1 m t s g c pl he 0 a b = .inl (1, fl_up a 0 (pl 0), fl_up b 0 (he 0)) := rfl
theorem rs_cp1 (m t s g c : Int) (pl he a b : Nat → Int) : Sf_X5_copyFrom_42_1 m t s g c pl he 1 a b = .inl (2, fl_up a 1 (pl 1), fl_up b 1 (he 1)) := rfl
theorem rs_cp2 (m t s g c : Int) (pl he a b : Nat → Int) : Sf_X5_copyFrom_42_1 m t s g c pl he 2 a b = .inl (3, fl_up a 2 (pl 2), fl_up b 2 (he 2)) := rfl
theorem rs_cp3 (m t s g c : Int) (pl he a b : Nat → Int) : Sf_X5_copyFrom_42_1 m t s g c pl he 3 a b = .inl (4, fl_up a 3 (pl 3), fl_up b 3 (he 3)) := rfl
theorem rs_cp4 (m t s g c : Int) (pl he a b : Nat → Int) : Sf_X5_copyFrom_42_1 m t s g c pl he 4 a b = .inl (5, fl_up a 4 (pl 4), fl_up b 4 (he 4)) := rfl
theorem rs_cp5 (m t s g c : Int) (pl he a b : Nat → Int) : Sf_X5_copyFrom_42_1 m t s g c pl he 5 a b = .inl (6, fl_up a 5 (pl 5), fl_up b 5 (he 5)) := rfl
theorem rs_cp6 (m t s g c : Int) (pl he a b : Nat → Int) : Sf_X5_copyFrom_42_1 m t s g c pl he 6 a b = .inl (7, fl_up a 6 (pl 6), fl_up b 6 (he 6)) := rfl
theorem rs_cp7 (m t s g c : Int) (pl he a b : Nat → Int) : Sf_X5_copyFrom_42_1 m t s g c pl he 7 a b = .inl (8, fl_up a 7 (pl 7), fl_up b 7 (he 7)) := rfl
theorem rs_cp8 (m t s g c : Int) (pl he a b : Nat → Int) : Sf_X5_copyFrom_42_1 m t s g c pl he 8 a b = .inl (9, fl_up a 8 (pl 8), fl_up b 8 (he 8)) := rfl
theorem rs_cp (m t s g c : Int) (pl a he b : Nat → Int) : ∃ pl1 he1, Ff_X5_copyFrom m t s g c pl a he b = (m, t, s, g, c, pl1, he1) ∧ ∀ k : Nat, k < 9 → pl1 k = pl k ∧ he1 k = he k := by
  refine ⟨(fl_up (fl_up (fl_up (fl_up (fl_up (fl_up (fl_up (fl_up (fl_up a 0 (pl 0)) 1 (pl 1)) 2 (pl 2)) 3 (pl 3)) 4 (pl 4)) 5 (pl 5)) 6 (pl 6)) 7 (pl 7)) 8 (pl 8)), (fl_up (fl_up (fl_up (fl_up (fl_up (fl_up (fl_up (fl_up (fl_up b 0 (he 0)) 1 (he 1)) 2 (he 2)) 3 (he 3)) 4 (he 4)) 5 (he 5)) 6 (he 6)) 7 (he 7)) 8 (he 8)), ?_, ?_⟩
  · unfold Ff_X5_copyFrom
    rw [fl_wh_l (step := (fun t9 : Int × (Nat → Int) × (Nat → Int) => Sf_X5_copyFrom_42_1 m t s g c pl he t9.1 t9.2.1 t9.2.2)) (rs_cp0 m t s g c pl he _ _)]
    rw [fl_wh_l (step := (fun t9 : Int × (Nat → Int) × (Nat → Int) => Sf_X5_copyFrom_42_1 m t s g c pl he t9.1 t9.2.1 t9.2.2)) (rs_cp1 m t s g c pl he _ _)]
    rw [fl_wh_l (step := (fun t9 : Int × (Nat → Int) × (Nat → Int) => Sf_X5_copyFrom_42_1 m t s g c pl he t9.1 t9.2.1 t9.2.2)) (rs_cp2 m t s g c pl he _ _)]
    rw [fl_wh_l (step := (fun t9 : Int × (Nat → Int) × (Nat → Int) => Sf_X5_copyFrom_42_1 m t s g c pl he t9.1 t9.2.1 t9.2.2)) (rs_cp3 m t s g c pl he _ _)]
    rw [fl_wh_l (step := (fun t9 : Int × (Nat → Int) × (Nat → Int) => Sf_X5_copyFrom_42_1 m t s g c pl he t9.1 t9.2.1 t9.2.2)) (rs_cp4 m t s g c pl he _ _)]
    rw [fl_wh_l (step := (fun t9 : Int × (Nat → Int) × (Nat → Int) => Sf_X5_copyFrom_42_1 m t s g c pl he t9.1 t9.2.1 t9.2.2)) (rs_cp5 m t s g c pl he _ _)]
    rw [fl_wh_l (step := (fun t9 : Int × (Nat → Int) × (Nat → Int) => Sf_X5_copyFrom_42_1 m t s g c pl he t9.1 t9.2.1 t9.2.2)) (rs_cp6 m t s g c pl he _ _)]
    rw [fl_wh_l (step := (fun t9 : Int × (Nat → Int) × (Nat → Int) => Sf_X5_copyFrom_42_1 m t s g c pl he t9.1 t9.2.1 t9.2.2)) (rs_cp7 m t s g c pl he _ _)]
    rw [fl_wh_l (step := (fun t9 : Int × (Nat → Int) × (Nat → Int) => Sf_X5_copyFrom_42_1 m t s g c pl he t9.1 t9.2.1 t9.2.2)) (rs_cp8 m t s g c pl he _ _)]
    exact fl_wh_r (step := (fun t9 : Int × (Nat → Int) × (Nat → Int) => Sf_X5_copyFrom_42_1 m t s g c pl he t9.1 t9.2.1 t9.2.2)) (s := (9, (fl_up (fl_up (fl_up (fl_up (fl_up (fl_up (fl_up (fl_up (fl_up a 0 (pl 0)) 1 (pl 1)) 2 (pl 2)) 3 (pl 3)) 4 (pl 4)) 5 (pl 5)) 6 (pl 6)) 7 (pl 7)) 8 (pl 8)), (fl_up (fl_up (fl_up (fl_up (fl_up (fl_up (fl_up (fl_up (fl_up b 0 (he 0)) 1 (he 1)) 2 (he 2)) 3 (he 3)) 4 (he 4)) 5 (he 5)) 6 (he 6)) 7 (he 7)) 8 (he 8)))) rfl
  · intro k hk
    have h : k = 0 ∨ k = 1 ∨ k = 2 ∨ k = 3 ∨ k = 4 ∨ k = 5 ∨ k = 6 ∨ k = 7 ∨ k = 8 := by omega
    rcases h with h | h | h | h | h | h | h | h | h <;> (subst h; exact ⟨rfl, rfl⟩)
/-- a kept scene in its place is this one -/
def rs_P (gI : Nat → Int) (gF : Nat → Nat → Int) (j : Nat) (m t s g c : Int) (pl he : Nat → Int) : Prop := gI (5 * j) = m ∧ gI (5 * j + 1) = t ∧ gI (5 * j + 2) = s ∧ gI (5 * j + 3) = g ∧ gI (5 * j + 4) = c ∧ ∀ k : Nat, k < 9 → gF (2 * j) k = pl k ∧ gF (2 * j + 1) k = he k
theorem rs_kp0 {U L : Int} (h : (L + 1) % 16 = 0) (m t s g c : Int) (pl he : Nat → Int) (gI : Nat → Int) (gF : Nat → Nat → Int) : ∃ pl1 he1, Ff_X1_keep U L gI m t s g c pl gF he = (fl_min (U + 1) 16, 0, fl_nI [m, t, s, g, c, gI 5, gI 6, gI 7, gI 8, gI 9, gI 10, gI 11, gI 12, gI 13, gI 14, gI 15, gI 16, gI 17, gI 18, gI 19, gI 20, gI 21, gI 22, gI 23, gI 24, gI 25, gI 26, gI 27, gI 28, gI 29, gI 30, gI 31, gI 32, gI 33, gI 34, gI 35, gI 36, gI 37, gI 38, gI 39, gI 40, gI 41, gI 42, gI 43, gI 44, gI 45, gI 46, gI 47, gI 48, gI 49, gI 50, gI 51, gI 52, gI 53, gI 54, gI 55, gI 56, gI 57, gI 58, gI 59, gI 60, gI 61, gI 62, gI 63, gI 64, gI 65, gI 66, gI 67, gI 68, gI 69, gI 70, gI 71, gI 72, gI 73, gI 74, gI 75, gI 76, gI 77, gI 78, gI 79], fl_nF [pl1, he1, gF 2, gF 3, gF 4, gF 5, gF 6, gF 7, gF 8, gF 9, gF 10, gF 11, gF 12, gF 13, gF 14, gF 15, gF 16, gF 17, gF 18, gF 19, gF 20, gF 21, gF 22, gF 23, gF 24, gF 25, gF 26, gF 27, gF 28, gF 29, gF 30, gF 31]) ∧ ∀ k : Nat, k < 9 → pl1 k = pl k ∧ he1 k = he k := by
  obtain ⟨pl1, he1, e, q⟩ := rs_cp m t s g c pl (gF 0) he (gF 1)
  refine ⟨pl1, he1, ?_, q⟩
  unfold Ff_X1_keep
  rw [fl_lt_eq rfl, fl_lt_eq h.symm]
  rw [if_pos rfl]
  rw [e, fl_c7_eq rfl]
  rfl
theorem rs_ks0 (m t s g c : Int) (pl he : Nat → Int) (gI : Nat → Int) (gF : Nat → Nat → Int) (pl1 he1 : Nat → Int) (hq : ∀ k : Nat, k < 9 → pl1 k = pl k ∧ he1 k = he k) : rs_P (fl_nI [m, t, s, g, c, gI 5, gI 6, gI 7, gI 8, gI 9, gI 10, gI 11, gI 12, gI 13, gI 14, gI 15, gI 16, gI 17, gI 18, gI 19, gI 20, gI 21, gI 22, gI 23, gI 24, gI 25, gI 26, gI 27, gI 28, gI 29, gI 30, gI 31, gI 32, gI 33, gI 34, gI 35, gI 36, gI 37, gI 38, gI 39, gI 40, gI 41, gI 42, gI 43, gI 44, gI 45, gI 46, gI 47, gI 48, gI 49, gI 50, gI 51, gI 52, gI 53, gI 54, gI 55, gI 56, gI 57, gI 58, gI 59, gI 60, gI 61, gI 62, gI 63, gI 64, gI 65, gI 66, gI 67, gI 68, gI 69, gI 70, gI 71, gI 72, gI 73, gI 74, gI 75, gI 76, gI 77, gI 78, gI 79]) (fl_nF [pl1, he1, gF 2, gF 3, gF 4, gF 5, gF 6, gF 7, gF 8, gF 9, gF 10, gF 11, gF 12, gF 13, gF 14, gF 15, gF 16, gF 17, gF 18, gF 19, gF 20, gF 21, gF 22, gF 23, gF 24, gF 25, gF 26, gF 27, gF 28, gF 29, gF 30, gF 31]) 0 m t s g c pl he ∧ ∀ j : Nat, j < 16 → j ≠ 0 → (∀ x : Nat, x < 5 → (fl_nI [m, t, s, g, c, gI 5, gI 6, gI 7, gI 8, gI 9, gI 10, gI 11, gI 12, gI 13, gI 14, gI 15, gI 16, gI 17, gI 18, gI 19, gI 20, gI 21, gI 22, gI 23, gI 24, gI 25, gI 26, gI 27, gI 28, gI 29, gI 30, gI 31, gI 32, gI 33, gI 34, gI 35, gI 36, gI 37, gI 38, gI 39, gI 40, gI 41, gI 42, gI 43, gI 44, gI 45, gI 46, gI 47, gI 48, gI 49, gI 50, gI 51, gI 52, gI 53, gI 54, gI 55, gI 56, gI 57, gI 58, gI 59, gI 60, gI 61, gI 62, gI 63, gI 64, gI 65, gI 66, gI 67, gI 68, gI 69, gI 70, gI 71, gI 72, gI 73, gI 74, gI 75, gI 76, gI 77, gI 78, gI 79]) (5 * j + x) = gI (5 * j + x)) ∧ (fl_nF [pl1, he1, gF 2, gF 3, gF 4, gF 5, gF 6, gF 7, gF 8, gF 9, gF 10, gF 11, gF 12, gF 13, gF 14, gF 15, gF 16, gF 17, gF 18, gF 19, gF 20, gF 21, gF 22, gF 23, gF 24, gF 25, gF 26, gF 27, gF 28, gF 29, gF 30, gF 31]) (2 * j) = gF (2 * j) ∧ (fl_nF [pl1, he1, gF 2, gF 3, gF 4, gF 5, gF 6, gF 7, gF 8, gF 9, gF 10, gF 11, gF 12, gF 13, gF 14, gF 15, gF 16, gF 17, gF 18, gF 19, gF 20, gF 21, gF 22, gF 23, gF 24, gF 25, gF 26, gF 27, gF 28, gF 29, gF 30, gF 31]) (2 * j + 1) = gF (2 * j + 1) := by
  refine ⟨⟨rfl, rfl, rfl, rfl, rfl, hq⟩, fun j hj hn => ?_⟩
  rcases (show j = 0 ∨ j = 1 ∨ j = 2 ∨ j = 3 ∨ j = 4 ∨ j = 5 ∨ j = 6 ∨ j = 7 ∨ j = 8 ∨ j = 9 ∨ j = 10 ∨ j = 11 ∨ j = 12 ∨ j = 13 ∨ j = 14 ∨ j = 15 by omega) with h | h | h | h | h | h | h | h | h | h | h | h | h | h | h | h
  · exact absurd h hn
  · subst h
    refine ⟨fun x hx => ?_, rfl, rfl⟩
    rcases (show x = 0 ∨ x = 1 ∨ x = 2 ∨ x = 3 ∨ x = 4 by omega) with h | h | h | h | h <;> (subst h; rfl)
  · subst h
    refine ⟨fun x hx => ?_, rfl, rfl⟩
    rcases (show x = 0 ∨ x = 1 ∨ x = 2 ∨ x = 3 ∨ x = 4 by omega) with h | h | h | h | h <;> (subst h; rfl)
  · subst h
    refine ⟨fun x hx => ?_, rfl, rfl⟩
    rcases (show x = 0 ∨ x = 1 ∨ x = 2 ∨ x = 3 ∨ x = 4 by omega) with h | h | h | h | h <;> (subst h; rfl)
  · subst h
    refine ⟨fun x hx => ?_, rfl, rfl⟩
    rcases (show x = 0 ∨ x = 1 ∨ x = 2 ∨ x = 3 ∨ x = 4 by omega) with h | h | h | h | h <;> (subst h; rfl)
  · subst h
    refine ⟨fun x hx => ?_, rfl, rfl⟩
    rcases (show x = 0 ∨ x = 1 ∨ x = 2 ∨ x = 3 ∨ x = 4 by omega) with h | h | h | h | h <;> (subst h; rfl)
  · subst h
    refine ⟨fun x hx => ?_, rfl, rfl⟩
    rcases (show x = 0 ∨ x = 1 ∨ x = 2 ∨ x = 3 ∨ x = 4 by omega) with h | h | h | h | h <;> (subst h; rfl)
  · subst h
    refine ⟨fun x hx => ?_, rfl, rfl⟩
    rcases (show x = 0 ∨ x = 1 ∨ x = 2 ∨ x = 3 ∨ x = 4 by omega) with h | h | h | h | h <;> (subst h; rfl)
  · subst h
    refine ⟨fun x hx => ?_, rfl, rfl⟩
    rcases (show x = 0 ∨ x = 1 ∨ x = 2 ∨ x = 3 ∨ x = 4 by omega) with h | h | h | h | h <;> (subst h; rfl)
  · subst h
    refine ⟨fun x hx => ?_, rfl, rfl⟩
    rcases (show x = 0 ∨ x = 1 ∨ x = 2 ∨ x = 3 ∨ x = 4 by omega) with h | h | h | h | h <;> (subst h; rfl)
  · subst h
    refine ⟨fun x hx => ?_, rfl, rfl⟩
    rcases (show x = 0 ∨ x = 1 ∨ x = 2 ∨ x = 3 ∨ x = 4 by omega) with h | h | h | h | h <;> (subst h; rfl)
  · subst h
    refine ⟨fun x hx => ?_, rfl, rfl⟩
    rcases (show x = 0 ∨ x = 1 ∨ x = 2 ∨ x = 3 ∨ x = 4 by omega) with h | h | h | h | h <;> (subst h; rfl)
  · subst h
    refine ⟨fun x hx => ?_, rfl, rfl⟩
    rcases (show x = 0 ∨ x = 1 ∨ x = 2 ∨ x = 3 ∨ x = 4 by omega) with h | h | h | h | h <;> (subst h; rfl)
  · subst h
    refine ⟨fun x hx => ?_, rfl, rfl⟩
    rcases (show x = 0 ∨ x = 1 ∨ x = 2 ∨ x = 3 ∨ x = 4 by omega) with h | h | h | h | h <;> (subst h; rfl)
  · subst h
    refine ⟨fun x hx => ?_, rfl, rfl⟩
    rcases (show x = 0 ∨ x = 1 ∨ x = 2 ∨ x = 3 ∨ x = 4 by omega) with h | h | h | h | h <;> (subst h; rfl)
  · subst h
    refine ⟨fun x hx => ?_, rfl, rfl⟩
    rcases (show x = 0 ∨ x = 1 ∨ x = 2 ∨ x = 3 ∨ x = 4 by omega) with h | h | h | h | h <;> (subst h; rfl)
theorem rs_kp1 {U L : Int} (h : (L + 1) % 16 = 1) (m t s g c : Int) (pl he : Nat → Int) (gI : Nat → Int) (gF : Nat → Nat → Int) : ∃ pl1 he1, Ff_X1_keep U L gI m t s g c pl gF he = (fl_min (U + 1) 16, 1, fl_nI [gI 0, gI 1, gI 2, gI 3, gI 4, m, t, s, g, c, gI 10, gI 11, gI 12, gI 13, gI 14, gI 15, gI 16, gI 17, gI 18, gI 19, gI 20, gI 21, gI 22, gI 23, gI 24, gI 25, gI 26, gI 27, gI 28, gI 29, gI 30, gI 31, gI 32, gI 33, gI 34, gI 35, gI 36, gI 37, gI 38, gI 39, gI 40, gI 41, gI 42, gI 43, gI 44, gI 45, gI 46, gI 47, gI 48, gI 49, gI 50, gI 51, gI 52, gI 53, gI 54, gI 55, gI 56, gI 57, gI 58, gI 59, gI 60, gI 61, gI 62, gI 63, gI 64, gI 65, gI 66, gI 67, gI 68, gI 69, gI 70, gI 71, gI 72, gI 73, gI 74, gI 75, gI 76, gI 77, gI 78, gI 79], fl_nF [gF 0, gF 1, pl1, he1, gF 4, gF 5, gF 6, gF 7, gF 8, gF 9, gF 10, gF 11, gF 12, gF 13, gF 14, gF 15, gF 16, gF 17, gF 18, gF 19, gF 20, gF 21, gF 22, gF 23, gF 24, gF 25, gF 26, gF 27, gF 28, gF 29, gF 30, gF 31]) ∧ ∀ k : Nat, k < 9 → pl1 k = pl k ∧ he1 k = he k := by
  obtain ⟨pl1, he1, e, q⟩ := rs_cp m t s g c pl (gF 2) he (gF 3)
  refine ⟨pl1, he1, ?_, q⟩
  unfold Ff_X1_keep
  rw [fl_lt_eq rfl, fl_lt_eq h.symm]
  rw [if_neg (by decide)]
  rw [if_pos rfl]
  rw [e, fl_c7_eq rfl]
  rfl
theorem rs_ks1 (m t s g c : Int) (pl he : Nat → Int) (gI : Nat → Int) (gF : Nat → Nat → Int) (pl1 he1 : Nat → Int) (hq : ∀ k : Nat, k < 9 → pl1 k = pl k ∧ he1 k = he k) : rs_P (fl_nI [gI 0, gI 1, gI 2, gI 3, gI 4, m, t, s, g, c, gI 10, gI 11, gI 12, gI 13, gI 14, gI 15, gI 16, gI 17, gI 18, gI 19, gI 20, gI 21, gI 22, gI 23, gI 24, gI 25, gI 26, gI 27, gI 28, gI 29, gI 30, gI 31, gI 32, gI 33, gI 34, gI 35, gI 36, gI 37, gI 38, gI 39, gI 40, gI 41, gI 42, gI 43, gI 44, gI 45, gI 46, gI 47, gI 48, gI 49, gI 50, gI 51, gI 52, gI 53, gI 54, gI 55, gI 56, gI 57, gI 58, gI 59, gI 60, gI 61, gI 62, gI 63, gI 64, gI 65, gI 66, gI 67, gI 68, gI 69, gI 70, gI 71, gI 72, gI 73, gI 74, gI 75, gI 76, gI 77, gI 78, gI 79]) (fl_nF [gF 0, gF 1, pl1, he1, gF 4, gF 5, gF 6, gF 7, gF 8, gF 9, gF 10, gF 11, gF 12, gF 13, gF 14, gF 15, gF 16, gF 17, gF 18, gF 19, gF 20, gF 21, gF 22, gF 23, gF 24, gF 25, gF 26, gF 27, gF 28, gF 29, gF 30, gF 31]) 1 m t s g c pl he ∧ ∀ j : Nat, j < 16 → j ≠ 1 → (∀ x : Nat, x < 5 → (fl_nI [gI 0, gI 1, gI 2, gI 3, gI 4, m, t, s, g, c, gI 10, gI 11, gI 12, gI 13, gI 14, gI 15, gI 16, gI 17, gI 18, gI 19, gI 20, gI 21, gI 22, gI 23, gI 24, gI 25, gI 26, gI 27, gI 28, gI 29, gI 30, gI 31, gI 32, gI 33, gI 34, gI 35, gI 36, gI 37, gI 38, gI 39, gI 40, gI 41, gI 42, gI 43, gI 44, gI 45, gI 46, gI 47, gI 48, gI 49, gI 50, gI 51, gI 52, gI 53, gI 54, gI 55, gI 56, gI 57, gI 58, gI 59, gI 60, gI 61, gI 62, gI 63, gI 64, gI 65, gI 66, gI 67, gI 68, gI 69, gI 70, gI 71, gI 72, gI 73, gI 74, gI 75, gI 76, gI 77, gI 78, gI 79]) (5 * j + x) = gI (5 * j + x)) ∧ (fl_nF [gF 0, gF 1, pl1, he1, gF 4, gF 5, gF 6, gF 7, gF 8, gF 9, gF 10, gF 11, gF 12, gF 13, gF 14, gF 15, gF 16, gF 17, gF 18, gF 19, gF 20, gF 21, gF 22, gF 23, gF 24, gF 25, gF 26, gF 27, gF 28, gF 29, gF 30, gF 31]) (2 * j) = gF (2 * j) ∧ (fl_nF [gF 0, gF 1, pl1, he1, gF 4, gF 5, gF 6, gF 7, gF 8, gF 9, gF 10, gF 11, gF 12, gF 13, gF 14, gF 15, gF 16, gF 17, gF 18, gF 19, gF 20, gF 21, gF 22, gF 23, gF 24, gF 25, gF 26, gF 27, gF 28, gF 29, gF 30, gF 31]) (2 * j + 1) = gF (2 * j + 1) := by
  refine ⟨⟨rfl, rfl, rfl, rfl, rfl, hq⟩, fun j hj hn => ?_⟩
  rcases (show j = 0 ∨ j = 1 ∨ j = 2 ∨ j = 3 ∨ j = 4 ∨ j = 5 ∨ j = 6 ∨ j = 7 ∨ j = 8 ∨ j = 9 ∨ j = 10 ∨ j = 11 ∨ j = 12 ∨ j = 13 ∨ j = 14 ∨ j = 15 by omega) with h | h | h | h | h | h | h | h | h | h | h | h | h | h | h | h
  · subst h
    refine ⟨fun x hx => ?_, rfl, rfl⟩
    rcases (show x = 0 ∨ x = 1 ∨ x = 2 ∨ x = 3 ∨ x = 4 by omega) with h | h | h | h | h <;> (subst h; rfl)
  · exact absurd h hn
  · subst h
    refine ⟨fun x hx => ?_, rfl, rfl⟩
    rcases (show x = 0 ∨ x = 1 ∨ x = 2 ∨ x = 3 ∨ x = 4 by omega) with h | h | h | h | h <;> (subst h; rfl)
  · subst h
    refine ⟨fun x hx => ?_, rfl, rfl⟩
    rcases (show x = 0 ∨ x = 1 ∨ x = 2 ∨ x = 3 ∨ x = 4 by omega) with h | h | h | h | h <;> (subst h; rfl)
  · subst h
    refine ⟨fun x hx => ?_, rfl, rfl⟩
    rcases (show x = 0 ∨ x = 1 ∨ x = 2 ∨ x = 3 ∨ x = 4 by omega) with h | h | h | h | h <;> (subst h; rfl)
  · subst h
    refine ⟨fun x hx => ?_, rfl, rfl⟩
    rcases (show x = 0 ∨ x = 1 ∨ x = 2 ∨ x = 3 ∨ x = 4 by omega) with h | h | h | h | h <;> (subst h; rfl)
  · subst h
    refine ⟨fun x hx => ?_, rfl, rfl⟩
    rcases (show x = 0 ∨ x = 1 ∨ x = 2 ∨ x = 3 ∨ x = 4 by omega) with h | h | h | h | h <;> (subst h; rfl)
  · subst h
    refine ⟨fun x hx => ?_, rfl, rfl⟩
    rcases (show x = 0 ∨ x = 1 ∨ x = 2 ∨ x = 3 ∨ x = 4 by omega) with h | h | h | h | h <;> (subst h; rfl)
  · subst h
    refine ⟨fun x hx => ?_, rfl, rfl⟩
    rcases (show x = 0 ∨ x = 1 ∨ x = 2 ∨ x = 3 ∨ x = 4 by omega) with h | h | h | h | h <;> (subst h; rfl)
  · subst h
    refine ⟨fun x hx => ?_, rfl, rfl⟩
    rcases (show x = 0 ∨ x = 1 ∨ x = 2 ∨ x = 3 ∨ x = 4 by omega) with h | h | h | h | h <;> (subst h; rfl)
  · subst h
    refine ⟨fun x hx => ?_, rfl, rfl⟩
    rcases (show x = 0 ∨ x = 1 ∨ x = 2 ∨ x = 3 ∨ x = 4 by omega) with h | h | h | h | h <;> (subst h; rfl)
  · subst h
    refine ⟨fun x hx => ?_, rfl, rfl⟩
    rcases (show x = 0 ∨ x = 1 ∨ x = 2 ∨ x = 3 ∨ x = 4 by omega) with h | h | h | h | h <;> (subst h; rfl)
  · subst h
    refine ⟨fun x hx => ?_, rfl, rfl⟩
    rcases (show x = 0 ∨ x = 1 ∨ x = 2 ∨ x = 3 ∨ x = 4 by omega) with h | h | h | h | h <;> (subst h; rfl)
  · subst h
    refine ⟨fun x hx => ?_, rfl, rfl⟩
    rcases (show x = 0 ∨ x = 1 ∨ x = 2 ∨ x = 3 ∨ x = 4 by omega) with h | h | h | h | h <;> (subst h; rfl)
  · subst h
    refine ⟨fun x hx => ?_, rfl, rfl⟩
    rcases (show x = 0 ∨ x = 1 ∨ x = 2 ∨ x = 3 ∨ x = 4 by omega) with h | h | h | h | h <;> (subst h; rfl)
  · subst h
    refine ⟨fun x hx => ?_, rfl, rfl⟩
    rcases (show x = 0 ∨ x = 1 ∨ x = 2 ∨ x = 3 ∨ x = 4 by omega) with h | h | h | h | h <;> (subst h; rfl)
theorem rs_kp2 {U L : Int} (h : (L + 1) % 16 = 2) (m t s g c : Int) (pl he : Nat → Int) (gI : Nat → Int) (gF : Nat → Nat → Int) : ∃ pl1 he1, Ff_X1_keep U L gI m t s g c pl gF he = (fl_min (U + 1) 16, 2, fl_nI [gI 0, gI 1, gI 2, gI 3, gI 4, gI 5, gI 6, gI 7, gI 8, gI 9, m, t, s, g, c, gI 15, gI 16, gI 17, gI 18, gI 19, gI 20, gI 21, gI 22, gI 23, gI 24, gI 25, gI 26, gI 27, gI 28, gI 29, gI 30, gI 31, gI 32, gI 33, gI 34, gI 35, gI 36, gI 37, gI 38, gI 39, gI 40, gI 41, gI 42, gI 43, gI 44, gI 45, gI 46, gI 47, gI 48, gI 49, gI 50, gI 51, gI 52, gI 53, gI 54, gI 55, gI 56, gI 57, gI 58, gI 59, gI 60, gI 61, gI 62, gI 63, gI 64, gI 65, gI 66, gI 67, gI 68, gI 69, gI 70, gI 71, gI 72, gI 73, gI 74, gI 75, gI 76, gI 77, gI 78, gI 79], fl_nF [gF 0, gF 1, gF 2, gF 3, pl1, he1, gF 6, gF 7, gF 8, gF 9, gF 10, gF 11, gF 12, gF 13, gF 14, gF 15, gF 16, gF 17, gF 18, gF 19, gF 20, gF 21, gF 22, gF 23, gF 24, gF 25, gF 26, gF 27, gF 28, gF 29, gF 30, gF 31]) ∧ ∀ k : Nat, k < 9 → pl1 k = pl k ∧ he1 k = he k := by
  obtain ⟨pl1, he1, e, q⟩ := rs_cp m t s g c pl (gF 4) he (gF 5)
  refine ⟨pl1, he1, ?_, q⟩
  unfold Ff_X1_keep
  rw [fl_lt_eq rfl, fl_lt_eq h.symm]
  rw [if_neg (by decide)]
  rw [if_neg (by decide)]
  rw [if_pos rfl]
  rw [e, fl_c7_eq rfl]
  rfl
theorem rs_ks2 (m t s g c : Int) (pl he : Nat → Int) (gI : Nat → Int) (gF : Nat → Nat → Int) (pl1 he1 : Nat → Int) (hq : ∀ k : Nat, k < 9 → pl1 k = pl k ∧ he1 k = he k) : rs_P (fl_nI [gI 0, gI 1, gI 2, gI 3, gI 4, gI 5, gI 6, gI 7, gI 8, gI 9, m, t, s, g, c, gI 15, gI 16, gI 17, gI 18, gI 19, gI 20, gI 21, gI 22, gI 23, gI 24, gI 25, gI 26, gI 27, gI 28, gI 29, gI 30, gI 31, gI 32, gI 33, gI 34, gI 35, gI 36, gI 37, gI 38, gI 39, gI 40, gI 41, gI 42, gI 43, gI 44, gI 45, gI 46, gI 47, gI 48, gI 49, gI 50, gI 51, gI 52, gI 53, gI 54, gI 55, gI 56, gI 57, gI 58, gI 59, gI 60, gI 61, gI 62, gI 63, gI 64, gI 65, gI 66, gI 67, gI 68, gI 69, gI 70, gI 71, gI 72, gI 73, gI 74, gI 75, gI 76, gI 77, gI 78, gI 79]) (fl_nF [gF 0, gF 1, gF 2, gF 3, pl1, he1, gF 6, gF 7, gF 8, gF 9, gF 10, gF 11, gF 12, gF 13, gF 14, gF 15, gF 16, gF 17, gF 18, gF 19, gF 20, gF 21, gF 22, gF 23, gF 24, gF 25, gF 26, gF 27, gF 28, gF 29, gF 30, gF 31]) 2 m t s g c pl he ∧ ∀ j : Nat, j < 16 → j ≠ 2 → (∀ x : Nat, x < 5 → (fl_nI [gI 0, gI 1, gI 2, gI 3, gI 4, gI 5, gI 6, gI 7, gI 8, gI 9, m, t, s, g, c, gI 15, gI 16, gI 17, gI 18, gI 19, gI 20, gI 21, gI 22, gI 23, gI 24, gI 25, gI 26, gI 27, gI 28, gI 29, gI 30, gI 31, gI 32, gI 33, gI 34, gI 35, gI 36, gI 37, gI 38, gI 39, gI 40, gI 41, gI 42, gI 43, gI 44, gI 45, gI 46, gI 47, gI 48, gI 49, gI 50, gI 51, gI 52, gI 53, gI 54, gI 55, gI 56, gI 57, gI 58, gI 59, gI 60, gI 61, gI 62, gI 63, gI 64, gI 65, gI 66, gI 67, gI 68, gI 69, gI 70, gI 71, gI 72, gI 73, gI 74, gI 75, gI 76, gI 77, gI 78, gI 79]) (5 * j + x) = gI (5 * j + x)) ∧ (fl_nF [gF 0, gF 1, gF 2, gF 3, pl1, he1, gF 6, gF 7, gF 8, gF 9, gF 10, gF 11, gF 12, gF 13, gF 14, gF 15, gF 16, gF 17, gF 18, gF 19, gF 20, gF 21, gF 22, gF 23, gF 24, gF 25, gF 26, gF 27, gF 28, gF 29, gF 30, gF 31]) (2 * j) = gF (2 * j) ∧ (fl_nF [gF 0, gF 1, gF 2, gF 3, pl1, he1, gF 6, gF 7, gF 8, gF 9, gF 10, gF 11, gF 12, gF 13, gF 14, gF 15, gF 16, gF 17, gF 18, gF 19, gF 20, gF 21, gF 22, gF 23, gF 24, gF 25, gF 26, gF 27, gF 28, gF 29, gF 30, gF 31]) (2 * j + 1) = gF (2 * j + 1) := by
  refine ⟨⟨rfl, rfl, rfl, rfl, rfl, hq⟩, fun j hj hn => ?_⟩
  rcases (show j = 0 ∨ j = 1 ∨ j = 2 ∨ j = 3 ∨ j = 4 ∨ j = 5 ∨ j = 6 ∨ j = 7 ∨ j = 8 ∨ j = 9 ∨ j = 10 ∨ j = 11 ∨ j = 12 ∨ j = 13 ∨ j = 14 ∨ j = 15 by omega) with h | h | h | h | h | h | h | h | h | h | h | h | h | h | h | h
  · subst h
    refine ⟨fun x hx => ?_, rfl, rfl⟩
    rcases (show x = 0 ∨ x = 1 ∨ x = 2 ∨ x = 3 ∨ x = 4 by omega) with h | h | h | h | h <;> (subst h; rfl)
  · subst h
    refine ⟨fun x hx => ?_, rfl, rfl⟩
    rcases (show x = 0 ∨ x = 1 ∨ x = 2 ∨ x = 3 ∨ x = 4 by omega) with h | h | h | h | h <;> (subst h; rfl)
  · exact absurd h hn
  · subst h
    refine ⟨fun x hx => ?_, rfl, rfl⟩
    rcases (show x = 0 ∨ x = 1 ∨ x = 2 ∨ x = 3 ∨ x = 4 by omega) with h | h | h | h | h <;> (subst h; rfl)
  · subst h
    refine ⟨fun x hx => ?_, rfl, rfl⟩
    rcases (show x = 0 ∨ x = 1 ∨ x = 2 ∨ x = 3 ∨ x = 4 by omega) with h | h | h | h | h <;> (subst h; rfl)
  · subst h
    refine ⟨fun x hx => ?_, rfl, rfl⟩
    rcases (show x = 0 ∨ x = 1 ∨ x = 2 ∨ x = 3 ∨ x = 4 by omega) with h | h | h | h | h <;> (subst h; rfl)
  · subst h
    refine ⟨fun x hx => ?_, rfl, rfl⟩
    rcases (show x = 0 ∨ x = 1 ∨ x = 2 ∨ x = 3 ∨ x = 4 by omega) with h | h | h | h | h <;> (subst h; rfl)
  · subst h
    refine ⟨fun x hx => ?_, rfl, rfl⟩
    rcases (show x = 0 ∨ x = 1 ∨ x = 2 ∨ x = 3 ∨ x = 4 by omega) with h | h | h | h | h <;> (subst h; rfl)
  · subst h
    refine ⟨fun x hx => ?_, rfl, rfl⟩
    rcases (show x = 0 ∨ x = 1 ∨ x = 2 ∨ x = 3 ∨ x = 4 by omega) with h | h | h | h | h <;> (subst h; rfl)
  · subst h
    refine ⟨fun x hx => ?_, rfl, rfl⟩
    rcases (show x = 0 ∨ x = 1 ∨ x = 2 ∨ x = 3 ∨ x = 4 by omega) with h | h | h | h | h <;> (subst h; rfl)
  · subst h
    refine ⟨fun x hx => ?_, rfl, rfl⟩
    rcases (show x = 0 ∨ x = 1 ∨ x = 2 ∨ x = 3 ∨ x = 4 by omega) with h | h | h | h | h <;> (subst h; rfl)
  · subst h
    refine ⟨fun x hx => ?_, rfl, rfl⟩
    rcases (show x = 0 ∨ x = 1 ∨ x = 2 ∨ x = 3 ∨ x = 4 by omega) with h | h | h | h | h <;> (subst h; rfl)
  · subst h
    refine ⟨fun x hx => ?_, rfl, rfl⟩
    rcases (show x = 0 ∨ x = 1 ∨ x = 2 ∨ x = 3 ∨ x = 4 by omega) with h | h | h | h | h <;> (subst h; rfl)
  · subst h
    refine ⟨fun x hx => ?_, rfl, rfl⟩
    rcases (show x = 0 ∨ x = 1 ∨ x = 2 ∨ x = 3 ∨ x = 4 by omega) with h | h | h | h | h <;> (subst h; rfl)
  · subst h
    refine ⟨fun x hx => ?_, rfl, rfl⟩
    rcases (show x = 0 ∨ x = 1 ∨ x = 2 ∨ x = 3 ∨ x = 4 by omega) with h | h | h | h | h <;> (subst h; rfl)
  · subst h
    refine ⟨fun x hx => ?_, rfl, rfl⟩
    rcases (show x = 0 ∨ x = 1 ∨ x = 2 ∨ x = 3 ∨ x = 4 by omega) with h | h | h | h | h <;> (subst h; rfl)
theorem rs_kp3 {U L : Int} (h : (L + 1) % 16 = 3) (m t s g c : Int) (pl he : Nat → Int) (gI : Nat → Int) (gF : Nat → Nat → Int) : ∃ pl1 he1, Ff_X1_keep U L gI m t s g c pl gF he = (fl_min (U + 1) 16, 3, fl_nI [gI 0, gI 1, gI 2, gI 3, gI 4, gI 5, gI 6, gI 7, gI 8, gI 9, gI 10, gI 11, gI 12, gI 13, gI 14, m, t, s, g, c, gI 20, gI 21, gI 22, gI 23, gI 24, gI 25, gI 26, gI 27, gI 28, gI 29, gI 30, gI 31, gI 32, gI 33, gI 34, gI 35, gI 36, gI 37, gI 38, gI 39, gI 40, gI 41, gI 42, gI 43, gI 44, gI 45, gI 46, gI 47, gI 48, gI 49, gI 50, gI 51, gI 52, gI 53, gI 54, gI 55, gI 56, gI 57, gI 58, gI 59, gI 60, gI 61, gI 62, gI 63, gI 64, gI 65, gI 66, gI 67, gI 68, gI 69, gI 70, gI 71, gI 72, gI 73, gI 74, gI 75, gI 76, gI 77, gI 78, gI 79], fl_nF [gF 0, gF 1, gF 2, gF 3, gF 4, gF 5, pl1, he1, gF 8, gF 9, gF 10, gF 11, gF 12, gF 13, gF 14, gF 15, gF 16, gF 17, gF 18, gF 19, gF 20, gF 21, gF 22, gF 23, gF 24, gF 25, gF 26, gF 27, gF 28, gF 29, gF 30, gF 31]) ∧ ∀ k : Nat, k < 9 → pl1 k = pl k ∧ he1 k = he k := by
  obtain ⟨pl1, he1, e, q⟩ := rs_cp m t s g c pl (gF 6) he (gF 7)
  refine ⟨pl1, he1, ?_, q⟩
  unfold Ff_X1_keep
  rw [fl_lt_eq rfl, fl_lt_eq h.symm]
  rw [if_neg (by decide)]
  rw [if_neg (by decide)]
  rw [if_neg (by decide)]
  rw [if_pos rfl]
  rw [e, fl_c7_eq rfl]
  rfl
theorem rs_ks3 (m t s g c : Int) (pl he : Nat → Int) (gI : Nat → Int) (gF : Nat → Nat → Int) (pl1 he1 : Nat → Int) (hq : ∀ k : Nat, k < 9 → pl1 k = pl k ∧ he1 k = he k) : rs_P (fl_nI [gI 0, gI 1, gI 2, gI 3, gI 4, gI 5, gI 6, gI 7, gI 8, gI 9, gI 10, gI 11, gI 12, gI 13, gI 14, m, t, s, g, c, gI 20, gI 21, gI 22, gI 23, gI 24, gI 25, gI 26, gI 27, gI 28, gI 29, gI 30, gI 31, gI 32, gI 33, gI 34, gI 35, gI 36, gI 37, gI 38, gI 39, gI 40, gI 41, gI 42, gI 43, gI 44, gI 45, gI 46, gI 47, gI 48, gI 49, gI 50, gI 51, gI 52, gI 53, gI 54, gI 55, gI 56, gI 57, gI 58, gI 59, gI 60, gI 61, gI 62, gI 63, gI 64, gI 65, gI 66, gI 67, gI 68, gI 69, gI 70, gI 71, gI 72, gI 73, gI 74, gI 75, gI 76, gI 77, gI 78, gI 79]) (fl_nF [gF 0, gF 1, gF 2, gF 3, gF 4, gF 5, pl1, he1, gF 8, gF 9, gF 10, gF 11, gF 12, gF 13, gF 14, gF 15, gF 16, gF 17, gF 18, gF 19, gF 20, gF 21, gF 22, gF 23, gF 24, gF 25, gF 26, gF 27, gF 28, gF 29, gF 30, gF 31]) 3 m t s g c pl he ∧ ∀ j : Nat, j < 16 → j ≠ 3 → (∀ x : Nat, x < 5 → (fl_nI [gI 0, gI 1, gI 2, gI 3, gI 4, gI 5, gI 6, gI 7, gI 8, gI 9, gI 10, gI 11, gI 12, gI 13, gI 14, m, t, s, g, c, gI 20, gI 21, gI 22, gI 23, gI 24, gI 25, gI 26, gI 27, gI 28, gI 29, gI 30, gI 31, gI 32, gI 33, gI 34, gI 35, gI 36, gI 37, gI 38, gI 39, gI 40, gI 41, gI 42, gI 43, gI 44, gI 45, gI 46, gI 47, gI 48, gI 49, gI 50, gI 51, gI 52, gI 53, gI 54, gI 55, gI 56, gI 57, gI 58, gI 59, gI 60, gI 61, gI 62, gI 63, gI 64, gI 65, gI 66, gI 67, gI 68, gI 69, gI 70, gI 71, gI 72, gI 73, gI 74, gI 75, gI 76, gI 77, gI 78, gI 79]) (5 * j + x) = gI (5 * j + x)) ∧ (fl_nF [gF 0, gF 1, gF 2, gF 3, gF 4, gF 5, pl1, he1, gF 8, gF 9, gF 10, gF 11, gF 12, gF 13, gF 14, gF 15, gF 16, gF 17, gF 18, gF 19, gF 20, gF 21, gF 22, gF 23, gF 24, gF 25, gF 26, gF 27, gF 28, gF 29, gF 30, gF 31]) (2 * j) = gF (2 * j) ∧ (fl_nF [gF 0, gF 1, gF 2, gF 3, gF 4, gF 5, pl1, he1, gF 8, gF 9, gF 10, gF 11, gF 12, gF 13, gF 14, gF 15, gF 16, gF 17, gF 18, gF 19, gF 20, gF 21, gF 22, gF 23, gF 24, gF 25, gF 26, gF 27, gF 28, gF 29, gF 30, gF 31]) (2 * j + 1) = gF (2 * j + 1) := by
  refine ⟨⟨rfl, rfl, rfl, rfl, rfl, hq⟩, fun j hj hn => ?_⟩
  rcases (show j = 0 ∨ j = 1 ∨ j = 2 ∨ j = 3 ∨ j = 4 ∨ j = 5 ∨ j = 6 ∨ j = 7 ∨ j = 8 ∨ j = 9 ∨ j = 10 ∨ j = 11 ∨ j = 12 ∨ j = 13 ∨ j = 14 ∨ j = 15 by omega) with h | h | h | h | h | h | h | h | h | h | h | h | h | h | h | h
  · subst h
    refine ⟨fun x hx => ?_, rfl, rfl⟩
    rcases (show x = 0 ∨ x = 1 ∨ x = 2 ∨ x = 3 ∨ x = 4 by omega) with h | h | h | h | h <;> (subst h; rfl)
  · subst h
    refine ⟨fun x hx => ?_, rfl, rfl⟩
    rcases (show x = 0 ∨ x = 1 ∨ x = 2 ∨ x = 3 ∨ x = 4 by omega) with h | h | h | h | h <;> (subst h; rfl)
  · subst h
    refine ⟨fun x hx => ?_, rfl, rfl⟩
    rcases (show x = 0 ∨ x = 1 ∨ x = 2 ∨ x = 3 ∨ x = 4 by omega) with h | h | h | h | h <;> (subst h; rfl)
  · exact absurd h hn
  · subst h
    refine ⟨fun x hx => ?_, rfl, rfl⟩
    rcases (show x = 0 ∨ x = 1 ∨ x = 2 ∨ x = 3 ∨ x = 4 by omega) with h | h | h | h | h <;> (subst h; rfl)
  · subst h
    refine ⟨fun x hx => ?_, rfl, rfl⟩
    rcases (show x = 0 ∨ x = 1 ∨ x = 2 ∨ x = 3 ∨ x = 4 by omega) with h | h | h | h | h <;> (subst h; rfl)
  · subst h
    refine ⟨fun x hx => ?_, rfl, rfl⟩
    rcases (show x = 0 ∨ x = 1 ∨ x = 2 ∨ x = 3 ∨ x = 4 by omega) with h | h | h | h | h <;> (subst h; rfl)
  · subst h
    refine ⟨fun x hx => ?_, rfl, rfl⟩
    rcases (show x = 0 ∨ x = 1 ∨ x = 2 ∨ x = 3 ∨ x = 4 by omega) with h | h | h | h | h <;> (subst h; rfl)
  · subst h
    refine ⟨fun x hx => ?_, rfl, rfl⟩
    rcases (show x = 0 ∨ x = 1 ∨ x = 2 ∨ x = 3 ∨ x = 4 by omega) with h | h | h | h | h <;> (subst h; rfl)
  · subst h
    refine ⟨fun x hx => ?_, rfl, rfl⟩
    rcases (show x = 0 ∨ x = 1 ∨ x = 2 ∨ x = 3 ∨ x = 4 by omega) with h | h | h | h | h <;> (subst h; rfl)
  · subst h
    refine ⟨fun x hx => ?_, rfl, rfl⟩
    rcases (show x = 0 ∨ x = 1 ∨ x = 2 ∨ x = 3 ∨ x = 4 by omega) with h | h | h | h | h <;> (subst h; rfl)
  · subst h
    refine ⟨fun x hx => ?_, rfl, rfl⟩
    rcases (show x = 0 ∨ x = 1 ∨ x = 2 ∨ x = 3 ∨ x = 4 by omega) with h | h | h | h | h <;> (subst h; rfl)
  · subst h
    refine ⟨fun x hx => ?_, rfl, rfl⟩
    rcases (show x = 0 ∨ x = 1 ∨ x = 2 ∨ x = 3 ∨ x = 4 by omega) with h | h | h | h | h <;> (subst h; rfl)
  · subst h
    refine ⟨fun x hx => ?_, rfl, rfl⟩
    rcases (show x = 0 ∨ x = 1 ∨ x = 2 ∨ x = 3 ∨ x = 4 by omega) with h | h | h | h | h <;> (subst h; rfl)
  · subst h
    refine ⟨fun x hx => ?_, rfl, rfl⟩
    rcases (show x = 0 ∨ x = 1 ∨ x = 2 ∨ x = 3 ∨ x = 4 by omega) with h | h | h | h | h <;> (subst h; rfl)
  · subst h
    refine ⟨fun x hx => ?_, rfl, rfl⟩
    rcases (show x = 0 ∨ x = 1 ∨ x = 2 ∨ x = 3 ∨ x = 4 by omega) with h | h | h | h | h <;> (subst h; rfl)
theorem rs_kp4 {U L : Int} (h : (L + 1) % 16 = 4) (m t s g c : Int) (pl he : Nat → Int) (gI : Nat → Int) (gF : Nat → Nat → Int) : ∃ pl1 he1, Ff_X1_keep U L gI m t s g c pl gF he = (fl_min (U + 1) 16, 4, fl_nI [gI 0, gI 1, gI 2, gI 3, gI 4, gI 5, gI 6, gI 7, gI 8, gI 9, gI 10, gI 11, gI 12, gI 13, gI 14, gI 15, gI 16, gI 17, gI 18, gI 19, m, t, s, g, c, gI 25, gI 26, gI 27, gI 28, gI 29, gI 30, gI 31, gI 32, gI 33, gI 34, gI 35, gI 36, gI 37, gI 38, gI 39, gI 40, gI 41, gI 42, gI 43, gI 44, gI 45, gI 46, gI 47, gI 48, gI 49, gI 50, gI 51, gI 52, gI 53, gI 54, gI 55, gI 56, gI 57, gI 58, gI 59, gI 60, gI 61, gI 62, gI 63, gI 64, gI 65, gI 66, gI 67, gI 68, gI 69, gI 70, gI 71, gI 72, gI 73, gI 74, gI 75, gI 76, gI 77, gI 78, gI 79], fl_nF [gF 0, gF 1, gF 2, gF 3, gF 4, gF 5, gF 6, gF 7, pl1, he1, gF 10, gF 11, gF 12, gF 13, gF 14, gF 15, gF 16, gF 17, gF 18, gF 19, gF 20, gF 21, gF 22, gF 23, gF 24, gF 25, gF 26, gF 27, gF 28, gF 29, gF 30, gF 31]) ∧ ∀ k : Nat, k < 9 → pl1 k = pl k ∧ he1 k = he k := by
  obtain ⟨pl1, he1, e, q⟩ := rs_cp m t s g c pl (gF 8) he (gF 9)
  refine ⟨pl1, he1, ?_, q⟩
  unfold Ff_X1_keep
  rw [fl_lt_eq rfl, fl_lt_eq h.symm]
  rw [if_neg (by decide)]
  rw [if_neg (by decide)]
  rw [if_neg (by decide)]
  rw [if_neg (by decide)]
  rw [if_pos rfl]
  rw [e, fl_c7_eq rfl]
  rfl
theorem rs_ks4 (m t s g c : Int) (pl he : Nat → Int) (gI : Nat → Int) (gF : Nat → Nat → Int) (pl1 he1 : Nat → Int) (hq : ∀ k : Nat, k < 9 → pl1 k = pl k ∧ he1 k = he k) : rs_P (fl_nI [gI 0, gI 1, gI 2, gI 3, gI 4, gI 5, gI 6, gI 7, gI 8, gI 9, gI 10, gI 11, gI 12, gI 13, gI 14, gI 15, gI 16, gI 17, gI 18, gI 19, m, t, s, g, c, gI 25, gI 26, gI 27, gI 28, gI 29, gI 30, gI 31, gI 32, gI 33, gI 34, gI 35, gI 36, gI 37, gI 38, gI 39, gI 40, gI 41, gI 42, gI 43, gI 44, gI 45, gI 46, gI 47, gI 48, gI 49, gI 50, gI 51, gI 52, gI 53, gI 54, gI 55, gI 56, gI 57, gI 58, gI 59, gI 60, gI 61, gI 62, gI 63, gI 64, gI 65, gI 66, gI 67, gI 68, gI 69, gI 70, gI 71, gI 72, gI 73, gI 74, gI 75, gI 76, gI 77, gI 78, gI 79]) (fl_nF [gF 0, gF 1, gF 2, gF 3, gF 4, gF 5, gF 6, gF 7, pl1, he1, gF 10, gF 11, gF 12, gF 13, gF 14, gF 15, gF 16, gF 17, gF 18, gF 19, gF 20, gF 21, gF 22, gF 23, gF 24, gF 25, gF 26, gF 27, gF 28, gF 29, gF 30, gF 31]) 4 m t s g c pl he ∧ ∀ j : Nat, j < 16 → j ≠ 4 → (∀ x : Nat, x < 5 → (fl_nI [gI 0, gI 1, gI 2, gI 3, gI 4, gI 5, gI 6, gI 7, gI 8, gI 9, gI 10, gI 11, gI 12, gI 13, gI 14, gI 15, gI 16, gI 17, gI 18, gI 19, m, t, s, g, c, gI 25, gI 26, gI 27, gI 28, gI 29, gI 30, gI 31, gI 32, gI 33, gI 34, gI 35, gI 36, gI 37, gI 38, gI 39, gI 40, gI 41, gI 42, gI 43, gI 44, gI 45, gI 46, gI 47, gI 48, gI 49, gI 50, gI 51, gI 52, gI 53, gI 54, gI 55, gI 56, gI 57, gI 58, gI 59, gI 60, gI 61, gI 62, gI 63, gI 64, gI 65, gI 66, gI 67, gI 68, gI 69, gI 70, gI 71, gI 72, gI 73, gI 74, gI 75, gI 76, gI 77, gI 78, gI 79]) (5 * j + x) = gI (5 * j + x)) ∧ (fl_nF [gF 0, gF 1, gF 2, gF 3, gF 4, gF 5, gF 6, gF 7, pl1, he1, gF 10, gF 11, gF 12, gF 13, gF 14, gF 15, gF 16, gF 17, gF 18, gF 19, gF 20, gF 21, gF 22, gF 23, gF 24, gF 25, gF 26, gF 27, gF 28, gF 29, gF 30, gF 31]) (2 * j) = gF (2 * j) ∧ (fl_nF [gF 0, gF 1, gF 2, gF 3, gF 4, gF 5, gF 6, gF 7, pl1, he1, gF 10, gF 11, gF 12, gF 13, gF 14, gF 15, gF 16, gF 17, gF 18, gF 19, gF 20, gF 21, gF 22, gF 23, gF 24, gF 25, gF 26, gF 27, gF 28, gF 29, gF 30, gF 31]) (2 * j + 1) = gF (2 * j + 1) := by
  refine ⟨⟨rfl, rfl, rfl, rfl, rfl, hq⟩, fun j hj hn => ?_⟩
  rcases (show j = 0 ∨ j = 1 ∨ j = 2 ∨ j = 3 ∨ j = 4 ∨ j = 5 ∨ j = 6 ∨ j = 7 ∨ j = 8 ∨ j = 9 ∨ j = 10 ∨ j = 11 ∨ j = 12 ∨ j = 13 ∨ j = 14 ∨ j = 15 by omega) with h | h | h | h | h | h | h | h | h | h | h | h | h | h | h | h
  · subst h
    refine ⟨fun x hx => ?_, rfl, rfl⟩
    rcases (show x = 0 ∨ x = 1 ∨ x = 2 ∨ x = 3 ∨ x = 4 by omega) with h | h | h | h | h <;> (subst h; rfl)
  · subst h
    refine ⟨fun x hx => ?_, rfl, rfl⟩
    rcases (show x = 0 ∨ x = 1 ∨ x = 2 ∨ x = 3 ∨ x = 4 by omega) with h | h | h | h | h <;> (subst h; rfl)
  · subst h
    refine ⟨fun x hx => ?_, rfl, rfl⟩
    rcases (show x = 0 ∨ x = 1 ∨ x = 2 ∨ x = 3 ∨ x = 4 by omega) with h | h | h | h | h <;> (subst h; rfl)
  · subst h
    refine ⟨fun x hx => ?_, rfl, rfl⟩
    rcases (show x = 0 ∨ x = 1 ∨ x = 2 ∨ x = 3 ∨ x = 4 by omega) with h | h | h | h | h <;> (subst h; rfl)
  · exact absurd h hn
  · subst h
    refine ⟨fun x hx => ?_, rfl, rfl⟩
    rcases (show x = 0 ∨ x = 1 ∨ x = 2 ∨ x = 3 ∨ x = 4 by omega) with h | h | h | h | h <;> (subst h; rfl)
  · subst h
    refine ⟨fun x hx => ?_, rfl, rfl⟩
    rcases (show x = 0 ∨ x = 1 ∨ x = 2 ∨ x = 3 ∨ x = 4 by omega) with h | h | h | h | h <;> (subst h; rfl)
  · subst h
    refine ⟨fun x hx => ?_, rfl, rfl⟩
    rcases (show x = 0 ∨ x = 1 ∨ x = 2 ∨ x = 3 ∨ x = 4 by omega) with h | h | h | h | h <;> (subst h; rfl)
  · subst h
    refine ⟨fun x hx => ?_, rfl, rfl⟩
    rcases (show x = 0 ∨ x = 1 ∨ x = 2 ∨ x = 3 ∨ x = 4 by omega) with h | h | h | h | h <;> (subst h; rfl)
  · subst h
    refine ⟨fun x hx => ?_, rfl, rfl⟩
    rcases (show x = 0 ∨ x = 1 ∨ x = 2 ∨ x = 3 ∨ x = 4 by omega) with h | h | h | h | h <;> (subst h; rfl)
  · subst h
    refine ⟨fun x hx => ?_, rfl, rfl⟩
    rcases (show x = 0 ∨ x = 1 ∨ x = 2 ∨ x = 3 ∨ x = 4 by omega) with h | h | h | h | h <;> (subst h; rfl)
  · subst h
    refine ⟨fun x hx => ?_, rfl, rfl⟩
    rcases (show x = 0 ∨ x = 1 ∨ x = 2 ∨ x = 3 ∨ x = 4 by omega) with h | h | h | h | h <;> (subst h; rfl)
  · subst h
    refine ⟨fun x hx => ?_, rfl, rfl⟩
    rcases (show x = 0 ∨ x = 1 ∨ x = 2 ∨ x = 3 ∨ x = 4 by omega) with h | h | h | h | h <;> (subst h; rfl)
  · subst h
    refine ⟨fun x hx => ?_, rfl, rfl⟩
    rcases (show x = 0 ∨ x = 1 ∨ x = 2 ∨ x = 3 ∨ x = 4 by omega) with h | h | h | h | h <;> (subst h; rfl)
  · subst h
    refine ⟨fun x hx => ?_, rfl, rfl⟩
    rcases (show x = 0 ∨ x = 1 ∨ x = 2 ∨ x = 3 ∨ x = 4 by omega) with h | h | h | h | h <;> (subst h; rfl)
  · subst h
    refine ⟨fun x hx => ?_, rfl, rfl⟩
    rcases (show x = 0 ∨ x = 1 ∨ x = 2 ∨ x = 3 ∨ x = 4 by omega) with h | h | h | h | h <;> (subst h; rfl)
theorem rs_kp5 {U L : Int} (h : (L + 1) % 16 = 5) (m t s g c : Int) (pl he : Nat → Int) (gI : Nat → Int) (gF : Nat → Nat → Int) : ∃ pl1 he1, Ff_X1_keep U L gI m t s g c pl gF he = (fl_min (U + 1) 16, 5, fl_nI [gI 0, gI 1, gI 2, gI 3, gI 4, gI 5, gI 6, gI 7, gI 8, gI 9, gI 10, gI 11, gI 12, gI 13, gI 14, gI 15, gI 16, gI 17, gI 18, gI 19, gI 20, gI 21, gI 22, gI 23, gI 24, m, t, s, g, c, gI 30, gI 31, gI 32, gI 33, gI 34, gI 35, gI 36, gI 37, gI 38, gI 39, gI 40, gI 41, gI 42, gI 43, gI 44, gI 45, gI 46, gI 47, gI 48, gI 49, gI 50, gI 51, gI 52, gI 53, gI 54, gI 55, gI 56, gI 57, gI 58, gI 59, gI 60, gI 61, gI 62, gI 63, gI 64, gI 65, gI 66, gI 67, gI 68, gI 69, gI 70, gI 71, gI 72, gI 73, gI 74, gI 75, gI 76, gI 77, gI 78, gI 79], fl_nF [gF 0, gF 1, gF 2, gF 3, gF 4, gF 5, gF 6, gF 7, gF 8, gF 9, pl1, he1, gF 12, gF 13, gF 14, gF 15, gF 16, gF 17, gF 18, gF 19, gF 20, gF 21, gF 22, gF 23, gF 24, gF 25, gF 26, gF 27, gF 28, gF 29, gF 30, gF 31]) ∧ ∀ k : Nat, k < 9 → pl1 k = pl k ∧ he1 k = he k := by
  obtain ⟨pl1, he1, e, q⟩ := rs_cp m t s g c pl (gF 10) he (gF 11)
  refine ⟨pl1, he1, ?_, q⟩
  unfold Ff_X1_keep
  rw [fl_lt_eq rfl, fl_lt_eq h.symm]
  rw [if_neg (by decide)]
  rw [if_neg (by decide)]
  rw [if_neg (by decide)]
  rw [if_neg (by decide)]
  rw [if_neg (by decide)]
  rw [if_pos rfl]
  rw [e, fl_c7_eq rfl]
  rfl
theorem rs_ks5 (m t s g c : Int) (pl he : Nat → Int) (gI : Nat → Int) (gF : Nat → Nat → Int) (pl1 he1 : Nat → Int) (hq : ∀ k : Nat, k < 9 → pl1 k = pl k ∧ he1 k = he k) : rs_P (fl_nI [gI 0, gI 1, gI 2, gI 3, gI 4, gI 5, gI 6, gI 7, gI 8, gI 9, gI 10, gI 11, gI 12, gI 13, gI 14, gI 15, gI 16, gI 17, gI 18, gI 19, gI 20, gI 21, gI 22, gI 23, gI 24, m, t, s, g, c, gI 30, gI 31, gI 32, gI 33, gI 34, gI 35, gI 36, gI 37, gI 38, gI 39, gI 40, gI 41, gI 42, gI 43, gI 44, gI 45, gI 46, gI 47, gI 48, gI 49, gI 50, gI 51, gI 52, gI 53, gI 54, gI 55, gI 56, gI 57, gI 58, gI 59, gI 60, gI 61, gI 62, gI 63, gI 64, gI 65, gI 66, gI 67, gI 68, gI 69, gI 70, gI 71, gI 72, gI 73, gI 74, gI 75, gI 76, gI 77, gI 78, gI 79]) (fl_nF [gF 0, gF 1, gF 2, gF 3, gF 4, gF 5, gF 6, gF 7, gF 8, gF 9, pl1, he1, gF 12, gF 13, gF 14, gF 15, gF 16, gF 17, gF 18, gF 19, gF 20, gF 21, gF 22, gF 23, gF 24, gF 25, gF 26, gF 27, gF 28, gF 29, gF 30, gF 31]) 5 m t s g c pl he ∧ ∀ j : Nat, j < 16 → j ≠ 5 → (∀ x : Nat, x < 5 → (fl_nI [gI 0, gI 1, gI 2, gI 3, gI 4, gI 5, gI 6, gI 7, gI 8, gI 9, gI 10, gI 11, gI 12, gI 13, gI 14, gI 15, gI 16, gI 17, gI 18, gI 19, gI 20, gI 21, gI 22, gI 23, gI 24, m, t, s, g, c, gI 30, gI 31, gI 32, gI 33, gI 34, gI 35, gI 36, gI 37, gI 38, gI 39, gI 40, gI 41, gI 42, gI 43, gI 44, gI 45, gI 46, gI 47, gI 48, gI 49, gI 50, gI 51, gI 52, gI 53, gI 54, gI 55, gI 56, gI 57, gI 58, gI 59, gI 60, gI 61, gI 62, gI 63, gI 64, gI 65, gI 66, gI 67, gI 68, gI 69, gI 70, gI 71, gI 72, gI 73, gI 74, gI 75, gI 76, gI 77, gI 78, gI 79]) (5 * j + x) = gI (5 * j + x)) ∧ (fl_nF [gF 0, gF 1, gF 2, gF 3, gF 4, gF 5, gF 6, gF 7, gF 8, gF 9, pl1, he1, gF 12, gF 13, gF 14, gF 15, gF 16, gF 17, gF 18, gF 19, gF 20, gF 21, gF 22, gF 23, gF 24, gF 25, gF 26, gF 27, gF 28, gF 29, gF 30, gF 31]) (2 * j) = gF (2 * j) ∧ (fl_nF [gF 0, gF 1, gF 2, gF 3, gF 4, gF 5, gF 6, gF 7, gF 8, gF 9, pl1, he1, gF 12, gF 13, gF 14, gF 15, gF 16, gF 17, gF 18, gF 19, gF 20, gF 21, gF 22, gF 23, gF 24, gF 25, gF 26, gF 27, gF 28, gF 29, gF 30, gF 31]) (2 * j + 1) = gF (2 * j + 1) := by
  refine ⟨⟨rfl, rfl, rfl, rfl, rfl, hq⟩, fun j hj hn => ?_⟩
  rcases (show j = 0 ∨ j = 1 ∨ j = 2 ∨ j = 3 ∨ j = 4 ∨ j = 5 ∨ j = 6 ∨ j = 7 ∨ j = 8 ∨ j = 9 ∨ j = 10 ∨ j = 11 ∨ j = 12 ∨ j = 13 ∨ j = 14 ∨ j = 15 by omega) with h | h | h | h | h | h | h | h | h | h | h | h | h | h | h | h
  · subst h
    refine ⟨fun x hx => ?_, rfl, rfl⟩
    rcases (show x = 0 ∨ x = 1 ∨ x = 2 ∨ x = 3 ∨ x = 4 by omega) with h | h | h | h | h <;> (subst h; rfl)
  · subst h
    refine ⟨fun x hx => ?_, rfl, rfl⟩
    rcases (show x = 0 ∨ x = 1 ∨ x = 2 ∨ x = 3 ∨ x = 4 by omega) with h | h | h | h | h <;> (subst h; rfl)
  · subst h
    refine ⟨fun x hx => ?_, rfl, rfl⟩
    rcases (show x = 0 ∨ x = 1 ∨ x = 2 ∨ x = 3 ∨ x = 4 by omega) with h | h | h | h | h <;> (subst h; rfl)
  · subst h
    refine ⟨fun x hx => ?_, rfl, rfl⟩
    rcases (show x = 0 ∨ x = 1 ∨ x = 2 ∨ x = 3 ∨ x = 4 by omega) with h | h | h | h | h <;> (subst h; rfl)
  · subst h
    refine ⟨fun x hx => ?_, rfl, rfl⟩
    rcases (show x = 0 ∨ x = 1 ∨ x = 2 ∨ x = 3 ∨ x = 4 by omega) with h | h | h | h | h <;> (subst h; rfl)
  · exact absurd h hn
  · subst h
    refine ⟨fun x hx => ?_, rfl, rfl⟩
    rcases (show x = 0 ∨ x = 1 ∨ x = 2 ∨ x = 3 ∨ x = 4 by omega) with h | h | h | h | h <;> (subst h; rfl)
  · subst h
    refine ⟨fun x hx => ?_, rfl, rfl⟩
    rcases (show x = 0 ∨ x = 1 ∨ x = 2 ∨ x = 3 ∨ x = 4 by omega) with h | h | h | h | h <;> (subst h; rfl)
  · subst h
    refine ⟨fun x hx => ?_, rfl, rfl⟩
    rcases (show x = 0 ∨ x = 1 ∨ x = 2 ∨ x = 3 ∨ x = 4 by omega) with h | h | h | h | h <;> (subst h; rfl)
  · subst h
    refine ⟨fun x hx => ?_, rfl, rfl⟩
    rcases (show x = 0 ∨ x = 1 ∨ x = 2 ∨ x = 3 ∨ x = 4 by omega) with h | h | h | h | h <;> (subst h; rfl)
  · subst h
    refine ⟨fun x hx => ?_, rfl, rfl⟩
    rcases (show x = 0 ∨ x = 1 ∨ x = 2 ∨ x = 3 ∨ x = 4 by omega) with h | h | h | h | h <;> (subst h; rfl)
  · subst h
    refine ⟨fun x hx => ?_, rfl, rfl⟩
    rcases (show x = 0 ∨ x = 1 ∨ x = 2 ∨ x = 3 ∨ x = 4 by omega) with h | h | h | h | h <;> (subst h; rfl)
  · subst h
    refine ⟨fun x hx => ?_, rfl, rfl⟩
    rcases (show x = 0 ∨ x = 1 ∨ x = 2 ∨ x = 3 ∨ x = 4 by omega) with h | h | h | h | h <;> (subst h; rfl)
  · subst h
    refine ⟨fun x hx => ?_, rfl, rfl⟩
    rcases (show x = 0 ∨ x = 1 ∨ x = 2 ∨ x = 3 ∨ x = 4 by omega) with h | h | h | h | h <;> (subst h; rfl)
  · subst h
    refine ⟨fun x hx => ?_, rfl, rfl⟩
    rcases (show x = 0 ∨ x = 1 ∨ x = 2 ∨ x = 3 ∨ x = 4 by omega) with h | h | h | h | h <;> (subst h; rfl)
  · subst h
    refine ⟨fun x hx => ?_, rfl, rfl⟩
    rcases (show x = 0 ∨ x = 1 ∨ x = 2 ∨ x = 3 ∨ x = 4 by omega) with h | h | h | h | h <;> (subst h; rfl)
theorem rs_kp6 {U L : Int} (h : (L + 1) % 16 = 6) (m t s g c : Int) (pl he : Nat → Int) (gI : Nat → Int) (gF : Nat → Nat → Int) : ∃ pl1 he1, Ff_X1_keep U L gI m t s g c pl gF he = (fl_min (U + 1) 16, 6, fl_nI [gI 0, gI 1, gI 2, gI 3, gI 4, gI 5, gI 6, gI 7, gI 8, gI 9, gI 10, gI 11, gI 12, gI 13, gI 14, gI 15, gI 16, gI 17, gI 18, gI 19, gI 20, gI 21, gI 22, gI 23, gI 24, gI 25, gI 26, gI 27, gI 28, gI 29, m, t, s, g, c, gI 35, gI 36, gI 37, gI 38, gI 39, gI 40, gI 41, gI 42, gI 43, gI 44, gI 45, gI 46, gI 47, gI 48, gI 49, gI 50, gI 51, gI 52, gI 53, gI 54, gI 55, gI 56, gI 57, gI 58, gI 59, gI 60, gI 61, gI 62, gI 63, gI 64, gI 65, gI 66, gI 67, gI 68, gI 69, gI 70, gI 71, gI 72, gI 73, gI 74, gI 75, gI 76, gI 77, gI 78, gI 79], fl_nF [gF 0, gF 1, gF 2, gF 3, gF 4, gF 5, gF 6, gF 7, gF 8, gF 9, gF 10, gF 11, pl1, he1, gF 14, gF 15, gF 16, gF 17, gF 18, gF 19, gF 20, gF 21, gF 22, gF 23, gF 24, gF 25, gF 26, gF 27, gF 28, gF 29, gF 30, gF 31]) ∧ ∀ k : Nat, k < 9 → pl1 k = pl k ∧ he1 k = he k := by
  obtain ⟨pl1, he1, e, q⟩ := rs_cp m t s g c pl (gF 12) he (gF 13)
  refine ⟨pl1, he1, ?_, q⟩
  unfold Ff_X1_keep
  rw [fl_lt_eq rfl, fl_lt_eq h.symm]
  rw [if_neg (by decide)]
  rw [if_neg (by decide)]
  rw [if_neg (by decide)]
  rw [if_neg (by decide)]
  rw [if_neg (by decide)]
  rw [if_neg (by decide)]
  rw [if_pos rfl]
  rw [e, fl_c7_eq rfl]
  rfl
theorem rs_ks6 (m t s g c : Int) (pl he : Nat → Int) (gI : Nat → Int) (gF : Nat → Nat → Int) (pl1 he1 : Nat → Int) (hq : ∀ k : Nat, k < 9 → pl1 k = pl k ∧ he1 k = he k) : rs_P (fl_nI [gI 0, gI 1, gI 2, gI 3, gI 4, gI 5, gI 6, gI 7, gI 8, gI 9, gI 10, gI 11, gI 12, gI 13, gI 14, gI 15, gI 16, gI 17, gI 18, gI 19, gI 20, gI 21, gI 22, gI 23, gI 24, gI 25, gI 26, gI 27, gI 28, gI 29, m, t, s, g, c, gI 35, gI 36, gI 37, gI 38, gI 39, gI 40, gI 41, gI 42, gI 43, gI 44, gI 45, gI 46, gI 47, gI 48, gI 49, gI 50, gI 51, gI 52, gI 53, gI 54, gI 55, gI 56, gI 57, gI 58, gI 59, gI 60, gI 61, gI 62, gI 63, gI 64, gI 65, gI 66, gI 67, gI 68, gI 69, gI 70, gI 71, gI 72, gI 73, gI 74, gI 75, gI 76, gI 77, gI 78, gI 79]) (fl_nF [gF 0, gF 1, gF 2, gF 3, gF 4, gF 5, gF 6, gF 7, gF 8, gF 9, gF 10, gF 11, pl1, he1, gF 14, gF 15, gF 16, gF 17, gF 18, gF 19, gF 20, gF 21, gF 22, gF 23, gF 24, gF 25, gF 26, gF 27, gF 28, gF 29, gF 30, gF 31]) 6 m t s g c pl he ∧ ∀ j : Nat, j < 16 → j ≠ 6 → (∀ x : Nat, x < 5 → (fl_nI [gI 0, gI 1, gI 2, gI 3, gI 4, gI 5, gI 6, gI 7, gI 8, gI 9, gI 10, gI 11, gI 12, gI 13, gI 14, gI 15, gI 16, gI 17, gI 18, gI 19, gI 20, gI 21, gI 22, gI 23, gI 24, gI 25, gI 26, gI 27, gI 28, gI 29, m, t, s, g, c, gI 35, gI 36, gI 37, gI 38, gI 39, gI 40, gI 41, gI 42, gI 43, gI 44, gI 45, gI 46, gI 47, gI 48, gI 49, gI 50, gI 51, gI 52, gI 53, gI 54, gI 55, gI 56, gI 57, gI 58, gI 59, gI 60, gI 61, gI 62, gI 63, gI 64, gI 65, gI 66, gI 67, gI 68, gI 69, gI 70, gI 71, gI 72, gI 73, gI 74, gI 75, gI 76, gI 77, gI 78, gI 79]) (5 * j + x) = gI (5 * j + x)) ∧ (fl_nF [gF 0, gF 1, gF 2, gF 3, gF 4, gF 5, gF 6, gF 7, gF 8, gF 9, gF 10, gF 11, pl1, he1, gF 14, gF 15, gF 16, gF 17, gF 18, gF 19, gF 20, gF 21, gF 22, gF 23, gF 24, gF 25, gF 26, gF 27, gF 28, gF 29, gF 30, gF 31]) (2 * j) = gF (2 * j) ∧ (fl_nF [gF 0, gF 1, gF 2, gF 3, gF 4, gF 5, gF 6, gF 7, gF 8, gF 9, gF 10, gF 11, pl1, he1, gF 14, gF 15, gF 16, gF 17, gF 18, gF 19, gF 20, gF 21, gF 22, gF 23, gF 24, gF 25, gF 26, gF 27, gF 28, gF 29, gF 30, gF 31]) (2 * j + 1) = gF (2 * j + 1) := by
  refine ⟨⟨rfl, rfl, rfl, rfl, rfl, hq⟩, fun j hj hn => ?_⟩
  rcases (show j = 0 ∨ j = 1 ∨ j = 2 ∨ j = 3 ∨ j = 4 ∨ j = 5 ∨ j = 6 ∨ j = 7 ∨ j = 8 ∨ j = 9 ∨ j = 10 ∨ j = 11 ∨ j = 12 ∨ j = 13 ∨ j = 14 ∨ j = 15 by omega) with h | h | h | h | h | h | h | h | h | h | h | h | h | h | h | h
  · subst h
    refine ⟨fun x hx => ?_, rfl, rfl⟩
    rcases (show x = 0 ∨ x = 1 ∨ x = 2 ∨ x = 3 ∨ x = 4 by omega) with h | h | h | h | h <;> (subst h; rfl)
  · subst h
    refine ⟨fun x hx => ?_, rfl, rfl⟩
    rcases (show x = 0 ∨ x = 1 ∨ x = 2 ∨ x = 3 ∨ x = 4 by omega) with h | h | h | h | h <;> (subst h; rfl)
  · subst h
    refine ⟨fun x hx => ?_, rfl, rfl⟩
    rcases (show x = 0 ∨ x = 1 ∨ x = 2 ∨ x = 3 ∨ x = 4 by omega) with h | h | h | h | h <;> (subst h; rfl)
  · subst h
    refine ⟨fun x hx => ?_, rfl, rfl⟩
    rcases (show x = 0 ∨ x = 1 ∨ x = 2 ∨ x = 3 ∨ x = 4 by omega) with h | h | h | h | h <;> (subst h; rfl)
  · subst h
    refine ⟨fun x hx => ?_, rfl, rfl⟩
    rcases (show x = 0 ∨ x = 1 ∨ x = 2 ∨ x = 3 ∨ x = 4 by omega) with h | h | h | h | h <;> (subst h; rfl)
  · subst h
    refine ⟨fun x hx => ?_, rfl, rfl⟩
    rcases (show x = 0 ∨ x = 1 ∨ x = 2 ∨ x = 3 ∨ x = 4 by omega) with h | h | h | h | h <;> (subst h; rfl)
  · exact absurd h hn
  · subst h
    refine ⟨fun x hx => ?_, rfl, rfl⟩
    rcases (show x = 0 ∨ x = 1 ∨ x = 2 ∨ x = 3 ∨ x = 4 by omega) with h | h | h | h | h <;> (subst h; rfl)
  · subst h
    refine ⟨fun x hx => ?_, rfl, rfl⟩
    rcases (show x = 0 ∨ x = 1 ∨ x = 2 ∨ x = 3 ∨ x = 4 by omega) with h | h | h | h | h <;> (subst h; rfl)
  · subst h
    refine ⟨fun x hx => ?_, rfl, rfl⟩
    rcases (show x = 0 ∨ x = 1 ∨ x = 2 ∨ x = 3 ∨ x = 4 by omega) with h | h | h | h | h <;> (subst h; rfl)
  · subst h
    refine ⟨fun x hx => ?_, rfl, rfl⟩
    rcases (show x = 0 ∨ x = 1 ∨ x = 2 ∨ x = 3 ∨ x = 4 by omega) with h | h | h | h | h <;> (subst h; rfl)
  · subst h
    refine ⟨fun x hx => ?_, rfl, rfl⟩
    rcases (show x = 0 ∨ x = 1 ∨ x = 2 ∨ x = 3 ∨ x = 4 by omega) with h | h | h | h | h <;> (subst h; rfl)
  · subst h
    refine ⟨fun x hx => ?_, rfl, rfl⟩
    rcases (show x = 0 ∨ x = 1 ∨ x = 2 ∨ x = 3 ∨ x = 4 by omega) with h | h | h | h | h <;> (subst h; rfl)
  · subst h
    refine ⟨fun x hx => ?_, rfl, rfl⟩
    rcases (show x = 0 ∨ x = 1 ∨ x = 2 ∨ x = 3 ∨ x = 4 by omega) with h | h | h | h | h <;> (subst h; rfl)
  · subst h
    refine ⟨fun x hx => ?_, rfl, rfl⟩
    rcases (show x = 0 ∨ x = 1 ∨ x = 2 ∨ x = 3 ∨ x = 4 by omega) with h | h | h | h | h <;> (subst h; rfl)
  · subst h
    refine ⟨fun x hx => ?_, rfl, rfl⟩
    rcases (show x = 0 ∨ x = 1 ∨ x = 2 ∨ x = 3 ∨ x = 4 by omega) with h | h | h | h | h <;> (subst h; rfl)
theorem rs_kp7 {U L : Int} (h : (L + 1) % 16 = 7) (m t s g c : Int) (pl he : Nat → Int) (gI : Nat → Int) (gF : Nat → Nat → Int) : ∃ pl1 he1, Ff_X1_keep U L gI m t s g c pl gF he = (fl_min (U + 1) 16, 7, fl_nI [gI 0, gI 1, gI 2, gI 3, gI 4, gI 5, gI 6, gI 7, gI 8, gI 9, gI 10, gI 11, gI 12, gI 13, gI 14, gI 15, gI 16, gI 17, gI 18, gI 19, gI 20, gI 21, gI 22, gI 23, gI 24, gI 25, gI 26, gI 27, gI 28, gI 29, gI 30, gI 31, gI 32, gI 33, gI 34, m, t, s, g, c, gI 40, gI 41, gI 42, gI 43, gI 44, gI 45, gI 46, gI 47, gI 48, gI 49, gI 50, gI 51, gI 52, gI 53, gI 54, gI 55, gI 56, gI 57, gI 58, gI 59, gI 60, gI 61, gI 62, gI 63, gI 64, gI 65, gI 66, gI 67, gI 68, gI 69, gI 70, gI 71, gI 72, gI 73, gI 74, gI 75, gI 76, gI 77, gI 78, gI 79], fl_nF [gF 0, gF 1, gF 2, gF 3, gF 4, gF 5, gF 6, gF 7, gF 8, gF 9, gF 10, gF 11, gF 12, gF 13, pl1, he1, gF 16, gF 17, gF 18, gF 19, gF 20, gF 21, gF 22, gF 23, gF 24, gF 25, gF 26, gF 27, gF 28, gF 29, gF 30, gF 31]) ∧ ∀ k : Nat, k < 9 → pl1 k = pl k ∧ he1 k = he k := by
  obtain ⟨pl1, he1, e, q⟩ := rs_cp m t s g c pl (gF 14) he (gF 15)
  refine ⟨pl1, he1, ?_, q⟩
  unfold Ff_X1_keep
  rw [fl_lt_eq rfl, fl_lt_eq h.symm]
  rw [if_neg (by decide)]
  rw [if_neg (by decide)]
  rw [if_neg (by decide)]
  rw [if_neg (by decide)]
  rw [if_neg (by decide)]
  rw [if_neg (by decide)]
  rw [if_neg (by decide)]
  rw [if_pos rfl]
  rw [e, fl_c7_eq rfl]
  rfl
theorem rs_ks7 (m t s g c : Int) (pl he : Nat → Int) (gI : Nat → Int) (gF : Nat → Nat → Int) (pl1 he1 : Nat → Int) (hq : ∀ k : Nat, k < 9 → pl1 k = pl k ∧ he1 k = he k) : rs_P (fl_nI [gI 0, gI 1, gI 2, gI 3, gI 4, gI 5, gI 6, gI 7, gI 8, gI 9, gI 10, gI 11, gI 12, gI 13, gI 14, gI 15, gI 16, gI 17, gI 18, gI 19, gI 20, gI 21, gI 22, gI 23, gI 24, gI 25, gI 26, gI 27, gI 28, gI 29, gI 30, gI 31, gI 32, gI 33, gI 34, m, t, s, g, c, gI 40, gI 41, gI 42, gI 43, gI 44, gI 45, gI 46, gI 47, gI 48, gI 49, gI 50, gI 51, gI 52, gI 53, gI 54, gI 55, gI 56, gI 57, gI 58, gI 59, gI 60, gI 61, gI 62, gI 63, gI 64, gI 65, gI 66, gI 67, gI 68, gI 69, gI 70, gI 71, gI 72, gI 73, gI 74, gI 75, gI 76, gI 77, gI 78, gI 79]) (fl_nF [gF 0, gF 1, gF 2, gF 3, gF 4, gF 5, gF 6, gF 7, gF 8, gF 9, gF 10, gF 11, gF 12, gF 13, pl1, he1, gF 16, gF 17, gF 18, gF 19, gF 20, gF 21, gF 22, gF 23, gF 24, gF 25, gF 26, gF 27, gF 28, gF 29, gF 30, gF 31]) 7 m t s g c pl he ∧ ∀ j : Nat, j < 16 → j ≠ 7 → (∀ x : Nat, x < 5 → (fl_nI [gI 0, gI 1, gI 2, gI 3, gI 4, gI 5, gI 6, gI 7, gI 8, gI 9, gI 10, gI 11, gI 12, gI 13, gI 14, gI 15, gI 16, gI 17, gI 18, gI 19, gI 20, gI 21, gI 22, gI 23, gI 24, gI 25, gI 26, gI 27, gI 28, gI 29, gI 30, gI 31, gI 32, gI 33, gI 34, m, t, s, g, c, gI 40, gI 41, gI 42, gI 43, gI 44, gI 45, gI 46, gI 47, gI 48, gI 49, gI 50, gI 51, gI 52, gI 53, gI 54, gI 55, gI 56, gI 57, gI 58, gI 59, gI 60, gI 61, gI 62, gI 63, gI 64, gI 65, gI 66, gI 67, gI 68, gI 69, gI 70, gI 71, gI 72, gI 73, gI 74, gI 75, gI 76, gI 77, gI 78, gI 79]) (5 * j + x) = gI (5 * j + x)) ∧ (fl_nF [gF 0, gF 1, gF 2, gF 3, gF 4, gF 5, gF 6, gF 7, gF 8, gF 9, gF 10, gF 11, gF 12, gF 13, pl1, he1, gF 16, gF 17, gF 18, gF 19, gF 20, gF 21, gF 22, gF 23, gF 24, gF 25, gF 26, gF 27, gF 28, gF 29, gF 30, gF 31]) (2 * j) = gF (2 * j) ∧ (fl_nF [gF 0, gF 1, gF 2, gF 3, gF 4, gF 5, gF 6, gF 7, gF 8, gF 9, gF 10, gF 11, gF 12, gF 13, pl1, he1, gF 16, gF 17, gF 18, gF 19, gF 20, gF 21, gF 22, gF 23, gF 24, gF 25, gF 26, gF 27, gF 28, gF 29, gF 30, gF 31]) (2 * j + 1) = gF (2 * j + 1) := by
  refine ⟨⟨rfl, rfl, rfl, rfl, rfl, hq⟩, fun j hj hn => ?_⟩
  rcases (show j = 0 ∨ j = 1 ∨ j = 2 ∨ j = 3 ∨ j = 4 ∨ j = 5 ∨ j = 6 ∨ j = 7 ∨ j = 8 ∨ j = 9 ∨ j = 10 ∨ j = 11 ∨ j = 12 ∨ j = 13 ∨ j = 14 ∨ j = 15 by omega) with h | h | h | h | h | h | h | h | h | h | h | h | h | h | h | h
  · subst h
    refine ⟨fun x hx => ?_, rfl, rfl⟩
    rcases (show x = 0 ∨ x = 1 ∨ x = 2 ∨ x = 3 ∨ x = 4 by omega) with h | h | h | h | h <;> (subst h; rfl)
  · subst h
    refine ⟨fun x hx => ?_, rfl, rfl⟩
    rcases (show x = 0 ∨ x = 1 ∨ x = 2 ∨ x = 3 ∨ x = 4 by omega) with h | h | h | h | h <;> (subst h; rfl)
  · subst h
    refine ⟨fun x hx => ?_, rfl, rfl⟩
    rcases (show x = 0 ∨ x = 1 ∨ x = 2 ∨ x = 3 ∨ x = 4 by omega) with h | h | h | h | h <;> (subst h; rfl)
  · subst h
    refine ⟨fun x hx => ?_, rfl, rfl⟩
    rcases (show x = 0 ∨ x = 1 ∨ x = 2 ∨ x = 3 ∨ x = 4 by omega) with h | h | h | h | h <;> (subst h; rfl)
  · subst h
    refine ⟨fun x hx => ?_, rfl, rfl⟩
    rcases (show x = 0 ∨ x = 1 ∨ x = 2 ∨ x = 3 ∨ x = 4 by omega) with h | h | h | h | h <;> (subst h; rfl)
  · subst h
    refine ⟨fun x hx => ?_, rfl, rfl⟩
    rcases (show x = 0 ∨ x = 1 ∨ x = 2 ∨ x = 3 ∨ x = 4 by omega) with h | h | h | h | h <;> (subst h; rfl)
  · subst h
    refine ⟨fun x hx => ?_, rfl, rfl⟩
    rcases (show x = 0 ∨ x = 1 ∨ x = 2 ∨ x = 3 ∨ x = 4 by omega) with h | h | h | h | h <;> (subst h; rfl)
  · exact absurd h hn
  · subst h
    refine ⟨fun x hx => ?_, rfl, rfl⟩
    rcases (show x = 0 ∨ x = 1 ∨ x = 2 ∨ x = 3 ∨ x = 4 by omega) with h | h | h | h | h <;> (subst h; rfl)
  · subst h
    refine ⟨fun x hx => ?_, rfl, rfl⟩
    rcases (show x = 0 ∨ x = 1 ∨ x = 2 ∨ x = 3 ∨ x = 4 by omega) with h | h | h | h | h <;> (subst h; rfl)
  · subst h
    refine ⟨fun x hx => ?_, rfl, rfl⟩
    rcases (show x = 0 ∨ x = 1 ∨ x = 2 ∨ x = 3 ∨ x = 4 by omega) with h | h | h | h | h <;> (subst h; rfl)
  · subst h
    refine ⟨fun x hx => ?_, rfl, rfl⟩
    rcases (show x = 0 ∨ x = 1 ∨ x = 2 ∨ x = 3 ∨ x = 4 by omega) with h | h | h | h | h <;> (subst h; rfl)
  · subst h
    refine ⟨fun x hx => ?_, rfl, rfl⟩
    rcases (show x = 0 ∨ x = 1 ∨ x = 2 ∨ x = 3 ∨ x = 4 by omega) with h | h | h | h | h <;> (subst h; rfl)
  · subst h
    refine ⟨fun x hx => ?_, rfl, rfl⟩
    rcases (show x = 0 ∨ x = 1 ∨ x = 2 ∨ x = 3 ∨ x = 4 by omega) with h | h | h | h | h <;> (subst h; rfl)
  · subst h
    refine ⟨fun x hx => ?_, rfl, rfl⟩
    rcases (show x = 0 ∨ x = 1 ∨ x = 2 ∨ x = 3 ∨ x = 4 by omega) with h | h | h | h | h <;> (subst h; rfl)
  · subst h
    refine ⟨fun x hx => ?_, rfl, rfl⟩
    rcases (show x = 0 ∨ x = 1 ∨ x = 2 ∨ x = 3 ∨ x = 4 by omega) with h | h | h | h | h <;> (subst h; rfl)
theorem rs_kp8 {U L : Int} (h : (L + 1) % 16 = 8) (m t s g c : Int) (pl he : Nat → Int) (gI : Nat → Int) (gF : Nat → Nat → Int) : ∃ pl1 he1, Ff_X1_keep U L gI m t s g c pl gF he = (fl_min (U + 1) 16, 8, fl_nI [gI 0, gI 1, gI 2, gI 3, gI 4, gI 5, gI 6, gI 7, gI 8, gI 9, gI 10, gI 11, gI 12, gI 13, gI 14, gI 15, gI 16, gI 17, gI 18, gI 19, gI 20, gI 21, gI 22, gI 23, gI 24, gI 25, gI 26, gI 27, gI 28, gI 29, gI 30, gI 31, gI 32, gI 33, gI 34, gI 35, gI 36, gI 37, gI 38, gI 39, m, t, s, g, c, gI 45, gI 46, gI 47, gI 48, gI 49, gI 50, gI 51, gI 52, gI 53, gI 54, gI 55, gI 56, gI 57, gI 58, gI 59, gI 60, gI 61, gI 62, gI 63, gI 64, gI 65, gI 66, gI 67, gI 68, gI 69, gI 70, gI 71, gI 72, gI 73, gI 74, gI 75, gI 76, gI 77, gI 78, gI 79], fl_nF [gF 0, gF 1, gF 2, gF 3, gF 4, gF 5, gF 6, gF 7, gF 8, gF 9, gF 10, gF 11, gF 12, gF 13, gF 14, gF 15, pl1, he1, gF 18, gF 19, gF 20, gF 21, gF 22, gF 23, gF 24, gF 25, gF 26, gF 27, gF 28, gF 29, gF 30, gF 31]) ∧ ∀ k : Nat, k < 9 → pl1 k = pl k ∧ he1 k = he k := by
  obtain ⟨pl1, he1, e, q⟩ := rs_cp m t s g c pl (gF 16) he (gF 17)
  refine ⟨pl1, he1, ?_, q⟩
  unfold Ff_X1_keep
  rw [fl_lt_eq rfl, fl_lt_eq h.symm]
  rw [if_neg (by decide)]
  rw [if_neg (by decide)]
  rw [if_neg (by decide)]
  rw [if_neg (by decide)]
  rw [if_neg (by decide)]
  rw [if_neg (by decide)]
  rw [if_neg (by decide)]
  rw [if_neg (by decide)]
  rw [if_pos rfl]
  rw [e, fl_c7_eq rfl]
  rfl
theorem rs_ks8 (m t s g c : Int) (pl he : Nat → Int) (gI : Nat → Int) (gF : Nat → Nat → Int) (pl1 he1 : Nat → Int) (hq : ∀ k : Nat, k < 9 → pl1 k = pl k ∧ he1 k = he k) : rs_P (fl_nI [gI 0, gI 1, gI 2, gI 3, gI 4, gI 5, gI 6, gI 7, gI 8, gI 9, gI 10, gI 11, gI 12, gI 13, gI 14, gI 15, gI 16, gI 17, gI 18, gI 19, gI 20, gI 21, gI 22, gI 23, gI 24, gI 25, gI 26, gI 27, gI 28, gI 29, gI 30, gI 31, gI 32, gI 33, gI 34, gI 35, gI 36, gI 37, gI 38, gI 39, m, t, s, g, c, gI 45, gI 46, gI 47, gI 48, gI 49, gI 50, gI 51, gI 52, gI 53, gI 54, gI 55, gI 56, gI 57, gI 58, gI 59, gI 60, gI 61, gI 62, gI 63, gI 64, gI 65, gI 66, gI 67, gI 68, gI 69, gI 70, gI 71, gI 72, gI 73, gI 74, gI 75, gI 76, gI 77, gI 78, gI 79]) (fl_nF [gF 0, gF 1, gF 2, gF 3, gF 4, gF 5, gF 6, gF 7, gF 8, gF 9, gF 10, gF 11, gF 12, gF 13, gF 14, gF 15, pl1, he1, gF 18, gF 19, gF 20, gF 21, gF 22, gF 23, gF 24, gF 25, gF 26, gF 27, gF 28, gF 29, gF 30, gF 31]) 8 m t s g c pl he ∧ ∀ j : Nat, j < 16 → j ≠ 8 → (∀ x : Nat, x < 5 → (fl_nI [gI 0, gI 1, gI 2, gI 3, gI 4, gI 5, gI 6, gI 7, gI 8, gI 9, gI 10, gI 11, gI 12, gI 13, gI 14, gI 15, gI 16, gI 17, gI 18, gI 19, gI 20, gI 21, gI 22, gI 23, gI 24, gI 25, gI 26, gI 27, gI 28, gI 29, gI 30, gI 31, gI 32, gI 33, gI 34, gI 35, gI 36, gI 37, gI 38, gI 39, m, t, s, g, c, gI 45, gI 46, gI 47, gI 48, gI 49, gI 50, gI 51, gI 52, gI 53, gI 54, gI 55, gI 56, gI 57, gI 58, gI 59, gI 60, gI 61, gI 62, gI 63, gI 64, gI 65, gI 66, gI 67, gI 68, gI 69, gI 70, gI 71, gI 72, gI 73, gI 74, gI 75, gI 76, gI 77, gI 78, gI 79]) (5 * j + x) = gI (5 * j + x)) ∧ (fl_nF [gF 0, gF 1, gF 2, gF 3, gF 4, gF 5, gF 6, gF 7, gF 8, gF 9, gF 10, gF 11, gF 12, gF 13, gF 14, gF 15, pl1, he1, gF 18, gF 19, gF 20, gF 21, gF 22, gF 23, gF 24, gF 25, gF 26, gF 27, gF 28, gF 29, gF 30, gF 31]) (2 * j) = gF (2 * j) ∧ (fl_nF [gF 0, gF 1, gF 2, gF 3, gF 4, gF 5, gF 6, gF 7, gF 8, gF 9, gF 10, gF 11, gF 12, gF 13, gF 14, gF 15, pl1, he1, gF 18, gF 19, gF 20, gF 21, gF 22, gF 23, gF 24, gF 25, gF 26, gF 27, gF 28, gF 29, gF 30, gF 31]) (2 * j + 1) = gF (2 * j + 1) := by
  refine ⟨⟨rfl, rfl, rfl, rfl, rfl, hq⟩, fun j hj hn => ?_⟩
  rcases (show j = 0 ∨ j = 1 ∨ j = 2 ∨ j = 3 ∨ j = 4 ∨ j = 5 ∨ j = 6 ∨ j = 7 ∨ j = 8 ∨ j = 9 ∨ j = 10 ∨ j = 11 ∨ j = 12 ∨ j = 13 ∨ j = 14 ∨ j = 15 by omega) with h | h | h | h | h | h | h | h | h | h | h | h | h | h | h | h
  · subst h
    refine ⟨fun x hx => ?_, rfl, rfl⟩
    rcases (show x = 0 ∨ x = 1 ∨ x = 2 ∨ x = 3 ∨ x = 4 by omega) with h | h | h | h | h <;> (subst h; rfl)
  · subst h
    refine ⟨fun x hx => ?_, rfl, rfl⟩
    rcases (show x = 0 ∨ x = 1 ∨ x = 2 ∨ x = 3 ∨ x = 4 by omega) with h | h | h | h | h <;> (subst h; rfl)
  · subst h
    refine ⟨fun x hx => ?_, rfl, rfl⟩
    rcases (show x = 0 ∨ x = 1 ∨ x = 2 ∨ x = 3 ∨ x = 4 by omega) with h | h | h | h | h <;> (subst h; rfl)
  · subst h
    refine ⟨fun x hx => ?_, rfl, rfl⟩
    rcases (show x = 0 ∨ x = 1 ∨ x = 2 ∨ x = 3 ∨ x = 4 by omega) with h | h | h | h | h <;> (subst h; rfl)
  · subst h
    refine ⟨fun x hx => ?_, rfl, rfl⟩
    rcases (show x = 0 ∨ x = 1 ∨ x = 2 ∨ x = 3 ∨ x = 4 by omega) with h | h | h | h | h <;> (subst h; rfl)
  · subst h
    refine ⟨fun x hx => ?_, rfl, rfl⟩
    rcases (show x = 0 ∨ x = 1 ∨ x = 2 ∨ x = 3 ∨ x = 4 by omega) with h | h | h | h | h <;> (subst h; rfl)
  · subst h
    refine ⟨fun x hx => ?_, rfl, rfl⟩
    rcases (show x = 0 ∨ x = 1 ∨ x = 2 ∨ x = 3 ∨ x = 4 by omega) with h | h | h | h | h <;> (subst h; rfl)
  · subst h
    refine ⟨fun x hx => ?_, rfl, rfl⟩
    rcases (show x = 0 ∨ x = 1 ∨ x = 2 ∨ x = 3 ∨ x = 4 by omega) with h | h | h | h | h <;> (subst h; rfl)
  · exact absurd h hn
  · subst h
    refine ⟨fun x hx => ?_, rfl, rfl⟩
    rcases (show x = 0 ∨ x = 1 ∨ x = 2 ∨ x = 3 ∨ x = 4 by omega) with h | h | h | h | h <;> (subst h; rfl)
  · subst h
    refine ⟨fun x hx => ?_, rfl, rfl⟩
    rcases (show x = 0 ∨ x = 1 ∨ x = 2 ∨ x = 3 ∨ x = 4 by omega) with h | h | h | h | h <;> (subst h; rfl)
  · subst h
    refine ⟨fun x hx => ?_, rfl, rfl⟩
    rcases (show x = 0 ∨ x = 1 ∨ x = 2 ∨ x = 3 ∨ x = 4 by omega) with h | h | h | h | h <;> (subst h; rfl)
  · subst h
    refine ⟨fun x hx => ?_, rfl, rfl⟩
    rcases (show x = 0 ∨ x = 1 ∨ x = 2 ∨ x = 3 ∨ x = 4 by omega) with h | h | h | h | h <;> (subst h; rfl)
  · subst h
    refine ⟨fun x hx => ?_, rfl, rfl⟩
    rcases (show x = 0 ∨ x = 1 ∨ x = 2 ∨ x = 3 ∨ x = 4 by omega) with h | h | h | h | h <;> (subst h; rfl)
  · subst h
    refine ⟨fun x hx => ?_, rfl, rfl⟩
    rcases (show x = 0 ∨ x = 1 ∨ x = 2 ∨ x = 3 ∨ x = 4 by omega) with h | h | h | h | h <;> (subst h; rfl)
  · subst h
    refine ⟨fun x hx => ?_, rfl, rfl⟩
    rcases (show x = 0 ∨ x = 1 ∨ x = 2 ∨ x = 3 ∨ x = 4 by omega) with h | h | h | h | h <;> (subst h; rfl)
theorem rs_kp9 {U L : Int} (h : (L + 1) % 16 = 9) (m t s g c : Int) (pl he : Nat → Int) (gI : Nat → Int) (gF : Nat → Nat → Int) : ∃ pl1 he1, Ff_X1_keep U L gI m t s g c pl gF he = (fl_min (U + 1) 16, 9, fl_nI [gI 0, gI 1, gI 2, gI 3, gI 4, gI 5, gI 6, gI 7, gI 8, gI 9, gI 10, gI 11, gI 12, gI 13, gI 14, gI 15, gI 16, gI 17, gI 18, gI 19, gI 20, gI 21, gI 22, gI 23, gI 24, gI 25, gI 26, gI 27, gI 28, gI 29, gI 30, gI 31, gI 32, gI 33, gI 34, gI 35, gI 36, gI 37, gI 38, gI 39, gI 40, gI 41, gI 42, gI 43, gI 44, m, t, s, g, c, gI 50, gI 51, gI 52, gI 53, gI 54, gI 55, gI 56, gI 57, gI 58, gI 59, gI 60, gI 61, gI 62, gI 63, gI 64, gI 65, gI 66, gI 67, gI 68, gI 69, gI 70, gI 71, gI 72, gI 73, gI 74, gI 75, gI 76, gI 77, gI 78, gI 79], fl_nF [gF 0, gF 1, gF 2, gF 3, gF 4, gF 5, gF 6, gF 7, gF 8, gF 9, gF 10, gF 11, gF 12, gF 13, gF 14, gF 15, gF 16, gF 17, pl1, he1, gF 20, gF 21, gF 22, gF 23, gF 24, gF 25, gF 26, gF 27, gF 28, gF 29, gF 30, gF 31]) ∧ ∀ k : Nat, k < 9 → pl1 k = pl k ∧ he1 k = he k := by
  obtain ⟨pl1, he1, e, q⟩ := rs_cp m t s g c pl (gF 18) he (gF 19)
  refine ⟨pl1, he1, ?_, q⟩
  unfold Ff_X1_keep
  rw [fl_lt_eq rfl, fl_lt_eq h.symm]
  rw [if_neg (by decide)]
  rw [if_neg (by decide)]
  rw [if_neg (by decide)]
  rw [if_neg (by decide)]
  rw [if_neg (by decide)]
  rw [if_neg (by decide)]
  rw [if_neg (by decide)]
  rw [if_neg (by decide)]
  rw [if_neg (by decide)]
  rw [if_pos rfl]
  rw [e, fl_c7_eq rfl]
  rfl
theorem rs_ks9 (m t s g c : Int) (pl he : Nat → Int) (gI : Nat → Int) (gF : Nat → Nat → Int) (pl1 he1 : Nat → Int) (hq : ∀ k : Nat, k < 9 → pl1 k = pl k ∧ he1 k = he k) : rs_P (fl_nI [gI 0, gI 1, gI 2, gI 3, gI 4, gI 5, gI 6, gI 7, gI 8, gI 9, gI 10, gI 11, gI 12, gI 13, gI 14, gI 15, gI 16, gI 17, gI 18, gI 19, gI 20, gI 21, gI 22, gI 23, gI 24, gI 25, gI 26, gI 27, gI 28, gI 29, gI 30, gI 31, gI 32, gI 33, gI 34, gI 35, gI 36, gI 37, gI 38, gI 39, gI 40, gI 41, gI 42, gI 43, gI 44, m, t, s, g, c, gI 50, gI 51, gI 52, gI 53, gI 54, gI 55, gI 56, gI 57, gI 58, gI 59, gI 60, gI 61, gI 62, gI 63, gI 64, gI 65, gI 66, gI 67, gI 68, gI 69, gI 70, gI 71, gI 72, gI 73, gI 74, gI 75, gI 76, gI 77, gI 78, gI 79]) (fl_nF [gF 0, gF 1, gF 2, gF 3, gF 4, gF 5, gF 6, gF 7, gF 8, gF 9, gF 10, gF 11, gF 12, gF 13, gF 14, gF 15, gF 16, gF 17, pl1, he1, gF 20, gF 21, gF 22, gF 23, gF 24, gF 25, gF 26, gF 27, gF 28, gF 29, gF 30, gF 31]) 9 m t s g c pl he ∧ ∀ j : Nat, j < 16 → j ≠ 9 → (∀ x : Nat, x < 5 → (fl_nI [gI 0, gI 1, gI 2, gI 3, gI 4, gI 5, gI 6, gI 7, gI 8, gI 9, gI 10, gI 11, gI 12, gI 13, gI 14, gI 15, gI 16, gI 17, gI 18, gI 19, gI 20, gI 21, gI 22, gI 23, gI 24, gI 25, gI 26, gI 27, gI 28, gI 29, gI 30, gI 31, gI 32, gI 33, gI 34, gI 35, gI 36, gI 37, gI 38, gI 39, gI 40, gI 41, gI 42, gI 43, gI 44, m, t, s, g, c, gI 50, gI 51, gI 52, gI 53, gI 54, gI 55, gI 56, gI 57, gI 58, gI 59, gI 60, gI 61, gI 62, gI 63, gI 64, gI 65, gI 66, gI 67, gI 68, gI 69, gI 70, gI 71, gI 72, gI 73, gI 74, gI 75, gI 76, gI 77, gI 78, gI 79]) (5 * j + x) = gI (5 * j + x)) ∧ (fl_nF [gF 0, gF 1, gF 2, gF 3, gF 4, gF 5, gF 6, gF 7, gF 8, gF 9, gF 10, gF 11, gF 12, gF 13, gF 14, gF 15, gF 16, gF 17, pl1, he1, gF 20, gF 21, gF 22, gF 23, gF 24, gF 25, gF 26, gF 27, gF 28, gF 29, gF 30, gF 31]) (2 * j) = gF (2 * j) ∧ (fl_nF [gF 0, gF 1, gF 2, gF 3, gF 4, gF 5, gF 6, gF 7, gF 8, gF 9, gF 10, gF 11, gF 12, gF 13, gF 14, gF 15, gF 16, gF 17, pl1, he1, gF 20, gF 21, gF 22, gF 23, gF 24, gF 25, gF 26, gF 27, gF 28, gF 29, gF 30, gF 31]) (2 * j + 1) = gF (2 * j + 1) := by
  refine ⟨⟨rfl, rfl, rfl, rfl, rfl, hq⟩, fun j hj hn => ?_⟩
  rcases (show j = 0 ∨ j = 1 ∨ j = 2 ∨ j = 3 ∨ j = 4 ∨ j = 5 ∨ j = 6 ∨ j = 7 ∨ j = 8 ∨ j = 9 ∨ j = 10 ∨ j = 11 ∨ j = 12 ∨ j = 13 ∨ j = 14 ∨ j = 15 by omega) with h | h | h | h | h | h | h | h | h | h | h | h | h | h | h | h
  · subst h
    refine ⟨fun x hx => ?_, rfl, rfl⟩
    rcases (show x = 0 ∨ x = 1 ∨ x = 2 ∨ x = 3 ∨ x = 4 by omega) with h | h | h | h | h <;> (subst h; rfl)
  · subst h
    refine ⟨fun x hx => ?_, rfl, rfl⟩
    rcases (show x = 0 ∨ x = 1 ∨ x = 2 ∨ x = 3 ∨ x = 4 by omega) with h | h | h | h | h <;> (subst h; rfl)
  · subst h
    refine ⟨fun x hx => ?_, rfl, rfl⟩
    rcases (show x = 0 ∨ x = 1 ∨ x = 2 ∨ x = 3 ∨ x = 4 by omega) with h | h | h | h | h <;> (subst h; rfl)
  · subst h
    refine ⟨fun x hx => ?_, rfl, rfl⟩
    rcases (show x = 0 ∨ x = 1 ∨ x = 2 ∨ x = 3 ∨ x = 4 by omega) with h | h | h | h | h <;> (subst h; rfl)
  · subst h
    refine ⟨fun x hx => ?_, rfl, rfl⟩
    rcases (show x = 0 ∨ x = 1 ∨ x = 2 ∨ x = 3 ∨ x = 4 by omega) with h | h | h | h | h <;> (subst h; rfl)
  · subst h
    refine ⟨fun x hx => ?_, rfl, rfl⟩
    rcases (show x = 0 ∨ x = 1 ∨ x = 2 ∨ x = 3 ∨ x = 4 by omega) with h | h | h | h | h <;> (subst h; rfl)
  · subst h
    refine ⟨fun x hx => ?_, rfl, rfl⟩
    rcases (show x = 0 ∨ x = 1 ∨ x = 2 ∨ x = 3 ∨ x = 4 by omega) with h | h | h | h | h <;> (subst h; rfl)
  · subst h
    refine ⟨fun x hx => ?_, rfl, rfl⟩
    rcases (show x = 0 ∨ x = 1 ∨ x = 2 ∨ x = 3 ∨ x = 4 by omega) with h | h | h | h | h <;> (subst h; rfl)
  · subst h
    refine ⟨fun x hx => ?_, rfl, rfl⟩
    rcases (show x = 0 ∨ x = 1 ∨ x = 2 ∨ x = 3 ∨ x = 4 by omega) with h | h | h | h | h <;> (subst h; rfl)
  · exact absurd h hn
  · subst h
    refine ⟨fun x hx => ?_, rfl, rfl⟩
    rcases (show x = 0 ∨ x = 1 ∨ x = 2 ∨ x = 3 ∨ x = 4 by omega) with h | h | h | h | h <;> (subst h; rfl)
  · subst h
    refine ⟨fun x hx => ?_, rfl, rfl⟩
    rcases (show x = 0 ∨ x = 1 ∨ x = 2 ∨ x = 3 ∨ x = 4 by omega) with h | h | h | h | h <;> (subst h; rfl)
  · subst h
    refine ⟨fun x hx => ?_, rfl, rfl⟩
    rcases (show x = 0 ∨ x = 1 ∨ x = 2 ∨ x = 3 ∨ x = 4 by omega) with h | h | h | h | h <;> (subst h; rfl)
  · subst h
    refine ⟨fun x hx => ?_, rfl, rfl⟩
    rcases (show x = 0 ∨ x = 1 ∨ x = 2 ∨ x = 3 ∨ x = 4 by omega) with h | h | h | h | h <;> (subst h; rfl)
  · subst h
    refine ⟨fun x hx => ?_, rfl, rfl⟩
    rcases (show x = 0 ∨ x = 1 ∨ x = 2 ∨ x = 3 ∨ x = 4 by omega) with h | h | h | h | h <;> (subst h; rfl)
  · subst h
    refine ⟨fun x hx => ?_, rfl, rfl⟩
    rcases (show x = 0 ∨ x = 1 ∨ x = 2 ∨ x = 3 ∨ x = 4 by omega) with h | h | h | h | h <;> (subst h; rfl)
theorem rs_kp10 {U L : Int} (h : (L + 1) % 16 = 10) (m t s g c : Int) (pl he : Nat → Int) (gI : Nat → Int) (gF : Nat → Nat → Int) : ∃ pl1 he1, Ff_X1_keep U L gI m t s g c pl gF he = (fl_min (U + 1) 16, 10, fl_nI [gI 0, gI 1, gI 2, gI 3, gI 4, gI 5, gI 6, gI 7, gI 8, gI 9, gI 10, gI 11, gI 12, gI 13, gI 14, gI 15, gI 16, gI 17, gI 18, gI 19, gI 20, gI 21, gI 22, gI 23, gI 24, gI 25, gI 26, gI 27, gI 28, gI 29, gI 30, gI 31, gI 32, gI 33, gI 34, gI 35, gI 36, gI 37, gI 38, gI 39, gI 40, gI 41, gI 42, gI 43, gI 44, gI 45, gI 46, gI 47, gI 48, gI 49, m, t, s, g, c, gI 55, gI 56, gI 57, gI 58, gI 59, gI 60, gI 61, gI 62, gI 63, gI 64, gI 65, gI 66, gI 67, gI 68, gI 69, gI 70, gI 71, gI 72, gI 73, gI 74, gI 75, gI 76, gI 77, gI 78, gI 79], fl_nF [gF 0, gF 1, gF 2, gF 3, gF 4, gF 5, gF 6, gF 7, gF 8, gF 9, gF 10, gF 11, gF 12, gF 13, gF 14, gF 15, gF 16, gF 17, gF 18, gF 19, pl1, he1, gF 22, gF 23, gF 24, gF 25, gF 26, gF 27, gF 28, gF 29, gF 30, gF 31]) ∧ ∀ k : Nat, k < 9 → pl1 k = pl k ∧ he1 k = he k := by
  obtain ⟨pl1, he1, e, q⟩ := rs_cp m t s g c pl (gF 20) he (gF 21)
  refine ⟨pl1, he1, ?_, q⟩
  unfold Ff_X1_keep
  rw [fl_lt_eq rfl, fl_lt_eq h.symm]
  rw [if_neg (by decide)]
  rw [if_neg (by decide)]
  rw [if_neg (by decide)]
  rw [if_neg (by decide)]
  rw [if_neg (by decide)]
  rw [if_neg (by decide)]
  rw [if_neg (by decide)]
  rw [if_neg (by decide)]
  rw [if_neg (by decide)]
  rw [if_neg (by decide)]
  rw [if_pos rfl]
  rw [e, fl_c7_eq rfl]
  rfl
theorem rs_ks10 (m t s g c : Int) (pl he : Nat → Int) (gI : Nat → Int) (gF : Nat → Nat → Int) (pl1 he1 : Nat → Int) (hq : ∀ k : Nat, k < 9 → pl1 k = pl k ∧ he1 k = he k) : rs_P (fl_nI [gI 0, gI 1, gI 2, gI 3, gI 4, gI 5, gI 6, gI 7, gI 8, gI 9, gI 10, gI 11, gI 12, gI 13, gI 14, gI 15, gI 16, gI 17, gI 18, gI 19, gI 20, gI 21, gI 22, gI 23, gI 24, gI 25, gI 26, gI 27, gI 28, gI 29, gI 30, gI 31, gI 32, gI 33, gI 34, gI 35, gI 36, gI 37, gI 38, gI 39, gI 40, gI 41, gI 42, gI 43, gI 44, gI 45, gI 46, gI 47, gI 48, gI 49, m, t, s, g, c, gI 55, gI 56, gI 57, gI 58, gI 59, gI 60, gI 61, gI 62, gI 63, gI 64, gI 65, gI 66, gI 67, gI 68, gI 69, gI 70, gI 71, gI 72, gI 73, gI 74, gI 75, gI 76, gI 77, gI 78, gI 79]) (fl_nF [gF 0, gF 1, gF 2, gF 3, gF 4, gF 5, gF 6, gF 7, gF 8, gF 9, gF 10, gF 11, gF 12, gF 13, gF 14, gF 15, gF 16, gF 17, gF 18, gF 19, pl1, he1, gF 22, gF 23, gF 24, gF 25, gF 26, gF 27, gF 28, gF 29, gF 30, gF 31]) 10 m t s g c pl he ∧ ∀ j : Nat, j < 16 → j ≠ 10 → (∀ x : Nat, x < 5 → (fl_nI [gI 0, gI 1, gI 2, gI 3, gI 4, gI 5, gI 6, gI 7, gI 8, gI 9, gI 10, gI 11, gI 12, gI 13, gI 14, gI 15, gI 16, gI 17, gI 18, gI 19, gI 20, gI 21, gI 22, gI 23, gI 24, gI 25, gI 26, gI 27, gI 28, gI 29, gI 30, gI 31, gI 32, gI 33, gI 34, gI 35, gI 36, gI 37, gI 38, gI 39, gI 40, gI 41, gI 42, gI 43, gI 44, gI 45, gI 46, gI 47, gI 48, gI 49, m, t, s, g, c, gI 55, gI 56, gI 57, gI 58, gI 59, gI 60, gI 61, gI 62, gI 63, gI 64, gI 65, gI 66, gI 67, gI 68, gI 69, gI 70, gI 71, gI 72, gI 73, gI 74, gI 75, gI 76, gI 77, gI 78, gI 79]) (5 * j + x) = gI (5 * j + x)) ∧ (fl_nF [gF 0, gF 1, gF 2, gF 3, gF 4, gF 5, gF 6, gF 7, gF 8, gF 9, gF 10, gF 11, gF 12, gF 13, gF 14, gF 15, gF 16, gF 17, gF 18, gF 19, pl1, he1, gF 22, gF 23, gF 24, gF 25, gF 26, gF 27, gF 28, gF 29, gF 30, gF 31]) (2 * j) = gF (2 * j) ∧ (fl_nF [gF 0, gF 1, gF 2, gF 3, gF 4, gF 5, gF 6, gF 7, gF 8, gF 9, gF 10, gF 11, gF 12, gF 13, gF 14, gF 15, gF 16, gF 17, gF 18, gF 19, pl1, he1, gF 22, gF 23, gF 24, gF 25, gF 26, gF 27, gF 28, gF 29, gF 30, gF 31]) (2 * j + 1) = gF (2 * j + 1) := by
  refine ⟨⟨rfl, rfl, rfl, rfl, rfl, hq⟩, fun j hj hn => ?_⟩
  rcases (show j = 0 ∨ j = 1 ∨ j = 2 ∨ j = 3 ∨ j = 4 ∨ j = 5 ∨ j = 6 ∨ j = 7 ∨ j = 8 ∨ j = 9 ∨ j = 10 ∨ j = 11 ∨ j = 12 ∨ j = 13 ∨ j = 14 ∨ j = 15 by omega) with h | h | h | h | h | h | h | h | h | h | h | h | h | h | h | h
  · subst h
    refine ⟨fun x hx => ?_, rfl, rfl⟩
    rcases (show x = 0 ∨ x = 1 ∨ x = 2 ∨ x = 3 ∨ x = 4 by omega) with h | h | h | h | h <;> (subst h; rfl)
  · subst h
    refine ⟨fun x hx => ?_, rfl, rfl⟩
    rcases (show x = 0 ∨ x = 1 ∨ x = 2 ∨ x = 3 ∨ x = 4 by omega) with h | h | h | h | h <;> (subst h; rfl)
  · subst h
    refine ⟨fun x hx => ?_, rfl, rfl⟩
    rcases (show x = 0 ∨ x = 1 ∨ x = 2 ∨ x = 3 ∨ x = 4 by omega) with h | h | h | h | h <;> (subst h; rfl)
  · subst h
    refine ⟨fun x hx => ?_, rfl, rfl⟩
    rcases (show x = 0 ∨ x = 1 ∨ x = 2 ∨ x = 3 ∨ x = 4 by omega) with h | h | h | h | h <;> (subst h; rfl)
  · subst h
    refine ⟨fun x hx => ?_, rfl, rfl⟩
    rcases (show x = 0 ∨ x = 1 ∨ x = 2 ∨ x = 3 ∨ x = 4 by omega) with h | h | h | h | h <;> (subst h; rfl)
  · subst h
    refine ⟨fun x hx => ?_, rfl, rfl⟩
    rcases (show x = 0 ∨ x = 1 ∨ x = 2 ∨ x = 3 ∨ x = 4 by omega) with h | h | h | h | h <;> (subst h; rfl)
  · subst h
    refine ⟨fun x hx => ?_, rfl, rfl⟩
    rcases (show x = 0 ∨ x = 1 ∨ x = 2 ∨ x = 3 ∨ x = 4 by omega) with h | h | h | h | h <;> (subst h; rfl)
  · subst h
    refine ⟨fun x hx => ?_, rfl, rfl⟩
    rcases (show x = 0 ∨ x = 1 ∨ x = 2 ∨ x = 3 ∨ x = 4 by omega) with h | h | h | h | h <;> (subst h; rfl)
  · subst h
    refine ⟨fun x hx => ?_, rfl, rfl⟩
    rcases (show x = 0 ∨ x = 1 ∨ x = 2 ∨ x = 3 ∨ x = 4 by omega) with h | h | h | h | h <;> (subst h; rfl)
  · subst h
    refine ⟨fun x hx => ?_, rfl, rfl⟩
    rcases (show x = 0 ∨ x = 1 ∨ x = 2 ∨ x = 3 ∨ x = 4 by omega) with h | h | h | h | h <;> (subst h; rfl)
  · exact absurd h hn
  · subst h
    refine ⟨fun x hx => ?_, rfl, rfl⟩
    rcases (show x = 0 ∨ x = 1 ∨ x = 2 ∨ x = 3 ∨ x = 4 by omega) with h | h | h | h | h <;> (subst h; rfl)
  · subst h
    refine ⟨fun x hx => ?_, rfl, rfl⟩
    rcases (show x = 0 ∨ x = 1 ∨ x = 2 ∨ x = 3 ∨ x = 4 by omega) with h | h | h | h | h <;> (subst h; rfl)
  · subst h
    refine ⟨fun x hx => ?_, rfl, rfl⟩
    rcases (show x = 0 ∨ x = 1 ∨ x = 2 ∨ x = 3 ∨ x = 4 by omega) with h | h | h | h | h <;> (subst h; rfl)
  · subst h
    refine ⟨fun x hx => ?_, rfl, rfl⟩
    rcases (show x = 0 ∨ x = 1 ∨ x = 2 ∨ x = 3 ∨ x = 4 by omega) with h | h | h | h | h <;> (subst h; rfl)
  · subst h
    refine ⟨fun x hx => ?_, rfl, rfl⟩
    rcases (show x = 0 ∨ x = 1 ∨ x = 2 ∨ x = 3 ∨ x = 4 by omega) with h | h | h | h | h <;> (subst h; rfl)
theorem rs_kp11 {U L : Int} (h : (L + 1) % 16 = 11) (m t s g c : Int) (pl he : Nat → Int) (gI : Nat → Int) (gF : Nat → Nat → Int) : ∃ pl1 he1, Ff_X1_keep U L gI m t s g c pl gF he = (fl_min (U + 1) 16, 11, fl_nI [gI 0, gI 1, gI 2, gI 3, gI 4, gI 5, gI 6, gI 7, gI 8, gI 9, gI 10, gI 11, gI 12, gI 13, gI 14, gI 15, gI 16, gI 17, gI 18, gI 19, gI 20, gI 21, gI 22, gI 23, gI 24, gI 25, gI 26, gI 27, gI 28, gI 29, gI 30, gI 31, gI 32, gI 33, gI 34, gI 35, gI 36, gI 37, gI 38, gI 39, gI 40, gI 41, gI 42, gI 43, gI 44, gI 45, gI 46, gI 47, gI 48, gI 49, gI 50, gI 51, gI 52, gI 53, gI 54, m, t, s, g, c, gI 60, gI 61, gI 62, gI 63, gI 64, gI 65, gI 66, gI 67, gI 68, gI 69, gI 70, gI 71, gI 72, gI 73, gI 74, gI 75, gI 76, gI 77, gI 78, gI 79], fl_nF [gF 0, gF 1, gF 2, gF 3, gF 4, gF 5, gF 6, gF 7, gF 8, gF 9, gF 10, gF 11, gF 12, gF 13, gF 14, gF 15, gF 16, gF 17, gF 18, gF 19, gF 20, gF 21, pl1, he1, gF 24, gF 25, gF 26, gF 27, gF 28, gF 29, gF 30, gF 31]) ∧ ∀ k : Nat, k < 9 → pl1 k = pl k ∧ he1 k = he k := by
  obtain ⟨pl1, he1, e, q⟩ := rs_cp m t s g c pl (gF 22) he (gF 23)
  refine ⟨pl1, he1, ?_, q⟩
  unfold Ff_X1_keep
  rw [fl_lt_eq rfl, fl_lt_eq h.symm]
  rw [if_neg (by decide)]
  rw [if_neg (by decide)]
  rw [if_neg (by decide)]
  rw [if_neg (by decide)]
  rw [if_neg (by decide)]
  rw [if_neg (by decide)]
  rw [if_neg (by decide)]
  rw [if_neg (by decide)]
  rw [if_neg (by decide)]
  rw [if_neg (by decide)]
  rw [if_neg (by decide)]
  rw [if_pos rfl]
  rw [e, fl_c7_eq rfl]
  rfl
theorem rs_ks11 (m t s g c : Int) (pl he : Nat → Int) (gI : Nat → Int) (gF : Nat → Nat → Int) (pl1 he1 : Nat → Int) (hq : ∀ k : Nat, k < 9 → pl1 k = pl k ∧ he1 k = he k) : rs_P (fl_nI [gI 0, gI 1, gI 2, gI 3, gI 4, gI 5, gI 6, gI 7, gI 8, gI 9, gI 10, gI 11, gI 12, gI 13, gI 14, gI 15, gI 16, gI 17, gI 18, gI 19, gI 20, gI 21, gI 22, gI 23, gI 24, gI 25, gI 26, gI 27, gI 28, gI 29, gI 30, gI 31, gI 32, gI 33, gI 34, gI 35, gI 36, gI 37, gI 38, gI 39, gI 40, gI 41, gI 42, gI 43, gI 44, gI 45, gI 46, gI 47, gI 48, gI 49, gI 50, gI 51, gI 52, gI 53, gI 54, m, t, s, g, c, gI 60, gI 61, gI 62, gI 63, gI 64, gI 65, gI 66, gI 67, gI 68, gI 69, gI 70, gI 71, gI 72, gI 73, gI 74, gI 75, gI 76, gI 77, gI 78, gI 79]) (fl_nF [gF 0, gF 1, gF 2, gF 3, gF 4, gF 5, gF 6, gF 7, gF 8, gF 9, gF 10, gF 11, gF 12, gF 13, gF 14, gF 15, gF 16, gF 17, gF 18, gF 19, gF 20, gF 21, pl1, he1, gF 24, gF 25, gF 26, gF 27, gF 28, gF 29, gF 30, gF 31]) 11 m t s g c pl he ∧ ∀ j : Nat, j < 16 → j ≠ 11 → (∀ x : Nat, x < 5 → (fl_nI [gI 0, gI 1, gI 2, gI 3, gI 4, gI 5, gI 6, gI 7, gI 8, gI 9, gI 10, gI 11, gI 12, gI 13, gI 14, gI 15, gI 16, gI 17, gI 18, gI 19, gI 20, gI 21, gI 22, gI 23, gI 24, gI 25, gI 26, gI 27, gI 28, gI 29, gI 30, gI 31, gI 32, gI 33, gI 34, gI 35, gI 36, gI 37, gI 38, gI 39, gI 40, gI 41, gI 42, gI 43, gI 44, gI 45, gI 46, gI 47, gI 48, gI 49, gI 50, gI 51, gI 52, gI 53, gI 54, m, t, s, g, c, gI 60, gI 61, gI 62, gI 63, gI 64, gI 65, gI 66, gI 67, gI 68, gI 69, gI 70, gI 71, gI 72, gI 73, gI 74, gI 75, gI 76, gI 77, gI 78, gI 79]) (5 * j + x) = gI (5 * j + x)) ∧ (fl_nF [gF 0, gF 1, gF 2, gF 3, gF 4, gF 5, gF 6, gF 7, gF 8, gF 9, gF 10, gF 11, gF 12, gF 13, gF 14, gF 15, gF 16, gF 17, gF 18, gF 19, gF 20, gF 21, pl1, he1, gF 24, gF 25, gF 26, gF 27, gF 28, gF 29, gF 30, gF 31]) (2 * j) = gF (2 * j) ∧ (fl_nF [gF 0, gF 1, gF 2, gF 3, gF 4, gF 5, gF 6, gF 7, gF 8, gF 9, gF 10, gF 11, gF 12, gF 13, gF 14, gF 15, gF 16, gF 17, gF 18, gF 19, gF 20, gF 21, pl1, he1, gF 24, gF 25, gF 26, gF 27, gF 28, gF 29, gF 30, gF 31]) (2 * j + 1) = gF (2 * j + 1) := by
  refine ⟨⟨rfl, rfl, rfl, rfl, rfl, hq⟩, fun j hj hn => ?_⟩
  rcases (show j = 0 ∨ j = 1 ∨ j = 2 ∨ j = 3 ∨ j = 4 ∨ j = 5 ∨ j = 6 ∨ j = 7 ∨ j = 8 ∨ j = 9 ∨ j = 10 ∨ j = 11 ∨ j = 12 ∨ j = 13 ∨ j = 14 ∨ j = 15 by omega) with h | h | h | h | h | h | h | h | h | h | h | h | h | h | h | h
  · subst h
    refine ⟨fun x hx => ?_, rfl, rfl⟩
    rcases (show x = 0 ∨ x = 1 ∨ x = 2 ∨ x = 3 ∨ x = 4 by omega) with h | h | h | h | h <;> (subst h; rfl)
  · subst h
    refine ⟨fun x hx => ?_, rfl, rfl⟩
    rcases (show x = 0 ∨ x = 1 ∨ x = 2 ∨ x = 3 ∨ x = 4 by omega) with h | h | h | h | h <;> (subst h; rfl)
  · subst h
    refine ⟨fun x hx => ?_, rfl, rfl⟩
    rcases (show x = 0 ∨ x = 1 ∨ x = 2 ∨ x = 3 ∨ x = 4 by omega) with h | h | h | h | h <;> (subst h; rfl)
  · subst h
    refine ⟨fun x hx => ?_, rfl, rfl⟩
    rcases (show x = 0 ∨ x = 1 ∨ x = 2 ∨ x = 3 ∨ x = 4 by omega) with h | h | h | h | h <;> (subst h; rfl)
  · subst h
    refine ⟨fun x hx => ?_, rfl, rfl⟩
    rcases (show x = 0 ∨ x = 1 ∨ x = 2 ∨ x = 3 ∨ x = 4 by omega) with h | h | h | h | h <;> (subst h; rfl)
  · subst h
    refine ⟨fun x hx => ?_, rfl, rfl⟩
    rcases (show x = 0 ∨ x = 1 ∨ x = 2 ∨ x = 3 ∨ x = 4 by omega) with h | h | h | h | h <;> (subst h; rfl)
  · subst h
    refine ⟨fun x hx => ?_, rfl, rfl⟩
    rcases (show x = 0 ∨ x = 1 ∨ x = 2 ∨ x = 3 ∨ x = 4 by omega) with h | h | h | h | h <;> (subst h; rfl)
  · subst h
    refine ⟨fun x hx => ?_, rfl, rfl⟩
    rcases (show x = 0 ∨ x = 1 ∨ x = 2 ∨ x = 3 ∨ x = 4 by omega) with h | h | h | h | h <;> (subst h; rfl)
  · subst h
    refine ⟨fun x hx => ?_, rfl, rfl⟩
    rcases (show x = 0 ∨ x = 1 ∨ x = 2 ∨ x = 3 ∨ x = 4 by omega) with h | h | h | h | h <;> (subst h; rfl)
  · subst h
    refine ⟨fun x hx => ?_, rfl, rfl⟩
    rcases (show x = 0 ∨ x = 1 ∨ x = 2 ∨ x = 3 ∨ x = 4 by omega) with h | h | h | h | h <;> (subst h; rfl)
  · subst h
    refine ⟨fun x hx => ?_, rfl, rfl⟩
    rcases (show x = 0 ∨ x = 1 ∨ x = 2 ∨ x = 3 ∨ x = 4 by omega) with h | h | h | h | h <;> (subst h; rfl)
  · exact absurd h hn
  · subst h
    refine ⟨fun x hx => ?_, rfl, rfl⟩
    rcases (show x = 0 ∨ x = 1 ∨ x = 2 ∨ x = 3 ∨ x = 4 by omega) with h | h | h | h | h <;> (subst h; rfl)
  · subst h
    refine ⟨fun x hx => ?_, rfl, rfl⟩
    rcases (show x = 0 ∨ x = 1 ∨ x = 2 ∨ x = 3 ∨ x = 4 by omega) with h | h | h | h | h <;> (subst h; rfl)
  · subst h
    refine ⟨fun x hx => ?_, rfl, rfl⟩
    rcases (show x = 0 ∨ x = 1 ∨ x = 2 ∨ x = 3 ∨ x = 4 by omega) with h | h | h | h | h <;> (subst h; rfl)
  · subst h
    refine ⟨fun x hx => ?_, rfl, rfl⟩
    rcases (show x = 0 ∨ x = 1 ∨ x = 2 ∨ x = 3 ∨ x = 4 by omega) with h | h | h | h | h <;> (subst h; rfl)
theorem rs_kp12 {U L : Int} (h : (L + 1) % 16 = 12) (m t s g c : Int) (pl he : Nat → Int) (gI : Nat → Int) (gF : Nat → Nat → Int) : ∃ pl1 he1, Ff_X1_keep U L gI m t s g c pl gF he = (fl_min (U + 1) 16, 12, fl_nI [gI 0, gI 1, gI 2, gI 3, gI 4, gI 5, gI 6, gI 7, gI 8, gI 9, gI 10, gI 11, gI 12, gI 13, gI 14, gI 15, gI 16, gI 17, gI 18, gI 19, gI 20, gI 21, gI 22, gI 23, gI 24, gI 25, gI 26, gI 27, gI 28, gI 29, gI 30, gI 31, gI 32, gI 33, gI 34, gI 35, gI 36, gI 37, gI 38, gI 39, gI 40, gI 41, gI 42, gI 43, gI 44, gI 45, gI 46, gI 47, gI 48, gI 49, gI 50, gI 51, gI 52, gI 53, gI 54, gI 55, gI 56, gI 57, gI 58, gI 59, m, t, s, g, c, gI 65, gI 66, gI 67, gI 68, gI 69, gI 70, gI 71, gI 72, gI 73, gI 74, gI 75, gI 76, gI 77, gI 78, gI 79], fl_nF [gF 0, gF 1, gF 2, gF 3, gF 4, gF 5, gF 6, gF 7, gF 8, gF 9, gF 10, gF 11, gF 12, gF 13, gF 14, gF 15, gF 16, gF 17, gF 18, gF 19, gF 20, gF 21, gF 22, gF 23, pl1, he1, gF 26, gF 27, gF 28, gF 29, gF 30, gF 31]) ∧ ∀ k : Nat, k < 9 → pl1 k = pl k ∧ he1 k = he k := by
  obtain ⟨pl1, he1, e, q⟩ := rs_cp m t s g c pl (gF 24) he (gF 25)
  refine ⟨pl1, he1, ?_, q⟩
  unfold Ff_X1_keep
  rw [fl_lt_eq rfl, fl_lt_eq h.symm]
  rw [if_neg (by decide)]
  rw [if_neg (by decide)]
  rw [if_neg (by decide)]
  rw [if_neg (by decide)]
  rw [if_neg (by decide)]
  rw [if_neg (by decide)]
  rw [if_neg (by decide)]
  rw [if_neg (by decide)]
  rw [if_neg (by decide)]
  rw [if_neg (by decide)]
  rw [if_neg (by decide)]
  rw [if_neg (by decide)]
  rw [if_pos rfl]
  rw [e, fl_c7_eq rfl]
  rfl
theorem rs_ks12 (m t s g c : Int) (pl he : Nat → Int) (gI : Nat → Int) (gF : Nat → Nat → Int) (pl1 he1 : Nat → Int) (hq : ∀ k : Nat, k < 9 → pl1 k = pl k ∧ he1 k = he k) : rs_P (fl_nI [gI 0, gI 1, gI 2, gI 3, gI 4, gI 5, gI 6, gI 7, gI 8, gI 9, gI 10, gI 11, gI 12, gI 13, gI 14, gI 15, gI 16, gI 17, gI 18, gI 19, gI 20, gI 21, gI 22, gI 23, gI 24, gI 25, gI 26, gI 27, gI 28, gI 29, gI 30, gI 31, gI 32, gI 33, gI 34, gI 35, gI 36, gI 37, gI 38, gI 39, gI 40, gI 41, gI 42, gI 43, gI 44, gI 45, gI 46, gI 47, gI 48, gI 49, gI 50, gI 51, gI 52, gI 53, gI 54, gI 55, gI 56, gI 57, gI 58, gI 59, m, t, s, g, c, gI 65, gI 66, gI 67, gI 68, gI 69, gI 70, gI 71, gI 72, gI 73, gI 74, gI 75, gI 76, gI 77, gI 78, gI 79]) (fl_nF [gF 0, gF 1, gF 2, gF 3, gF 4, gF 5, gF 6, gF 7, gF 8, gF 9, gF 10, gF 11, gF 12, gF 13, gF 14, gF 15, gF 16, gF 17, gF 18, gF 19, gF 20, gF 21, gF 22, gF 23, pl1, he1, gF 26, gF 27, gF 28, gF 29, gF 30, gF 31]) 12 m t s g c pl he ∧ ∀ j : Nat, j < 16 → j ≠ 12 → (∀ x : Nat, x < 5 → (fl_nI [gI 0, gI 1, gI 2, gI 3, gI 4, gI 5, gI 6, gI 7, gI 8, gI 9, gI 10, gI 11, gI 12, gI 13, gI 14, gI 15, gI 16, gI 17, gI 18, gI 19, gI 20, gI 21, gI 22, gI 23, gI 24, gI 25, gI 26, gI 27, gI 28, gI 29, gI 30, gI 31, gI 32, gI 33, gI 34, gI 35, gI 36, gI 37, gI 38, gI 39, gI 40, gI 41, gI 42, gI 43, gI 44, gI 45, gI 46, gI 47, gI 48, gI 49, gI 50, gI 51, gI 52, gI 53, gI 54, gI 55, gI 56, gI 57, gI 58, gI 59, m, t, s, g, c, gI 65, gI 66, gI 67, gI 68, gI 69, gI 70, gI 71, gI 72, gI 73, gI 74, gI 75, gI 76, gI 77, gI 78, gI 79]) (5 * j + x) = gI (5 * j + x)) ∧ (fl_nF [gF 0, gF 1, gF 2, gF 3, gF 4, gF 5, gF 6, gF 7, gF 8, gF 9, gF 10, gF 11, gF 12, gF 13, gF 14, gF 15, gF 16, gF 17, gF 18, gF 19, gF 20, gF 21, gF 22, gF 23, pl1, he1, gF 26, gF 27, gF 28, gF 29, gF 30, gF 31]) (2 * j) = gF (2 * j) ∧ (fl_nF [gF 0, gF 1, gF 2, gF 3, gF 4, gF 5, gF 6, gF 7, gF 8, gF 9, gF 10, gF 11, gF 12, gF 13, gF 14, gF 15, gF 16, gF 17, gF 18, gF 19, gF 20, gF 21, gF 22, gF 23, pl1, he1, gF 26, gF 27, gF 28, gF 29, gF 30, gF 31]) (2 * j + 1) = gF (2 * j + 1) := by
  refine ⟨⟨rfl, rfl, rfl, rfl, rfl, hq⟩, fun j hj hn => ?_⟩
  rcases (show j = 0 ∨ j = 1 ∨ j = 2 ∨ j = 3 ∨ j = 4 ∨ j = 5 ∨ j = 6 ∨ j = 7 ∨ j = 8 ∨ j = 9 ∨ j = 10 ∨ j = 11 ∨ j = 12 ∨ j = 13 ∨ j = 14 ∨ j = 15 by omega) with h | h | h | h | h | h | h | h | h | h | h | h | h | h | h | h
  · subst h
    refine ⟨fun x hx => ?_, rfl, rfl⟩
    rcases (show x = 0 ∨ x = 1 ∨ x = 2 ∨ x = 3 ∨ x = 4 by omega) with h | h | h | h | h <;> (subst h; rfl)
  · subst h
    refine ⟨fun x hx => ?_, rfl, rfl⟩
    rcases (show x = 0 ∨ x = 1 ∨ x = 2 ∨ x = 3 ∨ x = 4 by omega) with h | h | h | h | h <;> (subst h; rfl)
  · subst h
    refine ⟨fun x hx => ?_, rfl, rfl⟩
    rcases (show x = 0 ∨ x = 1 ∨ x = 2 ∨ x = 3 ∨ x = 4 by omega) with h | h | h | h | h <;> (subst h; rfl)
  · subst h
    refine ⟨fun x hx => ?_, rfl, rfl⟩
    rcases (show x = 0 ∨ x = 1 ∨ x = 2 ∨ x = 3 ∨ x = 4 by omega) with h | h | h | h | h <;> (subst h; rfl)
  · subst h
    refine ⟨fun x hx => ?_, rfl, rfl⟩
    rcases (show x = 0 ∨ x = 1 ∨ x = 2 ∨ x = 3 ∨ x = 4 by omega) with h | h | h | h | h <;> (subst h; rfl)
  · subst h
    refine ⟨fun x hx => ?_, rfl, rfl⟩
    rcases (show x = 0 ∨ x = 1 ∨ x = 2 ∨ x = 3 ∨ x = 4 by omega) with h | h | h | h | h <;> (subst h; rfl)
  · subst h
    refine ⟨fun x hx => ?_, rfl, rfl⟩
    rcases (show x = 0 ∨ x = 1 ∨ x = 2 ∨ x = 3 ∨ x = 4 by omega) with h | h | h | h | h <;> (subst h; rfl)
  · subst h
    refine ⟨fun x hx => ?_, rfl, rfl⟩
    rcases (show x = 0 ∨ x = 1 ∨ x = 2 ∨ x = 3 ∨ x = 4 by omega) with h | h | h | h | h <;> (subst h; rfl)
  · subst h
    refine ⟨fun x hx => ?_, rfl, rfl⟩
    rcases (show x = 0 ∨ x = 1 ∨ x = 2 ∨ x = 3 ∨ x = 4 by omega) with h | h | h | h | h <;> (subst h; rfl)
  · subst h
    refine ⟨fun x hx => ?_, rfl, rfl⟩
    rcases (show x = 0 ∨ x = 1 ∨ x = 2 ∨ x = 3 ∨ x = 4 by omega) with h | h | h | h | h <;> (subst h; rfl)
  · subst h
    refine ⟨fun x hx => ?_, rfl, rfl⟩
    rcases (show x = 0 ∨ x = 1 ∨ x = 2 ∨ x = 3 ∨ x = 4 by omega) with h | h | h | h | h <;> (subst h; rfl)
  · subst h
    refine ⟨fun x hx => ?_, rfl, rfl⟩
    rcases (show x = 0 ∨ x = 1 ∨ x = 2 ∨ x = 3 ∨ x = 4 by omega) with h | h | h | h | h <;> (subst h; rfl)
  · exact absurd h hn
  · subst h
    refine ⟨fun x hx => ?_, rfl, rfl⟩
    rcases (show x = 0 ∨ x = 1 ∨ x = 2 ∨ x = 3 ∨ x = 4 by omega) with h | h | h | h | h <;> (subst h; rfl)
  · subst h
    refine ⟨fun x hx => ?_, rfl, rfl⟩
    rcases (show x = 0 ∨ x = 1 ∨ x = 2 ∨ x = 3 ∨ x = 4 by omega) with h | h | h | h | h <;> (subst h; rfl)
  · subst h
    refine ⟨fun x hx => ?_, rfl, rfl⟩
    rcases (show x = 0 ∨ x = 1 ∨ x = 2 ∨ x = 3 ∨ x = 4 by omega) with h | h | h | h | h <;> (subst h; rfl)
theorem rs_kp13 {U L : Int} (h : (L + 1) % 16 = 13) (m t s g c : Int) (pl he : Nat → Int) (gI : Nat → Int) (gF : Nat → Nat → Int) : ∃ pl1 he1, Ff_X1_keep U L gI m t s g c pl gF he = (fl_min (U + 1) 16, 13, fl_nI [gI 0, gI 1, gI 2, gI 3, gI 4, gI 5, gI 6, gI 7, gI 8, gI 9, gI 10, gI 11, gI 12, gI 13, gI 14, gI 15, gI 16, gI 17, gI 18, gI 19, gI 20, gI 21, gI 22, gI 23, gI 24, gI 25, gI 26, gI 27, gI 28, gI 29, gI 30, gI 31, gI 32, gI 33, gI 34, gI 35, gI 36, gI 37, gI 38, gI 39, gI 40, gI 41, gI 42, gI 43, gI 44, gI 45, gI 46, gI 47, gI 48, gI 49, gI 50, gI 51, gI 52, gI 53, gI 54, gI 55, gI 56, gI 57, gI 58, gI 59, gI 60, gI 61, gI 62, gI 63, gI 64, m, t, s, g, c, gI 70, gI 71, gI 72, gI 73, gI 74, gI 75, gI 76, gI 77, gI 78, gI 79], fl_nF [gF 0, gF 1, gF 2, gF 3, gF 4, gF 5, gF 6, gF 7, gF 8, gF 9, gF 10, gF 11, gF 12, gF 13, gF 14, gF 15, gF 16, gF 17, gF 18, gF 19, gF 20, gF 21, gF 22, gF 23, gF 24, gF 25, pl1, he1, gF 28, gF 29, gF 30, gF 31]) ∧ ∀ k : Nat, k < 9 → pl1 k = pl k ∧ he1 k = he k := by
  obtain ⟨pl1, he1, e, q⟩ := rs_cp m t s g c pl (gF 26) he (gF 27)
  refine ⟨pl1, he1, ?_, q⟩
  unfold Ff_X1_keep
  rw [fl_lt_eq rfl, fl_lt_eq h.symm]
  rw [if_neg (by decide)]
  rw [if_neg (by decide)]
  rw [if_neg (by decide)]
  rw [if_neg (by decide)]
  rw [if_neg (by decide)]
  rw [if_neg (by decide)]
  rw [if_neg (by decide)]
  rw [if_neg (by decide)]
  rw [if_neg (by decide)]
  rw [if_neg (by decide)]
  rw [if_neg (by decide)]
  rw [if_neg (by decide)]
  rw [if_neg (by decide)]
  rw [if_pos rfl]
  rw [e, fl_c7_eq rfl]
  rfl
theorem rs_ks13 (m t s g c : Int) (pl he : Nat → Int) (gI : Nat → Int) (gF : Nat → Nat → Int) (pl1 he1 : Nat → Int) (hq : ∀ k : Nat, k < 9 → pl1 k = pl k ∧ he1 k = he k) : rs_P (fl_nI [gI 0, gI 1, gI 2, gI 3, gI 4, gI 5, gI 6, gI 7, gI 8, gI 9, gI 10, gI 11, gI 12, gI 13, gI 14, gI 15, gI 16, gI 17, gI 18, gI 19, gI 20, gI 21, gI 22, gI 23, gI 24, gI 25, gI 26, gI 27, gI 28, gI 29, gI 30, gI 31, gI 32, gI 33, gI 34, gI 35, gI 36, gI 37, gI 38, gI 39, gI 40, gI 41, gI 42, gI 43, gI 44, gI 45, gI 46, gI 47, gI 48, gI 49, gI 50, gI 51, gI 52, gI 53, gI 54, gI 55, gI 56, gI 57, gI 58, gI 59, gI 60, gI 61, gI 62, gI 63, gI 64, m, t, s, g, c, gI 70, gI 71, gI 72, gI 73, gI 74, gI 75, gI 76, gI 77, gI 78, gI 79]) (fl_nF [gF 0, gF 1, gF 2, gF 3, gF 4, gF 5, gF 6, gF 7, gF 8, gF 9, gF 10, gF 11, gF 12, gF 13, gF 14, gF 15, gF 16, gF 17, gF 18, gF 19, gF 20, gF 21, gF 22, gF 23, gF 24, gF 25, pl1, he1, gF 28, gF 29, gF 30, gF 31]) 13 m t s g c pl he ∧ ∀ j : Nat, j < 16 → j ≠ 13 → (∀ x : Nat, x < 5 → (fl_nI [gI 0, gI 1, gI 2, gI 3, gI 4, gI 5, gI 6, gI 7, gI 8, gI 9, gI 10, gI 11, gI 12, gI 13, gI 14, gI 15, gI 16, gI 17, gI 18, gI 19, gI 20, gI 21, gI 22, gI 23, gI 24, gI 25, gI 26, gI 27, gI 28, gI 29, gI 30, gI 31, gI 32, gI 33, gI 34, gI 35, gI 36, gI 37, gI 38, gI 39, gI 40, gI 41, gI 42, gI 43, gI 44, gI 45, gI 46, gI 47, gI 48, gI 49, gI 50, gI 51, gI 52, gI 53, gI 54, gI 55, gI 56, gI 57, gI 58, gI 59, gI 60, gI 61, gI 62, gI 63, gI 64, m, t, s, g, c, gI 70, gI 71, gI 72, gI 73, gI 74, gI 75, gI 76, gI 77, gI 78, gI 79]) (5 * j + x) = gI (5 * j + x)) ∧ (fl_nF [gF 0, gF 1, gF 2, gF 3, gF 4, gF 5, gF 6, gF 7, gF 8, gF 9, gF 10, gF 11, gF 12, gF 13, gF 14, gF 15, gF 16, gF 17, gF 18, gF 19, gF 20, gF 21, gF 22, gF 23, gF 24, gF 25, pl1, he1, gF 28, gF 29, gF 30, gF 31]) (2 * j) = gF (2 * j) ∧ (fl_nF [gF 0, gF 1, gF 2, gF 3, gF 4, gF 5, gF 6, gF 7, gF 8, gF 9, gF 10, gF 11, gF 12, gF 13, gF 14, gF 15, gF 16, gF 17, gF 18, gF 19, gF 20, gF 21, gF 22, gF 23, gF 24, gF 25, pl1, he1, gF 28, gF 29, gF 30, gF 31]) (2 * j + 1) = gF (2 * j + 1) := by
  refine ⟨⟨rfl, rfl, rfl, rfl, rfl, hq⟩, fun j hj hn => ?_⟩
  rcases (show j = 0 ∨ j = 1 ∨ j = 2 ∨ j = 3 ∨ j = 4 ∨ j = 5 ∨ j = 6 ∨ j = 7 ∨ j = 8 ∨ j = 9 ∨ j = 10 ∨ j = 11 ∨ j = 12 ∨ j = 13 ∨ j = 14 ∨ j = 15 by omega) with h | h | h | h | h | h | h | h | h | h | h | h | h | h | h | h
  · subst h
    refine ⟨fun x hx => ?_, rfl, rfl⟩
    rcases (show x = 0 ∨ x = 1 ∨ x = 2 ∨ x = 3 ∨ x = 4 by omega) with h | h | h | h | h <;> (subst h; rfl)
  · subst h
    refine ⟨fun x hx => ?_, rfl, rfl⟩
    rcases (show x = 0 ∨ x = 1 ∨ x = 2 ∨ x = 3 ∨ x = 4 by omega) with h | h | h | h | h <;> (subst h; rfl)
  · subst h
    refine ⟨fun x hx => ?_, rfl, rfl⟩
    rcases (show x = 0 ∨ x = 1 ∨ x = 2 ∨ x = 3 ∨ x = 4 by omega) with h | h | h | h | h <;> (subst h; rfl)
  · subst h
    refine ⟨fun x hx => ?_, rfl, rfl⟩
    rcases (show x = 0 ∨ x = 1 ∨ x = 2 ∨ x = 3 ∨ x = 4 by omega) with h | h | h | h | h <;> (subst h; rfl)
  · subst h
    refine ⟨fun x hx => ?_, rfl, rfl⟩
    rcases (show x = 0 ∨ x = 1 ∨ x = 2 ∨ x = 3 ∨ x = 4 by omega) with h | h | h | h | h <;> (subst h; rfl)
  · subst h
    refine ⟨fun x hx => ?_, rfl, rfl⟩
    rcases (show x = 0 ∨ x = 1 ∨ x = 2 ∨ x = 3 ∨ x = 4 by omega) with h | h | h | h | h <;> (subst h; rfl)
  · subst h
    refine ⟨fun x hx => ?_, rfl, rfl⟩
    rcases (show x = 0 ∨ x = 1 ∨ x = 2 ∨ x = 3 ∨ x = 4 by omega) with h | h | h | h | h <;> (subst h; rfl)
  · subst h
    refine ⟨fun x hx => ?_, rfl, rfl⟩
    rcases (show x = 0 ∨ x = 1 ∨ x = 2 ∨ x = 3 ∨ x = 4 by omega) with h | h | h | h | h <;> (subst h; rfl)
  · subst h
    refine ⟨fun x hx => ?_, rfl, rfl⟩
    rcases (show x = 0 ∨ x = 1 ∨ x = 2 ∨ x = 3 ∨ x = 4 by omega) with h | h | h | h | h <;> (subst h; rfl)
  · subst h
    refine ⟨fun x hx => ?_, rfl, rfl⟩
    rcases (show x = 0 ∨ x = 1 ∨ x = 2 ∨ x = 3 ∨ x = 4 by omega) with h | h | h | h | h <;> (subst h; rfl)
  · subst h
    refine ⟨fun x hx => ?_, rfl, rfl⟩
    rcases (show x = 0 ∨ x = 1 ∨ x = 2 ∨ x = 3 ∨ x = 4 by omega) with h | h | h | h | h <;> (subst h; rfl)
  · subst h
    refine ⟨fun x hx => ?_, rfl, rfl⟩
    rcases (show x = 0 ∨ x = 1 ∨ x = 2 ∨ x = 3 ∨ x = 4 by omega) with h | h | h | h | h <;> (subst h; rfl)
  · subst h
    refine ⟨fun x hx => ?_, rfl, rfl⟩
    rcases (show x = 0 ∨ x = 1 ∨ x = 2 ∨ x = 3 ∨ x = 4 by omega) with h | h | h | h | h <;> (subst h; rfl)
  · exact absurd h hn
  · subst h
    refine ⟨fun x hx => ?_, rfl, rfl⟩
    rcases (show x = 0 ∨ x = 1 ∨ x = 2 ∨ x = 3 ∨ x = 4 by omega) with h | h | h | h | h <;> (subst h; rfl)
  · subst h
    refine ⟨fun x hx => ?_, rfl, rfl⟩
    rcases (show x = 0 ∨ x = 1 ∨ x = 2 ∨ x = 3 ∨ x = 4 by omega) with h | h | h | h | h <;> (subst h; rfl)
theorem rs_kp14 {U L : Int} (h : (L + 1) % 16 = 14) (m t s g c : Int) (pl he : Nat → Int) (gI : Nat → Int) (gF : Nat → Nat → Int) : ∃ pl1 he1, Ff_X1_keep U L gI m t s g c pl gF he = (fl_min (U + 1) 16, 14, fl_nI [gI 0, gI 1, gI 2, gI 3, gI 4, gI 5, gI 6, gI 7, gI 8, gI 9, gI 10, gI 11, gI 12, gI 13, gI 14, gI 15, gI 16, gI 17, gI 18, gI 19, gI 20, gI 21, gI 22, gI 23, gI 24, gI 25, gI 26, gI 27, gI 28, gI 29, gI 30, gI 31, gI 32, gI 33, gI 34, gI 35, gI 36, gI 37, gI 38, gI 39, gI 40, gI 41, gI 42, gI 43, gI 44, gI 45, gI 46, gI 47, gI 48, gI 49, gI 50, gI 51, gI 52, gI 53, gI 54, gI 55, gI 56, gI 57, gI 58, gI 59, gI 60, gI 61, gI 62, gI 63, gI 64, gI 65, gI 66, gI 67, gI 68, gI 69, m, t, s, g, c, gI 75, gI 76, gI 77, gI 78, gI 79], fl_nF [gF 0, gF 1, gF 2, gF 3, gF 4, gF 5, gF 6, gF 7, gF 8, gF 9, gF 10, gF 11, gF 12, gF 13, gF 14, gF 15, gF 16, gF 17, gF 18, gF 19, gF 20, gF 21, gF 22, gF 23, gF 24, gF 25, gF 26, gF 27, pl1, he1, gF 30, gF 31]) ∧ ∀ k : Nat, k < 9 → pl1 k = pl k ∧ he1 k = he k := by
  obtain ⟨pl1, he1, e, q⟩ := rs_cp m t s g c pl (gF 28) he (gF 29)
  refine ⟨pl1, he1, ?_, q⟩
  unfold Ff_X1_keep
  rw [fl_lt_eq rfl, fl_lt_eq h.symm]
  rw [if_neg (by decide)]
  rw [if_neg (by decide)]
  rw [if_neg (by decide)]
  rw [if_neg (by decide)]
  rw [if_neg (by decide)]
  rw [if_neg (by decide)]
  rw [if_neg (by decide)]
  rw [if_neg (by decide)]
  rw [if_neg (by decide)]
  rw [if_neg (by decide)]
  rw [if_neg (by decide)]
  rw [if_neg (by decide)]
  rw [if_neg (by decide)]
  rw [if_neg (by decide)]
  rw [if_pos rfl]
  rw [e, fl_c7_eq rfl]
  rfl
theorem rs_ks14 (m t s g c : Int) (pl he : Nat → Int) (gI : Nat → Int) (gF : Nat → Nat → Int) (pl1 he1 : Nat → Int) (hq : ∀ k : Nat, k < 9 → pl1 k = pl k ∧ he1 k = he k) : rs_P (fl_nI [gI 0, gI 1, gI 2, gI 3, gI 4, gI 5, gI 6, gI 7, gI 8, gI 9, gI 10, gI 11, gI 12, gI 13, gI 14, gI 15, gI 16, gI 17, gI 18, gI 19, gI 20, gI 21, gI 22, gI 23, gI 24, gI 25, gI 26, gI 27, gI 28, gI 29, gI 30, gI 31, gI 32, gI 33, gI 34, gI 35, gI 36, gI 37, gI 38, gI 39, gI 40, gI 41, gI 42, gI 43, gI 44, gI 45, gI 46, gI 47, gI 48, gI 49, gI 50, gI 51, gI 52, gI 53, gI 54, gI 55, gI 56, gI 57, gI 58, gI 59, gI 60, gI 61, gI 62, gI 63, gI 64, gI 65, gI 66, gI 67, gI 68, gI 69, m, t, s, g, c, gI 75, gI 76, gI 77, gI 78, gI 79]) (fl_nF [gF 0, gF 1, gF 2, gF 3, gF 4, gF 5, gF 6, gF 7, gF 8, gF 9, gF 10, gF 11, gF 12, gF 13, gF 14, gF 15, gF 16, gF 17, gF 18, gF 19, gF 20, gF 21, gF 22, gF 23, gF 24, gF 25, gF 26, gF 27, pl1, he1, gF 30, gF 31]) 14 m t s g c pl he ∧ ∀ j : Nat, j < 16 → j ≠ 14 → (∀ x : Nat, x < 5 → (fl_nI [gI 0, gI 1, gI 2, gI 3, gI 4, gI 5, gI 6, gI 7, gI 8, gI 9, gI 10, gI 11, gI 12, gI 13, gI 14, gI 15, gI 16, gI 17, gI 18, gI 19, gI 20, gI 21, gI 22, gI 23, gI 24, gI 25, gI 26, gI 27, gI 28, gI 29, gI 30, gI 31, gI 32, gI 33, gI 34, gI 35, gI 36, gI 37, gI 38, gI 39, gI 40, gI 41, gI 42, gI 43, gI 44, gI 45, gI 46, gI 47, gI 48, gI 49, gI 50, gI 51, gI 52, gI 53, gI 54, gI 55, gI 56, gI 57, gI 58, gI 59, gI 60, gI 61, gI 62, gI 63, gI 64, gI 65, gI 66, gI 67, gI 68, gI 69, m, t, s, g, c, gI 75, gI 76, gI 77, gI 78, gI 79]) (5 * j + x) = gI (5 * j + x)) ∧ (fl_nF [gF 0, gF 1, gF 2, gF 3, gF 4, gF 5, gF 6, gF 7, gF 8, gF 9, gF 10, gF 11, gF 12, gF 13, gF 14, gF 15, gF 16, gF 17, gF 18, gF 19, gF 20, gF 21, gF 22, gF 23, gF 24, gF 25, gF 26, gF 27, pl1, he1, gF 30, gF 31]) (2 * j) = gF (2 * j) ∧ (fl_nF [gF 0, gF 1, gF 2, gF 3, gF 4, gF 5, gF 6, gF 7, gF 8, gF 9, gF 10, gF 11, gF 12, gF 13, gF 14, gF 15, gF 16, gF 17, gF 18, gF 19, gF 20, gF 21, gF 22, gF 23, gF 24, gF 25, gF 26, gF 27, pl1, he1, gF 30, gF 31]) (2 * j + 1) = gF (2 * j + 1) := by
  refine ⟨⟨rfl, rfl, rfl, rfl, rfl, hq⟩, fun j hj hn => ?_⟩
  rcases (show j = 0 ∨ j = 1 ∨ j = 2 ∨ j = 3 ∨ j = 4 ∨ j = 5 ∨ j = 6 ∨ j = 7 ∨ j = 8 ∨ j = 9 ∨ j = 10 ∨ j = 11 ∨ j = 12 ∨ j = 13 ∨ j = 14 ∨ j = 15 by omega) with h | h | h | h | h | h | h | h | h | h | h | h | h | h | h | h
  · subst h
    refine ⟨fun x hx => ?_, rfl, rfl⟩
    rcases (show x = 0 ∨ x = 1 ∨ x = 2 ∨ x = 3 ∨ x = 4 by omega) with h | h | h | h | h <;> (subst h; rfl)
  · subst h
    refine ⟨fun x hx => ?_, rfl, rfl⟩
    rcases (show x = 0 ∨ x = 1 ∨ x = 2 ∨ x = 3 ∨ x = 4 by omega) with h | h | h | h | h <;> (subst h; rfl)
  · subst h
    refine ⟨fun x hx => ?_, rfl, rfl⟩
    rcases (show x = 0 ∨ x = 1 ∨ x = 2 ∨ x = 3 ∨ x = 4 by omega) with h | h | h | h | h <;> (subst h; rfl)
  · subst h
    refine ⟨fun x hx => ?_, rfl, rfl⟩
    rcases (show x = 0 ∨ x = 1 ∨ x = 2 ∨ x = 3 ∨ x = 4 by omega) with h | h | h | h | h <;> (subst h; rfl)
  · subst h
    refine ⟨fun x hx => ?_, rfl, rfl⟩
    rcases (show x = 0 ∨ x = 1 ∨ x = 2 ∨ x = 3 ∨ x = 4 by omega) with h | h | h | h | h <;> (subst h; rfl)
  · subst h
    refine ⟨fun x hx => ?_, rfl, rfl⟩
    rcases (show x = 0 ∨ x = 1 ∨ x = 2 ∨ x = 3 ∨ x = 4 by omega) with h | h | h | h | h <;> (subst h; rfl)
  · subst h
    refine ⟨fun x hx => ?_, rfl, rfl⟩
    rcases (show x = 0 ∨ x = 1 ∨ x = 2 ∨ x = 3 ∨ x = 4 by omega) with h | h | h | h | h <;> (subst h; rfl)
  · subst h
    refine ⟨fun x hx => ?_, rfl, rfl⟩
    rcases (show x = 0 ∨ x = 1 ∨ x = 2 ∨ x = 3 ∨ x = 4 by omega) with h | h | h | h | h <;> (subst h; rfl)
  · subst h
    refine ⟨fun x hx => ?_, rfl, rfl⟩
    rcases (show x = 0 ∨ x = 1 ∨ x = 2 ∨ x = 3 ∨ x = 4 by omega) with h | h | h | h | h <;> (subst h; rfl)
  · subst h
    refine ⟨fun x hx => ?_, rfl, rfl⟩
    rcases (show x = 0 ∨ x = 1 ∨ x = 2 ∨ x = 3 ∨ x = 4 by omega) with h | h | h | h | h <;> (subst h; rfl)
  · subst h
    refine ⟨fun x hx => ?_, rfl, rfl⟩
    rcases (show x = 0 ∨ x = 1 ∨ x = 2 ∨ x = 3 ∨ x = 4 by omega) with h | h | h | h | h <;> (subst h; rfl)
  · subst h
    refine ⟨fun x hx => ?_, rfl, rfl⟩
    rcases (show x = 0 ∨ x = 1 ∨ x = 2 ∨ x = 3 ∨ x = 4 by omega) with h | h | h | h | h <;> (subst h; rfl)
  · subst h
    refine ⟨fun x hx => ?_, rfl, rfl⟩
    rcases (show x = 0 ∨ x = 1 ∨ x = 2 ∨ x = 3 ∨ x = 4 by omega) with h | h | h | h | h <;> (subst h; rfl)
  · subst h
    refine ⟨fun x hx => ?_, rfl, rfl⟩
    rcases (show x = 0 ∨ x = 1 ∨ x = 2 ∨ x = 3 ∨ x = 4 by omega) with h | h | h | h | h <;> (subst h; rfl)
  · exact absurd h hn
  · subst h
    refine ⟨fun x hx => ?_, rfl, rfl⟩
    rcases (show x = 0 ∨ x = 1 ∨ x = 2 ∨ x = 3 ∨ x = 4 by omega) with h | h | h | h | h <;> (subst h; rfl)
theorem rs_kp15 {U L : Int} (h : (L + 1) % 16 = 15) (m t s g c : Int) (pl he : Nat → Int) (gI : Nat → Int) (gF : Nat → Nat → Int) : ∃ pl1 he1, Ff_X1_keep U L gI m t s g c pl gF he = (fl_min (U + 1) 16, 15, fl_nI [gI 0, gI 1, gI 2, gI 3, gI 4, gI 5, gI 6, gI 7, gI 8, gI 9, gI 10, gI 11, gI 12, gI 13, gI 14, gI 15, gI 16, gI 17, gI 18, gI 19, gI 20, gI 21, gI 22, gI 23, gI 24, gI 25, gI 26, gI 27, gI 28, gI 29, gI 30, gI 31, gI 32, gI 33, gI 34, gI 35, gI 36, gI 37, gI 38, gI 39, gI 40, gI 41, gI 42, gI 43, gI 44, gI 45, gI 46, gI 47, gI 48, gI 49, gI 50, gI 51, gI 52, gI 53, gI 54, gI 55, gI 56, gI 57, gI 58, gI 59, gI 60, gI 61, gI 62, gI 63, gI 64, gI 65, gI 66, gI 67, gI 68, gI 69, gI 70, gI 71, gI 72, gI 73, gI 74, m, t, s, g, c], fl_nF [gF 0, gF 1, gF 2, gF 3, gF 4, gF 5, gF 6, gF 7, gF 8, gF 9, gF 10, gF 11, gF 12, gF 13, gF 14, gF 15, gF 16, gF 17, gF 18, gF 19, gF 20, gF 21, gF 22, gF 23, gF 24, gF 25, gF 26, gF 27, gF 28, gF 29, pl1, he1]) ∧ ∀ k : Nat, k < 9 → pl1 k = pl k ∧ he1 k = he k := by
  obtain ⟨pl1, he1, e, q⟩ := rs_cp m t s g c pl (gF 30) he (gF 31)
  refine ⟨pl1, he1, ?_, q⟩
  unfold Ff_X1_keep
  rw [fl_lt_eq rfl, fl_lt_eq h.symm]
  rw [if_neg (by decide)]
  rw [if_neg (by decide)]
  rw [if_neg (by decide)]
  rw [if_neg (by decide)]
  rw [if_neg (by decide)]
  rw [if_neg (by decide)]
  rw [if_neg (by decide)]
  rw [if_neg (by decide)]
  rw [if_neg (by decide)]
  rw [if_neg (by decide)]
  rw [if_neg (by decide)]
  rw [if_neg (by decide)]
  rw [if_neg (by decide)]
  rw [if_neg (by decide)]
  rw [if_neg (by decide)]
  rw [e, fl_c7_eq rfl]
  rfl
theorem rs_ks15 (m t s g c : Int) (pl he : Nat → Int) (gI : Nat → Int) (gF : Nat → Nat → Int) (pl1 he1 : Nat → Int) (hq : ∀ k : Nat, k < 9 → pl1 k = pl k ∧ he1 k = he k) : rs_P (fl_nI [gI 0, gI 1, gI 2, gI 3, gI 4, gI 5, gI 6, gI 7, gI 8, gI 9, gI 10, gI 11, gI 12, gI 13, gI 14, gI 15, gI 16, gI 17, gI 18, gI 19, gI 20, gI 21, gI 22, gI 23, gI 24, gI 25, gI 26, gI 27, gI 28, gI 29, gI 30, gI 31, gI 32, gI 33, gI 34, gI 35, gI 36, gI 37, gI 38, gI 39, gI 40, gI 41, gI 42, gI 43, gI 44, gI 45, gI 46, gI 47, gI 48, gI 49, gI 50, gI 51, gI 52, gI 53, gI 54, gI 55, gI 56, gI 57, gI 58, gI 59, gI 60, gI 61, gI 62, gI 63, gI 64, gI 65, gI 66, gI 67, gI 68, gI 69, gI 70, gI 71, gI 72, gI 73, gI 74, m, t, s, g, c]) (fl_nF [gF 0, gF 1, gF 2, gF 3, gF 4, gF 5, gF 6, gF 7, gF 8, gF 9, gF 10, gF 11, gF 12, gF 13, gF 14, gF 15, gF 16, gF 17, gF 18, gF 19, gF 20, gF 21, gF 22, gF 23, gF 24, gF 25, gF 26, gF 27, gF 28, gF 29, pl1, he1]) 15 m t s g c pl he ∧ ∀ j : Nat, j < 16 → j ≠ 15 → (∀ x : Nat, x < 5 → (fl_nI [gI 0, gI 1, gI 2, gI 3, gI 4, gI 5, gI 6, gI 7, gI 8, gI 9, gI 10, gI 11, gI 12, gI 13, gI 14, gI 15, gI 16, gI 17, gI 18, gI 19, gI 20, gI 21, gI 22, gI 23, gI 24, gI 25, gI 26, gI 27, gI 28, gI 29, gI 30, gI 31, gI 32, gI 33, gI 34, gI 35, gI 36, gI 37, gI 38, gI 39, gI 40, gI 41, gI 42, gI 43, gI 44, gI 45, gI 46, gI 47, gI 48, gI 49, gI 50, gI 51, gI 52, gI 53, gI 54, gI 55, gI 56, gI 57, gI 58, gI 59, gI 60, gI 61, gI 62, gI 63, gI 64, gI 65, gI 66, gI 67, gI 68, gI 69, gI 70, gI 71, gI 72, gI 73, gI 74, m, t, s, g, c]) (5 * j + x) = gI (5 * j + x)) ∧ (fl_nF [gF 0, gF 1, gF 2, gF 3, gF 4, gF 5, gF 6, gF 7, gF 8, gF 9, gF 10, gF 11, gF 12, gF 13, gF 14, gF 15, gF 16, gF 17, gF 18, gF 19, gF 20, gF 21, gF 22, gF 23, gF 24, gF 25, gF 26, gF 27, gF 28, gF 29, pl1, he1]) (2 * j) = gF (2 * j) ∧ (fl_nF [gF 0, gF 1, gF 2, gF 3, gF 4, gF 5, gF 6, gF 7, gF 8, gF 9, gF 10, gF 11, gF 12, gF 13, gF 14, gF 15, gF 16, gF 17, gF 18, gF 19, gF 20, gF 21, gF 22, gF 23, gF 24, gF 25, gF 26, gF 27, gF 28, gF 29, pl1, he1]) (2 * j + 1) = gF (2 * j + 1) := by
  refine ⟨⟨rfl, rfl, rfl, rfl, rfl, hq⟩, fun j hj hn => ?_⟩
  rcases (show j = 0 ∨ j = 1 ∨ j = 2 ∨ j = 3 ∨ j = 4 ∨ j = 5 ∨ j = 6 ∨ j = 7 ∨ j = 8 ∨ j = 9 ∨ j = 10 ∨ j = 11 ∨ j = 12 ∨ j = 13 ∨ j = 14 ∨ j = 15 by omega) with h | h | h | h | h | h | h | h | h | h | h | h | h | h | h | h
  · subst h
    refine ⟨fun x hx => ?_, rfl, rfl⟩
    rcases (show x = 0 ∨ x = 1 ∨ x = 2 ∨ x = 3 ∨ x = 4 by omega) with h | h | h | h | h <;> (subst h; rfl)
  · subst h
    refine ⟨fun x hx => ?_, rfl, rfl⟩
    rcases (show x = 0 ∨ x = 1 ∨ x = 2 ∨ x = 3 ∨ x = 4 by omega) with h | h | h | h | h <;> (subst h; rfl)
  · subst h
    refine ⟨fun x hx => ?_, rfl, rfl⟩
    rcases (show x = 0 ∨ x = 1 ∨ x = 2 ∨ x = 3 ∨ x = 4 by omega) with h | h | h | h | h <;> (subst h; rfl)
  · subst h
    refine ⟨fun x hx => ?_, rfl, rfl⟩
    rcases (show x = 0 ∨ x = 1 ∨ x = 2 ∨ x = 3 ∨ x = 4 by omega) with h | h | h | h | h <;> (subst h; rfl)
  · subst h
    refine ⟨fun x hx => ?_, rfl, rfl⟩
    rcases (show x = 0 ∨ x = 1 ∨ x = 2 ∨ x = 3 ∨ x = 4 by omega) with h | h | h | h | h <;> (subst h; rfl)
  · subst h
    refine ⟨fun x hx => ?_, rfl, rfl⟩
    rcases (show x = 0 ∨ x = 1 ∨ x = 2 ∨ x = 3 ∨ x = 4 by omega) with h | h | h | h | h <;> (subst h; rfl)
  · subst h
    refine ⟨fun x hx => ?_, rfl, rfl⟩
    rcases (show x = 0 ∨ x = 1 ∨ x = 2 ∨ x = 3 ∨ x = 4 by omega) with h | h | h | h | h <;> (subst h; rfl)
  · subst h
    refine ⟨fun x hx => ?_, rfl, rfl⟩
    rcases (show x = 0 ∨ x = 1 ∨ x = 2 ∨ x = 3 ∨ x = 4 by omega) with h | h | h | h | h <;> (subst h; rfl)
  · subst h
    refine ⟨fun x hx => ?_, rfl, rfl⟩
    rcases (show x = 0 ∨ x = 1 ∨ x = 2 ∨ x = 3 ∨ x = 4 by omega) with h | h | h | h | h <;> (subst h; rfl)
  · subst h
    refine ⟨fun x hx => ?_, rfl, rfl⟩
    rcases (show x = 0 ∨ x = 1 ∨ x = 2 ∨ x = 3 ∨ x = 4 by omega) with h | h | h | h | h <;> (subst h; rfl)
  · subst h
    refine ⟨fun x hx => ?_, rfl, rfl⟩
    rcases (show x = 0 ∨ x = 1 ∨ x = 2 ∨ x = 3 ∨ x = 4 by omega) with h | h | h | h | h <;> (subst h; rfl)
  · subst h
    refine ⟨fun x hx => ?_, rfl, rfl⟩
    rcases (show x = 0 ∨ x = 1 ∨ x = 2 ∨ x = 3 ∨ x = 4 by omega) with h | h | h | h | h <;> (subst h; rfl)
  · subst h
    refine ⟨fun x hx => ?_, rfl, rfl⟩
    rcases (show x = 0 ∨ x = 1 ∨ x = 2 ∨ x = 3 ∨ x = 4 by omega) with h | h | h | h | h <;> (subst h; rfl)
  · subst h
    refine ⟨fun x hx => ?_, rfl, rfl⟩
    rcases (show x = 0 ∨ x = 1 ∨ x = 2 ∨ x = 3 ∨ x = 4 by omega) with h | h | h | h | h <;> (subst h; rfl)
  · subst h
    refine ⟨fun x hx => ?_, rfl, rfl⟩
    rcases (show x = 0 ∨ x = 1 ∨ x = 2 ∨ x = 3 ∨ x = 4 by omega) with h | h | h | h | h <;> (subst h; rfl)
  · exact absurd h hn
/-- keep: here -/
theorem rs_kp {L : Int} (h0 : 0 ≤ L) (h1 : L ≤ 15) (U : Int) (m t s g c : Int) (pl he : Nat → Int) (gI : Nat → Int) (gF : Nat → Nat → Int) : ∃ gI1 gF1, Ff_X1_keep U L gI m t s g c pl gF he = (fl_min (U + 1) 16, (L + 1) % 16, gI1, gF1) ∧ rs_P gI1 gF1 ((L + 1) % 16).toNat m t s g c pl he ∧ ∀ j : Nat, j < 16 → j ≠ ((L + 1) % 16).toNat → (∀ x : Nat, x < 5 → gI1 (5 * j + x) = gI (5 * j + x)) ∧ gF1 (2 * j) = gF (2 * j) ∧ gF1 (2 * j + 1) = gF (2 * j + 1) := by
  rcases (show (L + 1) % 16 = 0 ∨ (L + 1) % 16 = 1 ∨ (L + 1) % 16 = 2 ∨ (L + 1) % 16 = 3 ∨ (L + 1) % 16 = 4 ∨ (L + 1) % 16 = 5 ∨ (L + 1) % 16 = 6 ∨ (L + 1) % 16 = 7 ∨ (L + 1) % 16 = 8 ∨ (L + 1) % 16 = 9 ∨ (L + 1) % 16 = 10 ∨ (L + 1) % 16 = 11 ∨ (L + 1) % 16 = 12 ∨ (L + 1) % 16 = 13 ∨ (L + 1) % 16 = 14 ∨ (L + 1) % 16 = 15 by omega) with h | h | h | h | h | h | h | h | h | h | h | h | h | h | h | h
  · obtain ⟨pl1, he1, e, q⟩ := rs_kp0 (U := U) h m t s g c pl he gI gF
    rw [h]
    exact ⟨_, _, e, rs_ks0 m t s g c pl he gI gF pl1 he1 q⟩
  · obtain ⟨pl1, he1, e, q⟩ := rs_kp1 (U := U) h m t s g c pl he gI gF
    rw [h]
    exact ⟨_, _, e, rs_ks1 m t s g c pl he gI gF pl1 he1 q⟩
  · obtain ⟨pl1, he1, e, q⟩ := rs_kp2 (U := U) h m t s g c pl he gI gF
    rw [h]
    exact ⟨_, _, e, rs_ks2 m t s g c pl he gI gF pl1 he1 q⟩
  · obtain ⟨pl1, he1, e, q⟩ := rs_kp3 (U := U) h m t s g c pl he gI gF
    rw [h]
    exact ⟨_, _, e, rs_ks3 m t s g c pl he gI gF pl1 he1 q⟩
  · obtain ⟨pl1, he1, e, q⟩ := rs_kp4 (U := U) h m t s g c pl he gI gF
    rw [h]
    exact ⟨_, _, e, rs_ks4 m t s g c pl he gI gF pl1 he1 q⟩
  · obtain ⟨pl1, he1, e, q⟩ := rs_kp5 (U := U) h m t s g c pl he gI gF
    rw [h]
    exact ⟨_, _, e, rs_ks5 m t s g c pl he gI gF pl1 he1 q⟩
  · obtain ⟨pl1, he1, e, q⟩ := rs_kp6 (U := U) h m t s g c pl he gI gF
    rw [h]
    exact ⟨_, _, e, rs_ks6 m t s g c pl he gI gF pl1 he1 q⟩
  · obtain ⟨pl1, he1, e, q⟩ := rs_kp7 (U := U) h m t s g c pl he gI gF
    rw [h]
    exact ⟨_, _, e, rs_ks7 m t s g c pl he gI gF pl1 he1 q⟩
  · obtain ⟨pl1, he1, e, q⟩ := rs_kp8 (U := U) h m t s g c pl he gI gF
    rw [h]
    exact ⟨_, _, e, rs_ks8 m t s g c pl he gI gF pl1 he1 q⟩
  · obtain ⟨pl1, he1, e, q⟩ := rs_kp9 (U := U) h m t s g c pl he gI gF
    rw [h]
    exact ⟨_, _, e, rs_ks9 m t s g c pl he gI gF pl1 he1 q⟩
  · obtain ⟨pl1, he1, e, q⟩ := rs_kp10 (U := U) h m t s g c pl he gI gF
    rw [h]
    exact ⟨_, _, e, rs_ks10 m t s g c pl he gI gF pl1 he1 q⟩
  · obtain ⟨pl1, he1, e, q⟩ := rs_kp11 (U := U) h m t s g c pl he gI gF
    rw [h]
    exact ⟨_, _, e, rs_ks11 m t s g c pl he gI gF pl1 he1 q⟩
  · obtain ⟨pl1, he1, e, q⟩ := rs_kp12 (U := U) h m t s g c pl he gI gF
    rw [h]
    exact ⟨_, _, e, rs_ks12 m t s g c pl he gI gF pl1 he1 q⟩
  · obtain ⟨pl1, he1, e, q⟩ := rs_kp13 (U := U) h m t s g c pl he gI gF
    rw [h]
    exact ⟨_, _, e, rs_ks13 m t s g c pl he gI gF pl1 he1 q⟩
  · obtain ⟨pl1, he1, e, q⟩ := rs_kp14 (U := U) h m t s g c pl he gI gF
    rw [h]
    exact ⟨_, _, e, rs_ks14 m t s g c pl he gI gF pl1 he1 q⟩
  · obtain ⟨pl1, he1, e, q⟩ := rs_kp15 (U := U) h m t s g c pl he gI gF
    rw [h]
    exact ⟨_, _, e, rs_ks15 m t s g c pl he gI gF pl1 he1 q⟩
theorem rs_tk0 {U : Int} (hU : ¬ U = 0) (m t s g c : Int) (pl he : Nat → Int) (gI : Nat → Int) (gF : Nat → Nat → Int) : ∃ pl1 he1, Ff_X1_takeLatest U 0 m t s g c gI gF pl he = (1, U - 1, 15, gI 0, gI 1, gI 2, gI 3, gI 4, pl1, he1) ∧ ∀ k : Nat, k < 9 → gF 0 k = pl1 k ∧ gF 1 k = he1 k := by
  obtain ⟨pl1, he1, e, q⟩ := rs_cp (gI 0) (gI 1) (gI 2) (gI 3) (gI 4) (gF 0) pl (gF 1) he
  refine ⟨pl1, he1, ?_, fun k hk => ⟨(q k hk).1.symm, (q k hk).2.symm⟩⟩
  unfold Ff_X1_takeLatest
  rw [if_neg hU]
  rw [if_pos rfl]
  rw [e, fl_c7_eq rfl]
  rfl
theorem rs_tk1 {U : Int} (hU : ¬ U = 0) (m t s g c : Int) (pl he : Nat → Int) (gI : Nat → Int) (gF : Nat → Nat → Int) : ∃ pl1 he1, Ff_X1_takeLatest U 1 m t s g c gI gF pl he = (1, U - 1, 0, gI 5, gI 6, gI 7, gI 8, gI 9, pl1, he1) ∧ ∀ k : Nat, k < 9 → gF 2 k = pl1 k ∧ gF 3 k = he1 k := by
  obtain ⟨pl1, he1, e, q⟩ := rs_cp (gI 5) (gI 6) (gI 7) (gI 8) (gI 9) (gF 2) pl (gF 3) he
  refine ⟨pl1, he1, ?_, fun k hk => ⟨(q k hk).1.symm, (q k hk).2.symm⟩⟩
  unfold Ff_X1_takeLatest
  rw [if_neg hU]
  rw [if_neg (by decide)]
  rw [if_pos rfl]
  rw [e, fl_c7_eq rfl]
  rfl
theorem rs_tk2 {U : Int} (hU : ¬ U = 0) (m t s g c : Int) (pl he : Nat → Int) (gI : Nat → Int) (gF : Nat → Nat → Int) : ∃ pl1 he1, Ff_X1_takeLatest U 2 m t s g c gI gF pl he = (1, U - 1, 1, gI 10, gI 11, gI 12, gI 13, gI 14, pl1, he1) ∧ ∀ k : Nat, k < 9 → gF 4 k = pl1 k ∧ gF 5 k = he1 k := by
  obtain ⟨pl1, he1, e, q⟩ := rs_cp (gI 10) (gI 11) (gI 12) (gI 13) (gI 14) (gF 4) pl (gF 5) he
  refine ⟨pl1, he1, ?_, fun k hk => ⟨(q k hk).1.symm, (q k hk).2.symm⟩⟩
  unfold Ff_X1_takeLatest
  rw [if_neg hU]
  rw [if_neg (by decide)]
  rw [if_neg (by decide)]
  rw [if_pos rfl]
  rw [e, fl_c7_eq rfl]
  rfl
theorem rs_tk3 {U : Int} (hU : ¬ U = 0) (m t s g c : Int) (pl he : Nat → Int) (gI : Nat → Int) (gF : Nat → Nat → Int) : ∃ pl1 he1, Ff_X1_takeLatest U 3 m t s g c gI gF pl he = (1, U - 1, 2, gI 15, gI 16, gI 17, gI 18, gI 19, pl1, he1) ∧ ∀ k : Nat, k < 9 → gF 6 k = pl1 k ∧ gF 7 k = he1 k := by
  obtain ⟨pl1, he1, e, q⟩ := rs_cp (gI 15) (gI 16) (gI 17) (gI 18) (gI 19) (gF 6) pl (gF 7) he
  refine ⟨pl1, he1, ?_, fun k hk => ⟨(q k hk).1.symm, (q k hk).2.symm⟩⟩
  unfold Ff_X1_takeLatest
  rw [if_neg hU]
  rw [if_neg (by decide)]
  rw [if_neg (by decide)]
  rw [if_neg (by decide)]
  rw [if_pos rfl]
  rw [e, fl_c7_eq rfl]
  rfl
theorem rs_tk4 {U : Int} (hU : ¬ U = 0) (m t s g c : Int) (pl he : Nat → Int) (gI : Nat → Int) (gF : Nat → Nat → Int) : ∃ pl1 he1, Ff_X1_takeLatest U 4 m t s g c gI gF pl he = (1, U - 1, 3, gI 20, gI 21, gI 22, gI 23, gI 24, pl1, he1) ∧ ∀ k : Nat, k < 9 → gF 8 k = pl1 k ∧ gF 9 k = he1 k := by
  obtain ⟨pl1, he1, e, q⟩ := rs_cp (gI 20) (gI 21) (gI 22) (gI 23) (gI 24) (gF 8) pl (gF 9) he
  refine ⟨pl1, he1, ?_, fun k hk => ⟨(q k hk).1.symm, (q k hk).2.symm⟩⟩
  unfold Ff_X1_takeLatest
  rw [if_neg hU]
  rw [if_neg (by decide)]
  rw [if_neg (by decide)]
  rw [if_neg (by decide)]
  rw [if_neg (by decide)]
  rw [if_pos rfl]
  rw [e, fl_c7_eq rfl]
  rfl
theorem rs_tk5 {U : Int} (hU : ¬ U = 0) (m t s g c : Int) (pl he : Nat → Int) (gI : Nat → Int) (gF : Nat → Nat → Int) : ∃ pl1 he1, Ff_X1_takeLatest U 5 m t s g c gI gF pl he = (1, U - 1, 4, gI 25, gI 26, gI 27, gI 28, gI 29, pl1, he1) ∧ ∀ k : Nat, k < 9 → gF 10 k = pl1 k ∧ gF 11 k = he1 k := by
  obtain ⟨pl1, he1, e, q⟩ := rs_cp (gI 25) (gI 26) (gI 27) (gI 28) (gI 29) (gF 10) pl (gF 11) he
  refine ⟨pl1, he1, ?_, fun k hk => ⟨(q k hk).1.symm, (q k hk).2.symm⟩⟩
  unfold Ff_X1_takeLatest
  rw [if_neg hU]
  rw [if_neg (by decide)]
  rw [if_neg (by decide)]
  rw [if_neg (by decide)]
  rw [if_neg (by decide)]
  rw [if_neg (by decide)]
  rw [if_pos rfl]
  rw [e, fl_c7_eq rfl]
  rfl
theorem rs_tk6 {U : Int} (hU : ¬ U = 0) (m t s g c : Int) (pl he : Nat → Int) (gI : Nat → Int) (gF : Nat → Nat → Int) : ∃ pl1 he1, Ff_X1_takeLatest U 6 m t s g c gI gF pl he = (1, U - 1, 5, gI 30, gI 31, gI 32, gI 33, gI 34, pl1, he1) ∧ ∀ k : Nat, k < 9 → gF 12 k = pl1 k ∧ gF 13 k = he1 k := by
  obtain ⟨pl1, he1, e, q⟩ := rs_cp (gI 30) (gI 31) (gI 32) (gI 33) (gI 34) (gF 12) pl (gF 13) he
  refine ⟨pl1, he1, ?_, fun k hk => ⟨(q k hk).1.symm, (q k hk).2.symm⟩⟩
  unfold Ff_X1_takeLatest
  rw [if_neg hU]
  rw [if_neg (by decide)]
  rw [if_neg (by decide)]
  rw [if_neg (by decide)]
  rw [if_neg (by decide)]
  rw [if_neg (by decide)]
  rw [if_neg (by decide)]
  rw [if_pos rfl]
  rw [e, fl_c7_eq rfl]
  rfl
theorem rs_tk7 {U : Int} (hU : ¬ U = 0) (m t s g c : Int) (pl he : Nat → Int) (gI : Nat → Int) (gF : Nat → Nat → Int) : ∃ pl1 he1, Ff_X1_takeLatest U 7 m t s g c gI gF pl he = (1, U - 1, 6, gI 35, gI 36, gI 37, gI 38, gI 39, pl1, he1) ∧ ∀ k : Nat, k < 9 → gF 14 k = pl1 k ∧ gF 15 k = he1 k := by
  obtain ⟨pl1, he1, e, q⟩ := rs_cp (gI 35) (gI 36) (gI 37) (gI 38) (gI 39) (gF 14) pl (gF 15) he
  refine ⟨pl1, he1, ?_, fun k hk => ⟨(q k hk).1.symm, (q k hk).2.symm⟩⟩
  unfold Ff_X1_takeLatest
  rw [if_neg hU]
  rw [if_neg (by decide)]
  rw [if_neg (by decide)]
  rw [if_neg (by decide)]
  rw [if_neg (by decide)]
  rw [if_neg (by decide)]
  rw [if_neg (by decide)]
  rw [if_neg (by decide)]
  rw [if_pos rfl]
  rw [e, fl_c7_eq rfl]
  rfl
theorem rs_tk8 {U : Int} (hU : ¬ U = 0) (m t s g c : Int) (pl he : Nat → Int) (gI : Nat → Int) (gF : Nat → Nat → Int) : ∃ pl1 he1, Ff_X1_takeLatest U 8 m t s g c gI gF pl he = (1, U - 1, 7, gI 40, gI 41, gI 42, gI 43, gI 44, pl1, he1) ∧ ∀ k : Nat, k < 9 → gF 16 k = pl1 k ∧ gF 17 k = he1 k := by
  obtain ⟨pl1, he1, e, q⟩ := rs_cp (gI 40) (gI 41) (gI 42) (gI 43) (gI 44) (gF 16) pl (gF 17) he
  refine ⟨pl1, he1, ?_, fun k hk => ⟨(q k hk).1.symm, (q k hk).2.symm⟩⟩
  unfold Ff_X1_takeLatest
  rw [if_neg hU]
  rw [if_neg (by decide)]
  rw [if_neg (by decide)]
  rw [if_neg (by decide)]
  rw [if_neg (by decide)]
  rw [if_neg (by decide)]
  rw [if_neg (by decide)]
  rw [if_neg (by decide)]
  rw [if_neg (by decide)]
  rw [if_pos rfl]
  rw [e, fl_c7_eq rfl]
  rfl
theorem rs_tk9 {U : Int} (hU : ¬ U = 0) (m t s g c : Int) (pl he : Nat → Int) (gI : Nat → Int) (gF : Nat → Nat → Int) : ∃ pl1 he1, Ff_X1_takeLatest U 9 m t s g c gI gF pl he = (1, U - 1, 8, gI 45, gI 46, gI 47, gI 48, gI 49, pl1, he1) ∧ ∀ k : Nat, k < 9 → gF 18 k = pl1 k ∧ gF 19 k = he1 k := by
  obtain ⟨pl1, he1, e, q⟩ := rs_cp (gI 45) (gI 46) (gI 47) (gI 48) (gI 49) (gF 18) pl (gF 19) he
  refine ⟨pl1, he1, ?_, fun k hk => ⟨(q k hk).1.symm, (q k hk).2.symm⟩⟩
  unfold Ff_X1_takeLatest
  rw [if_neg hU]
  rw [if_neg (by decide)]
  rw [if_neg (by decide)]
  rw [if_neg (by decide)]
  rw [if_neg (by decide)]
  rw [if_neg (by decide)]
  rw [if_neg (by decide)]
  rw [if_neg (by decide)]
  rw [if_neg (by decide)]
  rw [if_neg (by decide)]
  rw [if_pos rfl]
  rw [e, fl_c7_eq rfl]
  rfl
theorem rs_tk10 {U : Int} (hU : ¬ U = 0) (m t s g c : Int) (pl he : Nat → Int) (gI : Nat → Int) (gF : Nat → Nat → Int) : ∃ pl1 he1, Ff_X1_takeLatest U 10 m t s g c gI gF pl he = (1, U - 1, 9, gI 50, gI 51, gI 52, gI 53, gI 54, pl1, he1) ∧ ∀ k : Nat, k < 9 → gF 20 k = pl1 k ∧ gF 21 k = he1 k := by
  obtain ⟨pl1, he1, e, q⟩ := rs_cp (gI 50) (gI 51) (gI 52) (gI 53) (gI 54) (gF 20) pl (gF 21) he
  refine ⟨pl1, he1, ?_, fun k hk => ⟨(q k hk).1.symm, (q k hk).2.symm⟩⟩
  unfold Ff_X1_takeLatest
  rw [if_neg hU]
  rw [if_neg (by decide)]
  rw [if_neg (by decide)]
  rw [if_neg (by decide)]
  rw [if_neg (by decide)]
  rw [if_neg (by decide)]
  rw [if_neg (by decide)]
  rw [if_neg (by decide)]
  rw [if_neg (by decide)]
  rw [if_neg (by decide)]
  rw [if_neg (by decide)]
  rw [if_pos rfl]
  rw [e, fl_c7_eq rfl]
  rfl
theorem rs_tk11 {U : Int} (hU : ¬ U = 0) (m t s g c : Int) (pl he : Nat → Int) (gI : Nat → Int) (gF : Nat → Nat → Int) : ∃ pl1 he1, Ff_X1_takeLatest U 11 m t s g c gI gF pl he = (1, U - 1, 10, gI 55, gI 56, gI 57, gI 58, gI 59, pl1, he1) ∧ ∀ k : Nat, k < 9 → gF 22 k = pl1 k ∧ gF 23 k = he1 k := by
  obtain ⟨pl1, he1, e, q⟩ := rs_cp (gI 55) (gI 56) (gI 57) (gI 58) (gI 59) (gF 22) pl (gF 23) he
  refine ⟨pl1, he1, ?_, fun k hk => ⟨(q k hk).1.symm, (q k hk).2.symm⟩⟩
  unfold Ff_X1_takeLatest
  rw [if_neg hU]
  rw [if_neg (by decide)]
  rw [if_neg (by decide)]
  rw [if_neg (by decide)]
  rw [if_neg (by decide)]
  rw [if_neg (by decide)]
  rw [if_neg (by decide)]
  rw [if_neg (by decide)]
  rw [if_neg (by decide)]
  rw [if_neg (by decide)]
  rw [if_neg (by decide)]
  rw [if_neg (by decide)]
  rw [if_pos rfl]
  rw [e, fl_c7_eq rfl]
  rfl
theorem rs_tk12 {U : Int} (hU : ¬ U = 0) (m t s g c : Int) (pl he : Nat → Int) (gI : Nat → Int) (gF : Nat → Nat → Int) : ∃ pl1 he1, Ff_X1_takeLatest U 12 m t s g c gI gF pl he = (1, U - 1, 11, gI 60, gI 61, gI 62, gI 63, gI 64, pl1, he1) ∧ ∀ k : Nat, k < 9 → gF 24 k = pl1 k ∧ gF 25 k = he1 k := by
  obtain ⟨pl1, he1, e, q⟩ := rs_cp (gI 60) (gI 61) (gI 62) (gI 63) (gI 64) (gF 24) pl (gF 25) he
  refine ⟨pl1, he1, ?_, fun k hk => ⟨(q k hk).1.symm, (q k hk).2.symm⟩⟩
  unfold Ff_X1_takeLatest
  rw [if_neg hU]
  rw [if_neg (by decide)]
  rw [if_neg (by decide)]
  rw [if_neg (by decide)]
  rw [if_neg (by decide)]
  rw [if_neg (by decide)]
  rw [if_neg (by decide)]
  rw [if_neg (by decide)]
  rw [if_neg (by decide)]
  rw [if_neg (by decide)]
  rw [if_neg (by decide)]
  rw [if_neg (by decide)]
  rw [if_neg (by decide)]
  rw [if_pos rfl]
  rw [e, fl_c7_eq rfl]
  rfl
theorem rs_tk13 {U : Int} (hU : ¬ U = 0) (m t s g c : Int) (pl he : Nat → Int) (gI : Nat → Int) (gF : Nat → Nat → Int) : ∃ pl1 he1, Ff_X1_takeLatest U 13 m t s g c gI gF pl he = (1, U - 1, 12, gI 65, gI 66, gI 67, gI 68, gI 69, pl1, he1) ∧ ∀ k : Nat, k < 9 → gF 26 k = pl1 k ∧ gF 27 k = he1 k := by
  obtain ⟨pl1, he1, e, q⟩ := rs_cp (gI 65) (gI 66) (gI 67) (gI 68) (gI 69) (gF 26) pl (gF 27) he
  refine ⟨pl1, he1, ?_, fun k hk => ⟨(q k hk).1.symm, (q k hk).2.symm⟩⟩
  unfold Ff_X1_takeLatest
  rw [if_neg hU]
  rw [if_neg (by decide)]
  rw [if_neg (by decide)]
  rw [if_neg (by decide)]
  rw [if_neg (by decide)]
  rw [if_neg (by decide)]
  rw [if_neg (by decide)]
  rw [if_neg (by decide)]
  rw [if_neg (by decide)]
  rw [if_neg (by decide)]
  rw [if_neg (by decide)]
  rw [if_neg (by decide)]
  rw [if_neg (by decide)]
  rw [if_neg (by decide)]
  rw [if_pos rfl]
  rw [e, fl_c7_eq rfl]
  rfl
theorem rs_tk14 {U : Int} (hU : ¬ U = 0) (m t s g c : Int) (pl he : Nat → Int) (gI : Nat → Int) (gF : Nat → Nat → Int) : ∃ pl1 he1, Ff_X1_takeLatest U 14 m t s g c gI gF pl he = (1, U - 1, 13, gI 70, gI 71, gI 72, gI 73, gI 74, pl1, he1) ∧ ∀ k : Nat, k < 9 → gF 28 k = pl1 k ∧ gF 29 k = he1 k := by
  obtain ⟨pl1, he1, e, q⟩ := rs_cp (gI 70) (gI 71) (gI 72) (gI 73) (gI 74) (gF 28) pl (gF 29) he
  refine ⟨pl1, he1, ?_, fun k hk => ⟨(q k hk).1.symm, (q k hk).2.symm⟩⟩
  unfold Ff_X1_takeLatest
  rw [if_neg hU]
  rw [if_neg (by decide)]
  rw [if_neg (by decide)]
  rw [if_neg (by decide)]
  rw [if_neg (by decide)]
  rw [if_neg (by decide)]
  rw [if_neg (by decide)]
  rw [if_neg (by decide)]
  rw [if_neg (by decide)]
  rw [if_neg (by decide)]
  rw [if_neg (by decide)]
  rw [if_neg (by decide)]
  rw [if_neg (by decide)]
  rw [if_neg (by decide)]
  rw [if_neg (by decide)]
  rw [if_pos rfl]
  rw [e, fl_c7_eq rfl]
  rfl
theorem rs_tk15 {U : Int} (hU : ¬ U = 0) (m t s g c : Int) (pl he : Nat → Int) (gI : Nat → Int) (gF : Nat → Nat → Int) : ∃ pl1 he1, Ff_X1_takeLatest U 15 m t s g c gI gF pl he = (1, U - 1, 14, gI 75, gI 76, gI 77, gI 78, gI 79, pl1, he1) ∧ ∀ k : Nat, k < 9 → gF 30 k = pl1 k ∧ gF 31 k = he1 k := by
  obtain ⟨pl1, he1, e, q⟩ := rs_cp (gI 75) (gI 76) (gI 77) (gI 78) (gI 79) (gF 30) pl (gF 31) he
  refine ⟨pl1, he1, ?_, fun k hk => ⟨(q k hk).1.symm, (q k hk).2.symm⟩⟩
  unfold Ff_X1_takeLatest
  rw [if_neg hU]
  rw [if_neg (by decide)]
  rw [if_neg (by decide)]
  rw [if_neg (by decide)]
  rw [if_neg (by decide)]
  rw [if_neg (by decide)]
  rw [if_neg (by decide)]
  rw [if_neg (by decide)]
  rw [if_neg (by decide)]
  rw [if_neg (by decide)]
  rw [if_neg (by decide)]
  rw [if_neg (by decide)]
  rw [if_neg (by decide)]
  rw [if_neg (by decide)]
  rw [if_neg (by decide)]
  rw [if_neg (by decide)]
  rw [e, fl_c7_eq rfl]
  rfl
/-- the latest comes back: here -/
theorem rs_tk {U L : Int} (hU : ¬ U = 0) (h0 : 0 ≤ L) (h1 : L ≤ 15) (m t s g c : Int) (pl he : Nat → Int) (gI : Nat → Int) (gF : Nat → Nat → Int) : ∃ m1 t1 s1 g1 c1 pl1 he1, Ff_X1_takeLatest U L m t s g c gI gF pl he = (1, U - 1, (L + 15) % 16, m1, t1, s1, g1, c1, pl1, he1) ∧ rs_P gI gF L.toNat m1 t1 s1 g1 c1 pl1 he1 := by
  rcases (show L = 0 ∨ L = 1 ∨ L = 2 ∨ L = 3 ∨ L = 4 ∨ L = 5 ∨ L = 6 ∨ L = 7 ∨ L = 8 ∨ L = 9 ∨ L = 10 ∨ L = 11 ∨ L = 12 ∨ L = 13 ∨ L = 14 ∨ L = 15 by omega) with h | h | h | h | h | h | h | h | h | h | h | h | h | h | h | h
  · subst h
    obtain ⟨pl1, he1, e, q⟩ := rs_tk0 hU m t s g c pl he gI gF
    exact ⟨_, _, _, _, _, pl1, he1, e, rfl, rfl, rfl, rfl, rfl, q⟩
  · subst h
    obtain ⟨pl1, he1, e, q⟩ := rs_tk1 hU m t s g c pl he gI gF
    exact ⟨_, _, _, _, _, pl1, he1, e, rfl, rfl, rfl, rfl, rfl, q⟩
  · subst h
    obtain ⟨pl1, he1, e, q⟩ := rs_tk2 hU m t s g c pl he gI gF
    exact ⟨_, _, _, _, _, pl1, he1, e, rfl, rfl, rfl, rfl, rfl, q⟩
  · subst h
    obtain ⟨pl1, he1, e, q⟩ := rs_tk3 hU m t s g c pl he gI gF
    exact ⟨_, _, _, _, _, pl1, he1, e, rfl, rfl, rfl, rfl, rfl, q⟩
  · subst h
    obtain ⟨pl1, he1, e, q⟩ := rs_tk4 hU m t s g c pl he gI gF
    exact ⟨_, _, _, _, _, pl1, he1, e, rfl, rfl, rfl, rfl, rfl, q⟩
  · subst h
    obtain ⟨pl1, he1, e, q⟩ := rs_tk5 hU m t s g c pl he gI gF
    exact ⟨_, _, _, _, _, pl1, he1, e, rfl, rfl, rfl, rfl, rfl, q⟩
  · subst h
    obtain ⟨pl1, he1, e, q⟩ := rs_tk6 hU m t s g c pl he gI gF
    exact ⟨_, _, _, _, _, pl1, he1, e, rfl, rfl, rfl, rfl, rfl, q⟩
  · subst h
    obtain ⟨pl1, he1, e, q⟩ := rs_tk7 hU m t s g c pl he gI gF
    exact ⟨_, _, _, _, _, pl1, he1, e, rfl, rfl, rfl, rfl, rfl, q⟩
  · subst h
    obtain ⟨pl1, he1, e, q⟩ := rs_tk8 hU m t s g c pl he gI gF
    exact ⟨_, _, _, _, _, pl1, he1, e, rfl, rfl, rfl, rfl, rfl, q⟩
  · subst h
    obtain ⟨pl1, he1, e, q⟩ := rs_tk9 hU m t s g c pl he gI gF
    exact ⟨_, _, _, _, _, pl1, he1, e, rfl, rfl, rfl, rfl, rfl, q⟩
  · subst h
    obtain ⟨pl1, he1, e, q⟩ := rs_tk10 hU m t s g c pl he gI gF
    exact ⟨_, _, _, _, _, pl1, he1, e, rfl, rfl, rfl, rfl, rfl, q⟩
  · subst h
    obtain ⟨pl1, he1, e, q⟩ := rs_tk11 hU m t s g c pl he gI gF
    exact ⟨_, _, _, _, _, pl1, he1, e, rfl, rfl, rfl, rfl, rfl, q⟩
  · subst h
    obtain ⟨pl1, he1, e, q⟩ := rs_tk12 hU m t s g c pl he gI gF
    exact ⟨_, _, _, _, _, pl1, he1, e, rfl, rfl, rfl, rfl, rfl, q⟩
  · subst h
    obtain ⟨pl1, he1, e, q⟩ := rs_tk13 hU m t s g c pl he gI gF
    exact ⟨_, _, _, _, _, pl1, he1, e, rfl, rfl, rfl, rfl, rfl, q⟩
  · subst h
    obtain ⟨pl1, he1, e, q⟩ := rs_tk14 hU m t s g c pl he gI gF
    exact ⟨_, _, _, _, _, pl1, he1, e, rfl, rfl, rfl, rfl, rfl, q⟩
  · subst h
    obtain ⟨pl1, he1, e, q⟩ := rs_tk15 hU m t s g c pl he gI gF
    exact ⟨_, _, _, _, _, pl1, he1, e, rfl, rfl, rfl, rfl, rfl, q⟩
theorem rs_im0 (m t s g c : Int) (pl he : Nat → Int) (gI : Nat → Int) (gF : Nat → Nat → Int) : ∃ pl1 he1, Ff_X1_addImage 0 gI m t s g c pl gF he = (0, 1, fl_nI [m, t, s, g, c, gI 5, gI 6, gI 7, gI 8, gI 9, gI 10, gI 11, gI 12, gI 13, gI 14], fl_nF [pl1, he1, gF 2, gF 3, gF 4, gF 5]) ∧ ∀ k : Nat, k < 9 → pl1 k = pl k ∧ he1 k = he k := by
  obtain ⟨pl1, he1, e, q⟩ := rs_cp m t s g c pl (gF 0) he (gF 1)
  refine ⟨pl1, he1, ?_, q⟩
  unfold Ff_X1_addImage
  rw [if_pos (by decide)]
  rw [if_pos rfl]
  rw [e, fl_c7_eq rfl]
theorem rs_is0 (m t s g c : Int) (pl he : Nat → Int) (gI : Nat → Int) (gF : Nat → Nat → Int) (pl1 he1 : Nat → Int) (hq : ∀ k : Nat, k < 9 → pl1 k = pl k ∧ he1 k = he k) : rs_P (fl_nI [m, t, s, g, c, gI 5, gI 6, gI 7, gI 8, gI 9, gI 10, gI 11, gI 12, gI 13, gI 14]) (fl_nF [pl1, he1, gF 2, gF 3, gF 4, gF 5]) 0 m t s g c pl he ∧ ∀ j : Nat, j < 3 → j ≠ 0 → (∀ x : Nat, x < 5 → (fl_nI [m, t, s, g, c, gI 5, gI 6, gI 7, gI 8, gI 9, gI 10, gI 11, gI 12, gI 13, gI 14]) (5 * j + x) = gI (5 * j + x)) ∧ (fl_nF [pl1, he1, gF 2, gF 3, gF 4, gF 5]) (2 * j) = gF (2 * j) ∧ (fl_nF [pl1, he1, gF 2, gF 3, gF 4, gF 5]) (2 * j + 1) = gF (2 * j + 1) := by
  refine ⟨⟨rfl, rfl, rfl, rfl, rfl, hq⟩, fun j hj hn => ?_⟩
  rcases (show j = 0 ∨ j = 1 ∨ j = 2 by omega) with h | h | h
  · exact absurd h hn
  · subst h
    refine ⟨fun x hx => ?_, rfl, rfl⟩
    rcases (show x = 0 ∨ x = 1 ∨ x = 2 ∨ x = 3 ∨ x = 4 by omega) with h | h | h | h | h <;> (subst h; rfl)
  · subst h
    refine ⟨fun x hx => ?_, rfl, rfl⟩
    rcases (show x = 0 ∨ x = 1 ∨ x = 2 ∨ x = 3 ∨ x = 4 by omega) with h | h | h | h | h <;> (subst h; rfl)
theorem rs_im1 (m t s g c : Int) (pl he : Nat → Int) (gI : Nat → Int) (gF : Nat → Nat → Int) : ∃ pl1 he1, Ff_X1_addImage 1 gI m t s g c pl gF he = (1, 2, fl_nI [gI 0, gI 1, gI 2, gI 3, gI 4, m, t, s, g, c, gI 10, gI 11, gI 12, gI 13, gI 14], fl_nF [gF 0, gF 1, pl1, he1, gF 4, gF 5]) ∧ ∀ k : Nat, k < 9 → pl1 k = pl k ∧ he1 k = he k := by
  obtain ⟨pl1, he1, e, q⟩ := rs_cp m t s g c pl (gF 2) he (gF 3)
  refine ⟨pl1, he1, ?_, q⟩
  unfold Ff_X1_addImage
  rw [if_pos (by decide)]
  rw [if_neg (by decide)]
  rw [if_pos rfl]
  rw [e, fl_c7_eq rfl]
theorem rs_is1 (m t s g c : Int) (pl he : Nat → Int) (gI : Nat → Int) (gF : Nat → Nat → Int) (pl1 he1 : Nat → Int) (hq : ∀ k : Nat, k < 9 → pl1 k = pl k ∧ he1 k = he k) : rs_P (fl_nI [gI 0, gI 1, gI 2, gI 3, gI 4, m, t, s, g, c, gI 10, gI 11, gI 12, gI 13, gI 14]) (fl_nF [gF 0, gF 1, pl1, he1, gF 4, gF 5]) 1 m t s g c pl he ∧ ∀ j : Nat, j < 3 → j ≠ 1 → (∀ x : Nat, x < 5 → (fl_nI [gI 0, gI 1, gI 2, gI 3, gI 4, m, t, s, g, c, gI 10, gI 11, gI 12, gI 13, gI 14]) (5 * j + x) = gI (5 * j + x)) ∧ (fl_nF [gF 0, gF 1, pl1, he1, gF 4, gF 5]) (2 * j) = gF (2 * j) ∧ (fl_nF [gF 0, gF 1, pl1, he1, gF 4, gF 5]) (2 * j + 1) = gF (2 * j + 1) := by
  refine ⟨⟨rfl, rfl, rfl, rfl, rfl, hq⟩, fun j hj hn => ?_⟩
  rcases (show j = 0 ∨ j = 1 ∨ j = 2 by omega) with h | h | h
  · subst h
    refine ⟨fun x hx => ?_, rfl, rfl⟩
    rcases (show x = 0 ∨ x = 1 ∨ x = 2 ∨ x = 3 ∨ x = 4 by omega) with h | h | h | h | h <;> (subst h; rfl)
  · exact absurd h hn
  · subst h
    refine ⟨fun x hx => ?_, rfl, rfl⟩
    rcases (show x = 0 ∨ x = 1 ∨ x = 2 ∨ x = 3 ∨ x = 4 by omega) with h | h | h | h | h <;> (subst h; rfl)
theorem rs_im2 (m t s g c : Int) (pl he : Nat → Int) (gI : Nat → Int) (gF : Nat → Nat → Int) : ∃ pl1 he1, Ff_X1_addImage 2 gI m t s g c pl gF he = (2, 3, fl_nI [gI 0, gI 1, gI 2, gI 3, gI 4, gI 5, gI 6, gI 7, gI 8, gI 9, m, t, s, g, c], fl_nF [gF 0, gF 1, gF 2, gF 3, pl1, he1]) ∧ ∀ k : Nat, k < 9 → pl1 k = pl k ∧ he1 k = he k := by
  obtain ⟨pl1, he1, e, q⟩ := rs_cp m t s g c pl (gF 4) he (gF 5)
  refine ⟨pl1, he1, ?_, q⟩
  unfold Ff_X1_addImage
  rw [if_pos (by decide)]
  rw [if_neg (by decide)]
  rw [if_neg (by decide)]
  rw [e, fl_c7_eq rfl]
theorem rs_is2 (m t s g c : Int) (pl he : Nat → Int) (gI : Nat → Int) (gF : Nat → Nat → Int) (pl1 he1 : Nat → Int) (hq : ∀ k : Nat, k < 9 → pl1 k = pl k ∧ he1 k = he k) : rs_P (fl_nI [gI 0, gI 1, gI 2, gI 3, gI 4, gI 5, gI 6, gI 7, gI 8, gI 9, m, t, s, g, c]) (fl_nF [gF 0, gF 1, gF 2, gF 3, pl1, he1]) 2 m t s g c pl he ∧ ∀ j : Nat, j < 3 → j ≠ 2 → (∀ x : Nat, x < 5 → (fl_nI [gI 0, gI 1, gI 2, gI 3, gI 4, gI 5, gI 6, gI 7, gI 8, gI 9, m, t, s, g, c]) (5 * j + x) = gI (5 * j + x)) ∧ (fl_nF [gF 0, gF 1, gF 2, gF 3, pl1, he1]) (2 * j) = gF (2 * j) ∧ (fl_nF [gF 0, gF 1, gF 2, gF 3, pl1, he1]) (2 * j + 1) = gF (2 * j + 1) := by
  refine ⟨⟨rfl, rfl, rfl, rfl, rfl, hq⟩, fun j hj hn => ?_⟩
  rcases (show j = 0 ∨ j = 1 ∨ j = 2 by omega) with h | h | h
  · subst h
    refine ⟨fun x hx => ?_, rfl, rfl⟩
    rcases (show x = 0 ∨ x = 1 ∨ x = 2 ∨ x = 3 ∨ x = 4 by omega) with h | h | h | h | h <;> (subst h; rfl)
  · subst h
    refine ⟨fun x hx => ?_, rfl, rfl⟩
    rcases (show x = 0 ∨ x = 1 ∨ x = 2 ∨ x = 3 ∨ x = 4 by omega) with h | h | h | h | h <;> (subst h; rfl)
  · exact absurd h hn
/-- an image more: here -/
theorem rs_im {N : Int} (h0 : 0 ≤ N) (h1 : N ≤ 2) (m t s g c : Int) (pl he : Nat → Int) (gI : Nat → Int) (gF : Nat → Nat → Int) : ∃ gI1 gF1, Ff_X1_addImage N gI m t s g c pl gF he = (N, N + 1, gI1, gF1) ∧ rs_P gI1 gF1 N.toNat m t s g c pl he ∧ ∀ j : Nat, j < 3 → j ≠ N.toNat → (∀ x : Nat, x < 5 → gI1 (5 * j + x) = gI (5 * j + x)) ∧ gF1 (2 * j) = gF (2 * j) ∧ gF1 (2 * j + 1) = gF (2 * j + 1) := by
  rcases (show N = 0 ∨ N = 1 ∨ N = 2 by omega) with h | h | h
  · subst h
    obtain ⟨pl1, he1, e, q⟩ := rs_im0 m t s g c pl he gI gF
    exact ⟨_, _, e, rs_is0 m t s g c pl he gI gF pl1 he1 q⟩
  · subst h
    obtain ⟨pl1, he1, e, q⟩ := rs_im1 m t s g c pl he gI gF
    exact ⟨_, _, e, rs_is1 m t s g c pl he gI gF pl1 he1 q⟩
  · subst h
    obtain ⟨pl1, he1, e, q⟩ := rs_im2 m t s g c pl he gI gF
    exact ⟨_, _, e, rs_is2 m t s g c pl he gI gF pl1 he1 q⟩
theorem rs_bk0 {N : Int} (hN : 0 < N) (U m t s g c : Int) (pl he : Nat → Int) (gI : Nat → Int) (gF : Nat → Nat → Int) : ∃ pl1 he1, Ff_X1_goBack 0 U N m t s g c gI gF pl he = (1, 0, gI 0, gI 1, gI 2, gI 3, gI 4, pl1, he1) ∧ ∀ k : Nat, k < 9 → gF 0 k = pl1 k ∧ gF 1 k = he1 k := by
  obtain ⟨pl1, he1, e, q⟩ := rs_cp (gI 0) (gI 1) (gI 2) (gI 3) (gI 4) (gF 0) pl (gF 1) he
  refine ⟨pl1, he1, ?_, fun k hk => ⟨(q k hk).1.symm, (q k hk).2.symm⟩⟩
  unfold Ff_X1_goBack
  rw [fl_lt_eq rfl, fl_lt_eq ((rp_in 0 0 (N - 1)).trans (rp_in1 (by omega) (by omega))).symm, if_pos rfl]
  rw [if_pos rfl]
  rw [e, fl_c7_eq rfl]
theorem rs_bk1 {N : Int} (hN : 1 < N) (U m t s g c : Int) (pl he : Nat → Int) (gI : Nat → Int) (gF : Nat → Nat → Int) : ∃ pl1 he1, Ff_X1_goBack 1 U N m t s g c gI gF pl he = (1, 0, gI 5, gI 6, gI 7, gI 8, gI 9, pl1, he1) ∧ ∀ k : Nat, k < 9 → gF 2 k = pl1 k ∧ gF 3 k = he1 k := by
  obtain ⟨pl1, he1, e, q⟩ := rs_cp (gI 5) (gI 6) (gI 7) (gI 8) (gI 9) (gF 2) pl (gF 3) he
  refine ⟨pl1, he1, ?_, fun k hk => ⟨(q k hk).1.symm, (q k hk).2.symm⟩⟩
  unfold Ff_X1_goBack
  rw [fl_lt_eq rfl, fl_lt_eq ((rp_in 1 0 (N - 1)).trans (rp_in1 (by omega) (by omega))).symm, if_pos rfl]
  rw [if_neg (by decide)]
  rw [if_pos rfl]
  rw [e, fl_c7_eq rfl]
theorem rs_bk2 {N : Int} (hN : 2 < N) (U m t s g c : Int) (pl he : Nat → Int) (gI : Nat → Int) (gF : Nat → Nat → Int) : ∃ pl1 he1, Ff_X1_goBack 2 U N m t s g c gI gF pl he = (1, 0, gI 10, gI 11, gI 12, gI 13, gI 14, pl1, he1) ∧ ∀ k : Nat, k < 9 → gF 4 k = pl1 k ∧ gF 5 k = he1 k := by
  obtain ⟨pl1, he1, e, q⟩ := rs_cp (gI 10) (gI 11) (gI 12) (gI 13) (gI 14) (gF 4) pl (gF 5) he
  refine ⟨pl1, he1, ?_, fun k hk => ⟨(q k hk).1.symm, (q k hk).2.symm⟩⟩
  unfold Ff_X1_goBack
  rw [fl_lt_eq rfl, fl_lt_eq ((rp_in 2 0 (N - 1)).trans (rp_in1 (by omega) (by omega))).symm, if_pos rfl]
  rw [if_neg (by decide)]
  rw [if_neg (by decide)]
  rw [e, fl_c7_eq rfl]
/-- back to an image: here -/
theorem rs_bk {N a : Int} (h0 : 0 ≤ a) (h1 : a < N) (h2 : N ≤ 3) (U m t s g c : Int) (pl he : Nat → Int) (gI : Nat → Int) (gF : Nat → Nat → Int) : ∃ m1 t1 s1 g1 c1 pl1 he1, Ff_X1_goBack a U N m t s g c gI gF pl he = (1, 0, m1, t1, s1, g1, c1, pl1, he1) ∧ rs_P gI gF a.toNat m1 t1 s1 g1 c1 pl1 he1 := by
  rcases (show a = 0 ∨ a = 1 ∨ a = 2 by omega) with h | h | h
  · subst h
    obtain ⟨pl1, he1, e, q⟩ := rs_bk0 h1 U m t s g c pl he gI gF
    exact ⟨_, _, _, _, _, pl1, he1, e, rfl, rfl, rfl, rfl, rfl, q⟩
  · subst h
    obtain ⟨pl1, he1, e, q⟩ := rs_bk1 h1 U m t s g c pl he gI gF
    exact ⟨_, _, _, _, _, pl1, he1, e, rfl, rfl, rfl, rfl, rfl, q⟩
  · subst h
    obtain ⟨pl1, he1, e, q⟩ := rs_bk2 h1 U m t s g c pl he gI gF
    exact ⟨_, _, _, _, _, pl1, he1, e, rfl, rfl, rfl, rfl, rfl, q⟩
end RSD
end P092249603_rs4
section P092249604_rs5
section RSE
theorem rs_S_cg {fg sp mi tu sn go ca : Int} {kd pl he st pl1 he1 st1 : Nat → Int} (hf : fg ≤ 9) (hp : ∀ k : Nat, k < 9 → pl1 k = pl k ∧ he1 k = he k) (hs : ∀ k : Nat, k < 23 → st1 k = st k) (h : rs_S fg sp kd mi tu sn go ca pl he st) : rs_S fg sp kd mi tu sn go ca pl1 he1 st1 := by
  obtain ⟨⟨s1, s2, s3, s4, s5⟩, m0, a2, a3, a4, hk⟩ := h
  refine ⟨⟨?_, ?_, ?_, ?_, ?_⟩, m0, a2, a3, a4, fun k hk' => ?_⟩
  · rw [hs 21 (by decide)]; exact s1
  · rw [hs 19 (by decide)]; exact s2
  · rw [hs 20 (by decide)]; exact s3
  · rw [hs 18 (by decide)]; exact s4
  · rw [hs 22 (by decide)]; exact s5
  · have q := hp k (by omega)
    rw [q.1, q.2, hs k (by omega), hs (9 + k) (by omega)]
    exact hk k hk'
/-- a kept scene in its place, and its row there -/
def rs_L (fg sp : Int) (kd : Nat → Int) (gI : Nat → Int) (gF : Nat → Nat → Int) (j : Nat) (row : Nat → Int) : Prop := rs_S fg sp kd (gI (5 * j)) (gI (5 * j + 1)) (gI (5 * j + 2)) (gI (5 * j + 3)) (gI (5 * j + 4)) (gF (2 * j)) (gF (2 * j + 1)) row ∧ gI (5 * j) ≤ 9999
theorem rs_L_of {fg sp m t s g c : Int} {kd gI pl he row row1 : Nat → Int} {gF : Nat → Nat → Int} {j : Nat} (hf : fg ≤ 9) (hP : rs_P gI gF j m t s g c pl he) (hS : rs_S fg sp kd m t s g c pl he row) (hm : m ≤ 9999) (hr : ∀ k : Nat, k < 23 → row1 k = row k) : rs_L fg sp kd gI gF j row1 := by
  obtain ⟨p1, p2, p3, p4, p5, p6⟩ := hP
  unfold rs_L
  rw [p1, p2, p3, p4, p5]
  exact ⟨rs_S_cg hf p6 hr hS, hm⟩
theorem rs_L_to {fg sp m t s g c : Int} {kd gI pl he row row1 : Nat → Int} {gF : Nat → Nat → Int} {j : Nat} (hf : fg ≤ 9) (hP : rs_P gI gF j m t s g c pl he) (h : rs_L fg sp kd gI gF j row) (hr : ∀ k : Nat, k < 23 → row1 k = row k) : rs_S fg sp kd m t s g c pl he row1 ∧ m ≤ 9999 := by
  obtain ⟨p1, p2, p3, p4, p5, p6⟩ := hP
  unfold rs_L at h
  rw [p1, p2, p3, p4, p5] at h
  exact ⟨rs_S_cg hf (fun k hk => ⟨(p6 k hk).1.symm, (p6 k hk).2.symm⟩) hr h.1, h.2⟩
theorem rs_L_same {fg sp : Int} {kd gI gI1 row row1 : Nat → Int} {gF gF1 : Nat → Nat → Int} {j : Nat} (hf : fg ≤ 9) (hI : ∀ x : Nat, x < 5 → gI1 (5 * j + x) = gI (5 * j + x)) (h1 : gF1 (2 * j) = gF (2 * j)) (h2 : gF1 (2 * j + 1) = gF (2 * j + 1)) (h : rs_L fg sp kd gI gF j row) (hr : ∀ k : Nat, k < 23 → row1 k = row k) : rs_L fg sp kd gI1 gF1 j row1 := by
  unfold rs_L at h ⊢
  have e0 : gI1 (5 * j) = gI (5 * j) := hI 0 (by decide)
  rw [e0, hI 1 (by decide), hI 2 (by decide), hI 3 (by decide), hI 4 (by decide), h1, h2]
  exact ⟨rs_S_cg hf (fun _ _ => ⟨rfl, rfl⟩) hr h.1, h.2⟩
/-- what can be undone: here and there -/
def rs_H (fg sp : Int) (kd : Nat → Int) (U L : Int) (gI : Nat → Int) (gF : Nat → Nat → Int) (und : Nat → Int) : Prop := (0 ≤ U ∧ U ≤ 16) ∧ (0 ≤ L ∧ L ≤ 15) ∧ ∀ i : Nat, (i : Int) < U → rs_L fg sp kd gI gF ((L.toNat + 16 - i) % 16) (fun k => und (23 * (U.toNat - 1 - i) + k))
/-- images: here and there -/
def rs_I (fg sp : Int) (kd : Nat → Int) (N : Int) (gI : Nat → Int) (gF : Nat → Nat → Int) (kp : Nat → Int) : Prop := (0 ≤ N ∧ N ≤ 3) ∧ ∀ i : Nat, (i : Int) < N → rs_L fg sp kd gI gF i (fun k => kp (23 * i + k))
theorem rs_cpi {f g : Nat → Int} {sp dp k : Nat} (hk : k < 23) : va_cpy f g sp dp 23 (dp + k) = f (sp + k) := by
  unfold va_cpy
  rw [if_pos (by omega), show dp + k - dp = k by omega]
theorem rs_cpo {f g : Nat → Int} {sp dp k : Nat} (hk : ¬ (dp ≤ k ∧ k < dp + 23)) : va_cpy f g sp dp 23 k = g k := by
  unfold va_cpy
  rw [if_neg hk]
/-- the oldest gives way: there -/
theorem rs_sh2 {U : Int} {st und : Nat → Int} : ∀ (m : Nat) (j : Nat) (u : Nat → Int), 346 ≤ m + j → j ≤ 345 → (∀ k : Nat, k < j → u k = und (k + 23)) → (∀ k : Nat, j ≤ k → u k = und k) →
    ∃ u1, fl_wh (fun t9 : Int × (Nat → Int) => Sf_X8_note_11_1 U st t9.1 t9.2) (0, (fun _ => 0)) m ((j : Int), u) = (U - 1 + 1, va_cpy st u1 0 (23 * (U - 1)).toNat 23) ∧ ∀ k : Nat, k < 345 → u1 k = und (k + 23) := by
  intro m
  induction m with
  | zero => intro j u h1 h2; omega
  | succ m ih =>
    intro j u h1 h2 h3 h4
    by_cases hj : 345 ≤ j
    · refine ⟨u, fl_wh_r (step := fun t9 : Int × (Nat → Int) => Sf_X8_note_11_1 U st t9.1 t9.2) (s := ((j : Int), u)) ?_, fun k hk => h3 k (by omega)⟩
      show Sf_X8_note_11_1 U st (j : Int) u = _
      unfold Sf_X8_note_11_1
      rw [if_pos (by omega)]
      rfl
    · have st1 : Sf_X8_note_11_1 U st (j : Int) u = .inl (((j + 1 : Nat) : Int), fl_up u j (und (j + 23))) := by
        unfold Sf_X8_note_11_1
        rw [if_neg (by omega), fl_lt_eq rfl, fl_lt_eq rfl, fl_lt_eq rfl, fl_lt_eq rfl, show ((j : Int) + 23).toNat = j + 23 by omega, h4 (j + 23) (by omega), Int.toNat_natCast]
        rfl
      obtain ⟨u1, e1, e2⟩ := ih (j + 1) (fl_up u j (und (j + 23))) (by omega) (by omega) (fun k hk => by
        by_cases q : k = j
        · rw [q, rp_up_eq]
        · rw [rp_up_ne _ _ q]; exact h3 k (by omega)) (fun k hk => by rw [rp_up_ne _ _ (by omega)]; exact h4 k (by omega))
      exact ⟨u1, (fl_wh_l (step := fun t9 : Int × (Nat → Int) => Sf_X8_note_11_1 U st t9.1 t9.2) (s := ((j : Int), u)) st1).trans e1, e2⟩
theorem rs_nt {U : Int} (h0 : 0 ≤ U) (h1 : U ≤ 16) (st und : Nat → Int) : ∃ und1, Ff_X8_note U st und = (fl_min (U + 1) 16, und1) ∧ (∀ k : Nat, k < 23 → und1 (23 * ((fl_min (U + 1) 16).toNat - 1) + k) = st k) ∧ ∀ i : Nat, 1 ≤ i → (i : Int) < fl_min (U + 1) 16 → ∀ k : Nat, k < 23 → und1 (23 * ((fl_min (U + 1) 16).toNat - 1 - i) + k) = und (23 * (U.toNat - 1 - (i - 1)) + k) := by
  by_cases hU : U = 16
  · subst hU
    have em : fl_min (16 + 1) 16 = 16 := by decide
    rw [em]
    obtain ⟨u1, e1, e2⟩ := rs_sh2 (U := 16) (st := st) (und := und) 346 0 und (by omega) (by omega) (fun k hk => by omega) (fun k hk => rfl)
    refine ⟨va_cpy st u1 0 (23 * ((16 : Int) - 1)).toNat 23, ?_, ?_, ?_⟩
    · unfold Ff_X8_note
      rw [if_pos rfl]
      exact e1
    · intro k hk
      have := rs_cpi (f := st) (g := u1) (sp := 0) (dp := 345) hk
      rw [Nat.zero_add] at this
      exact this
    · intro i i1 i2 k hk
      have q : 23 * ((16 : Int).toNat - 1 - i) + k = 23 * (15 - i) + k := rfl
      rw [q]
      have c : va_cpy st u1 0 (23 * ((16 : Int) - 1)).toNat 23 (23 * (15 - i) + k) = u1 (23 * (15 - i) + k) := rs_cpo (f := st) (g := u1) (sp := 0) (dp := 345) (by omega)
      rw [c, e2 _ (by omega)]
      have z : 23 * (15 - i) + k + 23 = 23 * ((16 : Int).toNat - 1 - (i - 1)) + k := by
        show 23 * (15 - i) + k + 23 = 23 * (15 - (i - 1)) + k
        omega
      rw [z]
  · have em : fl_min (U + 1) 16 = U + 1 := by unfold fl_min; rw [if_neg (by omega)]
    rw [em]
    refine ⟨va_cpy st und 0 (23 * U).toNat 23, ?_, ?_, ?_⟩
    · unfold Ff_X8_note
      rw [if_neg hU]
      rfl
    · intro k hk
      have := rs_cpi (f := st) (g := und) (sp := 0) (dp := (23 * U).toNat) hk
      rw [Nat.zero_add] at this
      rw [show 23 * ((U + 1).toNat - 1) + k = (23 * U).toNat + k by omega]
      exact this
    · intro i i1 i2 k hk
      rw [rs_cpo (by omega), show 23 * ((U + 1).toNat - 1 - i) + k = 23 * (U.toNat - 1 - (i - 1)) + k by omega]
/-- an act comes: how it is now is kept, here and there -/
theorem rs_H_keep {fg sp m t s g c U L : Int} {kd pl he st und gI : Nat → Int} {gF : Nat → Nat → Int} (hf : fg ≤ 9) (hH : rs_H fg sp kd U L gI gF und) (hS : rs_S fg sp kd m t s g c pl he st) (hm : m ≤ 9999) :
    ∃ U1 L1 gI1 gF1 und1, Ff_X1_keep U L gI m t s g c pl gF he = (U1, L1, gI1, gF1) ∧ Ff_X8_note U st und = (U1, und1) ∧ rs_H fg sp kd U1 L1 gI1 gF1 und1 := by
  obtain ⟨⟨u0, u1⟩, ⟨l0, l1⟩, hk⟩ := hH
  obtain ⟨gI1, gF1, e1, e2, e3⟩ := rs_kp l0 l1 U m t s g c pl he gI gF
  obtain ⟨und1, d1, d2, d3⟩ := rs_nt u0 u1 st und
  have mU : 1 ≤ fl_min (U + 1) 16 ∧ fl_min (U + 1) 16 ≤ 16 ∧ fl_min (U + 1) 16 ≤ U + 1 := by
    unfold fl_min
    split <;> omega
  refine ⟨_, _, gI1, gF1, und1, e1, d1, ⟨by omega, mU.2.1⟩, ⟨by omega, by omega⟩, fun i hi => ?_⟩
  by_cases i0 : i = 0
  · subst i0
    have eL : (((L + 1) % 16).toNat + 16 - 0) % 16 = ((L + 1) % 16).toNat := by omega
    rw [eL]
    exact rs_L_of hf e2 hS hm (fun k hk' => d2 k hk')
  · have hi1 : ((i - 1 : Nat) : Int) < U := by omega
    have eL : (((L + 1) % 16).toNat + 16 - i) % 16 = (L.toNat + 16 - (i - 1)) % 16 := by omega
    have hne : (L.toNat + 16 - (i - 1)) % 16 ≠ ((L + 1) % 16).toNat := by omega
    rw [eL]
    obtain ⟨q1, q2, q3⟩ := e3 _ (by omega) hne
    exact rs_L_same hf q1 q2 q3 (hk (i - 1) hi1) (fun k hk' => d3 i (by omega) hi k hk')
/-- one is undone, here and there -/
theorem rs_H_undo {fg sp U L : Int} {kd und gI st : Nat → Int} {gF : Nat → Nat → Int} (hf : fg ≤ 9) (hH : rs_H fg sp kd U L gI gF und) (hU : ¬ U = 0) (m t s g c : Int) (pl he : Nat → Int) :
    ∃ m1 t1 s1 g1 c1 pl1 he1, Ff_X1_takeLatest U L m t s g c gI gF pl he = (1, U - 1, (L + 15) % 16, m1, t1, s1, g1, c1, pl1, he1) ∧ rs_S fg sp kd m1 t1 s1 g1 c1 pl1 he1 (va_cpy und st (23 * (U - 1)).toNat 0 23) ∧ m1 ≤ 9999 ∧ rs_H fg sp kd (U - 1) ((L + 15) % 16) gI gF und := by
  obtain ⟨⟨u0, u1⟩, ⟨l0, l1⟩, hk⟩ := hH
  obtain ⟨m1, t1, s1, g1, c1, pl1, he1, e1, e2⟩ := rs_tk hU l0 l1 m t s g c pl he gI gF
  have h0 := hk 0 (by omega)
  have eL : (L.toNat + 16 - 0) % 16 = L.toNat := by omega
  rw [eL] at h0
  obtain ⟨q1, q2⟩ := rs_L_to (row1 := va_cpy und st (23 * (U - 1)).toNat 0 23) hf e2 h0 (fun k hk' => by
    have := rs_cpi (f := und) (g := st) (sp := (23 * (U - 1)).toNat) (dp := 0) hk'
    rw [Nat.zero_add] at this
    rw [this]
    show und ((23 * (U - 1)).toNat + k) = und (23 * (U.toNat - 1 - 0) + k)
    rw [show (23 * (U - 1)).toNat + k = 23 * (U.toNat - 1 - 0) + k by omega])
  refine ⟨m1, t1, s1, g1, c1, pl1, he1, e1, q1, q2, ⟨by omega, by omega⟩, ⟨by omega, by omega⟩, fun i hi => ?_⟩
  have := hk (i + 1) (by omega)
  rw [show (L.toNat + 16 - (i + 1)) % 16 = (((L + 15) % 16).toNat + 16 - i) % 16 by omega, show U.toNat - 1 - (i + 1) = (U - 1).toNat - 1 - i by omega] at this
  exact this
/-- an image more, here and there -/
theorem rs_I_add {fg sp m t s g c N : Int} {kd pl he st kp gI : Nat → Int} {gF : Nat → Nat → Int} (hf : fg ≤ 9) (hI : rs_I fg sp kd N gI gF kp) (hN : N ≤ 2) (hS : rs_S fg sp kd m t s g c pl he st) (hm : m ≤ 9999) :
    ∃ gI1 gF1, Ff_X1_addImage N gI m t s g c pl gF he = (N, N + 1, gI1, gF1) ∧ rs_I fg sp kd (N + 1) gI1 gF1 (va_cpy st kp 0 (23 * N).toNat 23) := by
  obtain ⟨⟨n0, n1⟩, hk⟩ := hI
  obtain ⟨gI1, gF1, e1, e2, e3⟩ := rs_im n0 hN m t s g c pl he gI gF
  refine ⟨gI1, gF1, e1, ⟨by omega, by omega⟩, fun i hi => ?_⟩
  by_cases q : i = N.toNat
  · rw [← q] at e2
    refine rs_L_of hf e2 hS hm (fun k hk' => ?_)
    have := rs_cpi (f := st) (g := kp) (sp := 0) (dp := (23 * N).toNat) hk'
    rw [Nat.zero_add] at this
    show va_cpy st kp 0 (23 * N).toNat 23 (23 * i + k) = st k
    rw [show 23 * i + k = (23 * N).toNat + k by omega]
    exact this
  · obtain ⟨q1, q2, q3⟩ := e3 i (by omega) q
    exact rs_L_same hf q1 q2 q3 (hk i (by omega)) (fun k hk' => rs_cpo (by omega))
/-- back to an image, here and there -/
theorem rs_I_back {fg sp N a : Int} {kd kp gI st : Nat → Int} {gF : Nat → Nat → Int} (hf : fg ≤ 9) (hI : rs_I fg sp kd N gI gF kp) (h0 : 0 ≤ a) (h1 : a < N) (U m t s g c : Int) (pl he : Nat → Int) :
    ∃ m1 t1 s1 g1 c1 pl1 he1, Ff_X1_goBack a U N m t s g c gI gF pl he = (1, 0, m1, t1, s1, g1, c1, pl1, he1) ∧ rs_S fg sp kd m1 t1 s1 g1 c1 pl1 he1 (va_cpy kp st (23 * a).toNat 0 23) ∧ m1 ≤ 9999 := by
  obtain ⟨⟨n0, n1⟩, hk⟩ := hI
  obtain ⟨m1, t1, s1, g1, c1, pl1, he1, e1, e2⟩ := rs_bk h0 h1 n1 U m t s g c pl he gI gF
  obtain ⟨q1, q2⟩ := rs_L_to (row1 := va_cpy kp st (23 * a).toNat 0 23) hf e2 (hk a.toNat (by omega)) (fun k hk' => by
    have := rs_cpi (f := kp) (g := st) (sp := (23 * a).toNat) (dp := 0) hk'
    rw [Nat.zero_add] at this
    rw [this]
    show kp ((23 * a).toNat + k) = kp (23 * a.toNat + k)
    rw [show (23 * a).toNat + k = 23 * a.toNat + k by omega])
  exact ⟨m1, t1, s1, g1, c1, pl1, he1, e1, q1, q2⟩
end RSE
end P092249604_rs5
section P092249605_rs6
section RSF
theorem rs_tn (a lo hi fg : Int) : Ff_X7_troubleOfNumber a lo hi fg = if fg ≤ 0 then 1 else if lo ≤ a ∧ a ≤ hi then 0 else 2 := by
  unfold Ff_X7_troubleOfNumber Ff_X7_hasGallery
  by_cases h1 : fg ≤ 0
  · rw [if_pos h1, if_pos h1]; rfl
  · rw [if_neg h1, if_neg h1, fl_lt_eq rfl, if_pos rfl, rp_in]
    by_cases h2 : lo ≤ a ∧ a ≤ hi
    · rw [if_pos h2, rp_in1 h2.1 h2.2]; rfl
    · rw [if_neg h2, rp_in0 h2]; rfl
theorem rs_isf (a fg : Int) : Ff_X7_isFigure a fg = if 0 ≤ a ∧ a ≤ fg - 1 then 1 else 0 := by
  unfold Ff_X7_isFigure
  rw [fl_lt_eq rfl, rp_in]
  by_cases h2 : 0 ≤ a ∧ a ≤ fg - 1
  · rw [if_pos h2, rp_in1 h2.1 h2.2]; rfl
  · rw [if_neg h2, rp_in0 h2]; rfl
theorem rs_isfm (a : Int) (r : Nat → Int) : Ff_X8_isFigure a 1 r = if 0 ≤ a ∧ a ≤ r 0 - 1 then 1 else 0 := by
  unfold Ff_X8_isFigure
  rw [if_neg (by decide), fl_lt_eq rfl, fl_lt_eq rfl]
  by_cases h2 : 0 ≤ a ∧ a ≤ r 0 - 1
  · rw [if_pos h2, rp_in1 h2.1 h2.2]; rfl
  · rw [if_neg h2, rp_in0 h2]; rfl
/-- the watchers as told: there -/
theorem rs_wt {r : Nat → Int} (h0 : 0 ≤ r 5) (h3 : r 5 ≤ 3) : ∀ (m : Nat) (j : Nat) (f t : Nat → Int), r 5 + 1 - (j : Int) ≤ (m : Int) → (j : Int) ≤ r 5 → (∀ w : Nat, w < j → f w = r (30 + 2 * w) ∧ t w = r (31 + 2 * w)) →
    ∃ f1 t1, fl_wh (fun t9 : Int × (Nat → Int) × (Nat → Int) => Sf_X8_watchAsTold_2_1 r t9.1 t9.2.1 t9.2.2) (0, (fun _ => 0), (fun _ => 0)) m ((j : Int), f, t) = (0, f1, t1) ∧ ∀ w : Nat, (w : Int) < r 5 → f1 w = r (30 + 2 * w) ∧ t1 w = r (31 + 2 * w) := by
  intro m
  induction m with
  | zero => intro j f t h1 h2; omega
  | succ m ih =>
    intro j f t h1 h2 hw
    by_cases hj : r 5 ≤ (j : Int)
    · refine ⟨f, t, fl_wh_r (step := fun t9 : Int × (Nat → Int) × (Nat → Int) => Sf_X8_watchAsTold_2_1 r t9.1 t9.2.1 t9.2.2) (s := ((j : Int), f, t)) ?_, fun w hw' => hw w (by omega)⟩
      show Sf_X8_watchAsTold_2_1 r (j : Int) f t = _
      unfold Sf_X8_watchAsTold_2_1
      rw [fl_lt_eq rfl, if_pos hj]
    · have st1 : Sf_X8_watchAsTold_2_1 r (j : Int) f t = .inl (((j + 1 : Nat) : Int), fl_up f j (r (30 + 2 * j)), fl_up t j (r (31 + 2 * j))) := by
        unfold Sf_X8_watchAsTold_2_1
        rw [fl_lt_eq rfl, if_neg hj]
        simp only [fl_lt]
        rw [Int.toNat_natCast, show (30 + 2 * (j : Int)).toNat = 30 + 2 * j by omega, show (30 + 2 * (j : Int) + 1).toNat = 31 + 2 * j by omega]
        rfl
      obtain ⟨f1, t1, e1, e2⟩ := ih (j + 1) (fl_up f j (r (30 + 2 * j))) (fl_up t j (r (31 + 2 * j))) (by omega) (by omega) (fun w hw' => by
        by_cases q : w = j
        · rw [q, rp_up_eq, rp_up_eq]; exact ⟨rfl, rfl⟩
        · rw [rp_up_ne _ _ q, rp_up_ne _ _ q]; exact hw w (by omega))
      exact ⟨f1, t1, (fl_wh_l (step := fun t9 : Int × (Nat → Int) × (Nat → Int) => Sf_X8_watchAsTold_2_1 r t9.1 t9.2.1 t9.2.2) (s := ((j : Int), f, t)) st1).trans e1, e2⟩
/-- the watchers told, here and there -/
def rs_D (wc po : Int) (wf wt r : Nat → Int) : Prop := wc = r 5 ∧ 0 ≤ wc ∧ wc ≤ 3 ∧ po = 0 ∧ ∀ w : Nat, (w : Int) < wc → wf w = r (30 + 2 * w) ∧ wt w = r (31 + 2 * w) ∧ (0 ≤ r (30 + 2 * w) ∧ r (30 + 2 * w) ≤ 8) ∧ (0 ≤ r (31 + 2 * w) ∧ r (31 + 2 * w) ≤ 8)
theorem rs_told {wc po : Int} {wf wt r : Nat → Int} (h : rs_D wc po wf wt r) (f0 t0 : Nat → Int) : ∃ f1 t1, Ff_X8_watchAsTold r f0 t0 = (0, f1, t1) ∧ rs_W wc po wf wt 0 r f1 t1 := by
  obtain ⟨h1, h2, h3, h4, h5⟩ := h
  obtain ⟨f1, t1, e1, e2⟩ := rs_wt (r := r) (by omega) (by omega) 4 0 f0 t0 (by omega) (by omega) (fun w hw => by omega)
  refine ⟨f1, t1, e1, h1, h2, h3, h4, by omega, by omega, fun w hw => ?_⟩
  obtain ⟨q1, q2, q3, q4⟩ := h5 w hw
  obtain ⟨p1, p2⟩ := e2 w (by omega)
  rw [p1, p2]
  exact ⟨q1, q2, q3, q4⟩
/-- minutes of go: here and there -/
theorem rs_gol {n fg sp sa ti pu g0 wc po U1 L1 v0 v11 sd : Int} {kd me wf wt r f1 t1 gI1 und1 : Nat → Int} {gF1 : Nat → Nat → Int} (hG : rs_G fg sp sa ti pu kd me r) (hW : rs_W wc po wf wt sd r f1 t1) :
    ∀ (d : Nat) (m1 m2 : Nat) (j mi tu sn go ca y1 y2 y3 : Int) (pl he st : Nat → Int), n - j = (d : Int) → d + 1 ≤ m1 → d + 1 ≤ m2 → rs_S fg sp kd mi tu sn go ca pl he st → mi + (d : Int) ≤ 9999 →
    ∃ mi1 tu1 sn1 go1 ca1 z1 z2 z3 pl1 he1 st1, fl_wh (fun t9 : Int × Int × Int × Int × Int × Int × (Nat → Int) × (Nat → Int) => Sf_X7_go_62_1 n fg sp sa ti pu g0 kd me wc po wt wf U1 L1 gI1 gF1 t9.1 t9.2.1 t9.2.2.1 t9.2.2.2.1 t9.2.2.2.2.1 t9.2.2.2.2.2.1 t9.2.2.2.2.2.2.1 t9.2.2.2.2.2.2.2) (0, 0, 0, 0, 0, 0, 0, 0, 0, (fun _ => 0), (fun _ => 0), (fun _ _ => 0), (fun _ => 0)) m1 (j, mi, tu, sn, go, ca, pl, he) = (fl_and go1 (fl_xor g0 (-1)), 0, mi1, tu1, sn1, go1, ca1, U1, L1, gI1, pl1, gF1, he1) ∧
      fl_wh (fun t9 : Int × Int × Int × Int × (Nat → Int) => Sf_X8_go_70_1 n r v0 v11 U1 und1 sd f1 t1 g0 t9.1 t9.2.1 t9.2.2.1 t9.2.2.2.1 t9.2.2.2.2) (0, 0, 0, 0, 0, 0, 0, 0, (fun _ => 0), (fun _ => 0), (fun _ => 0), (fun _ => 0)) m2 (j, y1, y2, y3, st) = (fl_and go1 (fl_xor g0 (-1)), v0, v11, U1, sd, z1, z2, z3, st1, und1, f1, t1) ∧ rs_S fg sp kd mi1 tu1 sn1 go1 ca1 pl1 he1 st1 ∧ mi1 ≤ 9999 := by
  intro d
  induction d with
  | zero =>
    intro m1 m2 j mi tu sn go ca y1 y2 y3 pl he st hd h1 h2 hS hm
    obtain ⟨m1, rfl⟩ : ∃ q, m1 = q + 1 := ⟨m1 - 1, by omega⟩
    obtain ⟨m2, rfl⟩ : ∃ q, m2 = q + 1 := ⟨m2 - 1, by omega⟩
    obtain ⟨⟨s1, s2, s3, s4, s5⟩, -⟩ := id hS
    refine ⟨mi, tu, sn, go, ca, y1, y2, y3, pl, he, st, fl_wh_r (step := fun t9 : Int × Int × Int × Int × Int × Int × (Nat → Int) × (Nat → Int) => Sf_X7_go_62_1 n fg sp sa ti pu g0 kd me wc po wt wf U1 L1 gI1 gF1 t9.1 t9.2.1 t9.2.2.1 t9.2.2.2.1 t9.2.2.2.2.1 t9.2.2.2.2.2.1 t9.2.2.2.2.2.2.1 t9.2.2.2.2.2.2.2) (s := (j, mi, tu, sn, go, ca, pl, he)) ?_, fl_wh_r (step := fun t9 : Int × Int × Int × Int × (Nat → Int) => Sf_X8_go_70_1 n r v0 v11 U1 und1 sd f1 t1 g0 t9.1 t9.2.1 t9.2.2.1 t9.2.2.2.1 t9.2.2.2.2) (s := (j, y1, y2, y3, st)) ?_, hS, by omega⟩
    · show Sf_X7_go_62_1 n fg sp sa ti pu g0 kd me wc po wt wf U1 L1 gI1 gF1 j mi tu sn go ca pl he = _
      unfold Sf_X7_go_62_1
      rw [if_pos (by omega)]
      rfl
    · show Sf_X8_go_70_1 n r v0 v11 U1 und1 sd f1 t1 g0 j y1 y2 y3 st = _
      unfold Sf_X8_go_70_1
      rw [if_pos (by omega), ← s4]
      rfl
  | succ d ih =>
    intro m1 m2 j mi tu sn go ca y1 y2 y3 pl he st hd h1 h2 hS hm
    obtain ⟨m1, rfl⟩ : ∃ q, m1 = q + 1 := ⟨m1 - 1, by omega⟩
    obtain ⟨m2, rfl⟩ : ∃ q, m2 = q + 1 := ⟨m2 - 1, by omega⟩
    obtain ⟨tu1, sn1, go1, ca1, pl1, he1, st1, e1, e2, e3⟩ := rs_pass hG hW hS (by omega)
    obtain ⟨mi2, tu2, sn2, go2, ca2, z1, z2, z3, pl2, he2, st2, q1, q2, q3, q4⟩ := ih m1 m2 (j + 1) (mi + 1) tu1 sn1 go1 ca1 tu _ _ pl1 he1 st1 (by omega) (by omega) (by omega) e3 (by omega)
    refine ⟨mi2, tu2, sn2, go2, ca2, z1, z2, z3, pl2, he2, st2, (fl_wh_l (step := fun t9 : Int × Int × Int × Int × Int × Int × (Nat → Int) × (Nat → Int) => Sf_X7_go_62_1 n fg sp sa ti pu g0 kd me wc po wt wf U1 L1 gI1 gF1 t9.1 t9.2.1 t9.2.2.1 t9.2.2.2.1 t9.2.2.2.2.1 t9.2.2.2.2.2.1 t9.2.2.2.2.2.2.1 t9.2.2.2.2.2.2.2) (s := (j, mi, tu, sn, go, ca, pl, he)) ?_).trans q1, (fl_wh_l (step := fun t9 : Int × Int × Int × Int × (Nat → Int) => Sf_X8_go_70_1 n r v0 v11 U1 und1 sd f1 t1 g0 t9.1 t9.2.1 t9.2.2.1 t9.2.2.2.1 t9.2.2.2.2) (s := (j, y1, y2, y3, st)) ?_).trans q2, q3, q4⟩
    · show Sf_X7_go_62_1 n fg sp sa ti pu g0 kd me wc po wt wf U1 L1 gI1 gF1 j mi tu sn go ca pl he = _
      unfold Sf_X7_go_62_1
      rw [if_neg (by omega), e1, fl_c7_eq rfl]
      rfl
    · show Sf_X8_go_70_1 n r v0 v11 U1 und1 sd f1 t1 g0 j y1 y2 y3 st = _
      unfold Sf_X8_go_70_1
      rw [if_neg (by omega), e2, fl_c4_eq rfl]
      rfl
/-- go: here and there -/
theorem rs_go {fg sp sa ti pu wc po mi tu sn go ca U L : Int} {kd me wf wt r pl he st und gI : Nat → Int} {gF : Nat → Nat → Int} (hG : rs_G fg sp sa ti pu kd me r) (hD : rs_D wc po wf wt r) (hS : rs_S fg sp kd mi tu sn go ca pl he st) (hm : mi ≤ 9999) (hH : rs_H fg sp kd U L gI gF und) (n x5 x6 x7 x8 : Int) (f0 t0 : Nat → Int) :
    ∃ R tr mi1 tu1 sn1 go1 ca1 U1 L1 z5 z6 z7 z8 gI1 pl1 gF1 he1 st1 und1 f1 t1, Ff_X7_go n fg sp sa ti pu mi tu sn go ca U L gI pl gF he kd me wc po wt wf = (R, tr, mi1, tu1, sn1, go1, ca1, U1, L1, gI1, pl1, gF1, he1) ∧ Ff_X8_go n 1 U x5 x6 x7 x8 st und r f0 t0 = (R, 0, tr, U1, z5, z6, z7, z8, st1, und1, f1, t1) ∧ rs_S fg sp kd mi1 tu1 sn1 go1 ca1 pl1 he1 st1 ∧ mi1 ≤ 9999 ∧ rs_H fg sp kd U1 L1 gI1 gF1 und1 := by
  obtain ⟨⟨f1, f2, f3⟩, -⟩ := id hG
  obtain ⟨⟨s1, s2, s3, s4, s5⟩, m0, -⟩ := id hS
  have hg : ¬ fg ≤ 0 := by omega
  by_cases hn : 1 ≤ n ∧ n ≤ 60
  · have et : Ff_X7_troubleOfNumber n 1 60 fg = 0 := by rw [rs_tn, if_neg hg, if_pos hn]
    have ei : Ff_X8_in n 1 60 = 1 := rp_in1 hn.1 hn.2
    have ea : fl_iadd mi n = mi + n := rp_iadd (by omega) (by omega) (by omega) (by omega) (by omega) (by omega)
    by_cases hr : mi + n ≤ 9999
    · obtain ⟨U1, L1, gI1, gF1, und1, k1, k2, k3⟩ := rs_H_keep f3 hH hS hm
      obtain ⟨f1', t1', w1, w2⟩ := rs_told hD f0 t0
      obtain ⟨mi1, tu1, sn1, go1, ca1, z1, z2, z3, pl1, he1, st1, q1, q2, q3, q4⟩ := rs_gol (n := n) (g0 := go) (U1 := U1) (L1 := L1) (v0 := 0) (v11 := 0) (gI1 := gI1) (und1 := und1) (gF1 := gF1) hG w2 n.toNat 61 2147483648 0 mi tu sn go ca x6 x7 x8 pl he st (by omega) (by omega) (by omega) hS (by omega)
      refine ⟨fl_and go1 (fl_xor go (-1)), 0, mi1, tu1, sn1, go1, ca1, U1, L1, 0, z1, z2, z3, gI1, pl1, gF1, he1, st1, und1, f1', t1', ?_, ?_, q3, q4, k3⟩
      · unfold Ff_X7_go
        rw [et, fl_lt_eq rfl, if_pos rfl, ea, fl_lt_eq rfl, if_pos hr, k1, fl_c4_eq rfl]
        exact q1
      · unfold Ff_X8_go Ff_X8_good
        rw [fl_c2_eq rfl, ei, fl_lt_eq rfl, if_pos rfl, show Ff_X8_why 1 1 = 0 from rfl, fl_lt_eq rfl, if_neg (by decide), if_neg (by decide), fl_lt_eq rfl, ← s1, ea, fl_lt_eq rfl, if_pos hr]
        unfold Gf_X8_go_41_1
        rw [if_pos rfl, k2, fl_c2_eq rfl, w1, fl_c3_eq rfl, fl_lt_eq rfl, ← s4]
        exact q2
    · refine ⟨-1, 3, mi, tu, sn, go, ca, U, L, x5, x6, x7, x8, gI, pl, gF, he, st, und, f0, t0, ?_, ?_, hS, hm, hH⟩
      · unfold Ff_X7_go
        rw [et, fl_lt_eq rfl, if_pos rfl, ea, fl_lt_eq rfl, if_neg hr]
        rfl
      · unfold Ff_X8_go Ff_X8_good
        rw [fl_c2_eq rfl, ei, fl_lt_eq rfl, if_pos rfl, show Ff_X8_why 1 1 = 0 from rfl, fl_lt_eq rfl, if_neg (by decide), if_neg (by decide), fl_lt_eq rfl, ← s1, ea, fl_lt_eq rfl, if_neg hr]
        unfold Gf_X8_go_41_1
        rw [if_neg (by decide)]
        rfl
  · have et : Ff_X7_troubleOfNumber n 1 60 fg = 2 := by rw [rs_tn, if_neg hg, if_neg hn]
    have ei : Ff_X8_in n 1 60 = 0 := rp_in0 hn
    refine ⟨-1, 2, mi, tu, sn, go, ca, U, L, x5, x6, x7, x8, gI, pl, gF, he, st, und, f0, t0, ?_, ?_, hS, hm, hH⟩
    · unfold Ff_X7_go
      rw [et, fl_lt_eq rfl, if_neg (by decide), if_neg (by decide)]
      rfl
    · unfold Ff_X8_go Ff_X8_good
      rw [fl_c2_eq rfl, ei, fl_lt_eq rfl, if_neg (by decide), show Ff_X8_why 1 0 = 2 from rfl, fl_lt_eq rfl, if_pos rfl]
      unfold Gf_X8_go_41_2
      rw [if_neg (by decide)]
      rfl
/-- put: here and there -/
theorem rs_put {fg sp sa ti pu mi tu sn go ca U L : Int} {kd me r pl he st und gI : Nat → Int} {gF : Nat → Nat → Int} (hG : rs_G fg sp sa ti pu kd me r) (hS : rs_S fg sp kd mi tu sn go ca pl he st) (hm : mi ≤ 9999) (hH : rs_H fg sp kd U L gI gF und) (a : Int) :
    ∃ R tr U1 L1 gI1 pl1 gF1 st1 und1, Ff_X7_put a fg mi tu sn go ca pl U L gI gF he = (R, tr, pl1, U1, L1, gI1, gF1) ∧ Ff_X8_put a 1 U r st und = (R, 0, tr, U1, st1, und1) ∧ rs_S fg sp kd mi tu sn go ca pl1 he st1 ∧ rs_H fg sp kd U1 L1 gI1 gF1 und1 := by
  obtain ⟨⟨f1, f2, f3⟩, -⟩ := id hG
  obtain ⟨⟨s1, s2, s3, s4, s5⟩, m0, -, -, -, hk⟩ := id hS
  by_cases h : 0 ≤ a ∧ a ≤ fg - 1
  · have e1 : Ff_X7_isFigure a fg = 1 := by rw [rs_isf, if_pos h]
    have e2 : Ff_X8_isFigure a 1 r = 1 := by rw [rs_isfm, if_pos (by omega)]
    obtain ⟨k1, k2, k3, k4⟩ := hk a.toNat (by omega)
    by_cases hb : Ff_X7_hasBit go a = 1
    · refine ⟨-1, 5, U, L, gI, pl, gF, st, und, ?_, ?_, hS, hH⟩
      · unfold Ff_X7_put Ff_X5_isGone
        rw [e1, fl_lt_eq rfl, if_pos rfl, hb]
        rfl
      · unfold Ff_X8_put Ff_X8_good
        rw [fl_c2_eq rfl, e2, fl_lt_eq rfl, if_pos rfl, fl_lt_eq rfl, ← s4, rs_hb, hb]
        rfl
    · have hb0 : Ff_X7_hasBit go a = 0 := (rs_hb01 go a).resolve_right hb
      by_cases hp : pl a.toNat = a
      · refine ⟨-1, 5, U, L, gI, pl, gF, st, und, ?_, ?_, hS, hH⟩
        · unfold Ff_X7_put Ff_X5_isGone
          rw [e1, fl_lt_eq rfl, if_pos rfl, hb0, fl_lt_eq rfl, fl_lt_eq rfl, if_neg (by decide), fl_lt_eq rfl, if_pos hp]
          rfl
        · unfold Ff_X8_put Ff_X8_good
          rw [fl_c2_eq rfl, e2, fl_lt_eq rfl, if_pos rfl, fl_lt_eq rfl, ← s4, rs_hb, hb0, fl_lt_eq rfl, if_neg (by decide), fl_lt_eq rfl, ← k1, if_pos hp]
          rfl
      · obtain ⟨U1, L1, gI1, gF1, und1, q1, q2, q3⟩ := rs_H_keep f3 hH hS hm
        refine ⟨pl a.toNat, 0, U1, L1, gI1, fl_up pl a.toNat a, gF1, fl_up st a.toNat a, und1, ?_, ?_, rs_S_pl hS (by omega) (by omega) (by omega), q3⟩
        · unfold Ff_X7_put Ff_X5_isGone
          rw [e1, fl_lt_eq rfl, if_pos rfl, hb0, fl_lt_eq rfl, fl_lt_eq rfl, if_neg (by decide), fl_lt_eq rfl, if_neg hp, q1, fl_c4_eq rfl]
          rfl
        · unfold Ff_X8_put Ff_X8_good
          rw [fl_c2_eq rfl, e2, fl_lt_eq rfl, if_pos rfl, fl_lt_eq rfl, ← s4, rs_hb, hb0, fl_lt_eq rfl, if_neg (by decide), fl_lt_eq rfl, ← k1, if_neg hp, q2, fl_c2_eq rfl]
          rfl
  · have e1 : Ff_X7_isFigure a fg = 0 := by rw [rs_isf, if_neg h]
    have e2 : Ff_X8_isFigure a 1 r = 0 := by rw [rs_isfm, if_neg (by omega)]
    refine ⟨-1, 1, U, L, gI, pl, gF, st, und, ?_, ?_, hS, hH⟩
    · unfold Ff_X7_put
      rw [e1]
      rfl
    · unfold Ff_X8_put Ff_X8_good
      rw [fl_c2_eq rfl, e2]
      rfl
theorem rs_S_tu {fg sp mi tu sn go ca : Int} {kd pl he st : Nat → Int} (hf : fg ≤ 9) (hs : 1 ≤ sp) (h : rs_S fg sp kd mi tu sn go ca pl he st) {a : Int} (a0 : 0 ≤ a) (a1 : a < fg) : rs_S fg sp kd mi a 0 go ca pl he (fl_up (fl_up st 19 a) 20 0) := by
  obtain ⟨⟨s1, s2, s3, s4, s5⟩, m0, a2, a3, a4, hk⟩ := h
  refine ⟨⟨?_, ?_, (rp_up_eq _ _ _).symm, ?_, ?_⟩, m0, ⟨a0, a1⟩, by omega, a4, fun k hk' => ?_⟩
  · rw [rp_up_ne _ _ (by omega), rp_up_ne _ _ (by omega)]; exact s1
  · rw [rp_up_ne _ _ (by omega), rp_up_eq]
  · rw [rp_up_ne _ _ (by omega), rp_up_ne _ _ (by omega)]; exact s4
  · rw [rp_up_ne _ _ (by omega), rp_up_ne _ _ (by omega)]; exact s5
  · rw [rp_up_ne _ _ (by omega), rp_up_ne _ _ (by omega), rp_up_ne _ _ (by omega), rp_up_ne _ _ (by omega)]; exact hk k hk'
/-- wind: here and there -/
theorem rs_wind {fg sp sa ti pu mi tu sn go ca U L : Int} {kd me r pl he st und gI : Nat → Int} {gF : Nat → Nat → Int} (hG : rs_G fg sp sa ti pu kd me r) (hS : rs_S fg sp kd mi tu sn go ca pl he st) (hm : mi ≤ 9999) (hH : rs_H fg sp kd U L gI gF und) (a : Int) :
    ∃ R tr tu1 sn1 U1 L1 gI1 gF1 st1 und1, Ff_X7_wind a fg mi tu sn go ca U L gI pl gF he = (R, tr, tu1, sn1, U1, L1, gI1, gF1) ∧ Ff_X8_wind a 1 U r st und = (R, 0, tr, U1, st1, und1) ∧ rs_S fg sp kd mi tu1 sn1 go ca pl he st1 ∧ rs_H fg sp kd U1 L1 gI1 gF1 und1 := by
  obtain ⟨⟨f1, f2, f3⟩, ⟨sp1, sp2, sp3⟩, -⟩ := id hG
  obtain ⟨⟨s1, s2, s3, s4, s5⟩, -⟩ := id hS
  by_cases h : 0 ≤ a ∧ a ≤ fg - 1
  · have e1 : Ff_X7_isFigure a fg = 1 := by rw [rs_isf, if_pos h]
    have e2 : Ff_X8_isFigure a 1 r = 1 := by rw [rs_isfm, if_pos (by omega)]
    by_cases hb : tu = a ∧ sn = 0
    · refine ⟨-1, 5, tu, sn, U, L, gI, gF, st, und, ?_, ?_, hS, hH⟩
      · unfold Ff_X7_wind
        rw [e1, fl_lt_eq rfl, if_pos rfl, if_pos hb.1, if_pos hb.2]
        rfl
      · unfold Ff_X8_wind Ff_X8_good
        rw [fl_c2_eq rfl, e2, fl_lt_eq rfl, if_pos rfl, fl_lt_eq rfl, ← s2, if_pos hb.1, fl_lt_eq rfl, ← s3, if_pos hb.2]
        rfl
    · obtain ⟨U1, L1, gI1, gF1, und1, q1, q2, q3⟩ := rs_H_keep f3 hH hS hm
      refine ⟨tu, 0, a, 0, U1, L1, gI1, gF1, fl_up (fl_up st 19 a) 20 0, und1, ?_, ?_, rs_S_tu f3 sp2 hS h.1 (by omega), q3⟩
      · unfold Ff_X7_wind
        rw [e1, fl_lt_eq rfl, if_pos rfl]
        by_cases ht : tu = a
        · rw [if_pos ht, if_neg (fun z => hb ⟨ht, z⟩), q1, fl_c4_eq rfl]; rfl
        · rw [if_neg ht, q1, fl_c4_eq rfl]; rfl
      · unfold Ff_X8_wind Ff_X8_good
        rw [fl_c2_eq rfl, e2, fl_lt_eq rfl, if_pos rfl, fl_lt_eq rfl, ← s2]
        by_cases ht : tu = a
        · rw [if_pos ht, fl_lt_eq rfl, ← s3, if_neg (fun z => hb ⟨ht, z⟩), q2, fl_c2_eq rfl]; rfl
        · rw [if_neg ht, q2, fl_c2_eq rfl]; rfl
  · have e1 : Ff_X7_isFigure a fg = 0 := by rw [rs_isf, if_neg h]
    have e2 : Ff_X8_isFigure a 1 r = 0 := by rw [rs_isfm, if_neg (by omega)]
    refine ⟨-1, 1, tu, sn, U, L, gI, gF, st, und, ?_, ?_, hS, hH⟩
    · unfold Ff_X7_wind
      rw [e1]
      rfl
    · unfold Ff_X8_wind Ff_X8_good
      rw [fl_c2_eq rfl, e2]
      rfl
/-- undo: here and there -/
theorem rs_undo {fg sp mi tu sn go ca U L : Int} {kd pl he st und gI : Nat → Int} {gF : Nat → Nat → Int} (hf : fg ≤ 9) (hS : rs_S fg sp kd mi tu sn go ca pl he st) (hm : mi ≤ 9999) (hH : rs_H fg sp kd U L gI gF und) :
    ∃ R tr U1 L1 mi1 tu1 sn1 go1 ca1 pl1 he1 st1, Ff_X7_undo U L mi tu sn go ca gI gF pl he = (R, tr, U1, L1, mi1, tu1, sn1, go1, ca1, pl1, he1) ∧ Ff_X8_undo U und st = (R, 0, tr, U1, st1) ∧ rs_S fg sp kd mi1 tu1 sn1 go1 ca1 pl1 he1 st1 ∧ mi1 ≤ 9999 ∧ rs_H fg sp kd U1 L1 gI gF und := by
  by_cases h : U = 0
  · refine ⟨0, 6, U, L, mi, tu, sn, go, ca, pl, he, st, ?_, ?_, hS, hm, hH⟩
    · unfold Ff_X7_undo Ff_X1_takeLatest
      rw [if_pos h, fl_c10_eq rfl]
      rfl
    · unfold Ff_X8_undo Ff_X8_good
      rw [fl_c2_eq rfl, if_pos h]
      rfl
  · obtain ⟨m1, t1, s1, g1, c1, pl1, he1, e1, e2, e3, e4⟩ := rs_H_undo (st := st) hf hH h mi tu sn go ca pl he
    refine ⟨1, 0, U - 1, (L + 15) % 16, m1, t1, s1, g1, c1, pl1, he1, _, ?_, ?_, e2, e3, e4⟩
    · unfold Ff_X7_undo
      rw [e1, fl_c10_eq rfl]
      rfl
    · unfold Ff_X8_undo Ff_X8_good
      rw [fl_c2_eq rfl, if_neg h]
      rfl
/-- image: here and there -/
theorem rs_image {fg sp mi tu sn go ca N : Int} {kd pl he st kp gI : Nat → Int} {gF : Nat → Nat → Int} (hf : fg ≤ 9) (hg : ¬ fg ≤ 0) (hS : rs_S fg sp kd mi tu sn go ca pl he st) (hm : mi ≤ 9999) (hI : rs_I fg sp kd N gI gF kp) :
    ∃ R tr N1 gI1 gF1 kp1, Ff_X7_image fg N gI mi tu sn go ca pl gF he = (R, tr, N1, gI1, gF1) ∧ Ff_X8_image 1 N st kp = (R, 0, tr, N1, kp1) ∧ rs_I fg sp kd N1 gI1 gF1 kp1 := by
  have e1 : Ff_X7_hasGallery fg = 1 := by unfold Ff_X7_hasGallery; rw [if_neg hg]
  obtain ⟨⟨n0, n1⟩, -⟩ := id hI
  by_cases h : N = 3
  · refine ⟨-1, 3, N, gI, gF, kp, ?_, ?_, hI⟩
    · unfold Ff_X7_image
      rw [e1, fl_lt_eq rfl, if_pos rfl, if_neg (by omega)]
      rfl
    · unfold Ff_X8_image Ff_X8_good
      rw [fl_c2_eq rfl, if_neg (by decide), if_pos h]
      rfl
  · obtain ⟨gI1, gF1, q1, q2⟩ := rs_I_add hf hI (by omega) hS hm
    refine ⟨N, 0, N + 1, gI1, gF1, _, ?_, ?_, q2⟩
    · unfold Ff_X7_image
      rw [e1, fl_lt_eq rfl, if_pos rfl, if_pos (by omega), q1, fl_c4_eq rfl]
      rcases (show N = 0 ∨ N = 1 ∨ N = 2 by omega) with z | z | z <;> (subst z; rfl)
    · unfold Ff_X8_image Ff_X8_good
      rw [fl_c2_eq rfl, if_neg (by decide), if_neg h]
      simp only [fl_lt]
      rw [show N + 1 - 1 = N by omega]
/-- back: here and there -/
theorem rs_back {fg sp mi tu sn go ca U L N : Int} {kd pl he st und kp gI gJ : Nat → Int} {gF gG : Nat → Nat → Int} (hf : fg ≤ 9) (hS : rs_S fg sp kd mi tu sn go ca pl he st) (hm : mi ≤ 9999) (hH : rs_H fg sp kd U L gJ gG und) (hI : rs_I fg sp kd N gI gF kp) (a : Int) :
    ∃ R tr U1 mi1 tu1 sn1 go1 ca1 pl1 he1 st1, Ff_X7_back a U N mi tu sn go ca gI gF pl he = (R, tr, U1, mi1, tu1, sn1, go1, ca1, pl1, he1) ∧ Ff_X8_back a U N kp st = (R, 0, tr, U1, st1) ∧ rs_S fg sp kd mi1 tu1 sn1 go1 ca1 pl1 he1 st1 ∧ mi1 ≤ 9999 ∧ rs_H fg sp kd U1 L gJ gG und := by
  obtain ⟨⟨n0, n1⟩, -⟩ := id hI
  by_cases h : 0 ≤ a ∧ a ≤ N - 1
  · obtain ⟨m1, t1, s1, g1, c1, pl1, he1, e1, e2, e3⟩ := rs_I_back (st := st) hf hI h.1 (by omega) U mi tu sn go ca pl he
    obtain ⟨hU, hL, -⟩ := hH
    refine ⟨1, 0, 0, m1, t1, s1, g1, c1, pl1, he1, _, ?_, ?_, e2, e3, ⟨by omega, by omega⟩, hL, fun i hi => by omega⟩
    · unfold Ff_X7_back
      rw [e1, fl_c9_eq rfl]
      rfl
    · unfold Ff_X8_back Ff_X8_good
      rw [fl_c2_eq rfl, fl_lt_eq rfl, rp_in1 h.1 h.2]
      rfl
  · refine ⟨0, 1, U, mi, tu, sn, go, ca, pl, he, st, ?_, ?_, hS, hm, hH⟩
    · unfold Ff_X7_back Ff_X1_goBack
      rw [fl_lt_eq rfl, rp_in, rp_in0 h, fl_lt_eq rfl, if_neg (by decide), fl_c9_eq rfl]
      rfl
    · unfold Ff_X8_back Ff_X8_good
      rw [fl_c2_eq rfl, fl_lt_eq rfl, rp_in0 h]
      rfl
end RSF
end P092249605_rs6
