section RSD
theorem rs_cp0 (m t s g c : Int) (pl he a b : Nat → Int) : Sf_X5_copyFrom_42_1 m t s g c pl he 0 a b = .inl (1, fl_up a 0 (pl 0), fl_up b 0 (he 0)) := rfl
theorem rs_cp1 (m t s g c : Int) (pl he a b : Nat → Int) : Sf_X5_copyFrom_42_1 m t s g c pl he 1 a b = .inl (2, fl_up a 1 (pl 1), fl_up b 1 (he 1)) := rfl
theorem rs_cp2 (m t s g c : Int) (pl he a b : Nat → Int) : Sf_X5_copyFrom_42_1 m t s g c pl he 2 a b = .inl (3, fl_up a 2 (pl 2), fl_up b 2 (he 2)) := rfl
theorem rs_cp3 (m t s g c : Int) (pl he a b : Nat → Int) : Sf_X5_copyFrom_42_1 m t s g c pl he 3 a b = .inl (4, fl_up a 3 (pl 3), fl_up b 3 (he 3)) := rfl
theorem rs_cp4 (m t s g c : Int) (pl he a b : Nat → Int) : Sf_X5_copyFrom_42_1 m t s g c pl he 4 a b = .inl (5, fl_up a 4 (pl 4), fl_up b 4 (he 4)) := rfl
theorem rs_cp5 (m t s g c : Int) (pl he a b : Nat → Int) : Sf_X5_copyFrom_42_1 m t s g c pl he 5 a b = .inl (6, fl_up a 5 (pl 5), fl_up b 5 (he 5)) := rfl
theorem rs_cp6 (m t s g c : Int) (pl he a b : Nat → Int) : Sf_X5_copyFrom_42_1 m t s g c pl he 6 a b = .inl (7, fl_up a 6 (pl 6), fl_up b 6 (he 6)) := rfl
theorem rs_cp7 (m t s g c : Int) (pl he a b : Nat → Int) : Sf_X5_copyFrom_42_1 m t s g c pl he 7 a b = .inl (8, fl_up a 7 (pl 7), fl_up b 7 (he 7)) := rfl
theorem rs_cp8 (m t s g c : Int) (pl he a b : Nat → Int) : Sf_X5_copyFrom_42_1 m t s g c pl he 8 a b = .inl (9, fl_up a 8 (pl 8), fl_up b 8 (he 8)) := rfl
theorem rs_cp (m t s g c : Int) (pl a he b : Nat → Int) : ∃ pl1 he1, Ff_X5_copyFrom m t s g c pl a he b = (m, t, s, g, c, pl1, he1) ∧ ∀ k : Nat, k < 9 → pl1 k = pl k ∧ he1 k = he k := by
  refine ⟨(fl_up (fl_up (fl_up (fl_up (fl_up (fl_up (fl_up (fl_up (fl_up a 0 (pl 0)) 1 (pl 1)) 2 (pl 2)) 3 (pl 3)) 4 (pl 4)) 5 (pl 5)) 6 (pl 6)) 7 (pl 7)) 8 (pl 8)), (fl_up (fl_up (fl_up (fl_up (fl_up (fl_up (fl_up (fl_up (fl_up b 0 (he 0)) 1 (he 1)) 2 (he 2)) 3 (he 3)) 4 (he 4)) 5 (he 5)) 6 (he 6)) 7 (he 7)) 8 (he 8)), ?_, ?_⟩
  · unfold Ff_X5_copyFrom
    rw [fl_wh_l (step := (fun t9 : Int × (Nat → Int) × (Nat → Int) => Sf_X5_copyFrom_42_1 m t s g c pl he t9.1 t9.2.1 t9.2.2)) (rs_cp0 m t s g c pl he _ _)]
    rw [fl_wh_l (step := (fun t9 : Int × (Nat → Int) × (Nat → Int) => Sf_X5_copyFrom_42_1 m t s g c pl he t9.1 t9.2.1 t9.2.2)) (rs_cp1 m t s g c pl he _ _)]
    rw [fl_wh_l (step := (fun t9 : Int × (Nat → Int) × (Nat → Int) => Sf_X5_copyFrom_42_1 m t s g c pl he t9.1 t9.2.1 t9.2.2)) (rs_cp2 m t s g c pl he _ _)]
    rw [fl_wh_l (step := (fun t9 : Int × (Nat → Int) × (Nat → Int) => Sf_X5_copyFrom_42_1 m t s g c pl he t9.1 t9.2.1 t9.2.2)) (rs_cp3 m t s g c pl he _ _)]
    rw [fl_wh_l (step := (fun t9 : Int × (Nat → Int) × (Nat → Int) => Sf_X5_copyFrom_42_1 m t s g c pl he t9.1 t9.2.1 t9.2.2)) (rs_cp4 m t s g c pl he _ _)]
    rw [fl_wh_l (step := (fun t9 : Int × (Nat → Int) × (Nat → Int) => Sf_X5_copyFrom_42_1 m t s g c pl he t9.1 t9.2.1 t9.2.2)) (rs_cp5 m t s g c pl he _ _)]
    rw [fl_wh_l (step := (fun t9 : Int × (Nat → Int) × (Nat → Int) => Sf_X5_copyFrom_42_1 m t s g c pl he t9.1 t9.2.1 t9.2.2)) (rs_cp6 m t s g c pl he _ _)]
    rw [fl_wh_l (step := (fun t9 : Int × (Nat → Int) × (Nat → Int) => Sf_X5_copyFrom_42_1 m t s g c pl he t9.1 t9.2.1 t9.2.2)) (rs_cp7 m t s g c pl he _ _)]
    rw [fl_wh_l (step := (fun t9 : Int × (Nat → Int) × (Nat → Int) => Sf_X5_copyFrom_42_1 m t s g c pl he t9.1 t9.2.1 t9.2.2)) (rs_cp8 m t s g c pl he _ _)]
    exact fl_wh_r (step := (fun t9 : Int × (Nat → Int) × (Nat → Int) => Sf_X5_copyFrom_42_1 m t s g c pl he t9.1 t9.2.1 t9.2.2)) (s := (9, (fl_up (fl_up (fl_up (fl_up (fl_up (fl_up (fl_up (fl_up (fl_up a 0 (pl 0)) 1 (pl 1)) 2 (pl 2)) 3 (pl 3)) 4 (pl 4)) 5 (pl 5)) 6 (pl 6)) 7 (pl 7)) 8 (pl 8)), (fl_up (fl_up (fl_up (fl_up (fl_up (fl_up (fl_up (fl_up (fl_up b 0 (he 0)) 1 (he 1)) 2 (he 2)) 3 (he 3)) 4 (he 4)) 5 (he 5)) 6 (he 6)) 7 (he 7)) 8 (he 8)))) rfl
  · intro k hk
    have h : k = 0 ∨ k = 1 ∨ k = 2 ∨ k = 3 ∨ k = 4 ∨ k = 5 ∨ k = 6 ∨ k = 7 ∨ k = 8 := by omega
    rcases h with h | h | h | h | h | h | h | h | h <;> (subst h; exact ⟨rfl, rfl⟩)
/-- a kept scene in its place is this one -/
def rs_P (gI : Nat → Int) (gF : Nat → Nat → Int) (j : Nat) (m t s g c : Int) (pl he : Nat → Int) : Prop := gI (5 * j) = m ∧ gI (5 * j + 1) = t ∧ gI (5 * j + 2) = s ∧ gI (5 * j + 3) = g ∧ gI (5 * j + 4) = c ∧ ∀ k : Nat, k < 9 → gF (2 * j) k = pl k ∧ gF (2 * j + 1) k = he k
theorem rs_kp0 {U L : Int} (h : (L + 1) % 16 = 0) (m t s g c : Int) (pl he : Nat → Int) (gI : Nat → Int) (gF : Nat → Nat → Int) : ∃ pl1 he1, Ff_X1_keep U L gI m t s g c pl gF he = (fl_min (U + 1) 16, 0, fl_nI [m, t, s, g, c, gI 5, gI 6, gI 7, gI 8, gI 9, gI 10, gI 11, gI 12, gI 13, gI 14, gI 15, gI 16, gI 17, gI 18, gI 19, gI 20, gI 21, gI 22, gI 23, gI 24, gI 25, gI 26, gI 27, gI 28, gI 29, gI 30, gI 31, gI 32, gI 33, gI 34, gI 35, gI 36, gI 37, gI 38, gI 39, gI 40, gI 41, gI 42, gI 43, gI 44, gI 45, gI 46, gI 47, gI 48, gI 49, gI 50, gI 51, gI 52, gI 53, gI 54, gI 55, gI 56, gI 57, gI 58, gI 59, gI 60, gI 61, gI 62, gI 63, gI 64, gI 65, gI 66, gI 67, gI 68, gI 69, gI 70, gI 71, gI 72, gI 73, gI 74, gI 75, gI 76, gI 77, gI 78, gI 79], fl_nF [pl1, he1, gF 2, gF 3, gF 4, gF 5, gF 6, gF 7, gF 8, gF 9, gF 10, gF 11, gF 12, gF 13, gF 14, gF 15, gF 16, gF 17, gF 18, gF 19, gF 20, gF 21, gF 22, gF 23, gF 24, gF 25, gF 26, gF 27, gF 28, gF 29, gF 30, gF 31]) ∧ ∀ k : Nat, k < 9 → pl1 k = pl k ∧ he1 k = he k := by
  obtain ⟨pl1, he1, e, q⟩ := rs_cp m t s g c pl (gF 0) he (gF 1)
  refine ⟨pl1, he1, ?_, q⟩
  unfold Ff_X1_keep
  rw [fl_lt_eq rfl, fl_lt_eq h.symm]
  rw [if_pos rfl]
  rw [e, fl_c7_eq rfl]
  rfl
theorem rs_ks0 (m t s g c : Int) (pl he : Nat → Int) (gI : Nat → Int) (gF : Nat → Nat → Int) (pl1 he1 : Nat → Int) (hq : ∀ k : Nat, k < 9 → pl1 k = pl k ∧ he1 k = he k) : rs_P (fl_nI [m, t, s, g, c, gI 5, gI 6, gI 7, gI 8, gI 9, gI 10, gI 11, gI 12, gI 13, gI 14, gI 15, gI 16, gI 17, gI 18, gI 19, gI 20, gI 21, gI 22, gI 23, gI 24, gI 25, gI 26, gI 27, gI 28, gI 29, gI 30, gI 31, gI 32, gI 33, gI 34, gI 35, gI 36, gI 37, gI 38, gI 39, gI 40, gI 41, gI 42, gI 43, gI 44, gI 45, gI 46, gI 47, gI 48, gI 49, gI 50, gI 51, gI 52, gI 53, gI 54, gI 55, gI 56, gI 57, gI 58, gI 59, gI 60, gI 61, gI 62, gI 63, gI 64, gI 65, gI 66, gI 67, gI 68, gI 69, gI 70, gI 71, gI 72, gI 73, gI 74, gI 75, gI 76, gI 77, gI 78, gI 79]) (fl_nF [pl1, he1, gF 2, gF 3, gF 4, gF 5, gF 6, gF 7, gF 8, gF 9, gF 10, gF 11, gF 12, gF 13, gF 14, gF 15, gF 16, gF 17, gF 18, gF 19, gF 20, gF 21, gF 22, gF 23, gF 24, gF 25, gF 26, gF 27, gF 28, gF 29, gF 30, gF 31]) 0 m t s g c pl he ∧ ∀ j : Nat, j < 16 → j ≠ 0 → (∀ x : Nat, x < 5 → (fl_nI [m, t, s, g, c, gI 5, gI 6, gI 7, gI 8, gI 9, gI 10, gI 11, gI 12, gI 13, gI 14, gI 15, gI 16, gI 17, gI 18, gI 19, gI 20, gI 21, gI 22, gI 23, gI 24, gI 25, gI 26, gI 27, gI 28, gI 29, gI 30, gI 31, gI 32, gI 33, gI 34, gI 35, gI 36, gI 37, gI 38, gI 39, gI 40, gI 41, gI 42, gI 43, gI 44, gI 45, gI 46, gI 47, gI 48, gI 49, gI 50, gI 51, gI 52, gI 53, gI 54, gI 55, gI 56, gI 57, gI 58, gI 59, gI 60, gI 61, gI 62, gI 63, gI 64, gI 65, gI 66, gI 67, gI 68, gI 69, gI 70, gI 71, gI 72, gI 73, gI 74, gI 75, gI 76, gI 77, gI 78, gI 79]) (5 * j + x) = gI (5 * j + x)) ∧ (fl_nF [pl1, he1, gF 2, gF 3, gF 4, gF 5, gF 6, gF 7, gF 8, gF 9, gF 10, gF 11, gF 12, gF 13, gF 14, gF 15, gF 16, gF 17, gF 18, gF 19, gF 20, gF 21, gF 22, gF 23, gF 24, gF 25, gF 26, gF 27, gF 28, gF 29, gF 30, gF 31]) (2 * j) = gF (2 * j) ∧ (fl_nF [pl1, he1, gF 2, gF 3, gF 4, gF 5, gF 6, gF 7, gF 8, gF 9, gF 10, gF 11, gF 12, gF 13, gF 14, gF 15, gF 16, gF 17, gF 18, gF 19, gF 20, gF 21, gF 22, gF 23, gF 24, gF 25, gF 26, gF 27, gF 28, gF 29, gF 30, gF 31]) (2 * j + 1) = gF (2 * j + 1) := by
  refine ⟨⟨rfl, rfl, rfl, rfl, rfl, hq⟩, fun j hj hn => ?_⟩
  rcases (show j = 0 ∨ j = 1 ∨ j = 2 ∨ j = 3 ∨ j = 4 ∨ j = 5 ∨ j = 6 ∨ j = 7 ∨ j = 8 ∨ j = 9 ∨ j = 10 ∨ j = 11 ∨ j = 12 ∨ j = 13 ∨ j = 14 ∨ j = 15 by omega) with h | h | h | h | h | h | h | h | h | h | h | h | h | h | h | h
  · exact absurd h hn
  · subst h
    refine ⟨fun x hx => ?_, rfl, rfl⟩
    rcases (show x = 0 ∨ x = 1 ∨ x = 2 ∨ x = 3 ∨ x = 4 by omega) with h | h | h | h | h <;> (subst h; rfl)
  · subst h
    refine ⟨fun x hx => ?_, rfl, rfl⟩
    rcases (show x = 0 ∨ x = 1 ∨ x = 2 ∨ x = 3 ∨ x = 4 by omega) with h | h | h | h | h <;> (subst h; rfl)
  · subst h
    refine ⟨fun x hx => ?_, rfl, rfl⟩
    rcases (show x = 0 ∨ x = 1 ∨ x = 2 ∨ x = 3 ∨ x = 4 by omega) with h | h | h | h | h <;> (subst h; rfl)
  · subst h
    refine ⟨fun x hx => ?_, rfl, rfl⟩
    rcases (show x = 0 ∨ x = 1 ∨ x = 2 ∨ x = 3 ∨ x = 4 by omega) with h | h | h | h | h <;> (subst h; rfl)
  · subst h
    refine ⟨fun x hx => ?_, rfl, rfl⟩
    rcases (show x = 0 ∨ x = 1 ∨ x = 2 ∨ x = 3 ∨ x = 4 by omega) with h | h | h | h | h <;> (subst h; rfl)
  · subst h
    refine ⟨fun x hx => ?_, rfl, rfl⟩
    rcases (show x = 0 ∨ x = 1 ∨ x = 2 ∨ x = 3 ∨ x = 4 by omega) with h | h | h | h | h <;> (subst h; rfl)
  · subst h
    refine ⟨fun x hx => ?_, rfl, rfl⟩
    rcases (show x = 0 ∨ x = 1 ∨ x = 2 ∨ x = 3 ∨ x = 4 by omega) with h | h | h | h | h <;> (subst h; rfl)
  · subst h
    refine ⟨fun x hx => ?_, rfl, rfl⟩
    rcases (show x = 0 ∨ x = 1 ∨ x = 2 ∨ x = 3 ∨ x = 4 by omega) with h | h | h | h | h <;> (subst h; rfl)
  · subst h
    refine ⟨fun x hx => ?_, rfl, rfl⟩
    rcases (show x = 0 ∨ x = 1 ∨ x = 2 ∨ x = 3 ∨ x = 4 by omega) with h | h | h | h | h <;> (subst h; rfl)
  · subst h
    refine ⟨fun x hx => ?_, rfl, rfl⟩
    rcases (show x = 0 ∨ x = 1 ∨ x = 2 ∨ x = 3 ∨ x = 4 by omega) with h | h | h | h | h <;> (subst h; rfl)
  · subst h
    refine ⟨fun x hx => ?_, rfl, rfl⟩
    rcases (show x = 0 ∨ x = 1 ∨ x = 2 ∨ x = 3 ∨ x = 4 by omega) with h | h | h | h | h <;> (subst h; rfl)
  · subst h
    refine ⟨fun x hx => ?_, rfl, rfl⟩
    rcases (show x = 0 ∨ x = 1 ∨ x = 2 ∨ x = 3 ∨ x = 4 by omega) with h | h | h | h | h <;> (subst h; rfl)
  · subst h
    refine ⟨fun x hx => ?_, rfl, rfl⟩
    rcases (show x = 0 ∨ x = 1 ∨ x = 2 ∨ x = 3 ∨ x = 4 by omega) with h | h | h | h | h <;> (subst h; rfl)
  · subst h
    refine ⟨fun x hx => ?_, rfl, rfl⟩
    rcases (show x = 0 ∨ x = 1 ∨ x = 2 ∨ x = 3 ∨ x = 4 by omega) with h | h | h | h | h <;> (subst h; rfl)
  · subst h
    refine ⟨fun x hx => ?_, rfl, rfl⟩
    rcases (show x = 0 ∨ x = 1 ∨ x = 2 ∨ x = 3 ∨ x = 4 by omega) with h | h | h | h | h <;> (subst h; rfl)
theorem rs_kp1 {U L : Int} (h : (L + 1) % 16 = 1) (m t s g c : Int) (pl he : Nat → Int) (gI : Nat → Int) (gF : Nat → Nat → Int) : ∃ pl1 he1, Ff_X1_keep U L gI m t s g c pl gF he = (fl_min (U + 1) 16, 1, fl_nI [gI 0, gI 1, gI 2, gI 3, gI 4, m, t, s, g, c, gI 10, gI 11, gI 12, gI 13, gI 14, gI 15, gI 16, gI 17, gI 18, gI 19, gI 20, gI 21, gI 22, gI 23, gI 24, gI 25, gI 26, gI 27, gI 28, gI 29, gI 30, gI 31, gI 32, gI 33, gI 34, gI 35, gI 36, gI 37, gI 38, gI 39, gI 40, gI 41, gI 42, gI 43, gI 44, gI 45, gI 46, gI 47, gI 48, gI 49, gI 50, gI 51, gI 52, gI 53, gI 54, gI 55, gI 56, gI 57, gI 58, gI 59, gI 60, gI 61, gI 62, gI 63, gI 64, gI 65, gI 66, gI 67, gI 68, gI 69, gI 70, gI 71, gI 72, gI 73, gI 74, gI 75, gI 76, gI 77, gI 78, gI 79], fl_nF [gF 0, gF 1, pl1, he1, gF 4, gF 5, gF 6, gF 7, gF 8, gF 9, gF 10, gF 11, gF 12, gF 13, gF 14, gF 15, gF 16, gF 17, gF 18, gF 19, gF 20, gF 21, gF 22, gF 23, gF 24, gF 25, gF 26, gF 27, gF 28, gF 29, gF 30, gF 31]) ∧ ∀ k : Nat, k < 9 → pl1 k = pl k ∧ he1 k = he k := by
  obtain ⟨pl1, he1, e, q⟩ := rs_cp m t s g c pl (gF 2) he (gF 3)
  refine ⟨pl1, he1, ?_, q⟩
  unfold Ff_X1_keep
  rw [fl_lt_eq rfl, fl_lt_eq h.symm]
  rw [if_neg (by decide)]
  rw [if_pos rfl]
  rw [e, fl_c7_eq rfl]
  rfl
theorem rs_ks1 (m t s g c : Int) (pl he : Nat → Int) (gI : Nat → Int) (gF : Nat → Nat → Int) (pl1 he1 : Nat → Int) (hq : ∀ k : Nat, k < 9 → pl1 k = pl k ∧ he1 k = he k) : rs_P (fl_nI [gI 0, gI 1, gI 2, gI 3, gI 4, m, t, s, g, c, gI 10, gI 11, gI 12, gI 13, gI 14, gI 15, gI 16, gI 17, gI 18, gI 19, gI 20, gI 21, gI 22, gI 23, gI 24, gI 25, gI 26, gI 27, gI 28, gI 29, gI 30, gI 31, gI 32, gI 33, gI 34, gI 35, gI 36, gI 37, gI 38, gI 39, gI 40, gI 41, gI 42, gI 43, gI 44, gI 45, gI 46, gI 47, gI 48, gI 49, gI 50, gI 51, gI 52, gI 53, gI 54, gI 55, gI 56, gI 57, gI 58, gI 59, gI 60, gI 61, gI 62, gI 63, gI 64, gI 65, gI 66, gI 67, gI 68, gI 69, gI 70, gI 71, gI 72, gI 73, gI 74, gI 75, gI 76, gI 77, gI 78, gI 79]) (fl_nF [gF 0, gF 1, pl1, he1, gF 4, gF 5, gF 6, gF 7, gF 8, gF 9, gF 10, gF 11, gF 12, gF 13, gF 14, gF 15, gF 16, gF 17, gF 18, gF 19, gF 20, gF 21, gF 22, gF 23, gF 24, gF 25, gF 26, gF 27, gF 28, gF 29, gF 30, gF 31]) 1 m t s g c pl he ∧ ∀ j : Nat, j < 16 → j ≠ 1 → (∀ x : Nat, x < 5 → (fl_nI [gI 0, gI 1, gI 2, gI 3, gI 4, m, t, s, g, c, gI 10, gI 11, gI 12, gI 13, gI 14, gI 15, gI 16, gI 17, gI 18, gI 19, gI 20, gI 21, gI 22, gI 23, gI 24, gI 25, gI 26, gI 27, gI 28, gI 29, gI 30, gI 31, gI 32, gI 33, gI 34, gI 35, gI 36, gI 37, gI 38, gI 39, gI 40, gI 41, gI 42, gI 43, gI 44, gI 45, gI 46, gI 47, gI 48, gI 49, gI 50, gI 51, gI 52, gI 53, gI 54, gI 55, gI 56, gI 57, gI 58, gI 59, gI 60, gI 61, gI 62, gI 63, gI 64, gI 65, gI 66, gI 67, gI 68, gI 69, gI 70, gI 71, gI 72, gI 73, gI 74, gI 75, gI 76, gI 77, gI 78, gI 79]) (5 * j + x) = gI (5 * j + x)) ∧ (fl_nF [gF 0, gF 1, pl1, he1, gF 4, gF 5, gF 6, gF 7, gF 8, gF 9, gF 10, gF 11, gF 12, gF 13, gF 14, gF 15, gF 16, gF 17, gF 18, gF 19, gF 20, gF 21, gF 22, gF 23, gF 24, gF 25, gF 26, gF 27, gF 28, gF 29, gF 30, gF 31]) (2 * j) = gF (2 * j) ∧ (fl_nF [gF 0, gF 1, pl1, he1, gF 4, gF 5, gF 6, gF 7, gF 8, gF 9, gF 10, gF 11, gF 12, gF 13, gF 14, gF 15, gF 16, gF 17, gF 18, gF 19, gF 20, gF 21, gF 22, gF 23, gF 24, gF 25, gF 26, gF 27, gF 28, gF 29, gF 30, gF 31]) (2 * j + 1) = gF (2 * j + 1) := by
  refine ⟨⟨rfl, rfl, rfl, rfl, rfl, hq⟩, fun j hj hn => ?_⟩
  rcases (show j = 0 ∨ j = 1 ∨ j = 2 ∨ j = 3 ∨ j = 4 ∨ j = 5 ∨ j = 6 ∨ j = 7 ∨ j = 8 ∨ j = 9 ∨ j = 10 ∨ j = 11 ∨ j = 12 ∨ j = 13 ∨ j = 14 ∨ j = 15 by omega) with h | h | h | h | h | h | h | h | h | h | h | h | h | h | h | h
  · subst h
    refine ⟨fun x hx => ?_, rfl, rfl⟩
    rcases (show x = 0 ∨ x = 1 ∨ x = 2 ∨ x = 3 ∨ x = 4 by omega) with h | h | h | h | h <;> (subst h; rfl)
  · exact absurd h hn
  · subst h
    refine ⟨fun x hx => ?_, rfl, rfl⟩
    rcases (show x = 0 ∨ x = 1 ∨ x = 2 ∨ x = 3 ∨ x = 4 by omega) with h | h | h | h | h <;> (subst h; rfl)
  · subst h
    refine ⟨fun x hx => ?_, rfl, rfl⟩
    rcases (show x = 0 ∨ x = 1 ∨ x = 2 ∨ x = 3 ∨ x = 4 by omega) with h | h | h | h | h <;> (subst h; rfl)
  · subst h
    refine ⟨fun x hx => ?_, rfl, rfl⟩
    rcases (show x = 0 ∨ x = 1 ∨ x = 2 ∨ x = 3 ∨ x = 4 by omega) with h | h | h | h | h <;> (subst h; rfl)
  · subst h
    refine ⟨fun x hx => ?_, rfl, rfl⟩
    rcases (show x = 0 ∨ x = 1 ∨ x = 2 ∨ x = 3 ∨ x = 4 by omega) with h | h | h | h | h <;> (subst h; rfl)
  · subst h
    refine ⟨fun x hx => ?_, rfl, rfl⟩
    rcases (show x = 0 ∨ x = 1 ∨ x = 2 ∨ x = 3 ∨ x = 4 by omega) with h | h | h | h | h <;> (subst h; rfl)
  · subst h
    refine ⟨fun x hx => ?_, rfl, rfl⟩
    rcases (show x = 0 ∨ x = 1 ∨ x = 2 ∨ x = 3 ∨ x = 4 by omega) with h | h | h | h | h <;> (subst h; rfl)
  · subst h
    refine ⟨fun x hx => ?_, rfl, rfl⟩
    rcases (show x = 0 ∨ x = 1 ∨ x = 2 ∨ x = 3 ∨ x = 4 by omega) with h | h | h | h | h <;> (subst h; rfl)
  · subst h
    refine ⟨fun x hx => ?_, rfl, rfl⟩
    rcases (show x = 0 ∨ x = 1 ∨ x = 2 ∨ x = 3 ∨ x = 4 by omega) with h | h | h | h | h <;> (subst h; rfl)
  · subst h
    refine ⟨fun x hx => ?_, rfl, rfl⟩
    rcases (show x = 0 ∨ x = 1 ∨ x = 2 ∨ x = 3 ∨ x = 4 by omega) with h | h | h | h | h <;> (subst h; rfl)
  · subst h
    refine ⟨fun x hx => ?_, rfl, rfl⟩
    rcases (show x = 0 ∨ x = 1 ∨ x = 2 ∨ x = 3 ∨ x = 4 by omega) with h | h | h | h | h <;> (subst h; rfl)
  · subst h
    refine ⟨fun x hx => ?_, rfl, rfl⟩
    rcases (show x = 0 ∨ x = 1 ∨ x = 2 ∨ x = 3 ∨ x = 4 by omega) with h | h | h | h | h <;> (subst h; rfl)
  · subst h
    refine ⟨fun x hx => ?_, rfl, rfl⟩
    rcases (show x = 0 ∨ x = 1 ∨ x = 2 ∨ x = 3 ∨ x = 4 by omega) with h | h | h | h | h <;> (subst h; rfl)
  · subst h
    refine ⟨fun x hx => ?_, rfl, rfl⟩
    rcases (show x = 0 ∨ x = 1 ∨ x = 2 ∨ x = 3 ∨ x = 4 by omega) with h | h | h | h | h <;> (subst h; rfl)
  · subst h
    refine ⟨fun x hx => ?_, rfl, rfl⟩
    rcases (show x = 0 ∨ x = 1 ∨ x = 2 ∨ x = 3 ∨ x = 4 by omega) with h | h | h | h | h <;> (subst h; rfl)
theorem rs_kp2 {U L : Int} (h : (L + 1) % 16 = 2) (m t s g c : Int) (pl he : Nat → Int) (gI : Nat → Int) (gF : Nat → Nat → Int) : ∃ pl1 he1, Ff_X1_keep U L gI m t s g c pl gF he = (fl_min (U + 1) 16, 2, fl_nI [gI 0, gI 1, gI 2, gI 3, gI 4, gI 5, gI 6, gI 7, gI 8, gI 9, m, t, s, g, c, gI 15, gI 16, gI 17, gI 18, gI 19, gI 20, gI 21, gI 22, gI 23, gI 24, gI 25, gI 26, gI 27, gI 28, gI 29, gI 30, gI 31, gI 32, gI 33, gI 34, gI 35, gI 36, gI 37, gI 38, gI 39, gI 40, gI 41, gI 42, gI 43, gI 44, gI 45, gI 46, gI 47, gI 48, gI 49, gI 50, gI 51, gI 52, gI 53, gI 54, gI 55, gI 56, gI 57, gI 58, gI 59, gI 60, gI 61, gI 62, gI 63, gI 64, gI 65, gI 66, gI 67, gI 68, gI 69, gI 70, gI 71, gI 72, gI 73, gI 74, gI 75, gI 76, gI 77, gI 78, gI 79], fl_nF [gF 0, gF 1, gF 2, gF 3, pl1, he1, gF 6, gF 7, gF 8, gF 9, gF 10, gF 11, gF 12, gF 13, gF 14, gF 15, gF 16, gF 17, gF 18, gF 19, gF 20, gF 21, gF 22, gF 23, gF 24, gF 25, gF 26, gF 27, gF 28, gF 29, gF 30, gF 31]) ∧ ∀ k : Nat, k < 9 → pl1 k = pl k ∧ he1 k = he k := by
  obtain ⟨pl1, he1, e, q⟩ := rs_cp m t s g c pl (gF 4) he (gF 5)
  refine ⟨pl1, he1, ?_, q⟩
  unfold Ff_X1_keep
  rw [fl_lt_eq rfl, fl_lt_eq h.symm]
  rw [if_neg (by decide)]
  rw [if_neg (by decide)]
  rw [if_pos rfl]
  rw [e, fl_c7_eq rfl]
  rfl
theorem rs_ks2 (m t s g c : Int) (pl he : Nat → Int) (gI : Nat → Int) (gF : Nat → Nat → Int) (pl1 he1 : Nat → Int) (hq : ∀ k : Nat, k < 9 → pl1 k = pl k ∧ he1 k = he k) : rs_P (fl_nI [gI 0, gI 1, gI 2, gI 3, gI 4, gI 5, gI 6, gI 7, gI 8, gI 9, m, t, s, g, c, gI 15, gI 16, gI 17, gI 18, gI 19, gI 20, gI 21, gI 22, gI 23, gI 24, gI 25, gI 26, gI 27, gI 28, gI 29, gI 30, gI 31, gI 32, gI 33, gI 34, gI 35, gI 36, gI 37, gI 38, gI 39, gI 40, gI 41, gI 42, gI 43, gI 44, gI 45, gI 46, gI 47, gI 48, gI 49, gI 50, gI 51, gI 52, gI 53, gI 54, gI 55, gI 56, gI 57, gI 58, gI 59, gI 60, gI 61, gI 62, gI 63, gI 64, gI 65, gI 66, gI 67, gI 68, gI 69, gI 70, gI 71, gI 72, gI 73, gI 74, gI 75, gI 76, gI 77, gI 78, gI 79]) (fl_nF [gF 0, gF 1, gF 2, gF 3, pl1, he1, gF 6, gF 7, gF 8, gF 9, gF 10, gF 11, gF 12, gF 13, gF 14, gF 15, gF 16, gF 17, gF 18, gF 19, gF 20, gF 21, gF 22, gF 23, gF 24, gF 25, gF 26, gF 27, gF 28, gF 29, gF 30, gF 31]) 2 m t s g c pl he ∧ ∀ j : Nat, j < 16 → j ≠ 2 → (∀ x : Nat, x < 5 → (fl_nI [gI 0, gI 1, gI 2, gI 3, gI 4, gI 5, gI 6, gI 7, gI 8, gI 9, m, t, s, g, c, gI 15, gI 16, gI 17, gI 18, gI 19, gI 20, gI 21, gI 22, gI 23, gI 24, gI 25, gI 26, gI 27, gI 28, gI 29, gI 30, gI 31, gI 32, gI 33, gI 34, gI 35, gI 36, gI 37, gI 38, gI 39, gI 40, gI 41, gI 42, gI 43, gI 44, gI 45, gI 46, gI 47, gI 48, gI 49, gI 50, gI 51, gI 52, gI 53, gI 54, gI 55, gI 56, gI 57, gI 58, gI 59, gI 60, gI 61, gI 62, gI 63, gI 64, gI 65, gI 66, gI 67, gI 68, gI 69, gI 70, gI 71, gI 72, gI 73, gI 74, gI 75, gI 76, gI 77, gI 78, gI 79]) (5 * j + x) = gI (5 * j + x)) ∧ (fl_nF [gF 0, gF 1, gF 2, gF 3, pl1, he1, gF 6, gF 7, gF 8, gF 9, gF 10, gF 11, gF 12, gF 13, gF 14, gF 15, gF 16, gF 17, gF 18, gF 19, gF 20, gF 21, gF 22, gF 23, gF 24, gF 25, gF 26, gF 27, gF 28, gF 29, gF 30, gF 31]) (2 * j) = gF (2 * j) ∧ (fl_nF [gF 0, gF 1, gF 2, gF 3, pl1, he1, gF 6, gF 7, gF 8, gF 9, gF 10, gF 11, gF 12, gF 13, gF 14, gF 15, gF 16, gF 17, gF 18, gF 19, gF 20, gF 21, gF 22, gF 23, gF 24, gF 25, gF 26, gF 27, gF 28, gF 29, gF 30, gF 31]) (2 * j + 1) = gF (2 * j + 1) := by
  refine ⟨⟨rfl, rfl, rfl, rfl, rfl, hq⟩, fun j hj hn => ?_⟩
  rcases (show j = 0 ∨ j = 1 ∨ j = 2 ∨ j = 3 ∨ j = 4 ∨ j = 5 ∨ j = 6 ∨ j = 7 ∨ j = 8 ∨ j = 9 ∨ j = 10 ∨ j = 11 ∨ j = 12 ∨ j = 13 ∨ j = 14 ∨ j = 15 by omega) with h | h | h | h | h | h | h | h | h | h | h | h | h | h | h | h
  · subst h
    refine ⟨fun x hx => ?_, rfl, rfl⟩
    rcases (show x = 0 ∨ x = 1 ∨ x = 2 ∨ x = 3 ∨ x = 4 by omega) with h | h | h | h | h <;> (subst h; rfl)
  · subst h
    refine ⟨fun x hx => ?_, rfl, rfl⟩
    rcases (show x = 0 ∨ x = 1 ∨ x = 2 ∨ x = 3 ∨ x = 4 by omega) with h | h | h | h | h <;> (subst h; rfl)
  · exact absurd h hn
  · subst h
    refine ⟨fun x hx => ?_, rfl, rfl⟩
    rcases (show x = 0 ∨ x = 1 ∨ x = 2 ∨ x = 3 ∨ x = 4 by omega) with h | h | h | h | h <;> (subst h; rfl)
  · subst h
    refine ⟨fun x hx => ?_, rfl, rfl⟩
    rcases (show x = 0 ∨ x = 1 ∨ x = 2 ∨ x = 3 ∨ x = 4 by omega) with h | h | h | h | h <;> (subst h; rfl)
  · subst h
    refine ⟨fun x hx => ?_, rfl, rfl⟩
    rcases (show x = 0 ∨ x = 1 ∨ x = 2 ∨ x = 3 ∨ x = 4 by omega) with h | h | h | h | h <;> (subst h; rfl)
  · subst h
    refine ⟨fun x hx => ?_, rfl, rfl⟩
    rcases (show x = 0 ∨ x = 1 ∨ x = 2 ∨ x = 3 ∨ x = 4 by omega) with h | h | h | h | h <;> (subst h; rfl)
  · subst h
    refine ⟨fun x hx => ?_, rfl, rfl⟩
    rcases (show x = 0 ∨ x = 1 ∨ x = 2 ∨ x = 3 ∨ x = 4 by omega) with h | h | h | h | h <;> (subst h; rfl)
  · subst h
    refine ⟨fun x hx => ?_, rfl, rfl⟩
    rcases (show x = 0 ∨ x = 1 ∨ x = 2 ∨ x = 3 ∨ x = 4 by omega) with h | h | h | h | h <;> (subst h; rfl)
  · subst h
    refine ⟨fun x hx => ?_, rfl, rfl⟩
    rcases (show x = 0 ∨ x = 1 ∨ x = 2 ∨ x = 3 ∨ x = 4 by omega) with h | h | h | h | h <;> (subst h; rfl)
  · subst h
    refine ⟨fun x hx => ?_, rfl, rfl⟩
    rcases (show x = 0 ∨ x = 1 ∨ x = 2 ∨ x = 3 ∨ x = 4 by omega) with h | h | h | h | h <;> (subst h; rfl)
  · subst h
    refine ⟨fun x hx => ?_, rfl, rfl⟩
    rcases (show x = 0 ∨ x = 1 ∨ x = 2 ∨ x = 3 ∨ x = 4 by omega) with h | h | h | h | h <;> (subst h; rfl)
  · subst h
    refine ⟨fun x hx => ?_, rfl, rfl⟩
    rcases (show x = 0 ∨ x = 1 ∨ x = 2 ∨ x = 3 ∨ x = 4 by omega) with h | h | h | h | h <;> (subst h; rfl)
  · subst h
    refine ⟨fun x hx => ?_, rfl, rfl⟩
    rcases (show x = 0 ∨ x = 1 ∨ x = 2 ∨ x = 3 ∨ x = 4 by omega) with h | h | h | h | h <;> (subst h; rfl)
  · subst h
    refine ⟨fun x hx => ?_, rfl, rfl⟩
    rcases (show x = 0 ∨ x = 1 ∨ x = 2 ∨ x = 3 ∨ x = 4 by omega) with h | h | h | h | h <;> (subst h; rfl)
  · subst h
    refine ⟨fun x hx => ?_, rfl, rfl⟩
    rcases (show x = 0 ∨ x = 1 ∨ x = 2 ∨ x = 3 ∨ x = 4 by omega) with h | h | h | h | h <;> (subst h; rfl)
theorem rs_kp3 {U L : Int} (h : (L + 1) % 16 = 3) (m t s g c : Int) (pl he : Nat → Int) (gI : Nat → Int) (gF : Nat → Nat → Int) : ∃ pl1 he1, Ff_X1_keep U L gI m t s g c pl gF he = (fl_min (U + 1) 16, 3, fl_nI [gI 0, gI 1, gI 2, gI 3, gI 4, gI 5, gI 6, gI 7, gI 8, gI 9, gI 10, gI 11, gI 12, gI 13, gI 14, m, t, s, g, c, gI 20, gI 21, gI 22, gI 23, gI 24, gI 25, gI 26, gI 27, gI 28, gI 29, gI 30, gI 31, gI 32, gI 33, gI 34, gI 35, gI 36, gI 37, gI 38, gI 39, gI 40, gI 41, gI 42, gI 43, gI 44, gI 45, gI 46, gI 47, gI 48, gI 49, gI 50, gI 51, gI 52, gI 53, gI 54, gI 55, gI 56, gI 57, gI 58, gI 59, gI 60, gI 61, gI 62, gI 63, gI 64, gI 65, gI 66, gI 67, gI 68, gI 69, gI 70, gI 71, gI 72, gI 73, gI 74, gI 75, gI 76, gI 77, gI 78, gI 79], fl_nF [gF 0, gF 1, gF 2, gF 3, gF 4, gF 5, pl1, he1, gF 8, gF 9, gF 10, gF 11, gF 12, gF 13, gF 14, gF 15, gF 16, gF 17, gF 18, gF 19, gF 20, gF 21, gF 22, gF 23, gF 24, gF 25, gF 26, gF 27, gF 28, gF 29, gF 30, gF 31]) ∧ ∀ k : Nat, k < 9 → pl1 k = pl k ∧ he1 k = he k := by
  obtain ⟨pl1, he1, e, q⟩ := rs_cp m t s g c pl (gF 6) he (gF 7)
  refine ⟨pl1, he1, ?_, q⟩
  unfold Ff_X1_keep
  rw [fl_lt_eq rfl, fl_lt_eq h.symm]
  rw [if_neg (by decide)]
  rw [if_neg (by decide)]
  rw [if_neg (by decide)]
  rw [if_pos rfl]
  rw [e, fl_c7_eq rfl]
  rfl
theorem rs_ks3 (m t s g c : Int) (pl he : Nat → Int) (gI : Nat → Int) (gF : Nat → Nat → Int) (pl1 he1 : Nat → Int) (hq : ∀ k : Nat, k < 9 → pl1 k = pl k ∧ he1 k = he k) : rs_P (fl_nI [gI 0, gI 1, gI 2, gI 3, gI 4, gI 5, gI 6, gI 7, gI 8, gI 9, gI 10, gI 11, gI 12, gI 13, gI 14, m, t, s, g, c, gI 20, gI 21, gI 22, gI 23, gI 24, gI 25, gI 26, gI 27, gI 28, gI 29, gI 30, gI 31, gI 32, gI 33, gI 34, gI 35, gI 36, gI 37, gI 38, gI 39, gI 40, gI 41, gI 42, gI 43, gI 44, gI 45, gI 46, gI 47, gI 48, gI 49, gI 50, gI 51, gI 52, gI 53, gI 54, gI 55, gI 56, gI 57, gI 58, gI 59, gI 60, gI 61, gI 62, gI 63, gI 64, gI 65, gI 66, gI 67, gI 68, gI 69, gI 70, gI 71, gI 72, gI 73, gI 74, gI 75, gI 76, gI 77, gI 78, gI 79]) (fl_nF [gF 0, gF 1, gF 2, gF 3, gF 4, gF 5, pl1, he1, gF 8, gF 9, gF 10, gF 11, gF 12, gF 13, gF 14, gF 15, gF 16, gF 17, gF 18, gF 19, gF 20, gF 21, gF 22, gF 23, gF 24, gF 25, gF 26, gF 27, gF 28, gF 29, gF 30, gF 31]) 3 m t s g c pl he ∧ ∀ j : Nat, j < 16 → j ≠ 3 → (∀ x : Nat, x < 5 → (fl_nI [gI 0, gI 1, gI 2, gI 3, gI 4, gI 5, gI 6, gI 7, gI 8, gI 9, gI 10, gI 11, gI 12, gI 13, gI 14, m, t, s, g, c, gI 20, gI 21, gI 22, gI 23, gI 24, gI 25, gI 26, gI 27, gI 28, gI 29, gI 30, gI 31, gI 32, gI 33, gI 34, gI 35, gI 36, gI 37, gI 38, gI 39, gI 40, gI 41, gI 42, gI 43, gI 44, gI 45, gI 46, gI 47, gI 48, gI 49, gI 50, gI 51, gI 52, gI 53, gI 54, gI 55, gI 56, gI 57, gI 58, gI 59, gI 60, gI 61, gI 62, gI 63, gI 64, gI 65, gI 66, gI 67, gI 68, gI 69, gI 70, gI 71, gI 72, gI 73, gI 74, gI 75, gI 76, gI 77, gI 78, gI 79]) (5 * j + x) = gI (5 * j + x)) ∧ (fl_nF [gF 0, gF 1, gF 2, gF 3, gF 4, gF 5, pl1, he1, gF 8, gF 9, gF 10, gF 11, gF 12, gF 13, gF 14, gF 15, gF 16, gF 17, gF 18, gF 19, gF 20, gF 21, gF 22, gF 23, gF 24, gF 25, gF 26, gF 27, gF 28, gF 29, gF 30, gF 31]) (2 * j) = gF (2 * j) ∧ (fl_nF [gF 0, gF 1, gF 2, gF 3, gF 4, gF 5, pl1, he1, gF 8, gF 9, gF 10, gF 11, gF 12, gF 13, gF 14, gF 15, gF 16, gF 17, gF 18, gF 19, gF 20, gF 21, gF 22, gF 23, gF 24, gF 25, gF 26, gF 27, gF 28, gF 29, gF 30, gF 31]) (2 * j + 1) = gF (2 * j + 1) := by
  refine ⟨⟨rfl, rfl, rfl, rfl, rfl, hq⟩, fun j hj hn => ?_⟩
  rcases (show j = 0 ∨ j = 1 ∨ j = 2 ∨ j = 3 ∨ j = 4 ∨ j = 5 ∨ j = 6 ∨ j = 7 ∨ j = 8 ∨ j = 9 ∨ j = 10 ∨ j = 11 ∨ j = 12 ∨ j = 13 ∨ j = 14 ∨ j = 15 by omega) with h | h | h | h | h | h | h | h | h | h | h | h | h | h | h | h
  · subst h
    refine ⟨fun x hx => ?_, rfl, rfl⟩
    rcases (show x = 0 ∨ x = 1 ∨ x = 2 ∨ x = 3 ∨ x = 4 by omega) with h | h | h | h | h <;> (subst h; rfl)
  · subst h
    refine ⟨fun x hx => ?_, rfl, rfl⟩
    rcases (show x = 0 ∨ x = 1 ∨ x = 2 ∨ x = 3 ∨ x = 4 by omega) with h | h | h | h | h <;> (subst h; rfl)
  · subst h
    refine ⟨fun x hx => ?_, rfl, rfl⟩
    rcases (show x = 0 ∨ x = 1 ∨ x = 2 ∨ x = 3 ∨ x = 4 by omega) with h | h | h | h | h <;> (subst h; rfl)
  · exact absurd h hn
  · subst h
    refine ⟨fun x hx => ?_, rfl, rfl⟩
    rcases (show x = 0 ∨ x = 1 ∨ x = 2 ∨ x = 3 ∨ x = 4 by omega) with h | h | h | h | h <;> (subst h; rfl)
  · subst h
    refine ⟨fun x hx => ?_, rfl, rfl⟩
    rcases (show x = 0 ∨ x = 1 ∨ x = 2 ∨ x = 3 ∨ x = 4 by omega) with h | h | h | h | h <;> (subst h; rfl)
  · subst h
    refine ⟨fun x hx => ?_, rfl, rfl⟩
    rcases (show x = 0 ∨ x = 1 ∨ x = 2 ∨ x = 3 ∨ x = 4 by omega) with h | h | h | h | h <;> (subst h; rfl)
  · subst h
    refine ⟨fun x hx => ?_, rfl, rfl⟩
    rcases (show x = 0 ∨ x = 1 ∨ x = 2 ∨ x = 3 ∨ x = 4 by omega) with h | h | h | h | h <;> (subst h; rfl)
  · subst h
    refine ⟨fun x hx => ?_, rfl, rfl⟩
    rcases (show x = 0 ∨ x = 1 ∨ x = 2 ∨ x = 3 ∨ x = 4 by omega) with h | h | h | h | h <;> (subst h; rfl)
  · subst h
    refine ⟨fun x hx => ?_, rfl, rfl⟩
    rcases (show x = 0 ∨ x = 1 ∨ x = 2 ∨ x = 3 ∨ x = 4 by omega) with h | h | h | h | h <;> (subst h; rfl)
  · subst h
    refine ⟨fun x hx => ?_, rfl, rfl⟩
    rcases (show x = 0 ∨ x = 1 ∨ x = 2 ∨ x = 3 ∨ x = 4 by omega) with h | h | h | h | h <;> (subst h; rfl)
  · subst h
    refine ⟨fun x hx => ?_, rfl, rfl⟩
    rcases (show x = 0 ∨ x = 1 ∨ x = 2 ∨ x = 3 ∨ x = 4 by omega) with h | h | h | h | h <;> (subst h; rfl)
  · subst h
    refine ⟨fun x hx => ?_, rfl, rfl⟩
    rcases (show x = 0 ∨ x = 1 ∨ x = 2 ∨ x = 3 ∨ x = 4 by omega) with h | h | h | h | h <;> (subst h; rfl)
  · subst h
    refine ⟨fun x hx => ?_, rfl, rfl⟩
    rcases (show x = 0 ∨ x = 1 ∨ x = 2 ∨ x = 3 ∨ x = 4 by omega) with h | h | h | h | h <;> (subst h; rfl)
  · subst h
    refine ⟨fun x hx => ?_, rfl, rfl⟩
    rcases (show x = 0 ∨ x = 1 ∨ x = 2 ∨ x = 3 ∨ x = 4 by omega) with h | h | h | h | h <;> (subst h; rfl)
  · subst h
    refine ⟨fun x hx => ?_, rfl, rfl⟩
    rcases (show x = 0 ∨ x = 1 ∨ x = 2 ∨ x = 3 ∨ x = 4 by omega) with h | h | h | h | h <;> (subst h; rfl)
theorem rs_kp4 {U L : Int} (h : (L + 1) % 16 = 4) (m t s g c : Int) (pl he : Nat → Int) (gI : Nat → Int) (gF : Nat → Nat → Int) : ∃ pl1 he1, Ff_X1_keep U L gI m t s g c pl gF he = (fl_min (U + 1) 16, 4, fl_nI [gI 0, gI 1, gI 2, gI 3, gI 4, gI 5, gI 6, gI 7, gI 8, gI 9, gI 10, gI 11, gI 12, gI 13, gI 14, gI 15, gI 16, gI 17, gI 18, gI 19, m, t, s, g, c, gI 25, gI 26, gI 27, gI 28, gI 29, gI 30, gI 31, gI 32, gI 33, gI 34, gI 35, gI 36, gI 37, gI 38, gI 39, gI 40, gI 41, gI 42, gI 43, gI 44, gI 45, gI 46, gI 47, gI 48, gI 49, gI 50, gI 51, gI 52, gI 53, gI 54, gI 55, gI 56, gI 57, gI 58, gI 59, gI 60, gI 61, gI 62, gI 63, gI 64, gI 65, gI 66, gI 67, gI 68, gI 69, gI 70, gI 71, gI 72, gI 73, gI 74, gI 75, gI 76, gI 77, gI 78, gI 79], fl_nF [gF 0, gF 1, gF 2, gF 3, gF 4, gF 5, gF 6, gF 7, pl1, he1, gF 10, gF 11, gF 12, gF 13, gF 14, gF 15, gF 16, gF 17, gF 18, gF 19, gF 20, gF 21, gF 22, gF 23, gF 24, gF 25, gF 26, gF 27, gF 28, gF 29, gF 30, gF 31]) ∧ ∀ k : Nat, k < 9 → pl1 k = pl k ∧ he1 k = he k := by
  obtain ⟨pl1, he1, e, q⟩ := rs_cp m t s g c pl (gF 8) he (gF 9)
  refine ⟨pl1, he1, ?_, q⟩
  unfold Ff_X1_keep
  rw [fl_lt_eq rfl, fl_lt_eq h.symm]
  rw [if_neg (by decide)]
  rw [if_neg (by decide)]
  rw [if_neg (by decide)]
  rw [if_neg (by decide)]
  rw [if_pos rfl]
  rw [e, fl_c7_eq rfl]
  rfl
theorem rs_ks4 (m t s g c : Int) (pl he : Nat → Int) (gI : Nat → Int) (gF : Nat → Nat → Int) (pl1 he1 : Nat → Int) (hq : ∀ k : Nat, k < 9 → pl1 k = pl k ∧ he1 k = he k) : rs_P (fl_nI [gI 0, gI 1, gI 2, gI 3, gI 4, gI 5, gI 6, gI 7, gI 8, gI 9, gI 10, gI 11, gI 12, gI 13, gI 14, gI 15, gI 16, gI 17, gI 18, gI 19, m, t, s, g, c, gI 25, gI 26, gI 27, gI 28, gI 29, gI 30, gI 31, gI 32, gI 33, gI 34, gI 35, gI 36, gI 37, gI 38, gI 39, gI 40, gI 41, gI 42, gI 43, gI 44, gI 45, gI 46, gI 47, gI 48, gI 49, gI 50, gI 51, gI 52, gI 53, gI 54, gI 55, gI 56, gI 57, gI 58, gI 59, gI 60, gI 61, gI 62, gI 63, gI 64, gI 65, gI 66, gI 67, gI 68, gI 69, gI 70, gI 71, gI 72, gI 73, gI 74, gI 75, gI 76, gI 77, gI 78, gI 79]) (fl_nF [gF 0, gF 1, gF 2, gF 3, gF 4, gF 5, gF 6, gF 7, pl1, he1, gF 10, gF 11, gF 12, gF 13, gF 14, gF 15, gF 16, gF 17, gF 18, gF 19, gF 20, gF 21, gF 22, gF 23, gF 24, gF 25, gF 26, gF 27, gF 28, gF 29, gF 30, gF 31]) 4 m t s g c pl he ∧ ∀ j : Nat, j < 16 → j ≠ 4 → (∀ x : Nat, x < 5 → (fl_nI [gI 0, gI 1, gI 2, gI 3, gI 4, gI 5, gI 6, gI 7, gI 8, gI 9, gI 10, gI 11, gI 12, gI 13, gI 14, gI 15, gI 16, gI 17, gI 18, gI 19, m, t, s, g, c, gI 25, gI 26, gI 27, gI 28, gI 29, gI 30, gI 31, gI 32, gI 33, gI 34, gI 35, gI 36, gI 37, gI 38, gI 39, gI 40, gI 41, gI 42, gI 43, gI 44, gI 45, gI 46, gI 47, gI 48, gI 49, gI 50, gI 51, gI 52, gI 53, gI 54, gI 55, gI 56, gI 57, gI 58, gI 59, gI 60, gI 61, gI 62, gI 63, gI 64, gI 65, gI 66, gI 67, gI 68, gI 69, gI 70, gI 71, gI 72, gI 73, gI 74, gI 75, gI 76, gI 77, gI 78, gI 79]) (5 * j + x) = gI (5 * j + x)) ∧ (fl_nF [gF 0, gF 1, gF 2, gF 3, gF 4, gF 5, gF 6, gF 7, pl1, he1, gF 10, gF 11, gF 12, gF 13, gF 14, gF 15, gF 16, gF 17, gF 18, gF 19, gF 20, gF 21, gF 22, gF 23, gF 24, gF 25, gF 26, gF 27, gF 28, gF 29, gF 30, gF 31]) (2 * j) = gF (2 * j) ∧ (fl_nF [gF 0, gF 1, gF 2, gF 3, gF 4, gF 5, gF 6, gF 7, pl1, he1, gF 10, gF 11, gF 12, gF 13, gF 14, gF 15, gF 16, gF 17, gF 18, gF 19, gF 20, gF 21, gF 22, gF 23, gF 24, gF 25, gF 26, gF 27, gF 28, gF 29, gF 30, gF 31]) (2 * j + 1) = gF (2 * j + 1) := by
  refine ⟨⟨rfl, rfl, rfl, rfl, rfl, hq⟩, fun j hj hn => ?_⟩
  rcases (show j = 0 ∨ j = 1 ∨ j = 2 ∨ j = 3 ∨ j = 4 ∨ j = 5 ∨ j = 6 ∨ j = 7 ∨ j = 8 ∨ j = 9 ∨ j = 10 ∨ j = 11 ∨ j = 12 ∨ j = 13 ∨ j = 14 ∨ j = 15 by omega) with h | h | h | h | h | h | h | h | h | h | h | h | h | h | h | h
  · subst h
    refine ⟨fun x hx => ?_, rfl, rfl⟩
    rcases (show x = 0 ∨ x = 1 ∨ x = 2 ∨ x = 3 ∨ x = 4 by omega) with h | h | h | h | h <;> (subst h; rfl)
  · subst h
    refine ⟨fun x hx => ?_, rfl, rfl⟩
    rcases (show x = 0 ∨ x = 1 ∨ x = 2 ∨ x = 3 ∨ x = 4 by omega) with h | h | h | h | h <;> (subst h; rfl)
  · subst h
    refine ⟨fun x hx => ?_, rfl, rfl⟩
    rcases (show x = 0 ∨ x = 1 ∨ x = 2 ∨ x = 3 ∨ x = 4 by omega) with h | h | h | h | h <;> (subst h; rfl)
  · subst h
    refine ⟨fun x hx => ?_, rfl, rfl⟩
    rcases (show x = 0 ∨ x = 1 ∨ x = 2 ∨ x = 3 ∨ x = 4 by omega) with h | h | h | h | h <;> (subst h; rfl)
  · exact absurd h hn
  · subst h
    refine ⟨fun x hx => ?_, rfl, rfl⟩
    rcases (show x = 0 ∨ x = 1 ∨ x = 2 ∨ x = 3 ∨ x = 4 by omega) with h | h | h | h | h <;> (subst h; rfl)
  · subst h
    refine ⟨fun x hx => ?_, rfl, rfl⟩
    rcases (show x = 0 ∨ x = 1 ∨ x = 2 ∨ x = 3 ∨ x = 4 by omega) with h | h | h | h | h <;> (subst h; rfl)
  · subst h
    refine ⟨fun x hx => ?_, rfl, rfl⟩
    rcases (show x = 0 ∨ x = 1 ∨ x = 2 ∨ x = 3 ∨ x = 4 by omega) with h | h | h | h | h <;> (subst h; rfl)
  · subst h
    refine ⟨fun x hx => ?_, rfl, rfl⟩
    rcases (show x = 0 ∨ x = 1 ∨ x = 2 ∨ x = 3 ∨ x = 4 by omega) with h | h | h | h | h <;> (subst h; rfl)
  · subst h
    refine ⟨fun x hx => ?_, rfl, rfl⟩
    rcases (show x = 0 ∨ x = 1 ∨ x = 2 ∨ x = 3 ∨ x = 4 by omega) with h | h | h | h | h <;> (subst h; rfl)
  · subst h
    refine ⟨fun x hx => ?_, rfl, rfl⟩
    rcases (show x = 0 ∨ x = 1 ∨ x = 2 ∨ x = 3 ∨ x = 4 by omega) with h | h | h | h | h <;> (subst h; rfl)
  · subst h
    refine ⟨fun x hx => ?_, rfl, rfl⟩
    rcases (show x = 0 ∨ x = 1 ∨ x = 2 ∨ x = 3 ∨ x = 4 by omega) with h | h | h | h | h <;> (subst h; rfl)
  · subst h
    refine ⟨fun x hx => ?_, rfl, rfl⟩
    rcases (show x = 0 ∨ x = 1 ∨ x = 2 ∨ x = 3 ∨ x = 4 by omega) with h | h | h | h | h <;> (subst h; rfl)
  · subst h
    refine ⟨fun x hx => ?_, rfl, rfl⟩
    rcases (show x = 0 ∨ x = 1 ∨ x = 2 ∨ x = 3 ∨ x = 4 by omega) with h | h | h | h | h <;> (subst h; rfl)
  · subst h
    refine ⟨fun x hx => ?_, rfl, rfl⟩
    rcases (show x = 0 ∨ x = 1 ∨ x = 2 ∨ x = 3 ∨ x = 4 by omega) with h | h | h | h | h <;> (subst h; rfl)
  · subst h
    refine ⟨fun x hx => ?_, rfl, rfl⟩
    rcases (show x = 0 ∨ x = 1 ∨ x = 2 ∨ x = 3 ∨ x = 4 by omega) with h | h | h | h | h <;> (subst h; rfl)
theorem rs_kp5 {U L : Int} (h : (L + 1) % 16 = 5) (m t s g c : Int) (pl he : Nat → Int) (gI : Nat → Int) (gF : Nat → Nat → Int) : ∃ pl1 he1, Ff_X1_keep U L gI m t s g c pl gF he = (fl_min (U + 1) 16, 5, fl_nI [gI 0, gI 1, gI 2, gI 3, gI 4, gI 5, gI 6, gI 7, gI 8, gI 9, gI 10, gI 11, gI 12, gI 13, gI 14, gI 15, gI 16, gI 17, gI 18, gI 19, gI 20, gI 21, gI 22, gI 23, gI 24, m, t, s, g, c, gI 30, gI 31, gI 32, gI 33, gI 34, gI 35, gI 36, gI 37, gI 38, gI 39, gI 40, gI 41, gI 42, gI 43, gI 44, gI 45, gI 46, gI 47, gI 48, gI 49, gI 50, gI 51, gI 52, gI 53, gI 54, gI 55, gI 56, gI 57, gI 58, gI 59, gI 60, gI 61, gI 62, gI 63, gI 64, gI 65, gI 66, gI 67, gI 68, gI 69, gI 70, gI 71, gI 72, gI 73, gI 74, gI 75, gI 76, gI 77, gI 78, gI 79], fl_nF [gF 0, gF 1, gF 2, gF 3, gF 4, gF 5, gF 6, gF 7, gF 8, gF 9, pl1, he1, gF 12, gF 13, gF 14, gF 15, gF 16, gF 17, gF 18, gF 19, gF 20, gF 21, gF 22, gF 23, gF 24, gF 25, gF 26, gF 27, gF 28, gF 29, gF 30, gF 31]) ∧ ∀ k : Nat, k < 9 → pl1 k = pl k ∧ he1 k = he k := by
  obtain ⟨pl1, he1, e, q⟩ := rs_cp m t s g c pl (gF 10) he (gF 11)
  refine ⟨pl1, he1, ?_, q⟩
  unfold Ff_X1_keep
  rw [fl_lt_eq rfl, fl_lt_eq h.symm]
  rw [if_neg (by decide)]
  rw [if_neg (by decide)]
  rw [if_neg (by decide)]
  rw [if_neg (by decide)]
  rw [if_neg (by decide)]
  rw [if_pos rfl]
  rw [e, fl_c7_eq rfl]
  rfl
theorem rs_ks5 (m t s g c : Int) (pl he : Nat → Int) (gI : Nat → Int) (gF : Nat → Nat → Int) (pl1 he1 : Nat → Int) (hq : ∀ k : Nat, k < 9 → pl1 k = pl k ∧ he1 k = he k) : rs_P (fl_nI [gI 0, gI 1, gI 2, gI 3, gI 4, gI 5, gI 6, gI 7, gI 8, gI 9, gI 10, gI 11, gI 12, gI 13, gI 14, gI 15, gI 16, gI 17, gI 18, gI 19, gI 20, gI 21, gI 22, gI 23, gI 24, m, t, s, g, c, gI 30, gI 31, gI 32, gI 33, gI 34, gI 35, gI 36, gI 37, gI 38, gI 39, gI 40, gI 41, gI 42, gI 43, gI 44, gI 45, gI 46, gI 47, gI 48, gI 49, gI 50, gI 51, gI 52, gI 53, gI 54, gI 55, gI 56, gI 57, gI 58, gI 59, gI 60, gI 61, gI 62, gI 63, gI 64, gI 65, gI 66, gI 67, gI 68, gI 69, gI 70, gI 71, gI 72, gI 73, gI 74, gI 75, gI 76, gI 77, gI 78, gI 79]) (fl_nF [gF 0, gF 1, gF 2, gF 3, gF 4, gF 5, gF 6, gF 7, gF 8, gF 9, pl1, he1, gF 12, gF 13, gF 14, gF 15, gF 16, gF 17, gF 18, gF 19, gF 20, gF 21, gF 22, gF 23, gF 24, gF 25, gF 26, gF 27, gF 28, gF 29, gF 30, gF 31]) 5 m t s g c pl he ∧ ∀ j : Nat, j < 16 → j ≠ 5 → (∀ x : Nat, x < 5 → (fl_nI [gI 0, gI 1, gI 2, gI 3, gI 4, gI 5, gI 6, gI 7, gI 8, gI 9, gI 10, gI 11, gI 12, gI 13, gI 14, gI 15, gI 16, gI 17, gI 18, gI 19, gI 20, gI 21, gI 22, gI 23, gI 24, m, t, s, g, c, gI 30, gI 31, gI 32, gI 33, gI 34, gI 35, gI 36, gI 37, gI 38, gI 39, gI 40, gI 41, gI 42, gI 43, gI 44, gI 45, gI 46, gI 47, gI 48, gI 49, gI 50, gI 51, gI 52, gI 53, gI 54, gI 55, gI 56, gI 57, gI 58, gI 59, gI 60, gI 61, gI 62, gI 63, gI 64, gI 65, gI 66, gI 67, gI 68, gI 69, gI 70, gI 71, gI 72, gI 73, gI 74, gI 75, gI 76, gI 77, gI 78, gI 79]) (5 * j + x) = gI (5 * j + x)) ∧ (fl_nF [gF 0, gF 1, gF 2, gF 3, gF 4, gF 5, gF 6, gF 7, gF 8, gF 9, pl1, he1, gF 12, gF 13, gF 14, gF 15, gF 16, gF 17, gF 18, gF 19, gF 20, gF 21, gF 22, gF 23, gF 24, gF 25, gF 26, gF 27, gF 28, gF 29, gF 30, gF 31]) (2 * j) = gF (2 * j) ∧ (fl_nF [gF 0, gF 1, gF 2, gF 3, gF 4, gF 5, gF 6, gF 7, gF 8, gF 9, pl1, he1, gF 12, gF 13, gF 14, gF 15, gF 16, gF 17, gF 18, gF 19, gF 20, gF 21, gF 22, gF 23, gF 24, gF 25, gF 26, gF 27, gF 28, gF 29, gF 30, gF 31]) (2 * j + 1) = gF (2 * j + 1) := by
  refine ⟨⟨rfl, rfl, rfl, rfl, rfl, hq⟩, fun j hj hn => ?_⟩
  rcases (show j = 0 ∨ j = 1 ∨ j = 2 ∨ j = 3 ∨ j = 4 ∨ j = 5 ∨ j = 6 ∨ j = 7 ∨ j = 8 ∨ j = 9 ∨ j = 10 ∨ j = 11 ∨ j = 12 ∨ j = 13 ∨ j = 14 ∨ j = 15 by omega) with h | h | h | h | h | h | h | h | h | h | h | h | h | h | h | h
  · subst h
    refine ⟨fun x hx => ?_, rfl, rfl⟩
    rcases (show x = 0 ∨ x = 1 ∨ x = 2 ∨ x = 3 ∨ x = 4 by omega) with h | h | h | h | h <;> (subst h; rfl)
  · subst h
    refine ⟨fun x hx => ?_, rfl, rfl⟩
    rcases (show x = 0 ∨ x = 1 ∨ x = 2 ∨ x = 3 ∨ x = 4 by omega) with h | h | h | h | h <;> (subst h; rfl)
  · subst h
    refine ⟨fun x hx => ?_, rfl, rfl⟩
    rcases (show x = 0 ∨ x = 1 ∨ x = 2 ∨ x = 3 ∨ x = 4 by omega) with h | h | h | h | h <;> (subst h; rfl)
  · subst h
    refine ⟨fun x hx => ?_, rfl, rfl⟩
    rcases (show x = 0 ∨ x = 1 ∨ x = 2 ∨ x = 3 ∨ x = 4 by omega) with h | h | h | h | h <;> (subst h; rfl)
  · subst h
    refine ⟨fun x hx => ?_, rfl, rfl⟩
    rcases (show x = 0 ∨ x = 1 ∨ x = 2 ∨ x = 3 ∨ x = 4 by omega) with h | h | h | h | h <;> (subst h; rfl)
  · exact absurd h hn
  · subst h
    refine ⟨fun x hx => ?_, rfl, rfl⟩
    rcases (show x = 0 ∨ x = 1 ∨ x = 2 ∨ x = 3 ∨ x = 4 by omega) with h | h | h | h | h <;> (subst h; rfl)
  · subst h
    refine ⟨fun x hx => ?_, rfl, rfl⟩
    rcases (show x = 0 ∨ x = 1 ∨ x = 2 ∨ x = 3 ∨ x = 4 by omega) with h | h | h | h | h <;> (subst h; rfl)
  · subst h
    refine ⟨fun x hx => ?_, rfl, rfl⟩
    rcases (show x = 0 ∨ x = 1 ∨ x = 2 ∨ x = 3 ∨ x = 4 by omega) with h | h | h | h | h <;> (subst h; rfl)
  · subst h
    refine ⟨fun x hx => ?_, rfl, rfl⟩
    rcases (show x = 0 ∨ x = 1 ∨ x = 2 ∨ x = 3 ∨ x = 4 by omega) with h | h | h | h | h <;> (subst h; rfl)
  · subst h
    refine ⟨fun x hx => ?_, rfl, rfl⟩
    rcases (show x = 0 ∨ x = 1 ∨ x = 2 ∨ x = 3 ∨ x = 4 by omega) with h | h | h | h | h <;> (subst h; rfl)
  · subst h
    refine ⟨fun x hx => ?_, rfl, rfl⟩
    rcases (show x = 0 ∨ x = 1 ∨ x = 2 ∨ x = 3 ∨ x = 4 by omega) with h | h | h | h | h <;> (subst h; rfl)
  · subst h
    refine ⟨fun x hx => ?_, rfl, rfl⟩
    rcases (show x = 0 ∨ x = 1 ∨ x = 2 ∨ x = 3 ∨ x = 4 by omega) with h | h | h | h | h <;> (subst h; rfl)
  · subst h
    refine ⟨fun x hx => ?_, rfl, rfl⟩
    rcases (show x = 0 ∨ x = 1 ∨ x = 2 ∨ x = 3 ∨ x = 4 by omega) with h | h | h | h | h <;> (subst h; rfl)
  · subst h
    refine ⟨fun x hx => ?_, rfl, rfl⟩
    rcases (show x = 0 ∨ x = 1 ∨ x = 2 ∨ x = 3 ∨ x = 4 by omega) with h | h | h | h | h <;> (subst h; rfl)
  · subst h
    refine ⟨fun x hx => ?_, rfl, rfl⟩
    rcases (show x = 0 ∨ x = 1 ∨ x = 2 ∨ x = 3 ∨ x = 4 by omega) with h | h | h | h | h <;> (subst h; rfl)
theorem rs_kp6 {U L : Int} (h : (L + 1) % 16 = 6) (m t s g c : Int) (pl he : Nat → Int) (gI : Nat → Int) (gF : Nat → Nat → Int) : ∃ pl1 he1, Ff_X1_keep U L gI m t s g c pl gF he = (fl_min (U + 1) 16, 6, fl_nI [gI 0, gI 1, gI 2, gI 3, gI 4, gI 5, gI 6, gI 7, gI 8, gI 9, gI 10, gI 11, gI 12, gI 13, gI 14, gI 15, gI 16, gI 17, gI 18, gI 19, gI 20, gI 21, gI 22, gI 23, gI 24, gI 25, gI 26, gI 27, gI 28, gI 29, m, t, s, g, c, gI 35, gI 36, gI 37, gI 38, gI 39, gI 40, gI 41, gI 42, gI 43, gI 44, gI 45, gI 46, gI 47, gI 48, gI 49, gI 50, gI 51, gI 52, gI 53, gI 54, gI 55, gI 56, gI 57, gI 58, gI 59, gI 60, gI 61, gI 62, gI 63, gI 64, gI 65, gI 66, gI 67, gI 68, gI 69, gI 70, gI 71, gI 72, gI 73, gI 74, gI 75, gI 76, gI 77, gI 78, gI 79], fl_nF [gF 0, gF 1, gF 2, gF 3, gF 4, gF 5, gF 6, gF 7, gF 8, gF 9, gF 10, gF 11, pl1, he1, gF 14, gF 15, gF 16, gF 17, gF 18, gF 19, gF 20, gF 21, gF 22, gF 23, gF 24, gF 25, gF 26, gF 27, gF 28, gF 29, gF 30, gF 31]) ∧ ∀ k : Nat, k < 9 → pl1 k = pl k ∧ he1 k = he k := by
  obtain ⟨pl1, he1, e, q⟩ := rs_cp m t s g c pl (gF 12) he (gF 13)
  refine ⟨pl1, he1, ?_, q⟩
  unfold Ff_X1_keep
  rw [fl_lt_eq rfl, fl_lt_eq h.symm]
  rw [if_neg (by decide)]
  rw [if_neg (by decide)]
  rw [if_neg (by decide)]
  rw [if_neg (by decide)]
  rw [if_neg (by decide)]
  rw [if_neg (by decide)]
  rw [if_pos rfl]
  rw [e, fl_c7_eq rfl]
  rfl
theorem rs_ks6 (m t s g c : Int) (pl he : Nat → Int) (gI : Nat → Int) (gF : Nat → Nat → Int) (pl1 he1 : Nat → Int) (hq : ∀ k : Nat, k < 9 → pl1 k = pl k ∧ he1 k = he k) : rs_P (fl_nI [gI 0, gI 1, gI 2, gI 3, gI 4, gI 5, gI 6, gI 7, gI 8, gI 9, gI 10, gI 11, gI 12, gI 13, gI 14, gI 15, gI 16, gI 17, gI 18, gI 19, gI 20, gI 21, gI 22, gI 23, gI 24, gI 25, gI 26, gI 27, gI 28, gI 29, m, t, s, g, c, gI 35, gI 36, gI 37, gI 38, gI 39, gI 40, gI 41, gI 42, gI 43, gI 44, gI 45, gI 46, gI 47, gI 48, gI 49, gI 50, gI 51, gI 52, gI 53, gI 54, gI 55, gI 56, gI 57, gI 58, gI 59, gI 60, gI 61, gI 62, gI 63, gI 64, gI 65, gI 66, gI 67, gI 68, gI 69, gI 70, gI 71, gI 72, gI 73, gI 74, gI 75, gI 76, gI 77, gI 78, gI 79]) (fl_nF [gF 0, gF 1, gF 2, gF 3, gF 4, gF 5, gF 6, gF 7, gF 8, gF 9, gF 10, gF 11, pl1, he1, gF 14, gF 15, gF 16, gF 17, gF 18, gF 19, gF 20, gF 21, gF 22, gF 23, gF 24, gF 25, gF 26, gF 27, gF 28, gF 29, gF 30, gF 31]) 6 m t s g c pl he ∧ ∀ j : Nat, j < 16 → j ≠ 6 → (∀ x : Nat, x < 5 → (fl_nI [gI 0, gI 1, gI 2, gI 3, gI 4, gI 5, gI 6, gI 7, gI 8, gI 9, gI 10, gI 11, gI 12, gI 13, gI 14, gI 15, gI 16, gI 17, gI 18, gI 19, gI 20, gI 21, gI 22, gI 23, gI 24, gI 25, gI 26, gI 27, gI 28, gI 29, m, t, s, g, c, gI 35, gI 36, gI 37, gI 38, gI 39, gI 40, gI 41, gI 42, gI 43, gI 44, gI 45, gI 46, gI 47, gI 48, gI 49, gI 50, gI 51, gI 52, gI 53, gI 54, gI 55, gI 56, gI 57, gI 58, gI 59, gI 60, gI 61, gI 62, gI 63, gI 64, gI 65, gI 66, gI 67, gI 68, gI 69, gI 70, gI 71, gI 72, gI 73, gI 74, gI 75, gI 76, gI 77, gI 78, gI 79]) (5 * j + x) = gI (5 * j + x)) ∧ (fl_nF [gF 0, gF 1, gF 2, gF 3, gF 4, gF 5, gF 6, gF 7, gF 8, gF 9, gF 10, gF 11, pl1, he1, gF 14, gF 15, gF 16, gF 17, gF 18, gF 19, gF 20, gF 21, gF 22, gF 23, gF 24, gF 25, gF 26, gF 27, gF 28, gF 29, gF 30, gF 31]) (2 * j) = gF (2 * j) ∧ (fl_nF [gF 0, gF 1, gF 2, gF 3, gF 4, gF 5, gF 6, gF 7, gF 8, gF 9, gF 10, gF 11, pl1, he1, gF 14, gF 15, gF 16, gF 17, gF 18, gF 19, gF 20, gF 21, gF 22, gF 23, gF 24, gF 25, gF 26, gF 27, gF 28, gF 29, gF 30, gF 31]) (2 * j + 1) = gF (2 * j + 1) := by
  refine ⟨⟨rfl, rfl, rfl, rfl, rfl, hq⟩, fun j hj hn => ?_⟩
  rcases (show j = 0 ∨ j = 1 ∨ j = 2 ∨ j = 3 ∨ j = 4 ∨ j = 5 ∨ j = 6 ∨ j = 7 ∨ j = 8 ∨ j = 9 ∨ j = 10 ∨ j = 11 ∨ j = 12 ∨ j = 13 ∨ j = 14 ∨ j = 15 by omega) with h | h | h | h | h | h | h | h | h | h | h | h | h | h | h | h
  · subst h
    refine ⟨fun x hx => ?_, rfl, rfl⟩
    rcases (show x = 0 ∨ x = 1 ∨ x = 2 ∨ x = 3 ∨ x = 4 by omega) with h | h | h | h | h <;> (subst h; rfl)
  · subst h
    refine ⟨fun x hx => ?_, rfl, rfl⟩
    rcases (show x = 0 ∨ x = 1 ∨ x = 2 ∨ x = 3 ∨ x = 4 by omega) with h | h | h | h | h <;> (subst h; rfl)
  · subst h
    refine ⟨fun x hx => ?_, rfl, rfl⟩
    rcases (show x = 0 ∨ x = 1 ∨ x = 2 ∨ x = 3 ∨ x = 4 by omega) with h | h | h | h | h <;> (subst h; rfl)
  · subst h
    refine ⟨fun x hx => ?_, rfl, rfl⟩
    rcases (show x = 0 ∨ x = 1 ∨ x = 2 ∨ x = 3 ∨ x = 4 by omega) with h | h | h | h | h <;> (subst h; rfl)
  · subst h
    refine ⟨fun x hx => ?_, rfl, rfl⟩
    rcases (show x = 0 ∨ x = 1 ∨ x = 2 ∨ x = 3 ∨ x = 4 by omega) with h | h | h | h | h <;> (subst h; rfl)
  · subst h
    refine ⟨fun x hx => ?_, rfl, rfl⟩
    rcases (show x = 0 ∨ x = 1 ∨ x = 2 ∨ x = 3 ∨ x = 4 by omega) with h | h | h | h | h <;> (subst h; rfl)
  · exact absurd h hn
  · subst h
    refine ⟨fun x hx => ?_, rfl, rfl⟩
    rcases (show x = 0 ∨ x = 1 ∨ x = 2 ∨ x = 3 ∨ x = 4 by omega) with h | h | h | h | h <;> (subst h; rfl)
  · subst h
    refine ⟨fun x hx => ?_, rfl, rfl⟩
    rcases (show x = 0 ∨ x = 1 ∨ x = 2 ∨ x = 3 ∨ x = 4 by omega) with h | h | h | h | h <;> (subst h; rfl)
  · subst h
    refine ⟨fun x hx => ?_, rfl, rfl⟩
    rcases (show x = 0 ∨ x = 1 ∨ x = 2 ∨ x = 3 ∨ x = 4 by omega) with h | h | h | h | h <;> (subst h; rfl)
  · subst h
    refine ⟨fun x hx => ?_, rfl, rfl⟩
    rcases (show x = 0 ∨ x = 1 ∨ x = 2 ∨ x = 3 ∨ x = 4 by omega) with h | h | h | h | h <;> (subst h; rfl)
  · subst h
    refine ⟨fun x hx => ?_, rfl, rfl⟩
    rcases (show x = 0 ∨ x = 1 ∨ x = 2 ∨ x = 3 ∨ x = 4 by omega) with h | h | h | h | h <;> (subst h; rfl)
  · subst h
    refine ⟨fun x hx => ?_, rfl, rfl⟩
    rcases (show x = 0 ∨ x = 1 ∨ x = 2 ∨ x = 3 ∨ x = 4 by omega) with h | h | h | h | h <;> (subst h; rfl)
  · subst h
    refine ⟨fun x hx => ?_, rfl, rfl⟩
    rcases (show x = 0 ∨ x = 1 ∨ x = 2 ∨ x = 3 ∨ x = 4 by omega) with h | h | h | h | h <;> (subst h; rfl)
  · subst h
    refine ⟨fun x hx => ?_, rfl, rfl⟩
    rcases (show x = 0 ∨ x = 1 ∨ x = 2 ∨ x = 3 ∨ x = 4 by omega) with h | h | h | h | h <;> (subst h; rfl)
  · subst h
    refine ⟨fun x hx => ?_, rfl, rfl⟩
    rcases (show x = 0 ∨ x = 1 ∨ x = 2 ∨ x = 3 ∨ x = 4 by omega) with h | h | h | h | h <;> (subst h; rfl)
theorem rs_kp7 {U L : Int} (h : (L + 1) % 16 = 7) (m t s g c : Int) (pl he : Nat → Int) (gI : Nat → Int) (gF : Nat → Nat → Int) : ∃ pl1 he1, Ff_X1_keep U L gI m t s g c pl gF he = (fl_min (U + 1) 16, 7, fl_nI [gI 0, gI 1, gI 2, gI 3, gI 4, gI 5, gI 6, gI 7, gI 8, gI 9, gI 10, gI 11, gI 12, gI 13, gI 14, gI 15, gI 16, gI 17, gI 18, gI 19, gI 20, gI 21, gI 22, gI 23, gI 24, gI 25, gI 26, gI 27, gI 28, gI 29, gI 30, gI 31, gI 32, gI 33, gI 34, m, t, s, g, c, gI 40, gI 41, gI 42, gI 43, gI 44, gI 45, gI 46, gI 47, gI 48, gI 49, gI 50, gI 51, gI 52, gI 53, gI 54, gI 55, gI 56, gI 57, gI 58, gI 59, gI 60, gI 61, gI 62, gI 63, gI 64, gI 65, gI 66, gI 67, gI 68, gI 69, gI 70, gI 71, gI 72, gI 73, gI 74, gI 75, gI 76, gI 77, gI 78, gI 79], fl_nF [gF 0, gF 1, gF 2, gF 3, gF 4, gF 5, gF 6, gF 7, gF 8, gF 9, gF 10, gF 11, gF 12, gF 13, pl1, he1, gF 16, gF 17, gF 18, gF 19, gF 20, gF 21, gF 22, gF 23, gF 24, gF 25, gF 26, gF 27, gF 28, gF 29, gF 30, gF 31]) ∧ ∀ k : Nat, k < 9 → pl1 k = pl k ∧ he1 k = he k := by
  obtain ⟨pl1, he1, e, q⟩ := rs_cp m t s g c pl (gF 14) he (gF 15)
  refine ⟨pl1, he1, ?_, q⟩
  unfold Ff_X1_keep
  rw [fl_lt_eq rfl, fl_lt_eq h.symm]
  rw [if_neg (by decide)]
  rw [if_neg (by decide)]
  rw [if_neg (by decide)]
  rw [if_neg (by decide)]
  rw [if_neg (by decide)]
  rw [if_neg (by decide)]
  rw [if_neg (by decide)]
  rw [if_pos rfl]
  rw [e, fl_c7_eq rfl]
  rfl
theorem rs_ks7 (m t s g c : Int) (pl he : Nat → Int) (gI : Nat → Int) (gF : Nat → Nat → Int) (pl1 he1 : Nat → Int) (hq : ∀ k : Nat, k < 9 → pl1 k = pl k ∧ he1 k = he k) : rs_P (fl_nI [gI 0, gI 1, gI 2, gI 3, gI 4, gI 5, gI 6, gI 7, gI 8, gI 9, gI 10, gI 11, gI 12, gI 13, gI 14, gI 15, gI 16, gI 17, gI 18, gI 19, gI 20, gI 21, gI 22, gI 23, gI 24, gI 25, gI 26, gI 27, gI 28, gI 29, gI 30, gI 31, gI 32, gI 33, gI 34, m, t, s, g, c, gI 40, gI 41, gI 42, gI 43, gI 44, gI 45, gI 46, gI 47, gI 48, gI 49, gI 50, gI 51, gI 52, gI 53, gI 54, gI 55, gI 56, gI 57, gI 58, gI 59, gI 60, gI 61, gI 62, gI 63, gI 64, gI 65, gI 66, gI 67, gI 68, gI 69, gI 70, gI 71, gI 72, gI 73, gI 74, gI 75, gI 76, gI 77, gI 78, gI 79]) (fl_nF [gF 0, gF 1, gF 2, gF 3, gF 4, gF 5, gF 6, gF 7, gF 8, gF 9, gF 10, gF 11, gF 12, gF 13, pl1, he1, gF 16, gF 17, gF 18, gF 19, gF 20, gF 21, gF 22, gF 23, gF 24, gF 25, gF 26, gF 27, gF 28, gF 29, gF 30, gF 31]) 7 m t s g c pl he ∧ ∀ j : Nat, j < 16 → j ≠ 7 → (∀ x : Nat, x < 5 → (fl_nI [gI 0, gI 1, gI 2, gI 3, gI 4, gI 5, gI 6, gI 7, gI 8, gI 9, gI 10, gI 11, gI 12, gI 13, gI 14, gI 15, gI 16, gI 17, gI 18, gI 19, gI 20, gI 21, gI 22, gI 23, gI 24, gI 25, gI 26, gI 27, gI 28, gI 29, gI 30, gI 31, gI 32, gI 33, gI 34, m, t, s, g, c, gI 40, gI 41, gI 42, gI 43, gI 44, gI 45, gI 46, gI 47, gI 48, gI 49, gI 50, gI 51, gI 52, gI 53, gI 54, gI 55, gI 56, gI 57, gI 58, gI 59, gI 60, gI 61, gI 62, gI 63, gI 64, gI 65, gI 66, gI 67, gI 68, gI 69, gI 70, gI 71, gI 72, gI 73, gI 74, gI 75, gI 76, gI 77, gI 78, gI 79]) (5 * j + x) = gI (5 * j + x)) ∧ (fl_nF [gF 0, gF 1, gF 2, gF 3, gF 4, gF 5, gF 6, gF 7, gF 8, gF 9, gF 10, gF 11, gF 12, gF 13, pl1, he1, gF 16, gF 17, gF 18, gF 19, gF 20, gF 21, gF 22, gF 23, gF 24, gF 25, gF 26, gF 27, gF 28, gF 29, gF 30, gF 31]) (2 * j) = gF (2 * j) ∧ (fl_nF [gF 0, gF 1, gF 2, gF 3, gF 4, gF 5, gF 6, gF 7, gF 8, gF 9, gF 10, gF 11, gF 12, gF 13, pl1, he1, gF 16, gF 17, gF 18, gF 19, gF 20, gF 21, gF 22, gF 23, gF 24, gF 25, gF 26, gF 27, gF 28, gF 29, gF 30, gF 31]) (2 * j + 1) = gF (2 * j + 1) := by
  refine ⟨⟨rfl, rfl, rfl, rfl, rfl, hq⟩, fun j hj hn => ?_⟩
  rcases (show j = 0 ∨ j = 1 ∨ j = 2 ∨ j = 3 ∨ j = 4 ∨ j = 5 ∨ j = 6 ∨ j = 7 ∨ j = 8 ∨ j = 9 ∨ j = 10 ∨ j = 11 ∨ j = 12 ∨ j = 13 ∨ j = 14 ∨ j = 15 by omega) with h | h | h | h | h | h | h | h | h | h | h | h | h | h | h | h
  · subst h
    refine ⟨fun x hx => ?_, rfl, rfl⟩
    rcases (show x = 0 ∨ x = 1 ∨ x = 2 ∨ x = 3 ∨ x = 4 by omega) with h | h | h | h | h <;> (subst h; rfl)
  · subst h
    refine ⟨fun x hx => ?_, rfl, rfl⟩
    rcases (show x = 0 ∨ x = 1 ∨ x = 2 ∨ x = 3 ∨ x = 4 by omega) with h | h | h | h | h <;> (subst h; rfl)
  · subst h
    refine ⟨fun x hx => ?_, rfl, rfl⟩
    rcases (show x = 0 ∨ x = 1 ∨ x = 2 ∨ x = 3 ∨ x = 4 by omega) with h | h | h | h | h <;> (subst h; rfl)
  · subst h
    refine ⟨fun x hx => ?_, rfl, rfl⟩
    rcases (show x = 0 ∨ x = 1 ∨ x = 2 ∨ x = 3 ∨ x = 4 by omega) with h | h | h | h | h <;> (subst h; rfl)
  · subst h
    refine ⟨fun x hx => ?_, rfl, rfl⟩
    rcases (show x = 0 ∨ x = 1 ∨ x = 2 ∨ x = 3 ∨ x = 4 by omega) with h | h | h | h | h <;> (subst h; rfl)
  · subst h
    refine ⟨fun x hx => ?_, rfl, rfl⟩
    rcases (show x = 0 ∨ x = 1 ∨ x = 2 ∨ x = 3 ∨ x = 4 by omega) with h | h | h | h | h <;> (subst h; rfl)
  · subst h
    refine ⟨fun x hx => ?_, rfl, rfl⟩
    rcases (show x = 0 ∨ x = 1 ∨ x = 2 ∨ x = 3 ∨ x = 4 by omega) with h | h | h | h | h <;> (subst h; rfl)
  · exact absurd h hn
  · subst h
    refine ⟨fun x hx => ?_, rfl, rfl⟩
    rcases (show x = 0 ∨ x = 1 ∨ x = 2 ∨ x = 3 ∨ x = 4 by omega) with h | h | h | h | h <;> (subst h; rfl)
  · subst h
    refine ⟨fun x hx => ?_, rfl, rfl⟩
    rcases (show x = 0 ∨ x = 1 ∨ x = 2 ∨ x = 3 ∨ x = 4 by omega) with h | h | h | h | h <;> (subst h; rfl)
  · subst h
    refine ⟨fun x hx => ?_, rfl, rfl⟩
    rcases (show x = 0 ∨ x = 1 ∨ x = 2 ∨ x = 3 ∨ x = 4 by omega) with h | h | h | h | h <;> (subst h; rfl)
  · subst h
    refine ⟨fun x hx => ?_, rfl, rfl⟩
    rcases (show x = 0 ∨ x = 1 ∨ x = 2 ∨ x = 3 ∨ x = 4 by omega) with h | h | h | h | h <;> (subst h; rfl)
  · subst h
    refine ⟨fun x hx => ?_, rfl, rfl⟩
    rcases (show x = 0 ∨ x = 1 ∨ x = 2 ∨ x = 3 ∨ x = 4 by omega) with h | h | h | h | h <;> (subst h; rfl)
  · subst h
    refine ⟨fun x hx => ?_, rfl, rfl⟩
    rcases (show x = 0 ∨ x = 1 ∨ x = 2 ∨ x = 3 ∨ x = 4 by omega) with h | h | h | h | h <;> (subst h; rfl)
  · subst h
    refine ⟨fun x hx => ?_, rfl, rfl⟩
    rcases (show x = 0 ∨ x = 1 ∨ x = 2 ∨ x = 3 ∨ x = 4 by omega) with h | h | h | h | h <;> (subst h; rfl)
  · subst h
    refine ⟨fun x hx => ?_, rfl, rfl⟩
    rcases (show x = 0 ∨ x = 1 ∨ x = 2 ∨ x = 3 ∨ x = 4 by omega) with h | h | h | h | h <;> (subst h; rfl)
theorem rs_kp8 {U L : Int} (h : (L + 1) % 16 = 8) (m t s g c : Int) (pl he : Nat → Int) (gI : Nat → Int) (gF : Nat → Nat → Int) : ∃ pl1 he1, Ff_X1_keep U L gI m t s g c pl gF he = (fl_min (U + 1) 16, 8, fl_nI [gI 0, gI 1, gI 2, gI 3, gI 4, gI 5, gI 6, gI 7, gI 8, gI 9, gI 10, gI 11, gI 12, gI 13, gI 14, gI 15, gI 16, gI 17, gI 18, gI 19, gI 20, gI 21, gI 22, gI 23, gI 24, gI 25, gI 26, gI 27, gI 28, gI 29, gI 30, gI 31, gI 32, gI 33, gI 34, gI 35, gI 36, gI 37, gI 38, gI 39, m, t, s, g, c, gI 45, gI 46, gI 47, gI 48, gI 49, gI 50, gI 51, gI 52, gI 53, gI 54, gI 55, gI 56, gI 57, gI 58, gI 59, gI 60, gI 61, gI 62, gI 63, gI 64, gI 65, gI 66, gI 67, gI 68, gI 69, gI 70, gI 71, gI 72, gI 73, gI 74, gI 75, gI 76, gI 77, gI 78, gI 79], fl_nF [gF 0, gF 1, gF 2, gF 3, gF 4, gF 5, gF 6, gF 7, gF 8, gF 9, gF 10, gF 11, gF 12, gF 13, gF 14, gF 15, pl1, he1, gF 18, gF 19, gF 20, gF 21, gF 22, gF 23, gF 24, gF 25, gF 26, gF 27, gF 28, gF 29, gF 30, gF 31]) ∧ ∀ k : Nat, k < 9 → pl1 k = pl k ∧ he1 k = he k := by
  obtain ⟨pl1, he1, e, q⟩ := rs_cp m t s g c pl (gF 16) he (gF 17)
  refine ⟨pl1, he1, ?_, q⟩
  unfold Ff_X1_keep
  rw [fl_lt_eq rfl, fl_lt_eq h.symm]
  rw [if_neg (by decide)]
  rw [if_neg (by decide)]
  rw [if_neg (by decide)]
  rw [if_neg (by decide)]
  rw [if_neg (by decide)]
  rw [if_neg (by decide)]
  rw [if_neg (by decide)]
  rw [if_neg (by decide)]
  rw [if_pos rfl]
  rw [e, fl_c7_eq rfl]
  rfl
theorem rs_ks8 (m t s g c : Int) (pl he : Nat → Int) (gI : Nat → Int) (gF : Nat → Nat → Int) (pl1 he1 : Nat → Int) (hq : ∀ k : Nat, k < 9 → pl1 k = pl k ∧ he1 k = he k) : rs_P (fl_nI [gI 0, gI 1, gI 2, gI 3, gI 4, gI 5, gI 6, gI 7, gI 8, gI 9, gI 10, gI 11, gI 12, gI 13, gI 14, gI 15, gI 16, gI 17, gI 18, gI 19, gI 20, gI 21, gI 22, gI 23, gI 24, gI 25, gI 26, gI 27, gI 28, gI 29, gI 30, gI 31, gI 32, gI 33, gI 34, gI 35, gI 36, gI 37, gI 38, gI 39, m, t, s, g, c, gI 45, gI 46, gI 47, gI 48, gI 49, gI 50, gI 51, gI 52, gI 53, gI 54, gI 55, gI 56, gI 57, gI 58, gI 59, gI 60, gI 61, gI 62, gI 63, gI 64, gI 65, gI 66, gI 67, gI 68, gI 69, gI 70, gI 71, gI 72, gI 73, gI 74, gI 75, gI 76, gI 77, gI 78, gI 79]) (fl_nF [gF 0, gF 1, gF 2, gF 3, gF 4, gF 5, gF 6, gF 7, gF 8, gF 9, gF 10, gF 11, gF 12, gF 13, gF 14, gF 15, pl1, he1, gF 18, gF 19, gF 20, gF 21, gF 22, gF 23, gF 24, gF 25, gF 26, gF 27, gF 28, gF 29, gF 30, gF 31]) 8 m t s g c pl he ∧ ∀ j : Nat, j < 16 → j ≠ 8 → (∀ x : Nat, x < 5 → (fl_nI [gI 0, gI 1, gI 2, gI 3, gI 4, gI 5, gI 6, gI 7, gI 8, gI 9, gI 10, gI 11, gI 12, gI 13, gI 14, gI 15, gI 16, gI 17, gI 18, gI 19, gI 20, gI 21, gI 22, gI 23, gI 24, gI 25, gI 26, gI 27, gI 28, gI 29, gI 30, gI 31, gI 32, gI 33, gI 34, gI 35, gI 36, gI 37, gI 38, gI 39, m, t, s, g, c, gI 45, gI 46, gI 47, gI 48, gI 49, gI 50, gI 51, gI 52, gI 53, gI 54, gI 55, gI 56, gI 57, gI 58, gI 59, gI 60, gI 61, gI 62, gI 63, gI 64, gI 65, gI 66, gI 67, gI 68, gI 69, gI 70, gI 71, gI 72, gI 73, gI 74, gI 75, gI 76, gI 77, gI 78, gI 79]) (5 * j + x) = gI (5 * j + x)) ∧ (fl_nF [gF 0, gF 1, gF 2, gF 3, gF 4, gF 5, gF 6, gF 7, gF 8, gF 9, gF 10, gF 11, gF 12, gF 13, gF 14, gF 15, pl1, he1, gF 18, gF 19, gF 20, gF 21, gF 22, gF 23, gF 24, gF 25, gF 26, gF 27, gF 28, gF 29, gF 30, gF 31]) (2 * j) = gF (2 * j) ∧ (fl_nF [gF 0, gF 1, gF 2, gF 3, gF 4, gF 5, gF 6, gF 7, gF 8, gF 9, gF 10, gF 11, gF 12, gF 13, gF 14, gF 15, pl1, he1, gF 18, gF 19, gF 20, gF 21, gF 22, gF 23, gF 24, gF 25, gF 26, gF 27, gF 28, gF 29, gF 30, gF 31]) (2 * j + 1) = gF (2 * j + 1) := by
  refine ⟨⟨rfl, rfl, rfl, rfl, rfl, hq⟩, fun j hj hn => ?_⟩
  rcases (show j = 0 ∨ j = 1 ∨ j = 2 ∨ j = 3 ∨ j = 4 ∨ j = 5 ∨ j = 6 ∨ j = 7 ∨ j = 8 ∨ j = 9 ∨ j = 10 ∨ j = 11 ∨ j = 12 ∨ j = 13 ∨ j = 14 ∨ j = 15 by omega) with h | h | h | h | h | h | h | h | h | h | h | h | h | h | h | h
  · subst h
    refine ⟨fun x hx => ?_, rfl, rfl⟩
    rcases (show x = 0 ∨ x = 1 ∨ x = 2 ∨ x = 3 ∨ x = 4 by omega) with h | h | h | h | h <;> (subst h; rfl)
  · subst h
    refine ⟨fun x hx => ?_, rfl, rfl⟩
    rcases (show x = 0 ∨ x = 1 ∨ x = 2 ∨ x = 3 ∨ x = 4 by omega) with h | h | h | h | h <;> (subst h; rfl)
  · subst h
    refine ⟨fun x hx => ?_, rfl, rfl⟩
    rcases (show x = 0 ∨ x = 1 ∨ x = 2 ∨ x = 3 ∨ x = 4 by omega) with h | h | h | h | h <;> (subst h; rfl)
  · subst h
    refine ⟨fun x hx => ?_, rfl, rfl⟩
    rcases (show x = 0 ∨ x = 1 ∨ x = 2 ∨ x = 3 ∨ x = 4 by omega) with h | h | h | h | h <;> (subst h; rfl)
  · subst h
    refine ⟨fun x hx => ?_, rfl, rfl⟩
    rcases (show x = 0 ∨ x = 1 ∨ x = 2 ∨ x = 3 ∨ x = 4 by omega) with h | h | h | h | h <;> (subst h; rfl)
  · subst h
    refine ⟨fun x hx => ?_, rfl, rfl⟩
    rcases (show x = 0 ∨ x = 1 ∨ x = 2 ∨ x = 3 ∨ x = 4 by omega) with h | h | h | h | h <;> (subst h; rfl)
  · subst h
    refine ⟨fun x hx => ?_, rfl, rfl⟩
    rcases (show x = 0 ∨ x = 1 ∨ x = 2 ∨ x = 3 ∨ x = 4 by omega) with h | h | h | h | h <;> (subst h; rfl)
  · subst h
    refine ⟨fun x hx => ?_, rfl, rfl⟩
    rcases (show x = 0 ∨ x = 1 ∨ x = 2 ∨ x = 3 ∨ x = 4 by omega) with h | h | h | h | h <;> (subst h; rfl)
  · exact absurd h hn
  · subst h
    refine ⟨fun x hx => ?_, rfl, rfl⟩
    rcases (show x = 0 ∨ x = 1 ∨ x = 2 ∨ x = 3 ∨ x = 4 by omega) with h | h | h | h | h <;> (subst h; rfl)
  · subst h
    refine ⟨fun x hx => ?_, rfl, rfl⟩
    rcases (show x = 0 ∨ x = 1 ∨ x = 2 ∨ x = 3 ∨ x = 4 by omega) with h | h | h | h | h <;> (subst h; rfl)
  · subst h
    refine ⟨fun x hx => ?_, rfl, rfl⟩
    rcases (show x = 0 ∨ x = 1 ∨ x = 2 ∨ x = 3 ∨ x = 4 by omega) with h | h | h | h | h <;> (subst h; rfl)
  · subst h
    refine ⟨fun x hx => ?_, rfl, rfl⟩
    rcases (show x = 0 ∨ x = 1 ∨ x = 2 ∨ x = 3 ∨ x = 4 by omega) with h | h | h | h | h <;> (subst h; rfl)
  · subst h
    refine ⟨fun x hx => ?_, rfl, rfl⟩
    rcases (show x = 0 ∨ x = 1 ∨ x = 2 ∨ x = 3 ∨ x = 4 by omega) with h | h | h | h | h <;> (subst h; rfl)
  · subst h
    refine ⟨fun x hx => ?_, rfl, rfl⟩
    rcases (show x = 0 ∨ x = 1 ∨ x = 2 ∨ x = 3 ∨ x = 4 by omega) with h | h | h | h | h <;> (subst h; rfl)
  · subst h
    refine ⟨fun x hx => ?_, rfl, rfl⟩
    rcases (show x = 0 ∨ x = 1 ∨ x = 2 ∨ x = 3 ∨ x = 4 by omega) with h | h | h | h | h <;> (subst h; rfl)
theorem rs_kp9 {U L : Int} (h : (L + 1) % 16 = 9) (m t s g c : Int) (pl he : Nat → Int) (gI : Nat → Int) (gF : Nat → Nat → Int) : ∃ pl1 he1, Ff_X1_keep U L gI m t s g c pl gF he = (fl_min (U + 1) 16, 9, fl_nI [gI 0, gI 1, gI 2, gI 3, gI 4, gI 5, gI 6, gI 7, gI 8, gI 9, gI 10, gI 11, gI 12, gI 13, gI 14, gI 15, gI 16, gI 17, gI 18, gI 19, gI 20, gI 21, gI 22, gI 23, gI 24, gI 25, gI 26, gI 27, gI 28, gI 29, gI 30, gI 31, gI 32, gI 33, gI 34, gI 35, gI 36, gI 37, gI 38, gI 39, gI 40, gI 41, gI 42, gI 43, gI 44, m, t, s, g, c, gI 50, gI 51, gI 52, gI 53, gI 54, gI 55, gI 56, gI 57, gI 58, gI 59, gI 60, gI 61, gI 62, gI 63, gI 64, gI 65, gI 66, gI 67, gI 68, gI 69, gI 70, gI 71, gI 72, gI 73, gI 74, gI 75, gI 76, gI 77, gI 78, gI 79], fl_nF [gF 0, gF 1, gF 2, gF 3, gF 4, gF 5, gF 6, gF 7, gF 8, gF 9, gF 10, gF 11, gF 12, gF 13, gF 14, gF 15, gF 16, gF 17, pl1, he1, gF 20, gF 21, gF 22, gF 23, gF 24, gF 25, gF 26, gF 27, gF 28, gF 29, gF 30, gF 31]) ∧ ∀ k : Nat, k < 9 → pl1 k = pl k ∧ he1 k = he k := by
  obtain ⟨pl1, he1, e, q⟩ := rs_cp m t s g c pl (gF 18) he (gF 19)
  refine ⟨pl1, he1, ?_, q⟩
  unfold Ff_X1_keep
  rw [fl_lt_eq rfl, fl_lt_eq h.symm]
  rw [if_neg (by decide)]
  rw [if_neg (by decide)]
  rw [if_neg (by decide)]
  rw [if_neg (by decide)]
  rw [if_neg (by decide)]
  rw [if_neg (by decide)]
  rw [if_neg (by decide)]
  rw [if_neg (by decide)]
  rw [if_neg (by decide)]
  rw [if_pos rfl]
  rw [e, fl_c7_eq rfl]
  rfl
theorem rs_ks9 (m t s g c : Int) (pl he : Nat → Int) (gI : Nat → Int) (gF : Nat → Nat → Int) (pl1 he1 : Nat → Int) (hq : ∀ k : Nat, k < 9 → pl1 k = pl k ∧ he1 k = he k) : rs_P (fl_nI [gI 0, gI 1, gI 2, gI 3, gI 4, gI 5, gI 6, gI 7, gI 8, gI 9, gI 10, gI 11, gI 12, gI 13, gI 14, gI 15, gI 16, gI 17, gI 18, gI 19, gI 20, gI 21, gI 22, gI 23, gI 24, gI 25, gI 26, gI 27, gI 28, gI 29, gI 30, gI 31, gI 32, gI 33, gI 34, gI 35, gI 36, gI 37, gI 38, gI 39, gI 40, gI 41, gI 42, gI 43, gI 44, m, t, s, g, c, gI 50, gI 51, gI 52, gI 53, gI 54, gI 55, gI 56, gI 57, gI 58, gI 59, gI 60, gI 61, gI 62, gI 63, gI 64, gI 65, gI 66, gI 67, gI 68, gI 69, gI 70, gI 71, gI 72, gI 73, gI 74, gI 75, gI 76, gI 77, gI 78, gI 79]) (fl_nF [gF 0, gF 1, gF 2, gF 3, gF 4, gF 5, gF 6, gF 7, gF 8, gF 9, gF 10, gF 11, gF 12, gF 13, gF 14, gF 15, gF 16, gF 17, pl1, he1, gF 20, gF 21, gF 22, gF 23, gF 24, gF 25, gF 26, gF 27, gF 28, gF 29, gF 30, gF 31]) 9 m t s g c pl he ∧ ∀ j : Nat, j < 16 → j ≠ 9 → (∀ x : Nat, x < 5 → (fl_nI [gI 0, gI 1, gI 2, gI 3, gI 4, gI 5, gI 6, gI 7, gI 8, gI 9, gI 10, gI 11, gI 12, gI 13, gI 14, gI 15, gI 16, gI 17, gI 18, gI 19, gI 20, gI 21, gI 22, gI 23, gI 24, gI 25, gI 26, gI 27, gI 28, gI 29, gI 30, gI 31, gI 32, gI 33, gI 34, gI 35, gI 36, gI 37, gI 38, gI 39, gI 40, gI 41, gI 42, gI 43, gI 44, m, t, s, g, c, gI 50, gI 51, gI 52, gI 53, gI 54, gI 55, gI 56, gI 57, gI 58, gI 59, gI 60, gI 61, gI 62, gI 63, gI 64, gI 65, gI 66, gI 67, gI 68, gI 69, gI 70, gI 71, gI 72, gI 73, gI 74, gI 75, gI 76, gI 77, gI 78, gI 79]) (5 * j + x) = gI (5 * j + x)) ∧ (fl_nF [gF 0, gF 1, gF 2, gF 3, gF 4, gF 5, gF 6, gF 7, gF 8, gF 9, gF 10, gF 11, gF 12, gF 13, gF 14, gF 15, gF 16, gF 17, pl1, he1, gF 20, gF 21, gF 22, gF 23, gF 24, gF 25, gF 26, gF 27, gF 28, gF 29, gF 30, gF 31]) (2 * j) = gF (2 * j) ∧ (fl_nF [gF 0, gF 1, gF 2, gF 3, gF 4, gF 5, gF 6, gF 7, gF 8, gF 9, gF 10, gF 11, gF 12, gF 13, gF 14, gF 15, gF 16, gF 17, pl1, he1, gF 20, gF 21, gF 22, gF 23, gF 24, gF 25, gF 26, gF 27, gF 28, gF 29, gF 30, gF 31]) (2 * j + 1) = gF (2 * j + 1) := by
  refine ⟨⟨rfl, rfl, rfl, rfl, rfl, hq⟩, fun j hj hn => ?_⟩
  rcases (show j = 0 ∨ j = 1 ∨ j = 2 ∨ j = 3 ∨ j = 4 ∨ j = 5 ∨ j = 6 ∨ j = 7 ∨ j = 8 ∨ j = 9 ∨ j = 10 ∨ j = 11 ∨ j = 12 ∨ j = 13 ∨ j = 14 ∨ j = 15 by omega) with h | h | h | h | h | h | h | h | h | h | h | h | h | h | h | h
  · subst h
    refine ⟨fun x hx => ?_, rfl, rfl⟩
    rcases (show x = 0 ∨ x = 1 ∨ x = 2 ∨ x = 3 ∨ x = 4 by omega) with h | h | h | h | h <;> (subst h; rfl)
  · subst h
    refine ⟨fun x hx => ?_, rfl, rfl⟩
    rcases (show x = 0 ∨ x = 1 ∨ x = 2 ∨ x = 3 ∨ x = 4 by omega) with h | h | h | h | h <;> (subst h; rfl)
  · subst h
    refine ⟨fun x hx => ?_, rfl, rfl⟩
    rcases (show x = 0 ∨ x = 1 ∨ x = 2 ∨ x = 3 ∨ x = 4 by omega) with h | h | h | h | h <;> (subst h; rfl)
  · subst h
    refine ⟨fun x hx => ?_, rfl, rfl⟩
    rcases (show x = 0 ∨ x = 1 ∨ x = 2 ∨ x = 3 ∨ x = 4 by omega) with h | h | h | h | h <;> (subst h; rfl)
  · subst h
    refine ⟨fun x hx => ?_, rfl, rfl⟩
    rcases (show x = 0 ∨ x = 1 ∨ x = 2 ∨ x = 3 ∨ x = 4 by omega) with h | h | h | h | h <;> (subst h; rfl)
  · subst h
    refine ⟨fun x hx => ?_, rfl, rfl⟩
    rcases (show x = 0 ∨ x = 1 ∨ x = 2 ∨ x = 3 ∨ x = 4 by omega) with h | h | h | h | h <;> (subst h; rfl)
  · subst h
    refine ⟨fun x hx => ?_, rfl, rfl⟩
    rcases (show x = 0 ∨ x = 1 ∨ x = 2 ∨ x = 3 ∨ x = 4 by omega) with h | h | h | h | h <;> (subst h; rfl)
  · subst h
    refine ⟨fun x hx => ?_, rfl, rfl⟩
    rcases (show x = 0 ∨ x = 1 ∨ x = 2 ∨ x = 3 ∨ x = 4 by omega) with h | h | h | h | h <;> (subst h; rfl)
  · subst h
    refine ⟨fun x hx => ?_, rfl, rfl⟩
    rcases (show x = 0 ∨ x = 1 ∨ x = 2 ∨ x = 3 ∨ x = 4 by omega) with h | h | h | h | h <;> (subst h; rfl)
  · exact absurd h hn
  · subst h
    refine ⟨fun x hx => ?_, rfl, rfl⟩
    rcases (show x = 0 ∨ x = 1 ∨ x = 2 ∨ x = 3 ∨ x = 4 by omega) with h | h | h | h | h <;> (subst h; rfl)
  · subst h
    refine ⟨fun x hx => ?_, rfl, rfl⟩
    rcases (show x = 0 ∨ x = 1 ∨ x = 2 ∨ x = 3 ∨ x = 4 by omega) with h | h | h | h | h <;> (subst h; rfl)
  · subst h
    refine ⟨fun x hx => ?_, rfl, rfl⟩
    rcases (show x = 0 ∨ x = 1 ∨ x = 2 ∨ x = 3 ∨ x = 4 by omega) with h | h | h | h | h <;> (subst h; rfl)
  · subst h
    refine ⟨fun x hx => ?_, rfl, rfl⟩
    rcases (show x = 0 ∨ x = 1 ∨ x = 2 ∨ x = 3 ∨ x = 4 by omega) with h | h | h | h | h <;> (subst h; rfl)
  · subst h
    refine ⟨fun x hx => ?_, rfl, rfl⟩
    rcases (show x = 0 ∨ x = 1 ∨ x = 2 ∨ x = 3 ∨ x = 4 by omega) with h | h | h | h | h <;> (subst h; rfl)
  · subst h
    refine ⟨fun x hx => ?_, rfl, rfl⟩
    rcases (show x = 0 ∨ x = 1 ∨ x = 2 ∨ x = 3 ∨ x = 4 by omega) with h | h | h | h | h <;> (subst h; rfl)
theorem rs_kp10 {U L : Int} (h : (L + 1) % 16 = 10) (m t s g c : Int) (pl he : Nat → Int) (gI : Nat → Int) (gF : Nat → Nat → Int) : ∃ pl1 he1, Ff_X1_keep U L gI m t s g c pl gF he = (fl_min (U + 1) 16, 10, fl_nI [gI 0, gI 1, gI 2, gI 3, gI 4, gI 5, gI 6, gI 7, gI 8, gI 9, gI 10, gI 11, gI 12, gI 13, gI 14, gI 15, gI 16, gI 17, gI 18, gI 19, gI 20, gI 21, gI 22, gI 23, gI 24, gI 25, gI 26, gI 27, gI 28, gI 29, gI 30, gI 31, gI 32, gI 33, gI 34, gI 35, gI 36, gI 37, gI 38, gI 39, gI 40, gI 41, gI 42, gI 43, gI 44, gI 45, gI 46, gI 47, gI 48, gI 49, m, t, s, g, c, gI 55, gI 56, gI 57, gI 58, gI 59, gI 60, gI 61, gI 62, gI 63, gI 64, gI 65, gI 66, gI 67, gI 68, gI 69, gI 70, gI 71, gI 72, gI 73, gI 74, gI 75, gI 76, gI 77, gI 78, gI 79], fl_nF [gF 0, gF 1, gF 2, gF 3, gF 4, gF 5, gF 6, gF 7, gF 8, gF 9, gF 10, gF 11, gF 12, gF 13, gF 14, gF 15, gF 16, gF 17, gF 18, gF 19, pl1, he1, gF 22, gF 23, gF 24, gF 25, gF 26, gF 27, gF 28, gF 29, gF 30, gF 31]) ∧ ∀ k : Nat, k < 9 → pl1 k = pl k ∧ he1 k = he k := by
  obtain ⟨pl1, he1, e, q⟩ := rs_cp m t s g c pl (gF 20) he (gF 21)
  refine ⟨pl1, he1, ?_, q⟩
  unfold Ff_X1_keep
  rw [fl_lt_eq rfl, fl_lt_eq h.symm]
  rw [if_neg (by decide)]
  rw [if_neg (by decide)]
  rw [if_neg (by decide)]
  rw [if_neg (by decide)]
  rw [if_neg (by decide)]
  rw [if_neg (by decide)]
  rw [if_neg (by decide)]
  rw [if_neg (by decide)]
  rw [if_neg (by decide)]
  rw [if_neg (by decide)]
  rw [if_pos rfl]
  rw [e, fl_c7_eq rfl]
  rfl
theorem rs_ks10 (m t s g c : Int) (pl he : Nat → Int) (gI : Nat → Int) (gF : Nat → Nat → Int) (pl1 he1 : Nat → Int) (hq : ∀ k : Nat, k < 9 → pl1 k = pl k ∧ he1 k = he k) : rs_P (fl_nI [gI 0, gI 1, gI 2, gI 3, gI 4, gI 5, gI 6, gI 7, gI 8, gI 9, gI 10, gI 11, gI 12, gI 13, gI 14, gI 15, gI 16, gI 17, gI 18, gI 19, gI 20, gI 21, gI 22, gI 23, gI 24, gI 25, gI 26, gI 27, gI 28, gI 29, gI 30, gI 31, gI 32, gI 33, gI 34, gI 35, gI 36, gI 37, gI 38, gI 39, gI 40, gI 41, gI 42, gI 43, gI 44, gI 45, gI 46, gI 47, gI 48, gI 49, m, t, s, g, c, gI 55, gI 56, gI 57, gI 58, gI 59, gI 60, gI 61, gI 62, gI 63, gI 64, gI 65, gI 66, gI 67, gI 68, gI 69, gI 70, gI 71, gI 72, gI 73, gI 74, gI 75, gI 76, gI 77, gI 78, gI 79]) (fl_nF [gF 0, gF 1, gF 2, gF 3, gF 4, gF 5, gF 6, gF 7, gF 8, gF 9, gF 10, gF 11, gF 12, gF 13, gF 14, gF 15, gF 16, gF 17, gF 18, gF 19, pl1, he1, gF 22, gF 23, gF 24, gF 25, gF 26, gF 27, gF 28, gF 29, gF 30, gF 31]) 10 m t s g c pl he ∧ ∀ j : Nat, j < 16 → j ≠ 10 → (∀ x : Nat, x < 5 → (fl_nI [gI 0, gI 1, gI 2, gI 3, gI 4, gI 5, gI 6, gI 7, gI 8, gI 9, gI 10, gI 11, gI 12, gI 13, gI 14, gI 15, gI 16, gI 17, gI 18, gI 19, gI 20, gI 21, gI 22, gI 23, gI 24, gI 25, gI 26, gI 27, gI 28, gI 29, gI 30, gI 31, gI 32, gI 33, gI 34, gI 35, gI 36, gI 37, gI 38, gI 39, gI 40, gI 41, gI 42, gI 43, gI 44, gI 45, gI 46, gI 47, gI 48, gI 49, m, t, s, g, c, gI 55, gI 56, gI 57, gI 58, gI 59, gI 60, gI 61, gI 62, gI 63, gI 64, gI 65, gI 66, gI 67, gI 68, gI 69, gI 70, gI 71, gI 72, gI 73, gI 74, gI 75, gI 76, gI 77, gI 78, gI 79]) (5 * j + x) = gI (5 * j + x)) ∧ (fl_nF [gF 0, gF 1, gF 2, gF 3, gF 4, gF 5, gF 6, gF 7, gF 8, gF 9, gF 10, gF 11, gF 12, gF 13, gF 14, gF 15, gF 16, gF 17, gF 18, gF 19, pl1, he1, gF 22, gF 23, gF 24, gF 25, gF 26, gF 27, gF 28, gF 29, gF 30, gF 31]) (2 * j) = gF (2 * j) ∧ (fl_nF [gF 0, gF 1, gF 2, gF 3, gF 4, gF 5, gF 6, gF 7, gF 8, gF 9, gF 10, gF 11, gF 12, gF 13, gF 14, gF 15, gF 16, gF 17, gF 18, gF 19, pl1, he1, gF 22, gF 23, gF 24, gF 25, gF 26, gF 27, gF 28, gF 29, gF 30, gF 31]) (2 * j + 1) = gF (2 * j + 1) := by
  refine ⟨⟨rfl, rfl, rfl, rfl, rfl, hq⟩, fun j hj hn => ?_⟩
  rcases (show j = 0 ∨ j = 1 ∨ j = 2 ∨ j = 3 ∨ j = 4 ∨ j = 5 ∨ j = 6 ∨ j = 7 ∨ j = 8 ∨ j = 9 ∨ j = 10 ∨ j = 11 ∨ j = 12 ∨ j = 13 ∨ j = 14 ∨ j = 15 by omega) with h | h | h | h | h | h | h | h | h | h | h | h | h | h | h | h
  · subst h
    refine ⟨fun x hx => ?_, rfl, rfl⟩
    rcases (show x = 0 ∨ x = 1 ∨ x = 2 ∨ x = 3 ∨ x = 4 by omega) with h | h | h | h | h <;> (subst h; rfl)
  · subst h
    refine ⟨fun x hx => ?_, rfl, rfl⟩
    rcases (show x = 0 ∨ x = 1 ∨ x = 2 ∨ x = 3 ∨ x = 4 by omega) with h | h | h | h | h <;> (subst h; rfl)
  · subst h
    refine ⟨fun x hx => ?_, rfl, rfl⟩
    rcases (show x = 0 ∨ x = 1 ∨ x = 2 ∨ x = 3 ∨ x = 4 by omega) with h | h | h | h | h <;> (subst h; rfl)
  · subst h
    refine ⟨fun x hx => ?_, rfl, rfl⟩
    rcases (show x = 0 ∨ x = 1 ∨ x = 2 ∨ x = 3 ∨ x = 4 by omega) with h | h | h | h | h <;> (subst h; rfl)
  · subst h
    refine ⟨fun x hx => ?_, rfl, rfl⟩
    rcases (show x = 0 ∨ x = 1 ∨ x = 2 ∨ x = 3 ∨ x = 4 by omega) with h | h | h | h | h <;> (subst h; rfl)
  · subst h
    refine ⟨fun x hx => ?_, rfl, rfl⟩
    rcases (show x = 0 ∨ x = 1 ∨ x = 2 ∨ x = 3 ∨ x = 4 by omega) with h | h | h | h | h <;> (subst h; rfl)
  · subst h
    refine ⟨fun x hx => ?_, rfl, rfl⟩
    rcases (show x = 0 ∨ x = 1 ∨ x = 2 ∨ x = 3 ∨ x = 4 by omega) with h | h | h | h | h <;> (subst h; rfl)
  · subst h
    refine ⟨fun x hx => ?_, rfl, rfl⟩
    rcases (show x = 0 ∨ x = 1 ∨ x = 2 ∨ x = 3 ∨ x = 4 by omega) with h | h | h | h | h <;> (subst h; rfl)
  · subst h
    refine ⟨fun x hx => ?_, rfl, rfl⟩
    rcases (show x = 0 ∨ x = 1 ∨ x = 2 ∨ x = 3 ∨ x = 4 by omega) with h | h | h | h | h <;> (subst h; rfl)
  · subst h
    refine ⟨fun x hx => ?_, rfl, rfl⟩
    rcases (show x = 0 ∨ x = 1 ∨ x = 2 ∨ x = 3 ∨ x = 4 by omega) with h | h | h | h | h <;> (subst h; rfl)
  · exact absurd h hn
  · subst h
    refine ⟨fun x hx => ?_, rfl, rfl⟩
    rcases (show x = 0 ∨ x = 1 ∨ x = 2 ∨ x = 3 ∨ x = 4 by omega) with h | h | h | h | h <;> (subst h; rfl)
  · subst h
    refine ⟨fun x hx => ?_, rfl, rfl⟩
    rcases (show x = 0 ∨ x = 1 ∨ x = 2 ∨ x = 3 ∨ x = 4 by omega) with h | h | h | h | h <;> (subst h; rfl)
  · subst h
    refine ⟨fun x hx => ?_, rfl, rfl⟩
    rcases (show x = 0 ∨ x = 1 ∨ x = 2 ∨ x = 3 ∨ x = 4 by omega) with h | h | h | h | h <;> (subst h; rfl)
  · subst h
    refine ⟨fun x hx => ?_, rfl, rfl⟩
    rcases (show x = 0 ∨ x = 1 ∨ x = 2 ∨ x = 3 ∨ x = 4 by omega) with h | h | h | h | h <;> (subst h; rfl)
  · subst h
    refine ⟨fun x hx => ?_, rfl, rfl⟩
    rcases (show x = 0 ∨ x = 1 ∨ x = 2 ∨ x = 3 ∨ x = 4 by omega) with h | h | h | h | h <;> (subst h; rfl)
theorem rs_kp11 {U L : Int} (h : (L + 1) % 16 = 11) (m t s g c : Int) (pl he : Nat → Int) (gI : Nat → Int) (gF : Nat → Nat → Int) : ∃ pl1 he1, Ff_X1_keep U L gI m t s g c pl gF he = (fl_min (U + 1) 16, 11, fl_nI [gI 0, gI 1, gI 2, gI 3, gI 4, gI 5, gI 6, gI 7, gI 8, gI 9, gI 10, gI 11, gI 12, gI 13, gI 14, gI 15, gI 16, gI 17, gI 18, gI 19, gI 20, gI 21, gI 22, gI 23, gI 24, gI 25, gI 26, gI 27, gI 28, gI 29, gI 30, gI 31, gI 32, gI 33, gI 34, gI 35, gI 36, gI 37, gI 38, gI 39, gI 40, gI 41, gI 42, gI 43, gI 44, gI 45, gI 46, gI 47, gI 48, gI 49, gI 50, gI 51, gI 52, gI 53, gI 54, m, t, s, g, c, gI 60, gI 61, gI 62, gI 63, gI 64, gI 65, gI 66, gI 67, gI 68, gI 69, gI 70, gI 71, gI 72, gI 73, gI 74, gI 75, gI 76, gI 77, gI 78, gI 79], fl_nF [gF 0, gF 1, gF 2, gF 3, gF 4, gF 5, gF 6, gF 7, gF 8, gF 9, gF 10, gF 11, gF 12, gF 13, gF 14, gF 15, gF 16, gF 17, gF 18, gF 19, gF 20, gF 21, pl1, he1, gF 24, gF 25, gF 26, gF 27, gF 28, gF 29, gF 30, gF 31]) ∧ ∀ k : Nat, k < 9 → pl1 k = pl k ∧ he1 k = he k := by
  obtain ⟨pl1, he1, e, q⟩ := rs_cp m t s g c pl (gF 22) he (gF 23)
  refine ⟨pl1, he1, ?_, q⟩
  unfold Ff_X1_keep
  rw [fl_lt_eq rfl, fl_lt_eq h.symm]
  rw [if_neg (by decide)]
  rw [if_neg (by decide)]
  rw [if_neg (by decide)]
  rw [if_neg (by decide)]
  rw [if_neg (by decide)]
  rw [if_neg (by decide)]
  rw [if_neg (by decide)]
  rw [if_neg (by decide)]
  rw [if_neg (by decide)]
  rw [if_neg (by decide)]
  rw [if_neg (by decide)]
  rw [if_pos rfl]
  rw [e, fl_c7_eq rfl]
  rfl
theorem rs_ks11 (m t s g c : Int) (pl he : Nat → Int) (gI : Nat → Int) (gF : Nat → Nat → Int) (pl1 he1 : Nat → Int) (hq : ∀ k : Nat, k < 9 → pl1 k = pl k ∧ he1 k = he k) : rs_P (fl_nI [gI 0, gI 1, gI 2, gI 3, gI 4, gI 5, gI 6, gI 7, gI 8, gI 9, gI 10, gI 11, gI 12, gI 13, gI 14, gI 15, gI 16, gI 17, gI 18, gI 19, gI 20, gI 21, gI 22, gI 23, gI 24, gI 25, gI 26, gI 27, gI 28, gI 29, gI 30, gI 31, gI 32, gI 33, gI 34, gI 35, gI 36, gI 37, gI 38, gI 39, gI 40, gI 41, gI 42, gI 43, gI 44, gI 45, gI 46, gI 47, gI 48, gI 49, gI 50, gI 51, gI 52, gI 53, gI 54, m, t, s, g, c, gI 60, gI 61, gI 62, gI 63, gI 64, gI 65, gI 66, gI 67, gI 68, gI 69, gI 70, gI 71, gI 72, gI 73, gI 74, gI 75, gI 76, gI 77, gI 78, gI 79]) (fl_nF [gF 0, gF 1, gF 2, gF 3, gF 4, gF 5, gF 6, gF 7, gF 8, gF 9, gF 10, gF 11, gF 12, gF 13, gF 14, gF 15, gF 16, gF 17, gF 18, gF 19, gF 20, gF 21, pl1, he1, gF 24, gF 25, gF 26, gF 27, gF 28, gF 29, gF 30, gF 31]) 11 m t s g c pl he ∧ ∀ j : Nat, j < 16 → j ≠ 11 → (∀ x : Nat, x < 5 → (fl_nI [gI 0, gI 1, gI 2, gI 3, gI 4, gI 5, gI 6, gI 7, gI 8, gI 9, gI 10, gI 11, gI 12, gI 13, gI 14, gI 15, gI 16, gI 17, gI 18, gI 19, gI 20, gI 21, gI 22, gI 23, gI 24, gI 25, gI 26, gI 27, gI 28, gI 29, gI 30, gI 31, gI 32, gI 33, gI 34, gI 35, gI 36, gI 37, gI 38, gI 39, gI 40, gI 41, gI 42, gI 43, gI 44, gI 45, gI 46, gI 47, gI 48, gI 49, gI 50, gI 51, gI 52, gI 53, gI 54, m, t, s, g, c, gI 60, gI 61, gI 62, gI 63, gI 64, gI 65, gI 66, gI 67, gI 68, gI 69, gI 70, gI 71, gI 72, gI 73, gI 74, gI 75, gI 76, gI 77, gI 78, gI 79]) (5 * j + x) = gI (5 * j + x)) ∧ (fl_nF [gF 0, gF 1, gF 2, gF 3, gF 4, gF 5, gF 6, gF 7, gF 8, gF 9, gF 10, gF 11, gF 12, gF 13, gF 14, gF 15, gF 16, gF 17, gF 18, gF 19, gF 20, gF 21, pl1, he1, gF 24, gF 25, gF 26, gF 27, gF 28, gF 29, gF 30, gF 31]) (2 * j) = gF (2 * j) ∧ (fl_nF [gF 0, gF 1, gF 2, gF 3, gF 4, gF 5, gF 6, gF 7, gF 8, gF 9, gF 10, gF 11, gF 12, gF 13, gF 14, gF 15, gF 16, gF 17, gF 18, gF 19, gF 20, gF 21, pl1, he1, gF 24, gF 25, gF 26, gF 27, gF 28, gF 29, gF 30, gF 31]) (2 * j + 1) = gF (2 * j + 1) := by
  refine ⟨⟨rfl, rfl, rfl, rfl, rfl, hq⟩, fun j hj hn => ?_⟩
  rcases (show j = 0 ∨ j = 1 ∨ j = 2 ∨ j = 3 ∨ j = 4 ∨ j = 5 ∨ j = 6 ∨ j = 7 ∨ j = 8 ∨ j = 9 ∨ j = 10 ∨ j = 11 ∨ j = 12 ∨ j = 13 ∨ j = 14 ∨ j = 15 by omega) with h | h | h | h | h | h | h | h | h | h | h | h | h | h | h | h
  · subst h
    refine ⟨fun x hx => ?_, rfl, rfl⟩
    rcases (show x = 0 ∨ x = 1 ∨ x = 2 ∨ x = 3 ∨ x = 4 by omega) with h | h | h | h | h <;> (subst h; rfl)
  · subst h
    refine ⟨fun x hx => ?_, rfl, rfl⟩
    rcases (show x = 0 ∨ x = 1 ∨ x = 2 ∨ x = 3 ∨ x = 4 by omega) with h | h | h | h | h <;> (subst h; rfl)
  · subst h
    refine ⟨fun x hx => ?_, rfl, rfl⟩
    rcases (show x = 0 ∨ x = 1 ∨ x = 2 ∨ x = 3 ∨ x = 4 by omega) with h | h | h | h | h <;> (subst h; rfl)
  · subst h
    refine ⟨fun x hx => ?_, rfl, rfl⟩
    rcases (show x = 0 ∨ x = 1 ∨ x = 2 ∨ x = 3 ∨ x = 4 by omega) with h | h | h | h | h <;> (subst h; rfl)
  · subst h
    refine ⟨fun x hx => ?_, rfl, rfl⟩
    rcases (show x = 0 ∨ x = 1 ∨ x = 2 ∨ x = 3 ∨ x = 4 by omega) with h | h | h | h | h <;> (subst h; rfl)
  · subst h
    refine ⟨fun x hx => ?_, rfl, rfl⟩
    rcases (show x = 0 ∨ x = 1 ∨ x = 2 ∨ x = 3 ∨ x = 4 by omega) with h | h | h | h | h <;> (subst h; rfl)
  · subst h
    refine ⟨fun x hx => ?_, rfl, rfl⟩
    rcases (show x = 0 ∨ x = 1 ∨ x = 2 ∨ x = 3 ∨ x = 4 by omega) with h | h | h | h | h <;> (subst h; rfl)
  · subst h
    refine ⟨fun x hx => ?_, rfl, rfl⟩
    rcases (show x = 0 ∨ x = 1 ∨ x = 2 ∨ x = 3 ∨ x = 4 by omega) with h | h | h | h | h <;> (subst h; rfl)
  · subst h
    refine ⟨fun x hx => ?_, rfl, rfl⟩
    rcases (show x = 0 ∨ x = 1 ∨ x = 2 ∨ x = 3 ∨ x = 4 by omega) with h | h | h | h | h <;> (subst h; rfl)
  · subst h
    refine ⟨fun x hx => ?_, rfl, rfl⟩
    rcases (show x = 0 ∨ x = 1 ∨ x = 2 ∨ x = 3 ∨ x = 4 by omega) with h | h | h | h | h <;> (subst h; rfl)
  · subst h
    refine ⟨fun x hx => ?_, rfl, rfl⟩
    rcases (show x = 0 ∨ x = 1 ∨ x = 2 ∨ x = 3 ∨ x = 4 by omega) with h | h | h | h | h <;> (subst h; rfl)
  · exact absurd h hn
  · subst h
    refine ⟨fun x hx => ?_, rfl, rfl⟩
    rcases (show x = 0 ∨ x = 1 ∨ x = 2 ∨ x = 3 ∨ x = 4 by omega) with h | h | h | h | h <;> (subst h; rfl)
  · subst h
    refine ⟨fun x hx => ?_, rfl, rfl⟩
    rcases (show x = 0 ∨ x = 1 ∨ x = 2 ∨ x = 3 ∨ x = 4 by omega) with h | h | h | h | h <;> (subst h; rfl)
  · subst h
    refine ⟨fun x hx => ?_, rfl, rfl⟩
    rcases (show x = 0 ∨ x = 1 ∨ x = 2 ∨ x = 3 ∨ x = 4 by omega) with h | h | h | h | h <;> (subst h; rfl)
  · subst h
    refine ⟨fun x hx => ?_, rfl, rfl⟩
    rcases (show x = 0 ∨ x = 1 ∨ x = 2 ∨ x = 3 ∨ x = 4 by omega) with h | h | h | h | h <;> (subst h; rfl)
theorem rs_kp12 {U L : Int} (h : (L + 1) % 16 = 12) (m t s g c : Int) (pl he : Nat → Int) (gI : Nat → Int) (gF : Nat → Nat → Int) : ∃ pl1 he1, Ff_X1_keep U L gI m t s g c pl gF he = (fl_min (U + 1) 16, 12, fl_nI [gI 0, gI 1, gI 2, gI 3, gI 4, gI 5, gI 6, gI 7, gI 8, gI 9, gI 10, gI 11, gI 12, gI 13, gI 14, gI 15, gI 16, gI 17, gI 18, gI 19, gI 20, gI 21, gI 22, gI 23, gI 24, gI 25, gI 26, gI 27, gI 28, gI 29, gI 30, gI 31, gI 32, gI 33, gI 34, gI 35, gI 36, gI 37, gI 38, gI 39, gI 40, gI 41, gI 42, gI 43, gI 44, gI 45, gI 46, gI 47, gI 48, gI 49, gI 50, gI 51, gI 52, gI 53, gI 54, gI 55, gI 56, gI 57, gI 58, gI 59, m, t, s, g, c, gI 65, gI 66, gI 67, gI 68, gI 69, gI 70, gI 71, gI 72, gI 73, gI 74, gI 75, gI 76, gI 77, gI 78, gI 79], fl_nF [gF 0, gF 1, gF 2, gF 3, gF 4, gF 5, gF 6, gF 7, gF 8, gF 9, gF 10, gF 11, gF 12, gF 13, gF 14, gF 15, gF 16, gF 17, gF 18, gF 19, gF 20, gF 21, gF 22, gF 23, pl1, he1, gF 26, gF 27, gF 28, gF 29, gF 30, gF 31]) ∧ ∀ k : Nat, k < 9 → pl1 k = pl k ∧ he1 k = he k := by
  obtain ⟨pl1, he1, e, q⟩ := rs_cp m t s g c pl (gF 24) he (gF 25)
  refine ⟨pl1, he1, ?_, q⟩
  unfold Ff_X1_keep
  rw [fl_lt_eq rfl, fl_lt_eq h.symm]
  rw [if_neg (by decide)]
  rw [if_neg (by decide)]
  rw [if_neg (by decide)]
  rw [if_neg (by decide)]
  rw [if_neg (by decide)]
  rw [if_neg (by decide)]
  rw [if_neg (by decide)]
  rw [if_neg (by decide)]
  rw [if_neg (by decide)]
  rw [if_neg (by decide)]
  rw [if_neg (by decide)]
  rw [if_neg (by decide)]
  rw [if_pos rfl]
  rw [e, fl_c7_eq rfl]
  rfl
theorem rs_ks12 (m t s g c : Int) (pl he : Nat → Int) (gI : Nat → Int) (gF : Nat → Nat → Int) (pl1 he1 : Nat → Int) (hq : ∀ k : Nat, k < 9 → pl1 k = pl k ∧ he1 k = he k) : rs_P (fl_nI [gI 0, gI 1, gI 2, gI 3, gI 4, gI 5, gI 6, gI 7, gI 8, gI 9, gI 10, gI 11, gI 12, gI 13, gI 14, gI 15, gI 16, gI 17, gI 18, gI 19, gI 20, gI 21, gI 22, gI 23, gI 24, gI 25, gI 26, gI 27, gI 28, gI 29, gI 30, gI 31, gI 32, gI 33, gI 34, gI 35, gI 36, gI 37, gI 38, gI 39, gI 40, gI 41, gI 42, gI 43, gI 44, gI 45, gI 46, gI 47, gI 48, gI 49, gI 50, gI 51, gI 52, gI 53, gI 54, gI 55, gI 56, gI 57, gI 58, gI 59, m, t, s, g, c, gI 65, gI 66, gI 67, gI 68, gI 69, gI 70, gI 71, gI 72, gI 73, gI 74, gI 75, gI 76, gI 77, gI 78, gI 79]) (fl_nF [gF 0, gF 1, gF 2, gF 3, gF 4, gF 5, gF 6, gF 7, gF 8, gF 9, gF 10, gF 11, gF 12, gF 13, gF 14, gF 15, gF 16, gF 17, gF 18, gF 19, gF 20, gF 21, gF 22, gF 23, pl1, he1, gF 26, gF 27, gF 28, gF 29, gF 30, gF 31]) 12 m t s g c pl he ∧ ∀ j : Nat, j < 16 → j ≠ 12 → (∀ x : Nat, x < 5 → (fl_nI [gI 0, gI 1, gI 2, gI 3, gI 4, gI 5, gI 6, gI 7, gI 8, gI 9, gI 10, gI 11, gI 12, gI 13, gI 14, gI 15, gI 16, gI 17, gI 18, gI 19, gI 20, gI 21, gI 22, gI 23, gI 24, gI 25, gI 26, gI 27, gI 28, gI 29, gI 30, gI 31, gI 32, gI 33, gI 34, gI 35, gI 36, gI 37, gI 38, gI 39, gI 40, gI 41, gI 42, gI 43, gI 44, gI 45, gI 46, gI 47, gI 48, gI 49, gI 50, gI 51, gI 52, gI 53, gI 54, gI 55, gI 56, gI 57, gI 58, gI 59, m, t, s, g, c, gI 65, gI 66, gI 67, gI 68, gI 69, gI 70, gI 71, gI 72, gI 73, gI 74, gI 75, gI 76, gI 77, gI 78, gI 79]) (5 * j + x) = gI (5 * j + x)) ∧ (fl_nF [gF 0, gF 1, gF 2, gF 3, gF 4, gF 5, gF 6, gF 7, gF 8, gF 9, gF 10, gF 11, gF 12, gF 13, gF 14, gF 15, gF 16, gF 17, gF 18, gF 19, gF 20, gF 21, gF 22, gF 23, pl1, he1, gF 26, gF 27, gF 28, gF 29, gF 30, gF 31]) (2 * j) = gF (2 * j) ∧ (fl_nF [gF 0, gF 1, gF 2, gF 3, gF 4, gF 5, gF 6, gF 7, gF 8, gF 9, gF 10, gF 11, gF 12, gF 13, gF 14, gF 15, gF 16, gF 17, gF 18, gF 19, gF 20, gF 21, gF 22, gF 23, pl1, he1, gF 26, gF 27, gF 28, gF 29, gF 30, gF 31]) (2 * j + 1) = gF (2 * j + 1) := by
  refine ⟨⟨rfl, rfl, rfl, rfl, rfl, hq⟩, fun j hj hn => ?_⟩
  rcases (show j = 0 ∨ j = 1 ∨ j = 2 ∨ j = 3 ∨ j = 4 ∨ j = 5 ∨ j = 6 ∨ j = 7 ∨ j = 8 ∨ j = 9 ∨ j = 10 ∨ j = 11 ∨ j = 12 ∨ j = 13 ∨ j = 14 ∨ j = 15 by omega) with h | h | h | h | h | h | h | h | h | h | h | h | h | h | h | h
  · subst h
    refine ⟨fun x hx => ?_, rfl, rfl⟩
    rcases (show x = 0 ∨ x = 1 ∨ x = 2 ∨ x = 3 ∨ x = 4 by omega) with h | h | h | h | h <;> (subst h; rfl)
  · subst h
    refine ⟨fun x hx => ?_, rfl, rfl⟩
    rcases (show x = 0 ∨ x = 1 ∨ x = 2 ∨ x = 3 ∨ x = 4 by omega) with h | h | h | h | h <;> (subst h; rfl)
  · subst h
    refine ⟨fun x hx => ?_, rfl, rfl⟩
    rcases (show x = 0 ∨ x = 1 ∨ x = 2 ∨ x = 3 ∨ x = 4 by omega) with h | h | h | h | h <;> (subst h; rfl)
  · subst h
    refine ⟨fun x hx => ?_, rfl, rfl⟩
    rcases (show x = 0 ∨ x = 1 ∨ x = 2 ∨ x = 3 ∨ x = 4 by omega) with h | h | h | h | h <;> (subst h; rfl)
  · subst h
    refine ⟨fun x hx => ?_, rfl, rfl⟩
    rcases (show x = 0 ∨ x = 1 ∨ x = 2 ∨ x = 3 ∨ x = 4 by omega) with h | h | h | h | h <;> (subst h; rfl)
  · subst h
    refine ⟨fun x hx => ?_, rfl, rfl⟩
    rcases (show x = 0 ∨ x = 1 ∨ x = 2 ∨ x = 3 ∨ x = 4 by omega) with h | h | h | h | h <;> (subst h; rfl)
  · subst h
    refine ⟨fun x hx => ?_, rfl, rfl⟩
    rcases (show x = 0 ∨ x = 1 ∨ x = 2 ∨ x = 3 ∨ x = 4 by omega) with h | h | h | h | h <;> (subst h; rfl)
  · subst h
    refine ⟨fun x hx => ?_, rfl, rfl⟩
    rcases (show x = 0 ∨ x = 1 ∨ x = 2 ∨ x = 3 ∨ x = 4 by omega) with h | h | h | h | h <;> (subst h; rfl)
  · subst h
    refine ⟨fun x hx => ?_, rfl, rfl⟩
    rcases (show x = 0 ∨ x = 1 ∨ x = 2 ∨ x = 3 ∨ x = 4 by omega) with h | h | h | h | h <;> (subst h; rfl)
  · subst h
    refine ⟨fun x hx => ?_, rfl, rfl⟩
    rcases (show x = 0 ∨ x = 1 ∨ x = 2 ∨ x = 3 ∨ x = 4 by omega) with h | h | h | h | h <;> (subst h; rfl)
  · subst h
    refine ⟨fun x hx => ?_, rfl, rfl⟩
    rcases (show x = 0 ∨ x = 1 ∨ x = 2 ∨ x = 3 ∨ x = 4 by omega) with h | h | h | h | h <;> (subst h; rfl)
  · subst h
    refine ⟨fun x hx => ?_, rfl, rfl⟩
    rcases (show x = 0 ∨ x = 1 ∨ x = 2 ∨ x = 3 ∨ x = 4 by omega) with h | h | h | h | h <;> (subst h; rfl)
  · exact absurd h hn
  · subst h
    refine ⟨fun x hx => ?_, rfl, rfl⟩
    rcases (show x = 0 ∨ x = 1 ∨ x = 2 ∨ x = 3 ∨ x = 4 by omega) with h | h | h | h | h <;> (subst h; rfl)
  · subst h
    refine ⟨fun x hx => ?_, rfl, rfl⟩
    rcases (show x = 0 ∨ x = 1 ∨ x = 2 ∨ x = 3 ∨ x = 4 by omega) with h | h | h | h | h <;> (subst h; rfl)
  · subst h
    refine ⟨fun x hx => ?_, rfl, rfl⟩
    rcases (show x = 0 ∨ x = 1 ∨ x = 2 ∨ x = 3 ∨ x = 4 by omega) with h | h | h | h | h <;> (subst h; rfl)
theorem rs_kp13 {U L : Int} (h : (L + 1) % 16 = 13) (m t s g c : Int) (pl he : Nat → Int) (gI : Nat → Int) (gF : Nat → Nat → Int) : ∃ pl1 he1, Ff_X1_keep U L gI m t s g c pl gF he = (fl_min (U + 1) 16, 13, fl_nI [gI 0, gI 1, gI 2, gI 3, gI 4, gI 5, gI 6, gI 7, gI 8, gI 9, gI 10, gI 11, gI 12, gI 13, gI 14, gI 15, gI 16, gI 17, gI 18, gI 19, gI 20, gI 21, gI 22, gI 23, gI 24, gI 25, gI 26, gI 27, gI 28, gI 29, gI 30, gI 31, gI 32, gI 33, gI 34, gI 35, gI 36, gI 37, gI 38, gI 39, gI 40, gI 41, gI 42, gI 43, gI 44, gI 45, gI 46, gI 47, gI 48, gI 49, gI 50, gI 51, gI 52, gI 53, gI 54, gI 55, gI 56, gI 57, gI 58, gI 59, gI 60, gI 61, gI 62, gI 63, gI 64, m, t, s, g, c, gI 70, gI 71, gI 72, gI 73, gI 74, gI 75, gI 76, gI 77, gI 78, gI 79], fl_nF [gF 0, gF 1, gF 2, gF 3, gF 4, gF 5, gF 6, gF 7, gF 8, gF 9, gF 10, gF 11, gF 12, gF 13, gF 14, gF 15, gF 16, gF 17, gF 18, gF 19, gF 20, gF 21, gF 22, gF 23, gF 24, gF 25, pl1, he1, gF 28, gF 29, gF 30, gF 31]) ∧ ∀ k : Nat, k < 9 → pl1 k = pl k ∧ he1 k = he k := by
  obtain ⟨pl1, he1, e, q⟩ := rs_cp m t s g c pl (gF 26) he (gF 27)
  refine ⟨pl1, he1, ?_, q⟩
  unfold Ff_X1_keep
  rw [fl_lt_eq rfl, fl_lt_eq h.symm]
  rw [if_neg (by decide)]
  rw [if_neg (by decide)]
  rw [if_neg (by decide)]
  rw [if_neg (by decide)]
  rw [if_neg (by decide)]
  rw [if_neg (by decide)]
  rw [if_neg (by decide)]
  rw [if_neg (by decide)]
  rw [if_neg (by decide)]
  rw [if_neg (by decide)]
  rw [if_neg (by decide)]
  rw [if_neg (by decide)]
  rw [if_neg (by decide)]
  rw [if_pos rfl]
  rw [e, fl_c7_eq rfl]
  rfl
theorem rs_ks13 (m t s g c : Int) (pl he : Nat → Int) (gI : Nat → Int) (gF : Nat → Nat → Int) (pl1 he1 : Nat → Int) (hq : ∀ k : Nat, k < 9 → pl1 k = pl k ∧ he1 k = he k) : rs_P (fl_nI [gI 0, gI 1, gI 2, gI 3, gI 4, gI 5, gI 6, gI 7, gI 8, gI 9, gI 10, gI 11, gI 12, gI 13, gI 14, gI 15, gI 16, gI 17, gI 18, gI 19, gI 20, gI 21, gI 22, gI 23, gI 24, gI 25, gI 26, gI 27, gI 28, gI 29, gI 30, gI 31, gI 32, gI 33, gI 34, gI 35, gI 36, gI 37, gI 38, gI 39, gI 40, gI 41, gI 42, gI 43, gI 44, gI 45, gI 46, gI 47, gI 48, gI 49, gI 50, gI 51, gI 52, gI 53, gI 54, gI 55, gI 56, gI 57, gI 58, gI 59, gI 60, gI 61, gI 62, gI 63, gI 64, m, t, s, g, c, gI 70, gI 71, gI 72, gI 73, gI 74, gI 75, gI 76, gI 77, gI 78, gI 79]) (fl_nF [gF 0, gF 1, gF 2, gF 3, gF 4, gF 5, gF 6, gF 7, gF 8, gF 9, gF 10, gF 11, gF 12, gF 13, gF 14, gF 15, gF 16, gF 17, gF 18, gF 19, gF 20, gF 21, gF 22, gF 23, gF 24, gF 25, pl1, he1, gF 28, gF 29, gF 30, gF 31]) 13 m t s g c pl he ∧ ∀ j : Nat, j < 16 → j ≠ 13 → (∀ x : Nat, x < 5 → (fl_nI [gI 0, gI 1, gI 2, gI 3, gI 4, gI 5, gI 6, gI 7, gI 8, gI 9, gI 10, gI 11, gI 12, gI 13, gI 14, gI 15, gI 16, gI 17, gI 18, gI 19, gI 20, gI 21, gI 22, gI 23, gI 24, gI 25, gI 26, gI 27, gI 28, gI 29, gI 30, gI 31, gI 32, gI 33, gI 34, gI 35, gI 36, gI 37, gI 38, gI 39, gI 40, gI 41, gI 42, gI 43, gI 44, gI 45, gI 46, gI 47, gI 48, gI 49, gI 50, gI 51, gI 52, gI 53, gI 54, gI 55, gI 56, gI 57, gI 58, gI 59, gI 60, gI 61, gI 62, gI 63, gI 64, m, t, s, g, c, gI 70, gI 71, gI 72, gI 73, gI 74, gI 75, gI 76, gI 77, gI 78, gI 79]) (5 * j + x) = gI (5 * j + x)) ∧ (fl_nF [gF 0, gF 1, gF 2, gF 3, gF 4, gF 5, gF 6, gF 7, gF 8, gF 9, gF 10, gF 11, gF 12, gF 13, gF 14, gF 15, gF 16, gF 17, gF 18, gF 19, gF 20, gF 21, gF 22, gF 23, gF 24, gF 25, pl1, he1, gF 28, gF 29, gF 30, gF 31]) (2 * j) = gF (2 * j) ∧ (fl_nF [gF 0, gF 1, gF 2, gF 3, gF 4, gF 5, gF 6, gF 7, gF 8, gF 9, gF 10, gF 11, gF 12, gF 13, gF 14, gF 15, gF 16, gF 17, gF 18, gF 19, gF 20, gF 21, gF 22, gF 23, gF 24, gF 25, pl1, he1, gF 28, gF 29, gF 30, gF 31]) (2 * j + 1) = gF (2 * j + 1) := by
  refine ⟨⟨rfl, rfl, rfl, rfl, rfl, hq⟩, fun j hj hn => ?_⟩
  rcases (show j = 0 ∨ j = 1 ∨ j = 2 ∨ j = 3 ∨ j = 4 ∨ j = 5 ∨ j = 6 ∨ j = 7 ∨ j = 8 ∨ j = 9 ∨ j = 10 ∨ j = 11 ∨ j = 12 ∨ j = 13 ∨ j = 14 ∨ j = 15 by omega) with h | h | h | h | h | h | h | h | h | h | h | h | h | h | h | h
  · subst h
    refine ⟨fun x hx => ?_, rfl, rfl⟩
    rcases (show x = 0 ∨ x = 1 ∨ x = 2 ∨ x = 3 ∨ x = 4 by omega) with h | h | h | h | h <;> (subst h; rfl)
  · subst h
    refine ⟨fun x hx => ?_, rfl, rfl⟩
    rcases (show x = 0 ∨ x = 1 ∨ x = 2 ∨ x = 3 ∨ x = 4 by omega) with h | h | h | h | h <;> (subst h; rfl)
  · subst h
    refine ⟨fun x hx => ?_, rfl, rfl⟩
    rcases (show x = 0 ∨ x = 1 ∨ x = 2 ∨ x = 3 ∨ x = 4 by omega) with h | h | h | h | h <;> (subst h; rfl)
  · subst h
    refine ⟨fun x hx => ?_, rfl, rfl⟩
    rcases (show x = 0 ∨ x = 1 ∨ x = 2 ∨ x = 3 ∨ x = 4 by omega) with h | h | h | h | h <;> (subst h; rfl)
  · subst h
    refine ⟨fun x hx => ?_, rfl, rfl⟩
    rcases (show x = 0 ∨ x = 1 ∨ x = 2 ∨ x = 3 ∨ x = 4 by omega) with h | h | h | h | h <;> (subst h; rfl)
  · subst h
    refine ⟨fun x hx => ?_, rfl, rfl⟩
    rcases (show x = 0 ∨ x = 1 ∨ x = 2 ∨ x = 3 ∨ x = 4 by omega) with h | h | h | h | h <;> (subst h; rfl)
  · subst h
    refine ⟨fun x hx => ?_, rfl, rfl⟩
    rcases (show x = 0 ∨ x = 1 ∨ x = 2 ∨ x = 3 ∨ x = 4 by omega) with h | h | h | h | h <;> (subst h; rfl)
  · subst h
    refine ⟨fun x hx => ?_, rfl, rfl⟩
    rcases (show x = 0 ∨ x = 1 ∨ x = 2 ∨ x = 3 ∨ x = 4 by omega) with h | h | h | h | h <;> (subst h; rfl)
  · subst h
    refine ⟨fun x hx => ?_, rfl, rfl⟩
    rcases (show x = 0 ∨ x = 1 ∨ x = 2 ∨ x = 3 ∨ x = 4 by omega) with h | h | h | h | h <;> (subst h; rfl)
  · subst h
    refine ⟨fun x hx => ?_, rfl, rfl⟩
    rcases (show x = 0 ∨ x = 1 ∨ x = 2 ∨ x = 3 ∨ x = 4 by omega) with h | h | h | h | h <;> (subst h; rfl)
  · subst h
    refine ⟨fun x hx => ?_, rfl, rfl⟩
    rcases (show x = 0 ∨ x = 1 ∨ x = 2 ∨ x = 3 ∨ x = 4 by omega) with h | h | h | h | h <;> (subst h; rfl)
  · subst h
    refine ⟨fun x hx => ?_, rfl, rfl⟩
    rcases (show x = 0 ∨ x = 1 ∨ x = 2 ∨ x = 3 ∨ x = 4 by omega) with h | h | h | h | h <;> (subst h; rfl)
  · subst h
    refine ⟨fun x hx => ?_, rfl, rfl⟩
    rcases (show x = 0 ∨ x = 1 ∨ x = 2 ∨ x = 3 ∨ x = 4 by omega) with h | h | h | h | h <;> (subst h; rfl)
  · exact absurd h hn
  · subst h
    refine ⟨fun x hx => ?_, rfl, rfl⟩
    rcases (show x = 0 ∨ x = 1 ∨ x = 2 ∨ x = 3 ∨ x = 4 by omega) with h | h | h | h | h <;> (subst h; rfl)
  · subst h
    refine ⟨fun x hx => ?_, rfl, rfl⟩
    rcases (show x = 0 ∨ x = 1 ∨ x = 2 ∨ x = 3 ∨ x = 4 by omega) with h | h | h | h | h <;> (subst h; rfl)
theorem rs_kp14 {U L : Int} (h : (L + 1) % 16 = 14) (m t s g c : Int) (pl he : Nat → Int) (gI : Nat → Int) (gF : Nat → Nat → Int) : ∃ pl1 he1, Ff_X1_keep U L gI m t s g c pl gF he = (fl_min (U + 1) 16, 14, fl_nI [gI 0, gI 1, gI 2, gI 3, gI 4, gI 5, gI 6, gI 7, gI 8, gI 9, gI 10, gI 11, gI 12, gI 13, gI 14, gI 15, gI 16, gI 17, gI 18, gI 19, gI 20, gI 21, gI 22, gI 23, gI 24, gI 25, gI 26, gI 27, gI 28, gI 29, gI 30, gI 31, gI 32, gI 33, gI 34, gI 35, gI 36, gI 37, gI 38, gI 39, gI 40, gI 41, gI 42, gI 43, gI 44, gI 45, gI 46, gI 47, gI 48, gI 49, gI 50, gI 51, gI 52, gI 53, gI 54, gI 55, gI 56, gI 57, gI 58, gI 59, gI 60, gI 61, gI 62, gI 63, gI 64, gI 65, gI 66, gI 67, gI 68, gI 69, m, t, s, g, c, gI 75, gI 76, gI 77, gI 78, gI 79], fl_nF [gF 0, gF 1, gF 2, gF 3, gF 4, gF 5, gF 6, gF 7, gF 8, gF 9, gF 10, gF 11, gF 12, gF 13, gF 14, gF 15, gF 16, gF 17, gF 18, gF 19, gF 20, gF 21, gF 22, gF 23, gF 24, gF 25, gF 26, gF 27, pl1, he1, gF 30, gF 31]) ∧ ∀ k : Nat, k < 9 → pl1 k = pl k ∧ he1 k = he k := by
  obtain ⟨pl1, he1, e, q⟩ := rs_cp m t s g c pl (gF 28) he (gF 29)
  refine ⟨pl1, he1, ?_, q⟩
  unfold Ff_X1_keep
  rw [fl_lt_eq rfl, fl_lt_eq h.symm]
  rw [if_neg (by decide)]
  rw [if_neg (by decide)]
  rw [if_neg (by decide)]
  rw [if_neg (by decide)]
  rw [if_neg (by decide)]
  rw [if_neg (by decide)]
  rw [if_neg (by decide)]
  rw [if_neg (by decide)]
  rw [if_neg (by decide)]
  rw [if_neg (by decide)]
  rw [if_neg (by decide)]
  rw [if_neg (by decide)]
  rw [if_neg (by decide)]
  rw [if_neg (by decide)]
  rw [if_pos rfl]
  rw [e, fl_c7_eq rfl]
  rfl
theorem rs_ks14 (m t s g c : Int) (pl he : Nat → Int) (gI : Nat → Int) (gF : Nat → Nat → Int) (pl1 he1 : Nat → Int) (hq : ∀ k : Nat, k < 9 → pl1 k = pl k ∧ he1 k = he k) : rs_P (fl_nI [gI 0, gI 1, gI 2, gI 3, gI 4, gI 5, gI 6, gI 7, gI 8, gI 9, gI 10, gI 11, gI 12, gI 13, gI 14, gI 15, gI 16, gI 17, gI 18, gI 19, gI 20, gI 21, gI 22, gI 23, gI 24, gI 25, gI 26, gI 27, gI 28, gI 29, gI 30, gI 31, gI 32, gI 33, gI 34, gI 35, gI 36, gI 37, gI 38, gI 39, gI 40, gI 41, gI 42, gI 43, gI 44, gI 45, gI 46, gI 47, gI 48, gI 49, gI 50, gI 51, gI 52, gI 53, gI 54, gI 55, gI 56, gI 57, gI 58, gI 59, gI 60, gI 61, gI 62, gI 63, gI 64, gI 65, gI 66, gI 67, gI 68, gI 69, m, t, s, g, c, gI 75, gI 76, gI 77, gI 78, gI 79]) (fl_nF [gF 0, gF 1, gF 2, gF 3, gF 4, gF 5, gF 6, gF 7, gF 8, gF 9, gF 10, gF 11, gF 12, gF 13, gF 14, gF 15, gF 16, gF 17, gF 18, gF 19, gF 20, gF 21, gF 22, gF 23, gF 24, gF 25, gF 26, gF 27, pl1, he1, gF 30, gF 31]) 14 m t s g c pl he ∧ ∀ j : Nat, j < 16 → j ≠ 14 → (∀ x : Nat, x < 5 → (fl_nI [gI 0, gI 1, gI 2, gI 3, gI 4, gI 5, gI 6, gI 7, gI 8, gI 9, gI 10, gI 11, gI 12, gI 13, gI 14, gI 15, gI 16, gI 17, gI 18, gI 19, gI 20, gI 21, gI 22, gI 23, gI 24, gI 25, gI 26, gI 27, gI 28, gI 29, gI 30, gI 31, gI 32, gI 33, gI 34, gI 35, gI 36, gI 37, gI 38, gI 39, gI 40, gI 41, gI 42, gI 43, gI 44, gI 45, gI 46, gI 47, gI 48, gI 49, gI 50, gI 51, gI 52, gI 53, gI 54, gI 55, gI 56, gI 57, gI 58, gI 59, gI 60, gI 61, gI 62, gI 63, gI 64, gI 65, gI 66, gI 67, gI 68, gI 69, m, t, s, g, c, gI 75, gI 76, gI 77, gI 78, gI 79]) (5 * j + x) = gI (5 * j + x)) ∧ (fl_nF [gF 0, gF 1, gF 2, gF 3, gF 4, gF 5, gF 6, gF 7, gF 8, gF 9, gF 10, gF 11, gF 12, gF 13, gF 14, gF 15, gF 16, gF 17, gF 18, gF 19, gF 20, gF 21, gF 22, gF 23, gF 24, gF 25, gF 26, gF 27, pl1, he1, gF 30, gF 31]) (2 * j) = gF (2 * j) ∧ (fl_nF [gF 0, gF 1, gF 2, gF 3, gF 4, gF 5, gF 6, gF 7, gF 8, gF 9, gF 10, gF 11, gF 12, gF 13, gF 14, gF 15, gF 16, gF 17, gF 18, gF 19, gF 20, gF 21, gF 22, gF 23, gF 24, gF 25, gF 26, gF 27, pl1, he1, gF 30, gF 31]) (2 * j + 1) = gF (2 * j + 1) := by
  refine ⟨⟨rfl, rfl, rfl, rfl, rfl, hq⟩, fun j hj hn => ?_⟩
  rcases (show j = 0 ∨ j = 1 ∨ j = 2 ∨ j = 3 ∨ j = 4 ∨ j = 5 ∨ j = 6 ∨ j = 7 ∨ j = 8 ∨ j = 9 ∨ j = 10 ∨ j = 11 ∨ j = 12 ∨ j = 13 ∨ j = 14 ∨ j = 15 by omega) with h | h | h | h | h | h | h | h | h | h | h | h | h | h | h | h
  · subst h
    refine ⟨fun x hx => ?_, rfl, rfl⟩
    rcases (show x = 0 ∨ x = 1 ∨ x = 2 ∨ x = 3 ∨ x = 4 by omega) with h | h | h | h | h <;> (subst h; rfl)
  · subst h
    refine ⟨fun x hx => ?_, rfl, rfl⟩
    rcases (show x = 0 ∨ x = 1 ∨ x = 2 ∨ x = 3 ∨ x = 4 by omega) with h | h | h | h | h <;> (subst h; rfl)
  · subst h
    refine ⟨fun x hx => ?_, rfl, rfl⟩
    rcases (show x = 0 ∨ x = 1 ∨ x = 2 ∨ x = 3 ∨ x = 4 by omega) with h | h | h | h | h <;> (subst h; rfl)
  · subst h
    refine ⟨fun x hx => ?_, rfl, rfl⟩
    rcases (show x = 0 ∨ x = 1 ∨ x = 2 ∨ x = 3 ∨ x = 4 by omega) with h | h | h | h | h <;> (subst h; rfl)
  · subst h
    refine ⟨fun x hx => ?_, rfl, rfl⟩
    rcases (show x = 0 ∨ x = 1 ∨ x = 2 ∨ x = 3 ∨ x = 4 by omega) with h | h | h | h | h <;> (subst h; rfl)
  · subst h
    refine ⟨fun x hx => ?_, rfl, rfl⟩
    rcases (show x = 0 ∨ x = 1 ∨ x = 2 ∨ x = 3 ∨ x = 4 by omega) with h | h | h | h | h <;> (subst h; rfl)
  · subst h
    refine ⟨fun x hx => ?_, rfl, rfl⟩
    rcases (show x = 0 ∨ x = 1 ∨ x = 2 ∨ x = 3 ∨ x = 4 by omega) with h | h | h | h | h <;> (subst h; rfl)
  · subst h
    refine ⟨fun x hx => ?_, rfl, rfl⟩
    rcases (show x = 0 ∨ x = 1 ∨ x = 2 ∨ x = 3 ∨ x = 4 by omega) with h | h | h | h | h <;> (subst h; rfl)
  · subst h
    refine ⟨fun x hx => ?_, rfl, rfl⟩
    rcases (show x = 0 ∨ x = 1 ∨ x = 2 ∨ x = 3 ∨ x = 4 by omega) with h | h | h | h | h <;> (subst h; rfl)
  · subst h
    refine ⟨fun x hx => ?_, rfl, rfl⟩
    rcases (show x = 0 ∨ x = 1 ∨ x = 2 ∨ x = 3 ∨ x = 4 by omega) with h | h | h | h | h <;> (subst h; rfl)
  · subst h
    refine ⟨fun x hx => ?_, rfl, rfl⟩
    rcases (show x = 0 ∨ x = 1 ∨ x = 2 ∨ x = 3 ∨ x = 4 by omega) with h | h | h | h | h <;> (subst h; rfl)
  · subst h
    refine ⟨fun x hx => ?_, rfl, rfl⟩
    rcases (show x = 0 ∨ x = 1 ∨ x = 2 ∨ x = 3 ∨ x = 4 by omega) with h | h | h | h | h <;> (subst h; rfl)
  · subst h
    refine ⟨fun x hx => ?_, rfl, rfl⟩
    rcases (show x = 0 ∨ x = 1 ∨ x = 2 ∨ x = 3 ∨ x = 4 by omega) with h | h | h | h | h <;> (subst h; rfl)
  · subst h
    refine ⟨fun x hx => ?_, rfl, rfl⟩
    rcases (show x = 0 ∨ x = 1 ∨ x = 2 ∨ x = 3 ∨ x = 4 by omega) with h | h | h | h | h <;> (subst h; rfl)
  · exact absurd h hn
  · subst h
    refine ⟨fun x hx => ?_, rfl, rfl⟩
    rcases (show x = 0 ∨ x = 1 ∨ x = 2 ∨ x = 3 ∨ x = 4 by omega) with h | h | h | h | h <;> (subst h; rfl)
theorem rs_kp15 {U L : Int} (h : (L + 1) % 16 = 15) (m t s g c : Int) (pl he : Nat → Int) (gI : Nat → Int) (gF : Nat → Nat → Int) : ∃ pl1 he1, Ff_X1_keep U L gI m t s g c pl gF he = (fl_min (U + 1) 16, 15, fl_nI [gI 0, gI 1, gI 2, gI 3, gI 4, gI 5, gI 6, gI 7, gI 8, gI 9, gI 10, gI 11, gI 12, gI 13, gI 14, gI 15, gI 16, gI 17, gI 18, gI 19, gI 20, gI 21, gI 22, gI 23, gI 24, gI 25, gI 26, gI 27, gI 28, gI 29, gI 30, gI 31, gI 32, gI 33, gI 34, gI 35, gI 36, gI 37, gI 38, gI 39, gI 40, gI 41, gI 42, gI 43, gI 44, gI 45, gI 46, gI 47, gI 48, gI 49, gI 50, gI 51, gI 52, gI 53, gI 54, gI 55, gI 56, gI 57, gI 58, gI 59, gI 60, gI 61, gI 62, gI 63, gI 64, gI 65, gI 66, gI 67, gI 68, gI 69, gI 70, gI 71, gI 72, gI 73, gI 74, m, t, s, g, c], fl_nF [gF 0, gF 1, gF 2, gF 3, gF 4, gF 5, gF 6, gF 7, gF 8, gF 9, gF 10, gF 11, gF 12, gF 13, gF 14, gF 15, gF 16, gF 17, gF 18, gF 19, gF 20, gF 21, gF 22, gF 23, gF 24, gF 25, gF 26, gF 27, gF 28, gF 29, pl1, he1]) ∧ ∀ k : Nat, k < 9 → pl1 k = pl k ∧ he1 k = he k := by
  obtain ⟨pl1, he1, e, q⟩ := rs_cp m t s g c pl (gF 30) he (gF 31)
  refine ⟨pl1, he1, ?_, q⟩
  unfold Ff_X1_keep
  rw [fl_lt_eq rfl, fl_lt_eq h.symm]
  rw [if_neg (by decide)]
  rw [if_neg (by decide)]
  rw [if_neg (by decide)]
  rw [if_neg (by decide)]
  rw [if_neg (by decide)]
  rw [if_neg (by decide)]
  rw [if_neg (by decide)]
  rw [if_neg (by decide)]
  rw [if_neg (by decide)]
  rw [if_neg (by decide)]
  rw [if_neg (by decide)]
  rw [if_neg (by decide)]
  rw [if_neg (by decide)]
  rw [if_neg (by decide)]
  rw [if_neg (by decide)]
  rw [e, fl_c7_eq rfl]
  rfl
theorem rs_ks15 (m t s g c : Int) (pl he : Nat → Int) (gI : Nat → Int) (gF : Nat → Nat → Int) (pl1 he1 : Nat → Int) (hq : ∀ k : Nat, k < 9 → pl1 k = pl k ∧ he1 k = he k) : rs_P (fl_nI [gI 0, gI 1, gI 2, gI 3, gI 4, gI 5, gI 6, gI 7, gI 8, gI 9, gI 10, gI 11, gI 12, gI 13, gI 14, gI 15, gI 16, gI 17, gI 18, gI 19, gI 20, gI 21, gI 22, gI 23, gI 24, gI 25, gI 26, gI 27, gI 28, gI 29, gI 30, gI 31, gI 32, gI 33, gI 34, gI 35, gI 36, gI 37, gI 38, gI 39, gI 40, gI 41, gI 42, gI 43, gI 44, gI 45, gI 46, gI 47, gI 48, gI 49, gI 50, gI 51, gI 52, gI 53, gI 54, gI 55, gI 56, gI 57, gI 58, gI 59, gI 60, gI 61, gI 62, gI 63, gI 64, gI 65, gI 66, gI 67, gI 68, gI 69, gI 70, gI 71, gI 72, gI 73, gI 74, m, t, s, g, c]) (fl_nF [gF 0, gF 1, gF 2, gF 3, gF 4, gF 5, gF 6, gF 7, gF 8, gF 9, gF 10, gF 11, gF 12, gF 13, gF 14, gF 15, gF 16, gF 17, gF 18, gF 19, gF 20, gF 21, gF 22, gF 23, gF 24, gF 25, gF 26, gF 27, gF 28, gF 29, pl1, he1]) 15 m t s g c pl he ∧ ∀ j : Nat, j < 16 → j ≠ 15 → (∀ x : Nat, x < 5 → (fl_nI [gI 0, gI 1, gI 2, gI 3, gI 4, gI 5, gI 6, gI 7, gI 8, gI 9, gI 10, gI 11, gI 12, gI 13, gI 14, gI 15, gI 16, gI 17, gI 18, gI 19, gI 20, gI 21, gI 22, gI 23, gI 24, gI 25, gI 26, gI 27, gI 28, gI 29, gI 30, gI 31, gI 32, gI 33, gI 34, gI 35, gI 36, gI 37, gI 38, gI 39, gI 40, gI 41, gI 42, gI 43, gI 44, gI 45, gI 46, gI 47, gI 48, gI 49, gI 50, gI 51, gI 52, gI 53, gI 54, gI 55, gI 56, gI 57, gI 58, gI 59, gI 60, gI 61, gI 62, gI 63, gI 64, gI 65, gI 66, gI 67, gI 68, gI 69, gI 70, gI 71, gI 72, gI 73, gI 74, m, t, s, g, c]) (5 * j + x) = gI (5 * j + x)) ∧ (fl_nF [gF 0, gF 1, gF 2, gF 3, gF 4, gF 5, gF 6, gF 7, gF 8, gF 9, gF 10, gF 11, gF 12, gF 13, gF 14, gF 15, gF 16, gF 17, gF 18, gF 19, gF 20, gF 21, gF 22, gF 23, gF 24, gF 25, gF 26, gF 27, gF 28, gF 29, pl1, he1]) (2 * j) = gF (2 * j) ∧ (fl_nF [gF 0, gF 1, gF 2, gF 3, gF 4, gF 5, gF 6, gF 7, gF 8, gF 9, gF 10, gF 11, gF 12, gF 13, gF 14, gF 15, gF 16, gF 17, gF 18, gF 19, gF 20, gF 21, gF 22, gF 23, gF 24, gF 25, gF 26, gF 27, gF 28, gF 29, pl1, he1]) (2 * j + 1) = gF (2 * j + 1) := by
  refine ⟨⟨rfl, rfl, rfl, rfl, rfl, hq⟩, fun j hj hn => ?_⟩
  rcases (show j = 0 ∨ j = 1 ∨ j = 2 ∨ j = 3 ∨ j = 4 ∨ j = 5 ∨ j = 6 ∨ j = 7 ∨ j = 8 ∨ j = 9 ∨ j = 10 ∨ j = 11 ∨ j = 12 ∨ j = 13 ∨ j = 14 ∨ j = 15 by omega) with h | h | h | h | h | h | h | h | h | h | h | h | h | h | h | h
  · subst h
    refine ⟨fun x hx => ?_, rfl, rfl⟩
    rcases (show x = 0 ∨ x = 1 ∨ x = 2 ∨ x = 3 ∨ x = 4 by omega) with h | h | h | h | h <;> (subst h; rfl)
  · subst h
    refine ⟨fun x hx => ?_, rfl, rfl⟩
    rcases (show x = 0 ∨ x = 1 ∨ x = 2 ∨ x = 3 ∨ x = 4 by omega) with h | h | h | h | h <;> (subst h; rfl)
  · subst h
    refine ⟨fun x hx => ?_, rfl, rfl⟩
    rcases (show x = 0 ∨ x = 1 ∨ x = 2 ∨ x = 3 ∨ x = 4 by omega) with h | h | h | h | h <;> (subst h; rfl)
  · subst h
    refine ⟨fun x hx => ?_, rfl, rfl⟩
    rcases (show x = 0 ∨ x = 1 ∨ x = 2 ∨ x = 3 ∨ x = 4 by omega) with h | h | h | h | h <;> (subst h; rfl)
  · subst h
    refine ⟨fun x hx => ?_, rfl, rfl⟩
    rcases (show x = 0 ∨ x = 1 ∨ x = 2 ∨ x = 3 ∨ x = 4 by omega) with h | h | h | h | h <;> (subst h; rfl)
  · subst h
    refine ⟨fun x hx => ?_, rfl, rfl⟩
    rcases (show x = 0 ∨ x = 1 ∨ x = 2 ∨ x = 3 ∨ x = 4 by omega) with h | h | h | h | h <;> (subst h; rfl)
  · subst h
    refine ⟨fun x hx => ?_, rfl, rfl⟩
    rcases (show x = 0 ∨ x = 1 ∨ x = 2 ∨ x = 3 ∨ x = 4 by omega) with h | h | h | h | h <;> (subst h; rfl)
  · subst h
    refine ⟨fun x hx => ?_, rfl, rfl⟩
    rcases (show x = 0 ∨ x = 1 ∨ x = 2 ∨ x = 3 ∨ x = 4 by omega) with h | h | h | h | h <;> (subst h; rfl)
  · subst h
    refine ⟨fun x hx => ?_, rfl, rfl⟩
    rcases (show x = 0 ∨ x = 1 ∨ x = 2 ∨ x = 3 ∨ x = 4 by omega) with h | h | h | h | h <;> (subst h; rfl)
  · subst h
    refine ⟨fun x hx => ?_, rfl, rfl⟩
    rcases (show x = 0 ∨ x = 1 ∨ x = 2 ∨ x = 3 ∨ x = 4 by omega) with h | h | h | h | h <;> (subst h; rfl)
  · subst h
    refine ⟨fun x hx => ?_, rfl, rfl⟩
    rcases (show x = 0 ∨ x = 1 ∨ x = 2 ∨ x = 3 ∨ x = 4 by omega) with h | h | h | h | h <;> (subst h; rfl)
  · subst h
    refine ⟨fun x hx => ?_, rfl, rfl⟩
    rcases (show x = 0 ∨ x = 1 ∨ x = 2 ∨ x = 3 ∨ x = 4 by omega) with h | h | h | h | h <;> (subst h; rfl)
  · subst h
    refine ⟨fun x hx => ?_, rfl, rfl⟩
    rcases (show x = 0 ∨ x = 1 ∨ x = 2 ∨ x = 3 ∨ x = 4 by omega) with h | h | h | h | h <;> (subst h; rfl)
  · subst h
    refine ⟨fun x hx => ?_, rfl, rfl⟩
    rcases (show x = 0 ∨ x = 1 ∨ x = 2 ∨ x = 3 ∨ x = 4 by omega) with h | h | h | h | h <;> (subst h; rfl)
  · subst h
    refine ⟨fun x hx => ?_, rfl, rfl⟩
    rcases (show x = 0 ∨ x = 1 ∨ x = 2 ∨ x = 3 ∨ x = 4 by omega) with h | h | h | h | h <;> (subst h; rfl)
  · exact absurd h hn
/-- keep: here -/
theorem rs_kp {L : Int} (h0 : 0 ≤ L) (h1 : L ≤ 15) (U : Int) (m t s g c : Int) (pl he : Nat → Int) (gI : Nat → Int) (gF : Nat → Nat → Int) : ∃ gI1 gF1, Ff_X1_keep U L gI m t s g c pl gF he = (fl_min (U + 1) 16, (L + 1) % 16, gI1, gF1) ∧ rs_P gI1 gF1 ((L + 1) % 16).toNat m t s g c pl he ∧ ∀ j : Nat, j < 16 → j ≠ ((L + 1) % 16).toNat → (∀ x : Nat, x < 5 → gI1 (5 * j + x) = gI (5 * j + x)) ∧ gF1 (2 * j) = gF (2 * j) ∧ gF1 (2 * j + 1) = gF (2 * j + 1) := by
  rcases (show (L + 1) % 16 = 0 ∨ (L + 1) % 16 = 1 ∨ (L + 1) % 16 = 2 ∨ (L + 1) % 16 = 3 ∨ (L + 1) % 16 = 4 ∨ (L + 1) % 16 = 5 ∨ (L + 1) % 16 = 6 ∨ (L + 1) % 16 = 7 ∨ (L + 1) % 16 = 8 ∨ (L + 1) % 16 = 9 ∨ (L + 1) % 16 = 10 ∨ (L + 1) % 16 = 11 ∨ (L + 1) % 16 = 12 ∨ (L + 1) % 16 = 13 ∨ (L + 1) % 16 = 14 ∨ (L + 1) % 16 = 15 by omega) with h | h | h | h | h | h | h | h | h | h | h | h | h | h | h | h
  · obtain ⟨pl1, he1, e, q⟩ := rs_kp0 (U := U) h m t s g c pl he gI gF
    rw [h]
    exact ⟨_, _, e, rs_ks0 m t s g c pl he gI gF pl1 he1 q⟩
  · obtain ⟨pl1, he1, e, q⟩ := rs_kp1 (U := U) h m t s g c pl he gI gF
    rw [h]
    exact ⟨_, _, e, rs_ks1 m t s g c pl he gI gF pl1 he1 q⟩
  · obtain ⟨pl1, he1, e, q⟩ := rs_kp2 (U := U) h m t s g c pl he gI gF
    rw [h]
    exact ⟨_, _, e, rs_ks2 m t s g c pl he gI gF pl1 he1 q⟩
  · obtain ⟨pl1, he1, e, q⟩ := rs_kp3 (U := U) h m t s g c pl he gI gF
    rw [h]
    exact ⟨_, _, e, rs_ks3 m t s g c pl he gI gF pl1 he1 q⟩
  · obtain ⟨pl1, he1, e, q⟩ := rs_kp4 (U := U) h m t s g c pl he gI gF
    rw [h]
    exact ⟨_, _, e, rs_ks4 m t s g c pl he gI gF pl1 he1 q⟩
  · obtain ⟨pl1, he1, e, q⟩ := rs_kp5 (U := U) h m t s g c pl he gI gF
    rw [h]
    exact ⟨_, _, e, rs_ks5 m t s g c pl he gI gF pl1 he1 q⟩
  · obtain ⟨pl1, he1, e, q⟩ := rs_kp6 (U := U) h m t s g c pl he gI gF
    rw [h]
    exact ⟨_, _, e, rs_ks6 m t s g c pl he gI gF pl1 he1 q⟩
  · obtain ⟨pl1, he1, e, q⟩ := rs_kp7 (U := U) h m t s g c pl he gI gF
    rw [h]
    exact ⟨_, _, e, rs_ks7 m t s g c pl he gI gF pl1 he1 q⟩
  · obtain ⟨pl1, he1, e, q⟩ := rs_kp8 (U := U) h m t s g c pl he gI gF
    rw [h]
    exact ⟨_, _, e, rs_ks8 m t s g c pl he gI gF pl1 he1 q⟩
  · obtain ⟨pl1, he1, e, q⟩ := rs_kp9 (U := U) h m t s g c pl he gI gF
    rw [h]
    exact ⟨_, _, e, rs_ks9 m t s g c pl he gI gF pl1 he1 q⟩
  · obtain ⟨pl1, he1, e, q⟩ := rs_kp10 (U := U) h m t s g c pl he gI gF
    rw [h]
    exact ⟨_, _, e, rs_ks10 m t s g c pl he gI gF pl1 he1 q⟩
  · obtain ⟨pl1, he1, e, q⟩ := rs_kp11 (U := U) h m t s g c pl he gI gF
    rw [h]
    exact ⟨_, _, e, rs_ks11 m t s g c pl he gI gF pl1 he1 q⟩
  · obtain ⟨pl1, he1, e, q⟩ := rs_kp12 (U := U) h m t s g c pl he gI gF
    rw [h]
    exact ⟨_, _, e, rs_ks12 m t s g c pl he gI gF pl1 he1 q⟩
  · obtain ⟨pl1, he1, e, q⟩ := rs_kp13 (U := U) h m t s g c pl he gI gF
    rw [h]
    exact ⟨_, _, e, rs_ks13 m t s g c pl he gI gF pl1 he1 q⟩
  · obtain ⟨pl1, he1, e, q⟩ := rs_kp14 (U := U) h m t s g c pl he gI gF
    rw [h]
    exact ⟨_, _, e, rs_ks14 m t s g c pl he gI gF pl1 he1 q⟩
  · obtain ⟨pl1, he1, e, q⟩ := rs_kp15 (U := U) h m t s g c pl he gI gF
    rw [h]
    exact ⟨_, _, e, rs_ks15 m t s g c pl he gI gF pl1 he1 q⟩
theorem rs_tk0 {U : Int} (hU : ¬ U = 0) (m t s g c : Int) (pl he : Nat → Int) (gI : Nat → Int) (gF : Nat → Nat → Int) : ∃ pl1 he1, Ff_X1_takeLatest U 0 m t s g c gI gF pl he = (1, U - 1, 15, gI 0, gI 1, gI 2, gI 3, gI 4, pl1, he1) ∧ ∀ k : Nat, k < 9 → gF 0 k = pl1 k ∧ gF 1 k = he1 k := by
  obtain ⟨pl1, he1, e, q⟩ := rs_cp (gI 0) (gI 1) (gI 2) (gI 3) (gI 4) (gF 0) pl (gF 1) he
  refine ⟨pl1, he1, ?_, fun k hk => ⟨(q k hk).1.symm, (q k hk).2.symm⟩⟩
  unfold Ff_X1_takeLatest
  rw [if_neg hU]
  rw [if_pos rfl]
  rw [e, fl_c7_eq rfl]
  rfl
theorem rs_tk1 {U : Int} (hU : ¬ U = 0) (m t s g c : Int) (pl he : Nat → Int) (gI : Nat → Int) (gF : Nat → Nat → Int) : ∃ pl1 he1, Ff_X1_takeLatest U 1 m t s g c gI gF pl he = (1, U - 1, 0, gI 5, gI 6, gI 7, gI 8, gI 9, pl1, he1) ∧ ∀ k : Nat, k < 9 → gF 2 k = pl1 k ∧ gF 3 k = he1 k := by
  obtain ⟨pl1, he1, e, q⟩ := rs_cp (gI 5) (gI 6) (gI 7) (gI 8) (gI 9) (gF 2) pl (gF 3) he
  refine ⟨pl1, he1, ?_, fun k hk => ⟨(q k hk).1.symm, (q k hk).2.symm⟩⟩
  unfold Ff_X1_takeLatest
  rw [if_neg hU]
  rw [if_neg (by decide)]
  rw [if_pos rfl]
  rw [e, fl_c7_eq rfl]
  rfl
theorem rs_tk2 {U : Int} (hU : ¬ U = 0) (m t s g c : Int) (pl he : Nat → Int) (gI : Nat → Int) (gF : Nat → Nat → Int) : ∃ pl1 he1, Ff_X1_takeLatest U 2 m t s g c gI gF pl he = (1, U - 1, 1, gI 10, gI 11, gI 12, gI 13, gI 14, pl1, he1) ∧ ∀ k : Nat, k < 9 → gF 4 k = pl1 k ∧ gF 5 k = he1 k := by
  obtain ⟨pl1, he1, e, q⟩ := rs_cp (gI 10) (gI 11) (gI 12) (gI 13) (gI 14) (gF 4) pl (gF 5) he
  refine ⟨pl1, he1, ?_, fun k hk => ⟨(q k hk).1.symm, (q k hk).2.symm⟩⟩
  unfold Ff_X1_takeLatest
  rw [if_neg hU]
  rw [if_neg (by decide)]
  rw [if_neg (by decide)]
  rw [if_pos rfl]
  rw [e, fl_c7_eq rfl]
  rfl
theorem rs_tk3 {U : Int} (hU : ¬ U = 0) (m t s g c : Int) (pl he : Nat → Int) (gI : Nat → Int) (gF : Nat → Nat → Int) : ∃ pl1 he1, Ff_X1_takeLatest U 3 m t s g c gI gF pl he = (1, U - 1, 2, gI 15, gI 16, gI 17, gI 18, gI 19, pl1, he1) ∧ ∀ k : Nat, k < 9 → gF 6 k = pl1 k ∧ gF 7 k = he1 k := by
  obtain ⟨pl1, he1, e, q⟩ := rs_cp (gI 15) (gI 16) (gI 17) (gI 18) (gI 19) (gF 6) pl (gF 7) he
  refine ⟨pl1, he1, ?_, fun k hk => ⟨(q k hk).1.symm, (q k hk).2.symm⟩⟩
  unfold Ff_X1_takeLatest
  rw [if_neg hU]
  rw [if_neg (by decide)]
  rw [if_neg (by decide)]
  rw [if_neg (by decide)]
  rw [if_pos rfl]
  rw [e, fl_c7_eq rfl]
  rfl
theorem rs_tk4 {U : Int} (hU : ¬ U = 0) (m t s g c : Int) (pl he : Nat → Int) (gI : Nat → Int) (gF : Nat → Nat → Int) : ∃ pl1 he1, Ff_X1_takeLatest U 4 m t s g c gI gF pl he = (1, U - 1, 3, gI 20, gI 21, gI 22, gI 23, gI 24, pl1, he1) ∧ ∀ k : Nat, k < 9 → gF 8 k = pl1 k ∧ gF 9 k = he1 k := by
  obtain ⟨pl1, he1, e, q⟩ := rs_cp (gI 20) (gI 21) (gI 22) (gI 23) (gI 24) (gF 8) pl (gF 9) he
  refine ⟨pl1, he1, ?_, fun k hk => ⟨(q k hk).1.symm, (q k hk).2.symm⟩⟩
  unfold Ff_X1_takeLatest
  rw [if_neg hU]
  rw [if_neg (by decide)]
  rw [if_neg (by decide)]
  rw [if_neg (by decide)]
  rw [if_neg (by decide)]
  rw [if_pos rfl]
  rw [e, fl_c7_eq rfl]
  rfl
theorem rs_tk5 {U : Int} (hU : ¬ U = 0) (m t s g c : Int) (pl he : Nat → Int) (gI : Nat → Int) (gF : Nat → Nat → Int) : ∃ pl1 he1, Ff_X1_takeLatest U 5 m t s g c gI gF pl he = (1, U - 1, 4, gI 25, gI 26, gI 27, gI 28, gI 29, pl1, he1) ∧ ∀ k : Nat, k < 9 → gF 10 k = pl1 k ∧ gF 11 k = he1 k := by
  obtain ⟨pl1, he1, e, q⟩ := rs_cp (gI 25) (gI 26) (gI 27) (gI 28) (gI 29) (gF 10) pl (gF 11) he
  refine ⟨pl1, he1, ?_, fun k hk => ⟨(q k hk).1.symm, (q k hk).2.symm⟩⟩
  unfold Ff_X1_takeLatest
  rw [if_neg hU]
  rw [if_neg (by decide)]
  rw [if_neg (by decide)]
  rw [if_neg (by decide)]
  rw [if_neg (by decide)]
  rw [if_neg (by decide)]
  rw [if_pos rfl]
  rw [e, fl_c7_eq rfl]
  rfl
theorem rs_tk6 {U : Int} (hU : ¬ U = 0) (m t s g c : Int) (pl he : Nat → Int) (gI : Nat → Int) (gF : Nat → Nat → Int) : ∃ pl1 he1, Ff_X1_takeLatest U 6 m t s g c gI gF pl he = (1, U - 1, 5, gI 30, gI 31, gI 32, gI 33, gI 34, pl1, he1) ∧ ∀ k : Nat, k < 9 → gF 12 k = pl1 k ∧ gF 13 k = he1 k := by
  obtain ⟨pl1, he1, e, q⟩ := rs_cp (gI 30) (gI 31) (gI 32) (gI 33) (gI 34) (gF 12) pl (gF 13) he
  refine ⟨pl1, he1, ?_, fun k hk => ⟨(q k hk).1.symm, (q k hk).2.symm⟩⟩
  unfold Ff_X1_takeLatest
  rw [if_neg hU]
  rw [if_neg (by decide)]
  rw [if_neg (by decide)]
  rw [if_neg (by decide)]
  rw [if_neg (by decide)]
  rw [if_neg (by decide)]
  rw [if_neg (by decide)]
  rw [if_pos rfl]
  rw [e, fl_c7_eq rfl]
  rfl
theorem rs_tk7 {U : Int} (hU : ¬ U = 0) (m t s g c : Int) (pl he : Nat → Int) (gI : Nat → Int) (gF : Nat → Nat → Int) : ∃ pl1 he1, Ff_X1_takeLatest U 7 m t s g c gI gF pl he = (1, U - 1, 6, gI 35, gI 36, gI 37, gI 38, gI 39, pl1, he1) ∧ ∀ k : Nat, k < 9 → gF 14 k = pl1 k ∧ gF 15 k = he1 k := by
  obtain ⟨pl1, he1, e, q⟩ := rs_cp (gI 35) (gI 36) (gI 37) (gI 38) (gI 39) (gF 14) pl (gF 15) he
  refine ⟨pl1, he1, ?_, fun k hk => ⟨(q k hk).1.symm, (q k hk).2.symm⟩⟩
  unfold Ff_X1_takeLatest
  rw [if_neg hU]
  rw [if_neg (by decide)]
  rw [if_neg (by decide)]
  rw [if_neg (by decide)]
  rw [if_neg (by decide)]
  rw [if_neg (by decide)]
  rw [if_neg (by decide)]
  rw [if_neg (by decide)]
  rw [if_pos rfl]
  rw [e, fl_c7_eq rfl]
  rfl
theorem rs_tk8 {U : Int} (hU : ¬ U = 0) (m t s g c : Int) (pl he : Nat → Int) (gI : Nat → Int) (gF : Nat → Nat → Int) : ∃ pl1 he1, Ff_X1_takeLatest U 8 m t s g c gI gF pl he = (1, U - 1, 7, gI 40, gI 41, gI 42, gI 43, gI 44, pl1, he1) ∧ ∀ k : Nat, k < 9 → gF 16 k = pl1 k ∧ gF 17 k = he1 k := by
  obtain ⟨pl1, he1, e, q⟩ := rs_cp (gI 40) (gI 41) (gI 42) (gI 43) (gI 44) (gF 16) pl (gF 17) he
  refine ⟨pl1, he1, ?_, fun k hk => ⟨(q k hk).1.symm, (q k hk).2.symm⟩⟩
  unfold Ff_X1_takeLatest
  rw [if_neg hU]
  rw [if_neg (by decide)]
  rw [if_neg (by decide)]
  rw [if_neg (by decide)]
  rw [if_neg (by decide)]
  rw [if_neg (by decide)]
  rw [if_neg (by decide)]
  rw [if_neg (by decide)]
  rw [if_neg (by decide)]
  rw [if_pos rfl]
  rw [e, fl_c7_eq rfl]
  rfl
theorem rs_tk9 {U : Int} (hU : ¬ U = 0) (m t s g c : Int) (pl he : Nat → Int) (gI : Nat → Int) (gF : Nat → Nat → Int) : ∃ pl1 he1, Ff_X1_takeLatest U 9 m t s g c gI gF pl he = (1, U - 1, 8, gI 45, gI 46, gI 47, gI 48, gI 49, pl1, he1) ∧ ∀ k : Nat, k < 9 → gF 18 k = pl1 k ∧ gF 19 k = he1 k := by
  obtain ⟨pl1, he1, e, q⟩ := rs_cp (gI 45) (gI 46) (gI 47) (gI 48) (gI 49) (gF 18) pl (gF 19) he
  refine ⟨pl1, he1, ?_, fun k hk => ⟨(q k hk).1.symm, (q k hk).2.symm⟩⟩
  unfold Ff_X1_takeLatest
  rw [if_neg hU]
  rw [if_neg (by decide)]
  rw [if_neg (by decide)]
  rw [if_neg (by decide)]
  rw [if_neg (by decide)]
  rw [if_neg (by decide)]
  rw [if_neg (by decide)]
  rw [if_neg (by decide)]
  rw [if_neg (by decide)]
  rw [if_neg (by decide)]
  rw [if_pos rfl]
  rw [e, fl_c7_eq rfl]
  rfl
theorem rs_tk10 {U : Int} (hU : ¬ U = 0) (m t s g c : Int) (pl he : Nat → Int) (gI : Nat → Int) (gF : Nat → Nat → Int) : ∃ pl1 he1, Ff_X1_takeLatest U 10 m t s g c gI gF pl he = (1, U - 1, 9, gI 50, gI 51, gI 52, gI 53, gI 54, pl1, he1) ∧ ∀ k : Nat, k < 9 → gF 20 k = pl1 k ∧ gF 21 k = he1 k := by
  obtain ⟨pl1, he1, e, q⟩ := rs_cp (gI 50) (gI 51) (gI 52) (gI 53) (gI 54) (gF 20) pl (gF 21) he
  refine ⟨pl1, he1, ?_, fun k hk => ⟨(q k hk).1.symm, (q k hk).2.symm⟩⟩
  unfold Ff_X1_takeLatest
  rw [if_neg hU]
  rw [if_neg (by decide)]
  rw [if_neg (by decide)]
  rw [if_neg (by decide)]
  rw [if_neg (by decide)]
  rw [if_neg (by decide)]
  rw [if_neg (by decide)]
  rw [if_neg (by decide)]
  rw [if_neg (by decide)]
  rw [if_neg (by decide)]
  rw [if_neg (by decide)]
  rw [if_pos rfl]
  rw [e, fl_c7_eq rfl]
  rfl
theorem rs_tk11 {U : Int} (hU : ¬ U = 0) (m t s g c : Int) (pl he : Nat → Int) (gI : Nat → Int) (gF : Nat → Nat → Int) : ∃ pl1 he1, Ff_X1_takeLatest U 11 m t s g c gI gF pl he = (1, U - 1, 10, gI 55, gI 56, gI 57, gI 58, gI 59, pl1, he1) ∧ ∀ k : Nat, k < 9 → gF 22 k = pl1 k ∧ gF 23 k = he1 k := by
  obtain ⟨pl1, he1, e, q⟩ := rs_cp (gI 55) (gI 56) (gI 57) (gI 58) (gI 59) (gF 22) pl (gF 23) he
  refine ⟨pl1, he1, ?_, fun k hk => ⟨(q k hk).1.symm, (q k hk).2.symm⟩⟩
  unfold Ff_X1_takeLatest
  rw [if_neg hU]
  rw [if_neg (by decide)]
  rw [if_neg (by decide)]
  rw [if_neg (by decide)]
  rw [if_neg (by decide)]
  rw [if_neg (by decide)]
  rw [if_neg (by decide)]
  rw [if_neg (by decide)]
  rw [if_neg (by decide)]
  rw [if_neg (by decide)]
  rw [if_neg (by decide)]
  rw [if_neg (by decide)]
  rw [if_pos rfl]
  rw [e, fl_c7_eq rfl]
  rfl
theorem rs_tk12 {U : Int} (hU : ¬ U = 0) (m t s g c : Int) (pl he : Nat → Int) (gI : Nat → Int) (gF : Nat → Nat → Int) : ∃ pl1 he1, Ff_X1_takeLatest U 12 m t s g c gI gF pl he = (1, U - 1, 11, gI 60, gI 61, gI 62, gI 63, gI 64, pl1, he1) ∧ ∀ k : Nat, k < 9 → gF 24 k = pl1 k ∧ gF 25 k = he1 k := by
  obtain ⟨pl1, he1, e, q⟩ := rs_cp (gI 60) (gI 61) (gI 62) (gI 63) (gI 64) (gF 24) pl (gF 25) he
  refine ⟨pl1, he1, ?_, fun k hk => ⟨(q k hk).1.symm, (q k hk).2.symm⟩⟩
  unfold Ff_X1_takeLatest
  rw [if_neg hU]
  rw [if_neg (by decide)]
  rw [if_neg (by decide)]
  rw [if_neg (by decide)]
  rw [if_neg (by decide)]
  rw [if_neg (by decide)]
  rw [if_neg (by decide)]
  rw [if_neg (by decide)]
  rw [if_neg (by decide)]
  rw [if_neg (by decide)]
  rw [if_neg (by decide)]
  rw [if_neg (by decide)]
  rw [if_neg (by decide)]
  rw [if_pos rfl]
  rw [e, fl_c7_eq rfl]
  rfl
theorem rs_tk13 {U : Int} (hU : ¬ U = 0) (m t s g c : Int) (pl he : Nat → Int) (gI : Nat → Int) (gF : Nat → Nat → Int) : ∃ pl1 he1, Ff_X1_takeLatest U 13 m t s g c gI gF pl he = (1, U - 1, 12, gI 65, gI 66, gI 67, gI 68, gI 69, pl1, he1) ∧ ∀ k : Nat, k < 9 → gF 26 k = pl1 k ∧ gF 27 k = he1 k := by
  obtain ⟨pl1, he1, e, q⟩ := rs_cp (gI 65) (gI 66) (gI 67) (gI 68) (gI 69) (gF 26) pl (gF 27) he
  refine ⟨pl1, he1, ?_, fun k hk => ⟨(q k hk).1.symm, (q k hk).2.symm⟩⟩
  unfold Ff_X1_takeLatest
  rw [if_neg hU]
  rw [if_neg (by decide)]
  rw [if_neg (by decide)]
  rw [if_neg (by decide)]
  rw [if_neg (by decide)]
  rw [if_neg (by decide)]
  rw [if_neg (by decide)]
  rw [if_neg (by decide)]
  rw [if_neg (by decide)]
  rw [if_neg (by decide)]
  rw [if_neg (by decide)]
  rw [if_neg (by decide)]
  rw [if_neg (by decide)]
  rw [if_neg (by decide)]
  rw [if_pos rfl]
  rw [e, fl_c7_eq rfl]
  rfl
theorem rs_tk14 {U : Int} (hU : ¬ U = 0) (m t s g c : Int) (pl he : Nat → Int) (gI : Nat → Int) (gF : Nat → Nat → Int) : ∃ pl1 he1, Ff_X1_takeLatest U 14 m t s g c gI gF pl he = (1, U - 1, 13, gI 70, gI 71, gI 72, gI 73, gI 74, pl1, he1) ∧ ∀ k : Nat, k < 9 → gF 28 k = pl1 k ∧ gF 29 k = he1 k := by
  obtain ⟨pl1, he1, e, q⟩ := rs_cp (gI 70) (gI 71) (gI 72) (gI 73) (gI 74) (gF 28) pl (gF 29) he
  refine ⟨pl1, he1, ?_, fun k hk => ⟨(q k hk).1.symm, (q k hk).2.symm⟩⟩
  unfold Ff_X1_takeLatest
  rw [if_neg hU]
  rw [if_neg (by decide)]
  rw [if_neg (by decide)]
  rw [if_neg (by decide)]
  rw [if_neg (by decide)]
  rw [if_neg (by decide)]
  rw [if_neg (by decide)]
  rw [if_neg (by decide)]
  rw [if_neg (by decide)]
  rw [if_neg (by decide)]
  rw [if_neg (by decide)]
  rw [if_neg (by decide)]
  rw [if_neg (by decide)]
  rw [if_neg (by decide)]
  rw [if_neg (by decide)]
  rw [if_pos rfl]
  rw [e, fl_c7_eq rfl]
  rfl
theorem rs_tk15 {U : Int} (hU : ¬ U = 0) (m t s g c : Int) (pl he : Nat → Int) (gI : Nat → Int) (gF : Nat → Nat → Int) : ∃ pl1 he1, Ff_X1_takeLatest U 15 m t s g c gI gF pl he = (1, U - 1, 14, gI 75, gI 76, gI 77, gI 78, gI 79, pl1, he1) ∧ ∀ k : Nat, k < 9 → gF 30 k = pl1 k ∧ gF 31 k = he1 k := by
  obtain ⟨pl1, he1, e, q⟩ := rs_cp (gI 75) (gI 76) (gI 77) (gI 78) (gI 79) (gF 30) pl (gF 31) he
  refine ⟨pl1, he1, ?_, fun k hk => ⟨(q k hk).1.symm, (q k hk).2.symm⟩⟩
  unfold Ff_X1_takeLatest
  rw [if_neg hU]
  rw [if_neg (by decide)]
  rw [if_neg (by decide)]
  rw [if_neg (by decide)]
  rw [if_neg (by decide)]
  rw [if_neg (by decide)]
  rw [if_neg (by decide)]
  rw [if_neg (by decide)]
  rw [if_neg (by decide)]
  rw [if_neg (by decide)]
  rw [if_neg (by decide)]
  rw [if_neg (by decide)]
  rw [if_neg (by decide)]
  rw [if_neg (by decide)]
  rw [if_neg (by decide)]
  rw [if_neg (by decide)]
  rw [e, fl_c7_eq rfl]
  rfl
/-- the latest comes back: here -/
theorem rs_tk {U L : Int} (hU : ¬ U = 0) (h0 : 0 ≤ L) (h1 : L ≤ 15) (m t s g c : Int) (pl he : Nat → Int) (gI : Nat → Int) (gF : Nat → Nat → Int) : ∃ m1 t1 s1 g1 c1 pl1 he1, Ff_X1_takeLatest U L m t s g c gI gF pl he = (1, U - 1, (L + 15) % 16, m1, t1, s1, g1, c1, pl1, he1) ∧ rs_P gI gF L.toNat m1 t1 s1 g1 c1 pl1 he1 := by
  rcases (show L = 0 ∨ L = 1 ∨ L = 2 ∨ L = 3 ∨ L = 4 ∨ L = 5 ∨ L = 6 ∨ L = 7 ∨ L = 8 ∨ L = 9 ∨ L = 10 ∨ L = 11 ∨ L = 12 ∨ L = 13 ∨ L = 14 ∨ L = 15 by omega) with h | h | h | h | h | h | h | h | h | h | h | h | h | h | h | h
  · subst h
    obtain ⟨pl1, he1, e, q⟩ := rs_tk0 hU m t s g c pl he gI gF
    exact ⟨_, _, _, _, _, pl1, he1, e, rfl, rfl, rfl, rfl, rfl, q⟩
  · subst h
    obtain ⟨pl1, he1, e, q⟩ := rs_tk1 hU m t s g c pl he gI gF
    exact ⟨_, _, _, _, _, pl1, he1, e, rfl, rfl, rfl, rfl, rfl, q⟩
  · subst h
    obtain ⟨pl1, he1, e, q⟩ := rs_tk2 hU m t s g c pl he gI gF
    exact ⟨_, _, _, _, _, pl1, he1, e, rfl, rfl, rfl, rfl, rfl, q⟩
  · subst h
    obtain ⟨pl1, he1, e, q⟩ := rs_tk3 hU m t s g c pl he gI gF
    exact ⟨_, _, _, _, _, pl1, he1, e, rfl, rfl, rfl, rfl, rfl, q⟩
  · subst h
    obtain ⟨pl1, he1, e, q⟩ := rs_tk4 hU m t s g c pl he gI gF
    exact ⟨_, _, _, _, _, pl1, he1, e, rfl, rfl, rfl, rfl, rfl, q⟩
  · subst h
    obtain ⟨pl1, he1, e, q⟩ := rs_tk5 hU m t s g c pl he gI gF
    exact ⟨_, _, _, _, _, pl1, he1, e, rfl, rfl, rfl, rfl, rfl, q⟩
  · subst h
    obtain ⟨pl1, he1, e, q⟩ := rs_tk6 hU m t s g c pl he gI gF
    exact ⟨_, _, _, _, _, pl1, he1, e, rfl, rfl, rfl, rfl, rfl, q⟩
  · subst h
    obtain ⟨pl1, he1, e, q⟩ := rs_tk7 hU m t s g c pl he gI gF
    exact ⟨_, _, _, _, _, pl1, he1, e, rfl, rfl, rfl, rfl, rfl, q⟩
  · subst h
    obtain ⟨pl1, he1, e, q⟩ := rs_tk8 hU m t s g c pl he gI gF
    exact ⟨_, _, _, _, _, pl1, he1, e, rfl, rfl, rfl, rfl, rfl, q⟩
  · subst h
    obtain ⟨pl1, he1, e, q⟩ := rs_tk9 hU m t s g c pl he gI gF
    exact ⟨_, _, _, _, _, pl1, he1, e, rfl, rfl, rfl, rfl, rfl, q⟩
  · subst h
    obtain ⟨pl1, he1, e, q⟩ := rs_tk10 hU m t s g c pl he gI gF
    exact ⟨_, _, _, _, _, pl1, he1, e, rfl, rfl, rfl, rfl, rfl, q⟩
  · subst h
    obtain ⟨pl1, he1, e, q⟩ := rs_tk11 hU m t s g c pl he gI gF
    exact ⟨_, _, _, _, _, pl1, he1, e, rfl, rfl, rfl, rfl, rfl, q⟩
  · subst h
    obtain ⟨pl1, he1, e, q⟩ := rs_tk12 hU m t s g c pl he gI gF
    exact ⟨_, _, _, _, _, pl1, he1, e, rfl, rfl, rfl, rfl, rfl, q⟩
  · subst h
    obtain ⟨pl1, he1, e, q⟩ := rs_tk13 hU m t s g c pl he gI gF
    exact ⟨_, _, _, _, _, pl1, he1, e, rfl, rfl, rfl, rfl, rfl, q⟩
  · subst h
    obtain ⟨pl1, he1, e, q⟩ := rs_tk14 hU m t s g c pl he gI gF
    exact ⟨_, _, _, _, _, pl1, he1, e, rfl, rfl, rfl, rfl, rfl, q⟩
  · subst h
    obtain ⟨pl1, he1, e, q⟩ := rs_tk15 hU m t s g c pl he gI gF
    exact ⟨_, _, _, _, _, pl1, he1, e, rfl, rfl, rfl, rfl, rfl, q⟩
theorem rs_im0 (m t s g c : Int) (pl he : Nat → Int) (gI : Nat → Int) (gF : Nat → Nat → Int) : ∃ pl1 he1, Ff_X1_addImage 0 gI m t s g c pl gF he = (0, 1, fl_nI [m, t, s, g, c, gI 5, gI 6, gI 7, gI 8, gI 9, gI 10, gI 11, gI 12, gI 13, gI 14], fl_nF [pl1, he1, gF 2, gF 3, gF 4, gF 5]) ∧ ∀ k : Nat, k < 9 → pl1 k = pl k ∧ he1 k = he k := by
  obtain ⟨pl1, he1, e, q⟩ := rs_cp m t s g c pl (gF 0) he (gF 1)
  refine ⟨pl1, he1, ?_, q⟩
  unfold Ff_X1_addImage
  rw [if_pos (by decide)]
  rw [if_pos rfl]
  rw [e, fl_c7_eq rfl]
theorem rs_is0 (m t s g c : Int) (pl he : Nat → Int) (gI : Nat → Int) (gF : Nat → Nat → Int) (pl1 he1 : Nat → Int) (hq : ∀ k : Nat, k < 9 → pl1 k = pl k ∧ he1 k = he k) : rs_P (fl_nI [m, t, s, g, c, gI 5, gI 6, gI 7, gI 8, gI 9, gI 10, gI 11, gI 12, gI 13, gI 14]) (fl_nF [pl1, he1, gF 2, gF 3, gF 4, gF 5]) 0 m t s g c pl he ∧ ∀ j : Nat, j < 3 → j ≠ 0 → (∀ x : Nat, x < 5 → (fl_nI [m, t, s, g, c, gI 5, gI 6, gI 7, gI 8, gI 9, gI 10, gI 11, gI 12, gI 13, gI 14]) (5 * j + x) = gI (5 * j + x)) ∧ (fl_nF [pl1, he1, gF 2, gF 3, gF 4, gF 5]) (2 * j) = gF (2 * j) ∧ (fl_nF [pl1, he1, gF 2, gF 3, gF 4, gF 5]) (2 * j + 1) = gF (2 * j + 1) := by
  refine ⟨⟨rfl, rfl, rfl, rfl, rfl, hq⟩, fun j hj hn => ?_⟩
  rcases (show j = 0 ∨ j = 1 ∨ j = 2 by omega) with h | h | h
  · exact absurd h hn
  · subst h
    refine ⟨fun x hx => ?_, rfl, rfl⟩
    rcases (show x = 0 ∨ x = 1 ∨ x = 2 ∨ x = 3 ∨ x = 4 by omega) with h | h | h | h | h <;> (subst h; rfl)
  · subst h
    refine ⟨fun x hx => ?_, rfl, rfl⟩
    rcases (show x = 0 ∨ x = 1 ∨ x = 2 ∨ x = 3 ∨ x = 4 by omega) with h | h | h | h | h <;> (subst h; rfl)
theorem rs_im1 (m t s g c : Int) (pl he : Nat → Int) (gI : Nat → Int) (gF : Nat → Nat → Int) : ∃ pl1 he1, Ff_X1_addImage 1 gI m t s g c pl gF he = (1, 2, fl_nI [gI 0, gI 1, gI 2, gI 3, gI 4, m, t, s, g, c, gI 10, gI 11, gI 12, gI 13, gI 14], fl_nF [gF 0, gF 1, pl1, he1, gF 4, gF 5]) ∧ ∀ k : Nat, k < 9 → pl1 k = pl k ∧ he1 k = he k := by
  obtain ⟨pl1, he1, e, q⟩ := rs_cp m t s g c pl (gF 2) he (gF 3)
  refine ⟨pl1, he1, ?_, q⟩
  unfold Ff_X1_addImage
  rw [if_pos (by decide)]
  rw [if_neg (by decide)]
  rw [if_pos rfl]
  rw [e, fl_c7_eq rfl]
theorem rs_is1 (m t s g c : Int) (pl he : Nat → Int) (gI : Nat → Int) (gF : Nat → Nat → Int) (pl1 he1 : Nat → Int) (hq : ∀ k : Nat, k < 9 → pl1 k = pl k ∧ he1 k = he k) : rs_P (fl_nI [gI 0, gI 1, gI 2, gI 3, gI 4, m, t, s, g, c, gI 10, gI 11, gI 12, gI 13, gI 14]) (fl_nF [gF 0, gF 1, pl1, he1, gF 4, gF 5]) 1 m t s g c pl he ∧ ∀ j : Nat, j < 3 → j ≠ 1 → (∀ x : Nat, x < 5 → (fl_nI [gI 0, gI 1, gI 2, gI 3, gI 4, m, t, s, g, c, gI 10, gI 11, gI 12, gI 13, gI 14]) (5 * j + x) = gI (5 * j + x)) ∧ (fl_nF [gF 0, gF 1, pl1, he1, gF 4, gF 5]) (2 * j) = gF (2 * j) ∧ (fl_nF [gF 0, gF 1, pl1, he1, gF 4, gF 5]) (2 * j + 1) = gF (2 * j + 1) := by
  refine ⟨⟨rfl, rfl, rfl, rfl, rfl, hq⟩, fun j hj hn => ?_⟩
  rcases (show j = 0 ∨ j = 1 ∨ j = 2 by omega) with h | h | h
  · subst h
    refine ⟨fun x hx => ?_, rfl, rfl⟩
    rcases (show x = 0 ∨ x = 1 ∨ x = 2 ∨ x = 3 ∨ x = 4 by omega) with h | h | h | h | h <;> (subst h; rfl)
  · exact absurd h hn
  · subst h
    refine ⟨fun x hx => ?_, rfl, rfl⟩
    rcases (show x = 0 ∨ x = 1 ∨ x = 2 ∨ x = 3 ∨ x = 4 by omega) with h | h | h | h | h <;> (subst h; rfl)
theorem rs_im2 (m t s g c : Int) (pl he : Nat → Int) (gI : Nat → Int) (gF : Nat → Nat → Int) : ∃ pl1 he1, Ff_X1_addImage 2 gI m t s g c pl gF he = (2, 3, fl_nI [gI 0, gI 1, gI 2, gI 3, gI 4, gI 5, gI 6, gI 7, gI 8, gI 9, m, t, s, g, c], fl_nF [gF 0, gF 1, gF 2, gF 3, pl1, he1]) ∧ ∀ k : Nat, k < 9 → pl1 k = pl k ∧ he1 k = he k := by
  obtain ⟨pl1, he1, e, q⟩ := rs_cp m t s g c pl (gF 4) he (gF 5)
  refine ⟨pl1, he1, ?_, q⟩
  unfold Ff_X1_addImage
  rw [if_pos (by decide)]
  rw [if_neg (by decide)]
  rw [if_neg (by decide)]
  rw [e, fl_c7_eq rfl]
theorem rs_is2 (m t s g c : Int) (pl he : Nat → Int) (gI : Nat → Int) (gF : Nat → Nat → Int) (pl1 he1 : Nat → Int) (hq : ∀ k : Nat, k < 9 → pl1 k = pl k ∧ he1 k = he k) : rs_P (fl_nI [gI 0, gI 1, gI 2, gI 3, gI 4, gI 5, gI 6, gI 7, gI 8, gI 9, m, t, s, g, c]) (fl_nF [gF 0, gF 1, gF 2, gF 3, pl1, he1]) 2 m t s g c pl he ∧ ∀ j : Nat, j < 3 → j ≠ 2 → (∀ x : Nat, x < 5 → (fl_nI [gI 0, gI 1, gI 2, gI 3, gI 4, gI 5, gI 6, gI 7, gI 8, gI 9, m, t, s, g, c]) (5 * j + x) = gI (5 * j + x)) ∧ (fl_nF [gF 0, gF 1, gF 2, gF 3, pl1, he1]) (2 * j) = gF (2 * j) ∧ (fl_nF [gF 0, gF 1, gF 2, gF 3, pl1, he1]) (2 * j + 1) = gF (2 * j + 1) := by
  refine ⟨⟨rfl, rfl, rfl, rfl, rfl, hq⟩, fun j hj hn => ?_⟩
  rcases (show j = 0 ∨ j = 1 ∨ j = 2 by omega) with h | h | h
  · subst h
    refine ⟨fun x hx => ?_, rfl, rfl⟩
    rcases (show x = 0 ∨ x = 1 ∨ x = 2 ∨ x = 3 ∨ x = 4 by omega) with h | h | h | h | h <;> (subst h; rfl)
  · subst h
    refine ⟨fun x hx => ?_, rfl, rfl⟩
    rcases (show x = 0 ∨ x = 1 ∨ x = 2 ∨ x = 3 ∨ x = 4 by omega) with h | h | h | h | h <;> (subst h; rfl)
  · exact absurd h hn
/-- an image more: here -/
theorem rs_im {N : Int} (h0 : 0 ≤ N) (h1 : N ≤ 2) (m t s g c : Int) (pl he : Nat → Int) (gI : Nat → Int) (gF : Nat → Nat → Int) : ∃ gI1 gF1, Ff_X1_addImage N gI m t s g c pl gF he = (N, N + 1, gI1, gF1) ∧ rs_P gI1 gF1 N.toNat m t s g c pl he ∧ ∀ j : Nat, j < 3 → j ≠ N.toNat → (∀ x : Nat, x < 5 → gI1 (5 * j + x) = gI (5 * j + x)) ∧ gF1 (2 * j) = gF (2 * j) ∧ gF1 (2 * j + 1) = gF (2 * j + 1) := by
  rcases (show N = 0 ∨ N = 1 ∨ N = 2 by omega) with h | h | h
  · subst h
    obtain ⟨pl1, he1, e, q⟩ := rs_im0 m t s g c pl he gI gF
    exact ⟨_, _, e, rs_is0 m t s g c pl he gI gF pl1 he1 q⟩
  · subst h
    obtain ⟨pl1, he1, e, q⟩ := rs_im1 m t s g c pl he gI gF
    exact ⟨_, _, e, rs_is1 m t s g c pl he gI gF pl1 he1 q⟩
  · subst h
    obtain ⟨pl1, he1, e, q⟩ := rs_im2 m t s g c pl he gI gF
    exact ⟨_, _, e, rs_is2 m t s g c pl he gI gF pl1 he1 q⟩
theorem rs_bk0 {N : Int} (hN : 0 < N) (U m t s g c : Int) (pl he : Nat → Int) (gI : Nat → Int) (gF : Nat → Nat → Int) : ∃ pl1 he1, Ff_X1_goBack 0 U N m t s g c gI gF pl he = (1, 0, gI 0, gI 1, gI 2, gI 3, gI 4, pl1, he1) ∧ ∀ k : Nat, k < 9 → gF 0 k = pl1 k ∧ gF 1 k = he1 k := by
  obtain ⟨pl1, he1, e, q⟩ := rs_cp (gI 0) (gI 1) (gI 2) (gI 3) (gI 4) (gF 0) pl (gF 1) he
  refine ⟨pl1, he1, ?_, fun k hk => ⟨(q k hk).1.symm, (q k hk).2.symm⟩⟩
  unfold Ff_X1_goBack
  rw [fl_lt_eq rfl, fl_lt_eq ((rp_in 0 0 (N - 1)).trans (rp_in1 (by omega) (by omega))).symm, if_pos rfl]
  rw [if_pos rfl]
  rw [e, fl_c7_eq rfl]
theorem rs_bk1 {N : Int} (hN : 1 < N) (U m t s g c : Int) (pl he : Nat → Int) (gI : Nat → Int) (gF : Nat → Nat → Int) : ∃ pl1 he1, Ff_X1_goBack 1 U N m t s g c gI gF pl he = (1, 0, gI 5, gI 6, gI 7, gI 8, gI 9, pl1, he1) ∧ ∀ k : Nat, k < 9 → gF 2 k = pl1 k ∧ gF 3 k = he1 k := by
  obtain ⟨pl1, he1, e, q⟩ := rs_cp (gI 5) (gI 6) (gI 7) (gI 8) (gI 9) (gF 2) pl (gF 3) he
  refine ⟨pl1, he1, ?_, fun k hk => ⟨(q k hk).1.symm, (q k hk).2.symm⟩⟩
  unfold Ff_X1_goBack
  rw [fl_lt_eq rfl, fl_lt_eq ((rp_in 1 0 (N - 1)).trans (rp_in1 (by omega) (by omega))).symm, if_pos rfl]
  rw [if_neg (by decide)]
  rw [if_pos rfl]
  rw [e, fl_c7_eq rfl]
theorem rs_bk2 {N : Int} (hN : 2 < N) (U m t s g c : Int) (pl he : Nat → Int) (gI : Nat → Int) (gF : Nat → Nat → Int) : ∃ pl1 he1, Ff_X1_goBack 2 U N m t s g c gI gF pl he = (1, 0, gI 10, gI 11, gI 12, gI 13, gI 14, pl1, he1) ∧ ∀ k : Nat, k < 9 → gF 4 k = pl1 k ∧ gF 5 k = he1 k := by
  obtain ⟨pl1, he1, e, q⟩ := rs_cp (gI 10) (gI 11) (gI 12) (gI 13) (gI 14) (gF 4) pl (gF 5) he
  refine ⟨pl1, he1, ?_, fun k hk => ⟨(q k hk).1.symm, (q k hk).2.symm⟩⟩
  unfold Ff_X1_goBack
  rw [fl_lt_eq rfl, fl_lt_eq ((rp_in 2 0 (N - 1)).trans (rp_in1 (by omega) (by omega))).symm, if_pos rfl]
  rw [if_neg (by decide)]
  rw [if_neg (by decide)]
  rw [e, fl_c7_eq rfl]
/-- back to an image: here -/
theorem rs_bk {N a : Int} (h0 : 0 ≤ a) (h1 : a < N) (h2 : N ≤ 3) (U m t s g c : Int) (pl he : Nat → Int) (gI : Nat → Int) (gF : Nat → Nat → Int) : ∃ m1 t1 s1 g1 c1 pl1 he1, Ff_X1_goBack a U N m t s g c gI gF pl he = (1, 0, m1, t1, s1, g1, c1, pl1, he1) ∧ rs_P gI gF a.toNat m1 t1 s1 g1 c1 pl1 he1 := by
  rcases (show a = 0 ∨ a = 1 ∨ a = 2 by omega) with h | h | h
  · subst h
    obtain ⟨pl1, he1, e, q⟩ := rs_bk0 h1 U m t s g c pl he gI gF
    exact ⟨_, _, _, _, _, pl1, he1, e, rfl, rfl, rfl, rfl, rfl, q⟩
  · subst h
    obtain ⟨pl1, he1, e, q⟩ := rs_bk1 h1 U m t s g c pl he gI gF
    exact ⟨_, _, _, _, _, pl1, he1, e, rfl, rfl, rfl, rfl, rfl, q⟩
  · subst h
    obtain ⟨pl1, he1, e, q⟩ := rs_bk2 h1 U m t s g c pl he gI gF
    exact ⟨_, _, _, _, _, pl1, he1, e, rfl, rfl, rfl, rfl, rfl, q⟩
end RSD
