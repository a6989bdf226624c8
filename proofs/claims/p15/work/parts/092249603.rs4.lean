section P092249603_rs4
section RSD
theorem rs_cp0 (m t s g c : Int) (pl he a b : Nat → Int) : Sf_X5_copyFrom_42_1 m t s g c pl he 0 a b = .inl (1, fl_up a 0 (pl 0), fl_up b 0 (he 0)) := rfl
theorem rs_cp1 (m t s g c : Int) (pl he a b : Nat → Int) : Sf_X5_copyFrom_42_1 m t s g c pl he 1 a b = .inl (2, fl_up a 1 (pl 1), fl_up b 1 (he 1)) := rfl
theorem rs_cp2 (m t s g c : Int) (pl he a b : Nat → Int) : Sf_X5_copyFrom_42_1 m t s g c pl he 2 a b = .inl (3, fl_up a 2 (pl 2), fl_up b 2 (he 2)) := rfl
theorem rs_cp3 (m t s g c : Int) (pl he a b : Nat → Int) : Sf_X5_copyFrom_42_1 m t s g c pl he 3 a b = .inl (4, fl_up a 3 (pl 3), fl_up b 3 (he 3)) := rfl
theorem rs_cp4 (m t s g c : Int) (pl he a b : Nat → Int) : Sf_X5_copyFrom_42_1 m t s g c pl he 4 a b = .inl (5, fl_up a 4 (pl 4), fl_up b 4 (he 4)) := rfl
theorem rs_cp5 (m t s g c : Int) (pl he a b : Nat → Int) : Sf_X5_copyFrom_42_1 m t s g c pl he 5 a b = .inl (6, fl_up a 5 (pl 5), fl_up b 5 (he 5)) := rfl
theorem rs_cp6 (m t s g c : Int) (pl he a b : Nat → Int) : Sf_X5_copyFrom_42_1 m t s g c pl he 6 a b = .inl (7, fl_up a 6 (pl 6), fl_up b 6 (he 6)) := rfl
theorem rs_cp7 (m t s g c : Int) (pl he a b : Nat → Int) : Sf_X5_copyFrom_42_1 m t s g c pl he 7 a b = .inl (8, fl_up a 7 (pl 7), fl_up b 7 (he 7)) := rfl
theorem rs_cp8 (m t s g c : Int) (pl he a b : Nat → Int) : Sf_X5_copyFrom_42_1 m t s g c pl he 8 a b = .inl (9, fl_up a 8 (pl 8), fl_up b 8 (he 8)) := rfl
theorem rs_cp (m t s g c : Int) (pl a he b : Nat → Int) : ∃ pl1 he1, Ff_X5_copyFrom m t s g c pl a he b = (m, t, s, g, c, pl1, he1) ∧ ∀ k : Nat, k < 9 → pl1 k = pl k ∧ he1 k = he k := by
  refine ⟨(fl_up (fl_up (fl_up (fl_up (fl_up (fl_up (fl_up (fl_up (fl_up a 0 (pl 0)) 1 (pl 1)) 2 (pl 2)) 3 (pl 3)) 4 (pl 4)) 5 (pl 5)) 6 (pl 6)) 7 (pl 7)) 8 (pl 8)), (fl_up (fl_up (fl_up (fl_up (fl_up (fl_up (fl_up (fl_up (fl_up b 0 (he 0)) 1 (he 1)) 2 (he 2)) 3 (he 3)) 4 (he 4)) 5 (he 5)) 6 (he 6)) 7 (he 7)) 8 (he 8)), ?_, ?_⟩
  · unfold Ff_X5_copyFrom
    rw [fl_wh_l (step := (fun t9 : Int × (Nat → Int) × (Nat → Int) => Sf_X5_copyFrom_42_1 m t s g c pl he t9.1 t9.2.1 t9.2.2)) (rs_cp0 m t s g c pl he _ _)]
    rw [fl_wh_l (step := (fun t9 : Int × (Nat → Int) × (Nat → Int) => Sf_X5_copyFrom_42_1 m t s g c pl he t9.1 t9.2.1 t9.2.2)) (rs_cp1 m t s g c pl he _ _)]
    rw [fl_wh_l (step := (fun t9 : Int × (Nat → Int) × (Nat → Int) => Sf_X5_copyFrom_42_1 m t s g c pl he t9.1 t9.2.1 t9.2.2)) (rs_cp2 m t s g c pl he _ _)]
    rw [fl_wh_l (step := (fun t9 : Int × (Nat → Int) × (Nat → Int) => Sf_X5_copyFrom_42_1 m t s g c pl he t9.1 t9.2.1 t9.2.2)) (rs_cp3 m t s g c pl he _ _)]
    rw [fl_wh_l (step := (fun t9 : Int × (Nat → Int) × (Nat → Int) => Sf_X5_copyFrom_42_1 m t s g c pl he t9.1 t9.2.1 t9.2.2)) (rs_cp4 m t s g c pl he _ _)]
    rw [fl_wh_l (step := (fun t9 : Int × (Nat → Int) × (Nat → Int) => Sf_X5_copyFrom_42_1 m t s g c pl he t9.1 t9.2.1 t9.2.2)) (rs_cp5 m t s g c pl he _ _)]
    rw [fl_wh_l (step := (fun t9 : Int × (Nat → Int) × (Nat → Int) => Sf_X5_copyFrom_42_1 m t s g c pl he t9.1 t9.2.1 t9.2.2)) (rs_cp6 m t s g c pl he _ _)]
    rw [fl_wh_l (step := (fun t9 : Int × (Nat → Int) × (Nat → Int) => Sf_X5_copyFrom_42_1 m t s g c pl he t9.1 t9.2.1 t9.2.2)) (rs_cp7 m t s g c pl he _ _)]
    rw [fl_wh_l (step := (fun t9 : Int × (Nat → Int) × (Nat → Int) => Sf_X5_copyFrom_42_1 m t s g c pl he t9.1 t9.2.1 t9.2.2)) (rs_cp8 m t s g c pl he _ _)]
    exact fl_wh_r (step := (fun t9 : Int × (Nat → Int) × (Nat → Int) => Sf_X5_copyFrom_42_1 m t s g c pl he t9.1 t9.2.1 t9.2.2)) (s := (9, (fl_up (fl_up (fl_up (fl_up (fl_up (fl_up (fl_up (fl_up (fl_up a 0 (pl 0)) 1 (pl 1)) 2 (pl 2)) 3 (pl 3)) 4 (pl 4)) 5 (pl 5)) 6 (pl 6)) 7 (pl 7)) 8 (pl 8)), (fl_up (fl_up (fl_up (fl_up (fl_up (fl_up (fl_up (fl_up (fl_up b 0 (he 0)) 1 (he 1)) 2 (he 2)) 3 (he 3)) 4 (he 4)) 5 (he 5)) 6 (he 6)) 7 (he 7)) 8 (he 8)))) rfl
  · intro k hk
    have h : k = 0 ∨ k = 1 ∨ k = 2 ∨ k = 3 ∨ k = 4 ∨ k = 5 ∨ k = 6 ∨ k = 7 ∨ k = 8 := by omega
    rcases h with h | h | h | h | h | h | h | h | h <;> (subst h; exact ⟨rfl, rfl⟩)
/-- a kept scene in its place is this one -/
def rs_P (gI : Nat → Int) (gF : Nat → Nat → Int) (j : Nat) (m t s g c : Int) (pl he : Nat → Int) : Prop := gI (5 * j) = m ∧ gI (5 * j + 1) = t ∧ gI (5 * j + 2) = s ∧ gI (5 * j + 3) = g ∧ gI (5 * j + 4) = c ∧ ∀ k : Nat, k < 9 → gF (2 * j) k = pl k ∧ gF (2 * j + 1) k = he k
theorem rs_kp0 {U L : Int} (h : (L + 1) % 16 = 0) (m t s g c : Int) (pl he : Nat → Int) (gI : Nat → Int) (gF : Nat → Nat → Int) : ∃ pl1 he1, Ff_X1_keep U L gI m t s g c pl gF he = (fl_min (U + 1) 16, 0, fl_nI [m, t, s, g, c, gI 5, gI 6, gI 7, gI 8, gI 9, gI 10, gI 11, gI 12, gI 13, gI 14, gI 15, gI 16, gI 17, gI 18, gI 19, gI 20, gI 21, gI 22, gI 23, gI 24, gI 25, gI 26, gI 27, gI 28, gI 29, gI 30, gI 31, gI 32, gI 33, gI 34, gI 35, gI 36, gI 37, gI 38, gI 39, gI 40, gI 41, gI 42, gI 43, gI 44, gI 45, gI 46, gI 47, gI 48, gI 49, gI 50, gI 51, gI 52, gI 53, gI 54, gI 55, gI 56, gI 57, gI 58, gI 59, gI 60, gI 61, gI 62, gI 63, gI 64, gI 65, gI 66, gI 67, gI 68, gI 69, gI 70, gI 71, gI 72, gI 73, gI 74, gI 75, gI 76, gI 77, gI 78, gI 79], fl_nF [pl1, he1, gF 2, gF 3, gF 4, gF 5, gF 6, gF 7, gF 8, gF 9, gF 10, gF 11, gF 12, gF 13, gF 14, gF 15, gF 16, gF 17, gF 18, gF 19, gF 20, gF 21, gF 22, gF 23, gF 24, gF 25, gF 26, gF 27, gF 28, gF 29, gF 30, gF 31]) ∧ ∀ k : Nat, k < 9 → pl1 k = pl k ∧ he1 k = he k := by
  obtain ⟨pl1, he1, e, q⟩ := rs_cp m t s g c pl (gF 0) he (gF 1)
  refine ⟨pl1, he1, ?_, q⟩
  unfold Ff_X1_keep
  rw [fl_lt_eq rfl, fl_lt_eq h.symm]
  rw [if_pos rfl]
  rw [e, fl_c7_eq rfl]
  rfl
theorem rs_ks0 (m t s g c : Int) (pl he : Nat → Int) (gI : Nat → Int) (gF : Nat → Nat → Int) (pl1 he1 : Nat → Int) (hq : ∀ k : Nat, k < 9 → pl1 k = pl k ∧ he1 k = he k) : rs_P (fl_nI [m, t, s, g, c, gI 5, gI 6, gI 7, gI 8, gI 9, gI 10, gI 11, gI 12, gI 13, gI 14, gI 15, gI 16, gI 17, gI 18, gI 19, gI 20, gI 21, gI 22, gI 23, gI 24, gI 25, gI 26, gI 27, gI 28, gI 29, gI 30, gI 31, gI 32, gI 33, gI 34, gI 35, gI 36, gI 37, gI 38, gI 39, gI 40, gI 41, gI 42, gI 43, gI 44, gI 45, gI 46, gI 47, gI 48, gI 49, gI 50, gI 51, gI 52, gI 53, gI 54, gI 55, gI 56, gI 57, gI 58, gI 59, gI 60, gI 61, gI 62, gI 63, gI 64, gI 65, gI 66, gI 67, gI 68, gI 69, gI 70, gI 71, gI 72, gI 73, gI 74, gI 75, gI 76, gI 77, gI 78, gI 79]) (fl_nF [pl1, he1, gF 2, gF 3, gF 4, gF 5, gF 6, gF 7, gF 8, gF 9, gF 10, gF 11, gF 12, gF 13, gF 14, gF 15, gF 16, gF 17, gF 18, gF 19, gF 20, gF 21, gF 22, gF 23, gF 24, gF 25, gF 26, gF 27, gF 28, gF 29, gF 30, gF 31]) 0 m t s g c pl he ∧ ∀ j : Nat, j < 16 → j ≠ 0 → (∀ x : Nat, x < 5 → (fl_nI [m, t, s, g, c, gI 5, gI 6, gI 7, gI 8, gI 9, gI 10, gI 11, gI 12, gI 13, gI 14, gI 15, gI 16, gI 17, gI 18, gI 19, gI 20, gI 21, gI 22, gI 23, gI 24, gI 25, gI 26, gI 27, gI 28, gI 29, gI 30, gI 31, gI 32, gI 33, gI 34, gI 35, gI 36, gI 37, gI 38, gI 39, gI 40, gI 41, gI 42, gI 43, gI 44, gI 45, gI 46, gI 47, gI 48, gI 49, gI 50, gI 51, gI 52, gI 53, gI 54, gI 55, gI 56, gI 57, gI 58, gI 59, gI 60, gI 61, gI 62, gI 63, gI 64, gI 65, gI 66, gI 67, gI 68, gI 69, gI 70, gI 71, gI 72, gI 73, gI 74, gI 75, gI 76, gI 77, gI 78, gI 79]) (5 * j + x) = gI (5 * j + x)) ∧ (fl_nF [pl1, he1, gF 2, gF 3, gF 4, gF 5, gF 6, gF 7, gF 8, gF 9, gF 10, gF 11, gF 12, gF 13, gF 14, gF 15, gF 16, gF 17, gF 18, gF 19, gF 20, gF 21, gF 22, gF 23, gF 24, gF 25, gF 26, gF 27, gF 28, gF 29, gF 30, gF 31]) (2 * j) = gF (2 * j) ∧ (fl_nF [pl1, he1, gF 2, gF 3, gF 4, gF 5, gF 6, gF 7, gF 8, gF 9, gF 10, gF 11, gF 12, gF 13, gF 14, gF 15, gF 16, gF 17, gF 18, gF 19, gF 20, gF 21, gF 22, gF 23, gF 24, gF 25, gF 26, gF 27, gF 28, gF 29, gF 30, gF 31]) (2 * j + 1) = gF (2 * j + 1) := by
  refine ⟨⟨rfl, rfl, rfl, rfl, rfl, hq⟩, fun j hj hn => ?_⟩
  rcases (show j = 0 ∨ j = 1 ∨ j = 2 ∨ j = 3 ∨ j = 4 ∨ j = 5 ∨ j = 6 ∨ j = 7 ∨ j = 8 ∨ j = 9 ∨ j = 10 ∨ j = 11 ∨ j = 12 ∨ j = 13 ∨ j = 14 ∨ j = 15 by omega) with h | h | h | h | h | h | h | h | h | h | h | h | h | h | h | h
  · exact absurd h hn
  · subst h
    refine ⟨fun x hx => ?_, rfl, rfl⟩
    rcases (show x = 0 ∨ x = 1 ∨ x = 2 ∨ x = 3 ∨ x = 4 by omega) with h | h | h | h | h <;> (subst h; rfl)
  · subst h
    refine ⟨fun x hx => ?_, rfl, rfl⟩
    rcases (show x = 0 ∨ x = 1 ∨ x = 2 ∨ x = 3 ∨ x = 4 by omega) with h | h | h | h | h <;> (subst h; rfl)
  · subst h
    refine ⟨fun x hx => ?_, rfl, rfl⟩
    rcases (show x = 0 ∨ x = 1 ∨ x = 2 ∨ x = 3 ∨ x = 4 by omega) with h | h | h | h | h <;> (subst h; rfl)
  · subst h
    refine ⟨fun x hx => ?_, rfl, rfl⟩
    rcases (show x = 0 ∨ x = 1 ∨ x = 2 ∨ x = 3 ∨ x = 4 by omega) with h | h | h | h | h <;> (subst h; rfl)
  · subst h
    refine ⟨fun x hx => ?_, rfl, rfl⟩
    rcases (show x = 0 ∨ x = 1 ∨ x = 2 ∨ x = 3 ∨ x = 4 by omega) with h | h | h | h | h <;> (subst h; rfl)
  · subst h
    refine ⟨fun x hx => ?_, rfl, rfl⟩
    rcases (show x = 0 ∨ x = 1 ∨ x = 2 ∨ x = 3 ∨ x = 4 by omega) with h | h | h | h | h <;> (subst h; rfl)
  · subst h
    refine ⟨fun x hx => ?_, rfl, rfl⟩
    rcases (show x = 0 ∨ x = 1 ∨ x = 2 ∨ x = 3 ∨ x = 4 by omega) with h | h | h | h | h <;> (subst h; rfl)
  · subst h
    refine ⟨fun x hx => ?_, rfl, rfl⟩
    rcases (show x = 0 ∨ x = 1 ∨ x = 2 ∨ x = 3 ∨ x = 4 by omega) with h | h | h | h | h <;> (subst h; rfl)
  · subst h
    refine ⟨fun x hx => ?_, rfl, rfl⟩
    rcases (show x = 0 ∨ x = 1 ∨ x = 2 ∨ x = 3 ∨ x = 4 by omega) with h | h | h | h | h <;> (subst h; rfl)
  · subst h
    refine ⟨fun x hx => ?_, rfl, rfl⟩
    rcases (show x = 0 ∨ x = 1 ∨ x = 2 ∨ x = 3 ∨ x = 4 by omega) with h | h | h | h | h <;> (subst h; rfl)
  · subst h
    refine ⟨fun x hx => ?_, rfl, rfl⟩
    rcases (show x = 0 ∨ x = 1 ∨ x = 2 ∨ x = 3 ∨ x = 4 by omega) with h | h | h | h | h <;> (subst h; rfl)
  · subst h
    refine ⟨fun x hx => ?_, rfl, rfl⟩
    rcases (show x = 0 ∨ x = 1 ∨ x = 2 ∨ x = 3 ∨ x = 4 by omega) with h | h | h | h | h <;> (subst h; rfl)
  · subst h
    refine ⟨fun x hx => ?_, rfl, rfl⟩
    rcases (show x = 0 ∨ x = 1 ∨ x = 2 ∨ x = 3 ∨ x = 4 by omega) with h | h | h | h | h <;> (subst h; rfl)
  · subst h
    refine ⟨fun x hx => ?_, rfl, rfl⟩
    rcases (show x = 0 ∨ x = 1 ∨ x = 2 ∨ x = 3 ∨ x = 4 by omega) with h | h | h | h | h <;> (subst h; rfl)
  · subst h
    refine ⟨fun x hx => ?_, rfl, rfl⟩
    rcases (show x = 0 ∨ x = 1 ∨ x = 2 ∨ x = 3 ∨ x = 4 by omega) with h | h | h | h | h <;> (subst h; rfl)
theorem rs_kp1 {U L : Int} (h : (L + 1) % 16 = 1) (m t s g c : Int) (pl he : Nat → Int) (gI : Nat → Int) (gF : Nat → Nat → Int) : ∃ pl1 he1, Ff_X1_keep U L gI m t s g c pl gF he = (fl_min (U + 1) 16, 1, fl_nI [gI 0, gI 1, gI 2, gI 3, gI 4, m, t, s, g, c, gI 10, gI 11, gI 12, gI 13, gI 14, gI 15, gI 16, gI 17, gI 18, gI 19, gI 20, gI 21, gI 22, gI 23, gI 24, gI 25, gI 26, gI 27, gI 28, gI 29, gI 30, gI 31, gI 32, gI 33, gI 34, gI 35, gI 36, gI 37, gI 38, gI 39, gI 40, gI 41, gI 42, gI 43, gI 44, gI 45, gI 46, gI 47, gI 48, gI 49, gI 50, gI 51, gI 52, gI 53, gI 54, gI 55, gI 56, gI 57, gI 58, gI 59, gI 60, gI 61, gI 62, gI 63, gI 64, gI 65, gI 66, gI 67, gI 68, gI 69, gI 70, gI 71, gI 72, gI 73, gI 74, gI 75, gI 76, gI 77, gI 78, gI 79], fl_nF [gF 0, gF 1, pl1, he1, gF 4, gF 5, gF 6, gF 7, gF 8, gF 9, gF 10, gF 11, gF 12, gF 13, gF 14, gF 15, gF 16, gF 17, gF 18, gF 19, gF 20, gF 21, gF 22, gF 23, gF 24, gF 25, gF 26, gF 27, gF 28, gF 29, gF 30, gF 31]) ∧ ∀ k : Nat, k < 9 → pl1 k = pl k ∧ he1 k = he k := by
  obtain ⟨pl1, he1, e, q⟩ := rs_cp m t s g c pl (gF 2) he (gF 3)
  refine ⟨pl1, he1, ?_, q⟩
  unfold Ff_X1_keep
  rw [fl_lt_eq rfl, fl_lt_eq h.symm]
  rw [if_neg (by decide)]
  rw [if_pos rfl]
  rw [e, fl_c7_eq rfl]
  rfl
theorem rs_ks1 (m t s g c : Int) (pl he : Nat → Int) (gI : Nat → Int) (gF : Nat → Nat → Int) (pl1 he1 : Nat → Int) (hq : ∀ k : Nat, k < 9 → pl1 k = pl k ∧ he1 k = he k) : rs_P (fl_nI [gI 0, gI 1, gI 2, gI 3, gI 4, m, t, s, g, c, gI 10, gI 11, gI 12, gI 13, gI 14, gI 15, gI 16, gI 17, gI 18, gI 19, gI 20, gI 21, gI 22, gI 23, gI 24, gI 25, gI 26, gI 27, gI 28, gI 29, gI 30, gI 31, gI 32, gI 33, gI 34, gI 35, gI 36, gI 37, gI 38, gI 39, gI 40, gI 41, gI 42, gI 43, gI 44, gI 45, gI 46, gI 47, gI 48, gI 49, gI 50, gI 51, gI 52, gI 53, gI 54, gI 55, gI 56, gI 57, gI 58, gI 59, gI 60, gI 61, gI 62, gI 63, gI 64, gI 65, gI 66, gI 67, gI 68, gI 69, gI 70, gI 71, gI 72, gI 73, gI 74, gI 75, gI 76, gI 77, gI 78, gI 79]) (fl_nF [gF 0, gF 1, pl1, he1, gF 4, gF 5, gF 6, gF 7, gF 8, gF 9, gF 10, gF 11, gF 12, gF 13, gF 14, gF 15, gF 16, gF 17, gF 18, gF 19, gF 20, gF 21, gF 22, gF 23, gF 24, gF 25, gF 26, gF 27, gF 28, gF 29, gF 30, gF 31]) 1 m t s g c pl he ∧ ∀ j : Nat, j < 16 → j ≠ 1 → (∀ x : Nat, x < 5 → (fl_nI [gI 0, gI 1, gI 2, gI 3, gI 4, m, t, s, g, c, gI 10, gI 11, gI 12, gI 13, gI 14, gI 15, gI 16, gI 17, gI 18, gI 19, gI 20, gI 21, gI 22, gI 23, gI 24, gI 25, gI 26, gI 27, gI 28, gI 29, gI 30, gI 31, gI 32, gI 33, gI 34, gI 35, gI 36, gI 37, gI 38, gI 39, gI 40, gI 41, gI 42, gI 43, gI 44, gI 45, gI 46, gI 47, gI 48, gI 49, gI 50, gI 51, gI 52, gI 53, gI 54, gI 55, gI 56, gI 57, gI 58, gI 59, gI 60, gI 61, gI 62, gI 63, gI 64, gI 65, gI 66, gI 67, gI 68, gI 69, gI 70, gI 71, gI 72, gI 73, gI 74, gI 75, gI 76, gI 77, gI 78, gI 79]) (5 * j + x) = gI (5 * j + x)) ∧ (fl_nF [gF 0, gF 1, pl1, he1, gF 4, gF 5, gF 6, gF 7, gF 8, gF 9, gF 10, gF 11, gF 12, gF 13, gF 14, gF 15, gF 16, gF 17, gF 18, gF 19, gF 20, gF 21, gF 22, gF 23, gF 24, gF 25, gF 26, gF 27, gF 28, gF 29, gF 30, gF 31]) (2 * j) = gF (2 * j) ∧ (fl_nF [gF 0, gF 1, pl1, he1, gF 4, gF 5, gF 6, gF 7, gF 8, gF 9, gF 10, gF 11, gF 12, gF 13, gF 14, gF 15, gF 16, gF 17, gF 18, gF 19, gF 20, gF 21, gF 22, gF 23, gF 24, gF 25, gF 26, gF 27, gF 28, gF 29, gF 30, gF 31]) (2 * j + 1) = gF (2 * j + 1) := by
  refine ⟨⟨rfl, rfl, rfl, rfl, rfl, hq⟩, fun j hj hn => ?_⟩
  rcases (show j = 0 ∨ j = 1 ∨ j = 2 ∨ j = 3 ∨ j = 4 ∨ j = 5 ∨ j = 6 ∨ j = 7 ∨ j = 8 ∨ j = 9 ∨ j = 10 ∨ j = 11 ∨ j = 12 ∨ j = 13 ∨ j = 14 ∨ j = 15 by omega) with h | h | h | h | h | h | h | h | h | h | h | h | h | h | h | h
  · subst h
    refine ⟨fun x hx => ?_, rfl, rfl⟩
    rcases (show x = 0 ∨ x = 1 ∨ x = 2 ∨ x = 3 ∨ x = 4 by omega) with h | h | h | h | h <;> (subst h; rfl)
  · exact absurd h hn
  · subst h
    refine ⟨fun x hx => ?_, rfl, rfl⟩
    rcases (show x = 0 ∨ x = 1 ∨ x = 2 ∨ x = 3 ∨ x = 4 by omega) with h | h | h | h | h <;> (subst h; rfl)
  · subst h
    refine ⟨fun x hx => ?_, rfl, rfl⟩
    rcases (show x = 0 ∨ x = 1 ∨ x = 2 ∨ x = 3 ∨ x = 4 by omega) with h | h | h | h | h <;> (subst h; rfl)
  · subst h
    refine ⟨fun x hx => ?_, rfl, rfl⟩
    rcases (show x = 0 ∨ x = 1 ∨ x = 2 ∨ x = 3 ∨ x = 4 by omega) with h | h | h | h | h <;> (subst h; rfl)
  · subst h
    refine ⟨fun x hx => ?_, rfl, rfl⟩
    rcases (show x = 0 ∨ x = 1 ∨ x = 2 ∨ x = 3 ∨ x = 4 by omega) with h | h | h | h | h <;> (subst h; rfl)
  · subst h
    refine ⟨fun x hx => ?_, rfl, rfl⟩
    rcases (show x = 0 ∨ x = 1 ∨ x = 2 ∨ x = 3 ∨ x = 4 by omega) with h | h | h | h | h <;> (subst h; rfl)
  · subst h
    refine ⟨fun x hx => ?_, rfl, rfl⟩
    rcases (show x = 0 ∨ x = 1 ∨ x = 2 ∨ x = 3 ∨ x = 4 by omega) with h | h | h | h | h <;> (subst h; rfl)
  · subst h
    refine ⟨fun x hx => ?_, rfl, rfl⟩
    rcases (show x = 0 ∨ x = 1 ∨ x = 2 ∨ x = 3 ∨ x = 4 by omega) with h | h | h | h | h <;> (subst h; rfl)
  · subst h
    refine ⟨fun x hx => ?_, rfl, rfl⟩
    rcases (show x = 0 ∨ x = 1 ∨ x = 2 ∨ x = 3 ∨ x = 4 by omega) with h | h | h | h | h <;> (subst h; rfl)
  · subst h
    refine ⟨fun x hx => ?_, rfl, rfl⟩
    rcases (show x = 0 ∨ x = 1 ∨ x = 2 ∨ x = 3 ∨ x = 4 by omega) with h | h | h | h | h <;> (subst h; rfl)
  · subst h
    refine ⟨fun x hx => ?_, rfl, rfl⟩
    rcases (show x = 0 ∨ x = 1 ∨ x = 2 ∨ x = 3 ∨ x = 4 by omega) with h | h | h | h | h <;> (subst h; rfl)
  · subst h
    refine ⟨fun x hx => ?_, rfl, rfl⟩
    rcases (show x = 0 ∨ x = 1 ∨ x = 2 ∨ x = 3 ∨ x = 4 by omega) with h | h | h | h | h <;> (subst h; rfl)
  · subst h
    refine ⟨fun x hx => ?_, rfl, rfl⟩
    rcases (show x = 0 ∨ x = 1 ∨ x = 2 ∨ x = 3 ∨ x = 4 by omega) with h | h | h | h | h <;> (subst h; rfl)
  · subst h
    refine ⟨fun x hx => ?_, rfl, rfl⟩
    rcases (show x = 0 ∨ x = 1 ∨ x = 2 ∨ x = 3 ∨ x = 4 by omega) with h | h | h | h | h <;> (subst h; rfl)
  · subst h
    refine ⟨fun x hx => ?_, rfl, rfl⟩
    rcases (show x = 0 ∨ x = 1 ∨ x = 2 ∨ x = 3 ∨ x = 4 by omega) with h | h | h | h | h <;> (subst h; rfl)
theorem rs_kp2 {U L : Int} (h : (L + 1) % 16 = 2) (m t s g c : Int) (pl he : Nat → Int) (gI : Nat → Int) (gF : Nat → Nat → Int) : ∃ pl1 he1, Ff_X1_keep U L gI m t s g c pl gF he = (fl_min (U + 1) 16, 2, fl_nI [gI 0, gI 1, gI 2, gI 3, gI 4, gI 5, gI 6, gI 7, gI 8, gI 9, m, t, s, g, c, gI 15, gI 16, gI 17, gI 18, gI 19, gI 20, gI 21, gI 22, gI 23, gI 24, gI 25, gI 26, gI 27, gI 28, gI 29, gI 30, gI 31, gI 32, gI 33, gI 34, gI 35, gI 36, gI 37, gI 38, gI 39, gI 40, gI 41, gI 42, gI 43, gI 44, gI 45, gI 46, gI 47, gI 48, gI 49, gI 50, gI 51, gI 52, gI 53, gI 54, gI 55, gI 56, gI 57, gI 58, gI 59, gI 60, gI 61, gI 62, gI 63, gI 64, gI 65, gI 66, gI 67, gI 68, gI 69, gI 70, gI 71, gI 72, gI 73, gI 74, gI 75, gI 76, gI 77, gI 78, gI 79], fl_nF [gF 0, gF 1, gF 2, gF 3, pl1, he1, gF 6, gF 7, gF 8, gF 9, gF 10, gF 11, gF 12, gF 13, gF 14, gF 15, gF 16, gF 17, gF 18, gF 19, gF 20, gF 21, gF 22, gF 23, gF 24, gF 25, gF 26, gF 27, gF 28, gF 29, gF 30, gF 31]) ∧ ∀ k : Nat, k < 9 → pl1 k = pl k ∧ he1 k = he k := by
  obtain ⟨pl1, he1, e, q⟩ := rs_cp m t s g c pl (gF 4) he (gF 5)
  refine ⟨pl1, he1, ?_, q⟩
  unfold Ff_X1_keep
  rw [fl_lt_eq rfl, fl_lt_eq h.symm]
  rw [if_neg (by decide)]
  rw [if_neg (by decide)]
  rw [if_pos rfl]
  rw [e, fl_c7_eq rfl]
  rfl
theorem rs_ks2 (m t s g c : Int) (pl he : Nat → Int) (gI : Nat → Int) (gF : Nat → Nat → Int) (pl1 he1 : Nat → Int) (hq : ∀ k : Nat, k < 9 → pl1 k = pl k ∧ he1 k = he k) : rs_P (fl_nI [gI 0, gI 1, gI 2, gI 3, gI 4, gI 5, gI 6, gI 7, gI 8, gI 9, m, t, s, g, c, gI 15, gI 16, gI 17, gI 18, gI 19, gI 20, gI 21, gI 22, gI 23, gI 24, gI 25, gI 26, gI 27, gI 28, gI 29, gI 30, gI 31, gI 32, gI 33, gI 34, gI 35, gI 36, gI 37, gI 38, gI 39, gI 40, gI 41, gI 42, gI 43, gI 44, gI 45, gI 46, gI 47, gI 48, gI 49, gI 50, gI 51, gI 52, gI 53, gI 54, gI 55, gI 56, gI 57, gI 58, gI 59, gI 60, gI 61, gI 62, gI 63, gI 64, gI 65, gI 66, gI 67, gI 68, gI 69, gI 70, gI 71, gI 72, gI 73, gI 74, gI 75, gI 76, gI 77, gI 78, gI 79]) (fl_nF [gF 0, gF 1, gF 2, gF 3, pl1, he1, gF 6, gF 7, gF 8, gF 9, gF 10, gF 11, gF 12, gF 13, gF 14, gF 15, gF 16, gF 17, gF 18, gF 19, gF 20, gF 21, gF 22, gF 23, gF 24, gF 25, gF 26, gF 27, gF 28, gF 29, gF 30, gF 31]) 2 m t s g c pl he ∧ ∀ j : Nat, j < 16 → j ≠ 2 → (∀ x : Nat, x < 5 → (fl_nI [gI 0, gI 1, gI 2, gI 3, gI 4, gI 5, gI 6, gI 7, gI 8, gI 9, m, t, s, g, c, gI 15, gI 16, gI 17, gI 18, gI 19, gI 20, gI 21, gI 22, gI 23, gI 24, gI 25, gI 26, gI 27, gI 28, gI 29, gI 30, gI 31, gI 32, gI 33, gI 34, gI 35, gI 36, gI 37, gI 38, gI 39, gI 40, gI 41, gI 42, gI 43, gI 44, gI 45, gI 46, gI 47, gI 48, gI 49, gI 50, gI 51, gI 52, gI 53, gI 54, gI 55, gI 56, gI 57, gI 58, gI 59, gI 60, gI 61, gI 62, gI 63, gI 64, gI 65, gI 66, gI 67, gI 68, gI 69, gI 70, gI 71, gI 72, gI 73, gI 74, gI 75, gI 76, gI 77, gI 78, gI 79]) (5 * j + x) = gI (5 * j + x)) ∧ (fl_nF [gF 0, gF 1, gF 2, gF 3, pl1, he1, gF 6, gF 7, gF 8, gF 9, gF 10, gF 11, gF 12, gF 13, gF 14, gF 15, gF 16, gF 17, gF 18, gF 19, gF 20, gF 21, gF 22, gF 23, gF 24, gF 25, gF 26, gF 27, gF 28, gF 29, gF 30, gF 31]) (2 * j) = gF (2 * j) ∧ (fl_nF [gF 0, gF 1, gF 2, gF 3, pl1, he1, gF 6, gF 7, gF 8, gF 9, gF 10, gF 11, gF 12, gF 13, gF 14, gF 15, gF 16, gF 17, gF 18, gF 19, gF 20, gF 21, gF 22, gF 23, gF 24, gF 25, gF 26, gF 27, gF 28, gF 29, gF 30, gF 31]) (2 * j + 1) = gF (2 * j + 1) := by
  refine ⟨⟨rfl, rfl, rfl, rfl, rfl, hq⟩, fun j hj hn => ?_⟩
  rcases (show j = 0 ∨ j = 1 ∨ j = 2 ∨ j = 3 ∨ j = 4 ∨ j = 5 ∨ j = 6 ∨ j = 7 ∨ j = 8 ∨ j = 9 ∨ j = 10 ∨ j = 11 ∨ j = 12 ∨ j = 13 ∨ j = 14 ∨ j = 15 by omega) with h | h | h | h | h | h | h | h | h | h | h | h | h | h | h | h
  · subst h
    refine ⟨fun x hx => ?_, rfl, rfl⟩
    rcases (show x = 0 ∨ x = 1 ∨ x = 2 ∨ x = 3 ∨ x = 4 by omega) with h | h | h | h | h <;> (subst h; rfl)
  · subst h
    refine ⟨fun x hx => ?_, rfl, rfl⟩
    rcases (show x = 0 ∨ x = 1 ∨ x = 2 ∨ x = 3 ∨ x = 4 by omega) with h | h | h | h | h <;> (subst h; rfl)
  · exact absurd h hn
  · subst h
    refine ⟨fun x hx => ?_, rfl, rfl⟩
    rcases (show x = 0 ∨ x = 1 ∨ x = 2 ∨ x = 3 ∨ x = 4 by omega) with h | h | h | h | h <;> (subst h; rfl)
  · subst h
    refine ⟨fun x hx => ?_, rfl, rfl⟩
    rcases (show x = 0 ∨ x = 1 ∨ x = 2 ∨ x = 3 ∨ x = 4 by omega) with h | h | h | h | h <;> (subst h; rfl)
  · subst h
    refine ⟨fun x hx => ?_, rfl, rfl⟩
    rcases (show x = 0 ∨ x = 1 ∨ x = 2 ∨ x = 3 ∨ x = 4 by omega) with h | h | h | h | h <;> (subst h; rfl)
  · subst h
    refine ⟨fun x hx => ?_, rfl, rfl⟩
    rcases (show x = 0 ∨ x = 1 ∨ x = 2 ∨ x = 3 ∨ x = 4 by omega) with h | h | h | h | h <;> (subst h; rfl)
  · subst h
    refine ⟨fun x hx => ?_, rfl, rfl⟩
    rcases (show x = 0 ∨ x = 1 ∨ x = 2 ∨ x = 3 ∨ x = 4 by omega) with h | h | h | h | h <;> (subst h; rfl)
  · subst h
    refine ⟨fun x hx => ?_, rfl, rfl⟩
    rcases (show x = 0 ∨ x = 1 ∨ x = 2 ∨ x = 3 ∨ x = 4 by omega) with h | h | h | h | h <;> (subst h; rfl)
  · subst h
    refine ⟨fun x hx => ?_, rfl, rfl⟩
    rcases (show x = 0 ∨ x = 1 ∨ x = 2 ∨ x = 3 ∨ x = 4 by omega) with h | h | h | h | h <;> (subst h; rfl)
  · subst h
    refine ⟨fun x hx => ?_, rfl, rfl⟩
    rcases (show x = 0 ∨ x = 1 ∨ x = 2 ∨ x = 3 ∨ x = 4 by omega) with h | h | h | h | h <;> (subst h; rfl)
  · subst h
    refine ⟨fun x hx => ?_, rfl, rfl⟩
    rcases (show x = 0 ∨ x = 1 ∨ x = 2 ∨ x = 3 ∨ x = 4 by omega) with h | h | h | h | h <;> (subst h; rfl)
  · subst h
    refine ⟨fun x hx => ?_, rfl, rfl⟩
    rcases (show x = 0 ∨ x = 1 ∨ x = 2 ∨ x = 3 ∨ x = 4 by omega) with h | h | h | h | h <;> (subst h; rfl)
  · subst h
    refine ⟨fun x hx => ?_, rfl, rfl⟩
    rcases (show x = 0 ∨ x = 1 ∨ x = 2 ∨ x = 3 ∨ x = 4 by omega) with h | h | h | h | h <;> (subst h; rfl)
  · subst h
    refine ⟨fun x hx => ?_, rfl, rfl⟩
    rcases (show x = 0 ∨ x = 1 ∨ x = 2 ∨ x = 3 ∨ x = 4 by omega) with h | h | h | h | h <;> (subst h; rfl)
  · subst h
    refine ⟨fun x hx => ?_, rfl, rfl⟩
    rcases (show x = 0 ∨ x = 1 ∨ x = 2 ∨ x = 3 ∨ x = 4 by omega) with h | h | h | h | h <;> (subst h; rfl)
theorem rs_kp3 {U L : Int} (h : (L + 1) % 16 = 3) (m t s g c : Int) (pl he : Nat → Int) (gI : Nat → Int) (gF : Nat → Nat → Int) : ∃ pl1 he1, Ff_X1_keep U L gI m t s g c pl gF he = (fl_min (U + 1) 16, 3, fl_nI [gI 0, gI 1, gI 2, gI 3, gI 4, gI 5, gI 6, gI 7, gI 8, gI 9, gI 10, gI 11, gI 12, gI 13, gI 14, m, t, s, g, c, gI 20, gI 21, gI 22, gI 23, gI 24, gI 25, gI 26, gI 27, gI 28, gI 29, gI 30, gI 31, gI 32, gI 33, gI 34, gI 35, gI 36, gI 37, gI 38, gI 39, gI 40, gI 41, gI 42, gI 43, gI 44, gI 45, gI 46, gI 47, gI 48, gI 49, gI 50, gI 51, gI 52, gI 53, gI 54, gI 55, gI 56, gI 57, gI 58, gI 59, gI 60, gI 61, gI 62, gI 63, gI 64, gI 65, gI 66, gI 67, gI 68, gI 69, gI 70, gI 71, gI 72, gI 73, gI 74, gI 75, gI 76, gI 77, gI 78, gI 79], fl_nF [gF 0, gF 1, gF 2, gF 3, gF 4, gF 5, pl1, he1, gF 8, gF 9, gF 10, gF 11, gF 12, gF 13, gF 14, gF 15, gF 16, gF 17, gF 18, gF 19, gF 20, gF 21, gF 22, gF 23, gF 24, gF 25, gF 26, gF 27, gF 28, gF 29, gF 30, gF 31]) ∧ ∀ k : Nat, k < 9 → pl1 k = pl k ∧ he1 k = he k := by
  obtain ⟨pl1, he1, e, q⟩ := rs_cp m t s g c pl (gF 6) he (gF 7)
  refine ⟨pl1, he1, ?_, q⟩
  unfold Ff_X1_keep
  rw [fl_lt_eq rfl, fl_lt_eq h.symm]
  rw [if_neg (by decide)]
  rw [if_neg (by decide)]
  rw [if_neg (by decide)]
  rw [if_pos rfl]
  rw [e, fl_c7_eq rfl]
  rfl
theorem rs_ks3 (m t s g c : Int) (pl he : Nat → Int) (gI : Nat → Int) (gF : Nat → Nat → Int) (pl1 he1 : Nat → Int) (hq : ∀ k : Nat, k < 9 → pl1 k = pl k ∧ he1 k = he k) : rs_P (fl_nI [gI 0, gI 1, gI 2, gI 3, gI 4, gI 5, gI 6, gI 7, gI 8, gI 9, gI 10, gI 11, gI 12, gI 13, gI 14, m, t, s, g, c, gI 20, gI 21, gI 22, gI 23, gI 24, gI 25, gI 26, gI 27, gI 28, gI 29, gI 30, gI 31, gI 32, gI 33, gI 34, gI 35, gI 36, gI 37, gI 38, gI 39, gI 40, gI 41, gI 42, gI 43, gI 44, gI 45, gI 46, gI 47, gI 48, gI 49, gI 50, gI 51, gI 52, gI 53, gI 54, gI 55, gI 56, gI 57, gI 58, gI 59, gI 60, gI 61, gI 62, gI 63, gI 64, gI 65, gI 66, gI 67, gI 68, gI 69, gI 70, gI 71, gI 72, gI 73, gI 74, gI 75, gI 76, gI 77, gI 78, gI 79]) (fl_nF [gF 0, gF 1, gF 2, gF 3, gF 4, gF 5, pl1, he1, gF 8, gF 9, gF 10, gF 11, gF 12, gF 13, gF 14, gF 15, gF 16, gF 17, gF 18, gF 19, gF 20, gF 21, gF 22, gF 23, gF 24, gF 25, gF 26, gF 27, gF 28, gF 29, gF 30, gF 31]) 3 m t s g c pl he ∧ ∀ j : Nat, j < 16 → j ≠ 3 → (∀ x : Nat, x < 5 → (fl_nI [gI 0, gI 1, gI 2, gI 3, gI 4, gI 5, gI 6, gI 7, gI 8, gI 9, gI 10, gI 11, gI 12, gI 13, gI 14, m, t, s, g, c, gI 20, gI 21, gI 22, gI 23, gI 24, gI 25, gI 26, gI 27, gI 28, gI 29, gI 30, gI 31, gI 32, gI 33, gI 34, gI 35, gI 36, gI 37, gI 38, gI 39, gI 40, gI 41, gI 42, gI 43, gI 44, gI 45, gI 46, gI 47, gI 48, gI 49, gI 50, gI 51, gI 52, gI 53, gI 54, gI 55, gI 56, gI 57, gI 58, gI 59, gI 60, gI 61, gI 62, gI 63, gI 64, gI 65, gI 66, gI 67, gI 68, gI 69, gI 70, gI 71, gI 72, gI 73, gI 74, gI 75, gI 76, gI 77, gI 78, gI 79]) (5 * j + x) = gI (5 * j + x)) ∧ (fl_nF [gF 0, gF 1, gF 2, gF 3, gF 4, gF 5, pl1, he1, gF 8, gF 9, gF 10, gF 11, gF 12, gF 13, gF 14, gF 15, gF 16, gF 17, gF 18, gF 19, gF 20, gF 21, gF 22, gF 23, gF 24, gF 25, gF 26, gF 27, gF 28, gF 29, gF 30, gF 31]) (2 * j) = gF (2 * j) ∧ (fl_nF [gF 0, gF 1, gF 2, gF 3, gF 4, gF 5, pl1, he1, gF 8, gF 9, gF 10, gF 11, gF 12, gF 13, gF 14, gF 15, gF 16, gF 17, gF 18, gF 19, gF 20, gF 21, gF 22, gF 23, gF 24, gF 25, gF 26, gF 27, gF 28, gF 29, gF 30, gF 31]) (2 * j + 1) = gF (2 * j + 1) := by
  refine ⟨⟨rfl, rfl, rfl, rfl, rfl, hq⟩, fun j hj hn => ?_⟩
  rcases (show j = 0 ∨ j = 1 ∨ j = 2 ∨ j = 3 ∨ j = 4 ∨ j = 5 ∨ j = 6 ∨ j = 7 ∨ j = 8 ∨ j = 9 ∨ j = 10 ∨ j = 11 ∨ j = 12 ∨ j = 13 ∨ j = 14 ∨ j = 15 by omega) with h | h | h | h | h | h | h | h | h | h | h | h | h | h | h | h
  · subst h
    refine ⟨fun x hx => ?_, rfl, rfl⟩
    rcases (show x = 0 ∨ x = 1 ∨ x = 2 ∨ x = 3 ∨ x = 4 by omega) with h | h | h | h | h <;> (subst h; rfl)
  · subst h
    refine ⟨fun x hx => ?_, rfl, rfl⟩
    rcases (show x = 0 ∨ x = 1 ∨ x = 2 ∨ x = 3 ∨ x = 4 by omega) with h | h | h | h | h <;> (subst h; rfl)
  · subst h
    refine ⟨fun x hx => ?_, rfl, rfl⟩
    rcases (show x = 0 ∨ x = 1 ∨ x = 2 ∨ x = 3 ∨ x = 4 by omega) with h | h | h | h | h <;> (subst h; rfl)
  · exact absurd h hn
  · subst h
    refine ⟨fun x hx => ?_, rfl, rfl⟩
    rcases (show x = 0 ∨ x = 1 ∨ x = 2 ∨ x = 3 ∨ x = 4 by omega) with h | h | h | h | h <;> (subst h; rfl)
  · subst h
    refine ⟨fun x hx => ?_, rfl, rfl⟩
    rcases (show x = 0 ∨ x = 1 ∨ x = 2 ∨ x = 3 ∨ x = 4 by omega) with h | h | h | h | h <;> (subst h; rfl)
  · subst h
    refine ⟨fun x hx => ?_, rfl, rfl⟩
    rcases (show x = 0 ∨ x = 1 ∨ x = 2 ∨ x = 3 ∨ x = 4 by omega) with h | h | h | h | h <;> (subst h; rfl)
  · subst h
    refine ⟨fun x hx => ?_, rfl, rfl⟩
    rcases (show x = 0 ∨ x = 1 ∨ x = 2 ∨ x = 3 ∨ x = 4 by omega) with h | h | h | h | h <;> (subst h; rfl)
  · subst h
    refine ⟨fun x hx => ?_, rfl, rfl⟩
    rcases (show x = 0 ∨ x = 1 ∨ x = 2 ∨ x = 3 ∨ x = 4 by omega) with h | h | h | h | h <;> (subst h; rfl)
  · subst h
    refine ⟨fun x hx => ?_, rfl, rfl⟩
    rcases (show x = 0 ∨ x = 1 ∨ x = 2 ∨ x = 3 ∨ x = 4 by omega) with h | h | h | h | h <;> (subst h; rfl)
  · subst h
    refine ⟨fun x hx => ?_, rfl, rfl⟩
    rcases (show x = 0 ∨ x = 1 ∨ x = 2 ∨ x = 3 ∨ x = 4 by omega) with h | h | h | h | h <;> (subst h; rfl)
  · subst h
    refine ⟨fun x hx => ?_, rfl, rfl⟩
    rcases (show x = 0 ∨ x = 1 ∨ x = 2 ∨ x = 3 ∨ x = 4 by omega) with h | h | h | h | h <;> (subst h; rfl)
  · subst h
    refine ⟨fun x hx => ?_, rfl, rfl⟩
    rcases (show x = 0 ∨ x = 1 ∨ x = 2 ∨ x = 3 ∨ x = 4 by omega) with h | h | h | h | h <;> (subst h; rfl)
  · subst h
    refine ⟨fun x hx => ?_, rfl, rfl⟩
    rcases (show x = 0 ∨ x = 1 ∨ x = 2 ∨ x = 3 ∨ x = 4 by omega) with h | h | h | h | h <;> (subst h; rfl)
  · subst h
    refine ⟨fun x hx => ?_, rfl, rfl⟩
    rcases (show x = 0 ∨ x = 1 ∨ x = 2 ∨ x = 3 ∨ x = 4 by omega) with h | h | h | h | h <;> (subst h; rfl)
  · subst h
    refine ⟨fun x hx => ?_, rfl, rfl⟩
    rcases (show x = 0 ∨ x = 1 ∨ x = 2 ∨ x = 3 ∨ x = 4 by omega) with h | h | h | h | h <;> (subst h; rfl)
theorem rs_kp4 {U L : Int} (h : (L + 1) % 16 = 4) (m t s g c : Int) (pl he : Nat → Int) (gI : Nat → Int) (gF : Nat → Nat → Int) : ∃ pl1 he1, Ff_X1_keep U L gI m t s g c pl gF he = (fl_min (U + 1) 16, 4, fl_nI [gI 0, gI 1, gI 2, gI 3, gI 4, gI 5, gI 6, gI 7, gI 8, gI 9, gI 10, gI 11, gI 12, gI 13, gI 14, gI 15, gI 16, gI 17, gI 18, gI 19, m, t, s, g, c, gI 25, gI 26, gI 27, gI 28, gI 29, gI 30, gI 31, gI 32, gI 33, gI 34, gI 35, gI 36, gI 37, gI 38, gI 39, gI 40, gI 41, gI 42, gI 43, gI 44, gI 45, gI 46, gI 47, gI 48, gI 49, gI 50, gI 51, gI 52, gI 53, gI 54, gI 55, gI 56, gI 57, gI 58, gI 59, gI 60, gI 61, gI 62, gI 63, gI 64, gI 65, gI 66, gI 67, gI 68, gI 69, gI 70, gI 71, gI 72, gI 73, gI 74, gI 75, gI 76, gI 77, gI 78, gI 79], fl_nF [gF 0, gF 1, gF 2, gF 3, gF 4, gF 5, gF 6, gF 7, pl1, he1, gF 10, gF 11, gF 12, gF 13, gF 14, gF 15, gF 16, gF 17, gF 18, gF 19, gF 20, gF 21, gF 22, gF 23, gF 24, gF 25, gF 26, gF 27, gF 28, gF 29, gF 30, gF 31]) ∧ ∀ k : Nat, k < 9 → pl1 k = pl k ∧ he1 k = he k := by
  obtain ⟨pl1, he1, e, q⟩ := rs_cp m t s g c pl (gF 8) he (gF 9)
  refine ⟨pl1, he1, ?_, q⟩
  unfold Ff_X1_keep
  rw [fl_lt_eq rfl, fl_lt_eq h.symm]
  rw [if_neg (by decide)]
  rw [if_neg (by decide)]
  rw [if_neg (by decide)]
  rw [if_neg (by decide)]
  rw [if_pos rfl]
  rw [e, fl_c7_eq rfl]
  rfl
theorem rs_ks4 (m t s g c : Int) (pl he : Nat → Int) (gI : Nat → Int) (gF : Nat → Nat → Int) (pl1 he1 : Nat → Int) (hq : ∀ k : Nat, k < 9 → pl1 k = pl k ∧ he1 k = he k) : rs_P (fl_nI [gI 0, gI 1, gI 2, gI 3, gI 4, gI 5, gI 6, gI 7, gI 8, gI 9, gI 10, gI 11, gI 12, gI 13, gI 14, gI 15, gI 16, gI 17, gI 18, gI 19, m, t, s, g, c, gI 25, gI 26, gI 27, gI 28, gI 29, gI 30, gI 31, gI 32, gI 33, gI 34, gI 35, gI 36, gI 37, gI 38, gI 39, gI 40, gI 41, gI 42, gI 43, gI 44, gI 45, gI 46, gI 47, gI 48, gI 49, gI 50, gI 51, gI 52, gI 53, gI 54, gI 55, gI 56, gI 57, gI 58, gI 59, gI 60, gI 61, gI 62, gI 63, gI 64, gI 65, gI 66, gI 67, gI 68, gI 69, gI 70, gI 71, gI 72, gI 73, gI 74, gI 75, gI 76, gI 77, gI 78, gI 79]) (fl_nF [gF 0, gF 1, gF 2, gF 3, gF 4, gF 5, gF 6, gF 7, pl1, he1, gF 10, gF 11, gF 12, gF 13, gF 14, gF 15, gF 16, gF 17, gF 18, gF 19, gF 20, gF 21, gF 22, gF 23, gF 24, gF 25, gF 26, gF 27, gF 28, gF 29, gF 30, gF 31]) 4 m t s g c pl he ∧ ∀ j : Nat, j < 16 → j ≠ 4 → (∀ x : Nat, x < 5 → (fl_nI [gI 0, gI 1, gI 2, gI 3, gI 4, gI 5, gI 6, gI 7, gI 8, gI 9, gI 10, gI 11, gI 12, gI 13, gI 14, gI 15, gI 16, gI 17, gI 18, gI 19, m, t, s, g, c, gI 25, gI 26, gI 27, gI 28, gI 29, gI 30, gI 31, gI 32, gI 33, gI 34, gI 35, gI 36, gI 37, gI 38, gI 39, gI 40, gI 41, gI 42, gI 43, gI 44, gI 45, gI 46, gI 47, gI 48, gI 49, gI 50, gI 51, gI 52, gI 53, gI 54, gI 55, gI 56, gI 57, gI 58, gI 59, gI 60, gI 61, gI 62, gI 63, gI 64, gI 65, gI 66, gI 67, gI 68, gI 69, gI 70, gI 71, gI 72, gI 73, gI 74, gI 75, gI 76, gI 77, gI 78, gI 79]) (5 * j + x) = gI (5 * j + x)) ∧ (fl_nF [gF 0, gF 1, gF 2, gF 3, gF 4, gF 5, gF 6, gF 7, pl1, he1, gF 10, gF 11, gF 12, gF 13, gF 14, gF 15, gF 16, gF 17, gF 18, gF 19, gF 20, gF 21, gF 22, gF 23, gF 24, gF 25, gF 26, gF 27, gF 28, gF 29, gF 30, gF 31]) (2 * j) = gF (2 * j) ∧ (fl_nF [gF 0, gF 1, gF 2, gF 3, gF 4, gF 5, gF 6, gF 7, pl1, he1, gF 10, gF 11, gF 12, gF 13, gF 14, gF 15, gF 16, gF 17, gF 18, gF 19, gF 20, gF 21, gF 22, gF 23, gF 24, gF 25, gF 26, gF 27, gF 28, gF 29, gF 30, gF 31]) (2 * j + 1) = gF (2 * j + 1) := by
  refine ⟨⟨rfl, rfl, rfl, rfl, rfl, hq⟩, fun j hj hn => ?_⟩
  rcases (show j = 0 ∨ j = 1 ∨ j = 2 ∨ j = 3 ∨ j = 4 ∨ j = 5 ∨ j = 6 ∨ j = 7 ∨ j = 8 ∨ j = 9 ∨ j = 10 ∨ j = 11 ∨ j = 12 ∨ j = 13 ∨ j = 14 ∨ j = 15 by omega) with h | h | h | h | h | h | h | h | h | h | h | h | h | h | h | h
  · subst h
    refine ⟨fun x hx => ?_, rfl, rfl⟩
    rcases (show x = 0 ∨ x = 1 ∨ x = 2 ∨ x = 3 ∨ x = 4 by omega) with h | h | h | h | h <;> (subst h; rfl)
  · subst h
    refine ⟨fun x hx => ?_, rfl, rfl⟩
    rcases (show x = 0 ∨ x = 1 ∨ x = 2 ∨ x = 3 ∨ x = 4 by omega) with h | h | h | h | h <;> (subst h; rfl)
  · subst h
    refine ⟨fun x hx => ?_, rfl, rfl⟩
    rcases (show x = 0 ∨ x = 1 ∨ x = 2 ∨ x = 3 ∨ x = 4 by omega) with h | h | h | h | h <;> (subst h; rfl)
  · subst h
    refine ⟨fun x hx => ?_, rfl, rfl⟩
    rcases (show x = 0 ∨ x = 1 ∨ x = 2 ∨ x = 3 ∨ x = 4 by omega) with h | h | h | h | h <;> (subst h; rfl)
  · exact absurd h hn
  · subst h
    refine ⟨fun x hx => ?_, rfl, rfl⟩
    rcases (show x = 0 ∨ x = 1 ∨ x = 2 ∨ x = 3 ∨ x = 4 by omega) with h | h | h | h | h <;> (subst h; rfl)
  · subst h
    refine ⟨fun x hx => ?_, rfl, rfl⟩
    rcases (show x = 0 ∨ x = 1 ∨ x = 2 ∨ x = 3 ∨ x = 4 by omega) with h | h | h | h | h <;> (subst h; rfl)
  · subst h
    refine ⟨fun x hx => ?_, rfl, rfl⟩
    rcases (show x = 0 ∨ x = 1 ∨ x = 2 ∨ x = 3 ∨ x = 4 by omega) with h | h | h | h | h <;> (subst h; rfl)
  · subst h
    refine ⟨fun x hx => ?_, rfl, rfl⟩
    rcases (show x = 0 ∨ x = 1 ∨ x = 2 ∨ x = 3 ∨ x = 4 by omega) with h | h | h | h | h <;> (subst h; rfl)
  · subst h
    refine ⟨fun x hx => ?_, rfl, rfl⟩
    rcases (show x = 0 ∨ x = 1 ∨ x = 2 ∨ x = 3 ∨ x = 4 by omega) with h | h | h | h | h <;> (subst h; rfl)
  · subst h
    refine ⟨fun x hx => ?_, rfl, rfl⟩
    rcases (show x = 0 ∨ x = 1 ∨ x = 2 ∨ x = 3 ∨ x = 4 by omega) with h | h | h | h | h <;> (subst h; rfl)
  · subst h
    refine ⟨fun x hx => ?_, rfl, rfl⟩
    rcases (show x = 0 ∨ x = 1 ∨ x = 2 ∨ x = 3 ∨ x = 4 by omega) with h | h | h | h | h <;> (subst h; rfl)
  · subst h
    refine ⟨fun x hx => ?_, rfl, rfl⟩
    rcases (show x = 0 ∨ x = 1 ∨ x = 2 ∨ x = 3 ∨ x = 4 by omega) with h | h | h | h | h <;> (subst h; rfl)
  · subst h
    refine ⟨fun x hx => ?_, rfl, rfl⟩
    rcases (show x = 0 ∨ x = 1 ∨ x = 2 ∨ x = 3 ∨ x = 4 by omega) with h | h | h | h | h <;> (subst h; rfl)
  · subst h
    refine ⟨fun x hx => ?_, rfl, rfl⟩
    rcases (show x = 0 ∨ x = 1 ∨ x = 2 ∨ x = 3 ∨ x = 4 by omega) with h | h | h | h | h <;> (subst h; rfl)
  · subst h
    refine ⟨fun x hx => ?_, rfl, rfl⟩
    rcases (show x = 0 ∨ x = 1 ∨ x = 2 ∨ x = 3 ∨ x = 4 by omega) with h | h | h | h | h <;> (subst h; rfl)
theorem rs_kp5 {U L : Int} (h : (L + 1) % 16 = 5) (m t s g c : Int) (pl he : Nat → Int) (gI : Nat → Int) (gF : Nat → Nat → Int) : ∃ pl1 he1, Ff_X1_keep U L gI m t s g c pl gF he = (fl_min (U + 1) 16, 5, fl_nI [gI 0, gI 1, gI 2, gI 3, gI 4, gI 5, gI 6, gI 7, gI 8, gI 9, gI 10, gI 11, gI 12, gI 13, gI 14, gI 15, gI 16, gI 17, gI 18, gI 19, gI 20, gI 21, gI 22, gI 23, gI 24, m, t, s, g, c, gI 30, gI 31, gI 32, gI 33, gI 34, gI 35, gI 36, gI 37, gI 38, gI 39, gI 40, gI 41, gI 42, gI 43, gI 44, gI 45, gI 46, gI 47, gI 48, gI 49, gI 50, gI 51, gI 52, gI 53, gI 54, gI 55, gI 56, gI 57, gI 58, gI 59, gI 60, gI 61, gI 62, gI 63, gI 64, gI 65, gI 66, gI 67, gI 68, gI 69, gI 70, gI 71, gI 72, gI 73, gI 74, gI 75, gI 76, gI 77, gI 78, gI 79], fl_nF [gF 0, gF 1, gF 2, gF 3, gF 4, gF 5, gF 6, gF 7, gF 8, gF 9, pl1, he1, gF 12, gF 13, gF 14, gF 15, gF 16, gF 17, gF 18, gF 19, gF 20, gF 21, gF 22, gF 23, gF 24, gF 25, gF 26, gF 27, gF 28, gF 29, gF 30, gF 31]) ∧ ∀ k : Nat, k < 9 → pl1 k = pl k ∧ he1 k = he k := by
  obtain ⟨pl1, he1, e, q⟩ := rs_cp m t s g c pl (gF 10) he (gF 11)
  refine ⟨pl1, he1, ?_, q⟩
  unfold Ff_X1_keep
  rw [fl_lt_eq rfl, fl_lt_eq h.symm]
  rw [if_neg (by decide)]
  rw [if_neg (by decide)]
  rw [if_neg (by decide)]
  rw [if_neg (by decide)]
  rw [if_neg (by decide)]
  rw [if_pos rfl]
  rw [e, fl_c7_eq rfl]
  rfl
theorem rs_ks5 (m t s g c : Int) (pl he : Nat → Int) (gI : Nat → Int) (gF : Nat → Nat → Int) (pl1 he1 : Nat → Int) (hq : ∀ k : Nat, k < 9 → pl1 k = pl k ∧ he1 k = he k) : rs_P (fl_nI [gI 0, gI 1, gI 2, gI 3, gI 4, gI 5, gI 6, gI 7, gI 8, gI 9, gI 10, gI 11, gI 12, gI 13, gI 14, gI 15, gI 16, gI 17, gI 18, gI 19, gI 20, gI 21, gI 22, gI 23, gI 24, m, t, s, g, c, gI 30, gI 31, gI 32, gI 33, gI 34, gI 35, gI 36, gI 37, gI 38, gI 39, gI 40, gI 41, gI 42, gI 43, gI 44, gI 45, gI 46, gI 47, gI 48, gI 49, gI 50, gI 51, gI 52, gI 53, gI 54, gI 55, gI 56, gI 57, gI 58, gI 59, gI 60, gI 61, gI 62, gI 63, gI 64, gI 65, gI 66, gI 67, gI 68, gI 69, gI 70, gI 71, gI 72, gI 73, gI 74, gI 75, gI 76, gI 77, gI 78, gI 79]) (fl_nF [gF 0, gF 1, gF 2, gF 3, gF 4, gF 5, gF 6, gF 7, gF 8, gF 9, pl1, he1, gF 12, gF 13, gF 14, gF 15, gF 16, gF 17, gF 18, gF 19, gF 20, gF 21, gF 22, gF 23, gF 24, gF 25, gF 26, gF 27, gF 28, gF 29, gF 30, gF 31]) 5 m t s g c pl he ∧ ∀ j : Nat, j < 16 → j ≠ 5 → (∀ x : Nat, x < 5 → (fl_nI [gI 0, gI 1, gI 2, gI 3, gI 4, gI 5, gI 6, gI 7, gI 8, gI 9, gI 10, gI 11, gI 12, gI 13, gI 14, gI 15, gI 16, gI 17, gI 18, gI 19, gI 20, gI 21, gI 22, gI 23, gI 24, m, t, s, g, c, gI 30, gI 31, gI 32, gI 33, gI 34, gI 35, gI 36, gI 37, gI 38, gI 39, gI 40, gI 41, gI 42, gI 43, gI 44, gI 45, gI 46, gI 47, gI 48, gI 49, gI 50, gI 51, gI 52, gI 53, gI 54, gI 55, gI 56, gI 57, gI 58, gI 59, gI 60, gI 61, gI 62, gI 63, gI 64, gI 65, gI 66, gI 67, gI 68, gI 69, gI 70, gI 71, gI 72, gI 73, gI 74, gI 75, gI 76, gI 77, gI 78, gI 79]) (5 * j + x) = gI (5 * j + x)) ∧ (fl_nF [gF 0, gF 1, gF 2, gF 3, gF 4, gF 5, gF 6, gF 7, gF 8, gF 9, pl1, he1, gF 12, gF 13, gF 14, gF 15, gF 16, gF 17, gF 18, gF 19, gF 20, gF 21, gF 22, gF 23, gF 24, gF 25, gF 26, gF 27, gF 28, gF 29, gF 30, gF 31]) (2 * j) = gF (2 * j) ∧ (fl_nF [gF 0, gF 1, gF 2, gF 3, gF 4, gF 5, gF 6, gF 7, gF 8, gF 9, pl1, he1, gF 12, gF 13, gF 14, gF 15, gF 16, gF 17, gF 18, gF 19, gF 20, gF 21, gF 22, gF 23, gF 24, gF 25, gF 26, gF 27, gF 28, gF 29, gF 30, gF 31]) (2 * j + 1) = gF (2 * j + 1) := by
  refine ⟨⟨rfl, rfl, rfl, rfl, rfl, hq⟩, fun j hj hn => ?_⟩
  rcases (show j = 0 ∨ j = 1 ∨ j = 2 ∨ j = 3 ∨ j = 4 ∨ j = 5 ∨ j = 6 ∨ j = 7 ∨ j = 8 ∨ j = 9 ∨ j = 10 ∨ j = 11 ∨ j = 12 ∨ j = 13 ∨ j = 14 ∨ j = 15 by omega) with h | h | h | h | h | h | h | h | h | h | h | h | h | h | h | h
  · subst h
    refine ⟨fun x hx => ?_, rfl, rfl⟩
    rcases (show x = 0 ∨ x = 1 ∨ x = 2 ∨ x = 3 ∨ x = 4 by omega) with h | h | h | h | h <;> (subst h; rfl)
  · subst h
    refine ⟨fun x hx => ?_, rfl, rfl⟩
    rcases (show x = 0 ∨ x = 1 ∨ x = 2 ∨ x = 3 ∨ x = 4 by omega) with h | h | h | h | h <;> (subst h; rfl)
  · subst h
    refine ⟨fun x hx => ?_, rfl, rfl⟩
    rcases (show x = 0 ∨ x = 1 ∨ x = 2 ∨ x = 3 ∨ x = 4 by omega) with h | h | h | h | h <;> (subst h; rfl)
  · subst h
    refine ⟨fun x hx => ?_, rfl, rfl⟩
    rcases (show x = 0 ∨ x = 1 ∨ x = 2 ∨ x = 3 ∨ x = 4 by omega) with h | h | h | h | h <;> (subst h; rfl)
  · subst h
    refine ⟨fun x hx => ?_, rfl, rfl⟩
    rcases (show x = 0 ∨ x = 1 ∨ x = 2 ∨ x = 3 ∨ x = 4 by omega) with h | h | h | h | h <;> (subst h; rfl)
  · exact absurd h hn
  · subst h
    refine ⟨fun x hx => ?_, rfl, rfl⟩
    rcases (show x = 0 ∨ x = 1 ∨ x = 2 ∨ x = 3 ∨ x = 4 by omega) with h | h | h | h | h <;> (subst h; rfl)
  · subst h
    refine ⟨fun x hx => ?_, rfl, rfl⟩
    rcases (show x = 0 ∨ x = 1 ∨ x = 2 ∨ x = 3 ∨ x = 4 by omega) with h | h | h | h | h <;> (subst h; rfl)
  · subst h
    refine ⟨fun x hx => ?_, rfl, rfl⟩
    rcases (show x = 0 ∨ x = 1 ∨ x = 2 ∨ x = 3 ∨ x = 4 by omega) with h | h | h | h | h <;> (subst h; rfl)
  · subst h
    refine ⟨fun x hx => ?_, rfl, rfl⟩
    rcases (show x = 0 ∨ x = 1 ∨ x = 2 ∨ x = 3 ∨ x = 4 by omega) with h | h | h | h | h <;> (subst h; rfl)
  · subst h
    refine ⟨fun x hx => ?_, rfl, rfl⟩
    rcases (show x = 0 ∨ x = 1 ∨ x = 2 ∨ x = 3 ∨ x = 4 by omega) with h | h | h | h | h <;> (subst h; rfl)
  · subst h
    refine ⟨fun x hx => ?_, rfl, rfl⟩
    rcases (show x = 0 ∨ x = 1 ∨ x = 2 ∨ x = 3 ∨ x = 4 by omega) with h | h | h | h | h <;> (subst h; rfl)
  · subst h
    refine ⟨fun x hx => ?_, rfl, rfl⟩
    rcases (show x = 0 ∨ x = 1 ∨ x = 2 ∨ x = 3 ∨ x = 4 by omega) with h | h | h | h | h <;> (subst h; rfl)
  · subst h
    refine ⟨fun x hx => ?_, rfl, rfl⟩
    rcases (show x = 0 ∨ x = 1 ∨ x = 2 ∨ x = 3 ∨ x = 4 by omega) with h | h | h | h | h <;> (subst h; rfl)
  · subst h
    refine ⟨fun x hx => ?_, rfl, rfl⟩
    rcases (show x = 0 ∨ x = 1 ∨ x = 2 ∨ x = 3 ∨ x = 4 by omega) with h | h | h | h | h <;> (subst h; rfl)
  · subst h
    refine ⟨fun x hx => ?_, rfl, rfl⟩
    rcases (show x = 0 ∨ x = 1 ∨ x = 2 ∨ x = 3 ∨ x = 4 by omega) with h | h | h | h | h <;> (subst h; rfl)
theorem rs_kp6 {U L : Int} (h : (L + 1) % 16 = 6) (m t s g c : Int) (pl he : Nat → Int) (gI : Nat → Int) (gF : Nat → Nat → Int) : ∃ pl1 he1, Ff_X1_keep U L gI m t s g c pl gF he = (fl_min (U + 1) 16, 6, fl_nI [gI 0, gI 1, gI 2, gI 3, gI 4, gI 5, gI 6, gI 7, gI 8, gI 9, gI 10, gI 11, gI 12, gI 13, gI 14, gI 15, gI 16, gI 17, gI 18, gI 19, gI 20, gI 21, gI 22, gI 23, gI 24, gI 25, gI 26, gI 27, gI 28, gI 29, m, t, s, g, c, gI 35, gI 36, gI 37, gI 38, gI 39, gI 40, gI 41, gI 42, gI 43, gI 44, gI 45, gI 46, gI 47, gI 48, gI 49, gI 50, gI 51, gI 52, gI 53, gI 54, gI 55, gI 56, gI 57, gI 58, gI 59, gI 60, gI 61, gI 62, gI 63, gI 64, gI 65, gI 66, gI 67, gI 68, gI 69, gI 70, gI 71, gI 72, gI 73, gI 74, gI 75, gI 76, gI 77, gI 78, gI 79], fl_nF [gF 0, gF 1, gF 2, gF 3, gF 4, gF 5, gF 6, gF 7, gF 8, gF 9, gF 10, gF 11, pl1, he1, gF 14, gF 15, gF 16, gF 17, gF 18, gF 19, gF 20, gF 21, gF 22, gF 23, gF 24, gF 25, gF 26, gF 27, gF 28, gF 29, gF 30, gF 31]) ∧ ∀ k : Nat, k < 9 → pl1 k = pl k ∧ he1 k = he k := by
  obtain ⟨pl1, he1, e, q⟩ := rs_cp m t s g c pl (gF 12) he (gF 13)
  refine ⟨pl1, he1, ?_, q⟩
  unfold Ff_X1_keep
  rw [fl_lt_eq rfl, fl_lt_eq h.symm]
  rw [if_neg (by decide)]
  rw [if_neg (by decide)]
  rw [if_neg (by decide)]
  rw [if_neg (by decide)]
  rw [if_neg (by decide)]
  rw [if_neg (by decide)]
  rw [if_pos rfl]
  rw [e, fl_c7_eq rfl]
  rfl
theorem rs_ks6 (m t s g c : Int) (pl he : Nat → Int) (gI : Nat → Int) (gF : Nat → Nat → Int) (pl1 he1 : Nat → Int) (hq : ∀ k : Nat, k < 9 → pl1 k = pl k ∧ he1 k = he k) : rs_P (fl_nI [gI 0, gI 1, gI 2, gI 3, gI 4, gI 5, gI 6, gI 7, gI 8, gI 9, gI 10, gI 11, gI 12, gI 13, gI 14, gI 15, gI 16, gI 17, gI 18, gI 19, gI 20, gI 21, gI 22, gI 23, gI 24, gI 25, gI 26, gI 27, gI 28, gI 29, m, t, s, g, c, gI 35, gI 36, gI 37, gI 38, gI 39, gI 40, gI 41, gI 42, gI 43, gI 44, gI 45, gI 46, gI 47, gI 48, gI 49, gI 50, gI 51, gI 52, gI 53, gI 54, gI 55, gI 56, gI 57, gI 58, gI 59, gI 60, gI 61, gI 62, gI 63, gI 64, gI 65, gI 66, gI 67, gI 68, gI 69, gI 70, gI 71, gI 72, gI 73, gI 74, gI 75, gI 76, gI 77, gI 78, gI 79]) (fl_nF [gF 0, gF 1, gF 2, gF 3, gF 4, gF 5, gF 6, gF 7, gF 8, gF 9, gF 10, gF 11, pl1, he1, gF 14, gF 15, gF 16, gF 17, gF 18, gF 19, gF 20, gF 21, gF 22, gF 23, gF 24, gF 25, gF 26, gF 27, gF 28, gF 29, gF 30, gF 31]) 6 m t s g c pl he ∧ ∀ j : Nat, j < 16 → j ≠ 6 → (∀ x : Nat, x < 5 → (fl_nI [gI 0, gI 1, gI 2, gI 3, gI 4, gI 5, gI 6, gI 7, gI 8, gI 9, gI 10, gI 11, gI 12, gI 13, gI 14, gI 15, gI 16, gI 17, gI 18, gI 19, gI 20, gI 21, gI 22, gI 23, gI 24, gI 25, gI 26, gI 27, gI 28, gI 29, m, t, s, g, c, gI 35, gI 36, gI 37, gI 38, gI 39, gI 40, gI 41, gI 42, gI 43, gI 44, gI 45, gI 46, gI 47, gI 48, gI 49, gI 50, gI 51, gI 52, gI 53, gI 54, gI 55, gI 56, gI 57, gI 58, gI 59, gI 60, gI 61, gI 62, gI 63, gI 64, gI 65, gI 66, gI 67, gI 68, gI 69, gI 70, gI 71, gI 72, gI 73, gI 74, gI 75, gI 76, gI 77, gI 78, gI 79]) (5 * j + x) = gI (5 * j + x)) ∧ (fl_nF [gF 0, gF 1, gF 2, gF 3, gF 4, gF 5, gF 6, gF 7, gF 8, gF 9, gF 10, gF 11, pl1, he1, gF 14, gF 15, gF 16, gF 17, gF 18, gF 19, gF 20, gF 21, gF 22, gF 23, gF 24, gF 25, gF 26, gF 27, gF 28, gF 29, gF 30, gF 31]) (2 * j) = gF (2 * j) ∧ (fl_nF [gF 0, gF 1, gF 2, gF 3, gF 4, gF 5, gF 6, gF 7, gF 8, gF 9, gF 10, gF 11, pl1, he1, gF 14, gF 15, gF 16, gF 17, gF 18, gF 19, gF 20, gF 21, gF 22, gF 23, gF 24, gF 25, gF 26, gF 27, gF 28, gF 29, gF 30, gF 31]) (2 * j + 1) = gF (2 * j + 1) := by
  refine ⟨⟨rfl, rfl, rfl, rfl, rfl, hq⟩, fun j hj hn => ?_⟩
  rcases (show j = 0 ∨ j = 1 ∨ j = 2 ∨ j = 3 ∨ j = 4 ∨ j = 5 ∨ j = 6 ∨ j = 7 ∨ j = 8 ∨ j = 9 ∨ j = 10 ∨ j = 11 ∨ j = 12 ∨ j = 13 ∨ j = 14 ∨ j = 15 by omega) with h | h | h | h | h | h | h | h | h | h | h | h | h | h | h | h
  · subst h
    refine ⟨fun x hx => ?_, rfl, rfl⟩
    rcases (show x = 0 ∨ x = 1 ∨ x = 2 ∨ x = 3 ∨ x = 4 by omega) with h | h | h | h | h <;> (subst h; rfl)
  · subst h
    refine ⟨fun x hx => ?_, rfl, rfl⟩
    rcases (show x = 0 ∨ x = 1 ∨ x = 2 ∨ x = 3 ∨ x = 4 by omega) with h | h | h | h | h <;> (subst h; rfl)
  · subst h
    refine ⟨fun x hx => ?_, rfl, rfl⟩
    rcases (show x = 0 ∨ x = 1 ∨ x = 2 ∨ x = 3 ∨ x = 4 by omega) with h | h | h | h | h <;> (subst h; rfl)
  · subst h
    refine ⟨fun x hx => ?_, rfl, rfl⟩
    rcases (show x = 0 ∨ x = 1 ∨ x = 2 ∨ x = 3 ∨ x = 4 by omega) with h | h | h | h | h <;> (subst h; rfl)
  · subst h
    refine ⟨fun x hx => ?_, rfl, rfl⟩
    rcases (show x = 0 ∨ x = 1 ∨ x = 2 ∨ x = 3 ∨ x = 4 by omega) with h | h | h | h | h <;> (subst h; rfl)
  · subst h
    refine ⟨fun x hx => ?_, rfl, rfl⟩
    rcases (show x = 0 ∨ x = 1 ∨ x = 2 ∨ x = 3 ∨ x = 4 by omega) with h | h | h | h | h <;> (subst h; rfl)
  · exact absurd h hn
  · subst h
    refine ⟨fun x hx => ?_, rfl, rfl⟩
    rcases (show x = 0 ∨ x = 1 ∨ x = 2 ∨ x = 3 ∨ x = 4 by omega) with h | h | h | h | h <;> (subst h; rfl)
  · subst h
    refine ⟨fun x hx => ?_, rfl, rfl⟩
    rcases (show x = 0 ∨ x = 1 ∨ x = 2 ∨ x = 3 ∨ x = 4 by omega) with h | h | h | h | h <;> (subst h; rfl)
  · subst h
    refine ⟨fun x hx => ?_, rfl, rfl⟩
    rcases (show x = 0 ∨ x = 1 ∨ x = 2 ∨ x = 3 ∨ x = 4 by omega) with h | h | h | h | h <;> (subst h; rfl)
  · subst h
    refine ⟨fun x hx => ?_, rfl, rfl⟩
    rcases (show x = 0 ∨ x = 1 ∨ x = 2 ∨ x = 3 ∨ x = 4 by omega) with h | h | h | h | h <;> (subst h; rfl)
  · subst h
    refine ⟨fun x hx => ?_, rfl, rfl⟩
    rcases (show x = 0 ∨ x = 1 ∨ x = 2 ∨ x = 3 ∨ x = 4 by omega) with h | h | h | h | h <;> (subst h; rfl)
  · subst h
    refine ⟨fun x hx => ?_, rfl, rfl⟩
    rcases (show x = 0 ∨ x = 1 ∨ x = 2 ∨ x = 3 ∨ x = 4 by omega) with h | h | h | h | h <;> (subst h; rfl)
  · subst h
    refine ⟨fun x hx => ?_, rfl, rfl⟩
    rcases (show x = 0 ∨ x = 1 ∨ x = 2 ∨ x = 3 ∨ x = 4 by omega) with h | h | h | h | h <;> (subst h; rfl)
  · subst h
    refine ⟨fun x hx => ?_, rfl, rfl⟩
    rcases (show x = 0 ∨ x = 1 ∨ x = 2 ∨ x = 3 ∨ x = 4 by omega) with h | h | h | h | h <;> (subst h; rfl)
  · subst h
    refine ⟨fun x hx => ?_, rfl, rfl⟩
    rcases (show x = 0 ∨ x = 1 ∨ x = 2 ∨ x = 3 ∨ x = 4 by omega) with h | h | h | h | h <;> (subst h; rfl)
theorem rs_kp7 {U L : Int} (h : (L + 1) % 16 = 7) (m t s g c : Int) (pl he : Nat → Int) (gI : Nat → Int) (gF : Nat → Nat → Int) : ∃ pl1 he1, Ff_X1_keep U L gI m t s g c pl gF he = (fl_min (U + 1) 16, 7, fl_nI [gI 0, gI 1, gI 2, gI 3, gI 4, gI 5, gI 6, gI 7, gI 8, gI 9, gI 10, gI 11, gI 12, gI 13, gI 14, gI 15, gI 16, gI 17, gI 18, gI 19, gI 20, gI 21, gI 22, gI 23, gI 24, gI 25, gI 26, gI 27, gI 28, gI 29, gI 30, gI 31, gI 32, gI 33, gI 34, m, t, s, g, c, gI 40, gI 41, gI 42, gI 43, gI 44, gI 45, gI 46, gI 47, gI 48, gI 49, gI 50, gI 51, gI 52, gI 53, gI 54, gI 55, gI 56, gI 57, gI 58, gI 59, gI 60, gI 61, gI 62, gI 63, gI 64, gI 65, gI 66, gI 67, gI 68, gI 69, gI 70, gI 71, gI 72, gI 73, gI 74, gI 75, gI 76, gI 77, gI 78, gI 79], fl_nF [gF 0, gF 1, gF 2, gF 3, gF 4, gF 5, gF 6, gF 7, gF 8, gF 9, gF 10, gF 11, gF 12, gF 13, pl1, he1, gF 16, gF 17, gF 18, gF 19, gF 20, gF 21, gF 22, gF 23, gF 24, gF 25, gF 26, gF 27, gF 28, gF 29, gF 30, gF 31]) ∧ ∀ k : Nat, k < 9 → pl1 k = pl k ∧ he1 k = he k := by
  obtain ⟨pl1, he1, e, q⟩ := rs_cp m t s g c pl (gF 14) he (gF 15)
  refine ⟨pl1, he1, ?_, q⟩
  unfold Ff_X1_keep
  rw [fl_lt_eq rfl, fl_lt_eq h.symm]
  rw [if_neg (by decide)]
  rw [if_neg (by decide)]
  rw [if_neg (by decide)]
  rw [if_neg (by decide)]
  rw [if_neg (by decide)]
  rw [if_neg (by decide)]
  rw [if_neg (by decide)]
  rw [if_pos rfl]
  rw [e, fl_c7_eq rfl]
  rfl
theorem rs_ks7 (m t s g c : Int) (pl he : Nat → Int) (gI : Nat → Int) (gF : Nat → Nat → Int) (pl1 he1 : Nat → Int) (hq : ∀ k : Nat, k < 9 → pl1 k = pl k ∧ he1 k = he k) : rs_P (fl_nI [gI 0, gI 1, gI 2, gI 3, gI 4, gI 5, gI 6, gI 7, gI 8, gI 9, gI 10, gI 11, gI 12, gI 13, gI 14, gI 15, gI 16, gI 17, gI 18, gI 19, gI 20, gI 21, gI 22, gI 23, gI 24, gI 25, gI 26, gI 27, gI 28, gI 29, gI 30, gI 31, gI 32, gI 33, gI 34, m, t, s, g, c, gI 40, gI 41, gI 42, gI 43, gI 44, gI 45, gI 46, gI 47, gI 48, gI 49, gI 50, gI 51, gI 52, gI 53, gI 54, gI 55, gI 56, gI 57, gI 58, gI 59, gI 60, gI 61, gI 62, gI 63, gI 64, gI 65, gI 66, gI 67, gI 68, gI 69, gI 70, gI 71, gI 72, gI 73, gI 74, gI 75, gI 76, gI 77, gI 78, gI 79]) (fl_nF [gF 0, gF 1, gF 2, gF 3, gF 4, gF 5, gF 6, gF 7, gF 8, gF 9, gF 10, gF 11, gF 12, gF 13, pl1, he1, gF 16, gF 17, gF 18, gF 19, gF 20, gF 21, gF 22, gF 23, gF 24, gF 25, gF 26, gF 27, gF 28, gF 29, gF 30, gF 31]) 7 m t s g c pl he ∧ ∀ j : Nat, j < 16 → j ≠ 7 → (∀ x : Nat, x < 5 → (fl_nI [gI 0, gI 1, gI 2, gI 3, gI 4, gI 5, gI 6, gI 7, gI 8, gI 9, gI 10, gI 11, gI 12, gI 13, gI 14, gI 15, gI 16, gI 17, gI 18, gI 19, gI 20, gI 21, gI 22, gI 23, gI 24, gI 25, gI 26, gI 27, gI 28, gI 29, gI 30, gI 31, gI 32, gI 33, gI 34, m, t, s, g, c, gI 40, gI 41, gI 42, gI 43, gI 44, gI 45, gI 46, gI 47, gI 48, gI 49, gI 50, gI 51, gI 52, gI 53, gI 54, gI 55, gI 56, gI 57, gI 58, gI 59, gI 60, gI 61, gI 62, gI 63, gI 64, gI 65, gI 66, gI 67, gI 68, gI 69, gI 70, gI 71, gI 72, gI 73, gI 74, gI 75, gI 76, gI 77, gI 78, gI 79]) (5 * j + x) = gI (5 * j + x)) ∧ (fl_nF [gF 0, gF 1, gF 2, gF 3, gF 4, gF 5, gF 6, gF 7, gF 8, gF 9, gF 10, gF 11, gF 12, gF 13, pl1, he1, gF 16, gF 17, gF 18, gF 19, gF 20, gF 21, gF 22, gF 23, gF 24, gF 25, gF 26, gF 27, gF 28, gF 29, gF 30, gF 31]) (2 * j) = gF (2 * j) ∧ (fl_nF [gF 0, gF 1, gF 2, gF 3, gF 4, gF 5, gF 6, gF 7, gF 8, gF 9, gF 10, gF 11, gF 12, gF 13, pl1, he1, gF 16, gF 17, gF 18, gF 19, gF 20, gF 21, gF 22, gF 23, gF 24, gF 25, gF 26, gF 27, gF 28, gF 29, gF 30, gF 31]) (2 * j + 1) = gF (2 * j + 1) := by
  refine ⟨⟨rfl, rfl, rfl, rfl, rfl, hq⟩, fun j hj hn => ?_⟩
  rcases (show j = 0 ∨ j = 1 ∨ j = 2 ∨ j = 3 ∨ j = 4 ∨ j = 5 ∨ j = 6 ∨ j = 7 ∨ j = 8 ∨ j = 9 ∨ j = 10 ∨ j = 11 ∨ j = 12 ∨ j = 13 ∨ j = 14 ∨ j = 15 by omega) with h | h | h | h | h | h | h | h | h | h | h | h | h | h | h | h
  · subst h
    refine ⟨fun x hx => ?_, rfl, rfl⟩
    rcases (show x = 0 ∨ x = 1 ∨ x = 2 ∨ x = 3 ∨ x = 4 by omega) with h | h | h | h | h <;> (subst h; rfl)
  · subst h
    refine ⟨fun x hx => ?_, rfl, rfl⟩
    rcases (show x = 0 ∨ x = 1 ∨ x = 2 ∨ x = 3 ∨ x = 4 by omega) with h | h | h | h | h <;> (subst h; rfl)
  · subst h
    refine ⟨fun x hx => ?_, rfl, rfl⟩
    rcases (show x = 0 ∨ x = 1 ∨ x = 2 ∨ x = 3 ∨ x = 4 by omega) with h | h | h | h | h <;> (subst h; rfl)
  · subst h
    refine ⟨fun x hx => ?_, rfl, rfl⟩
    rcases (show x = 0 ∨ x = 1 ∨ x = 2 ∨ x = 3 ∨ x = 4 by omega) with h | h | h | h | h <;> (subst h; rfl)
  · subst h
    refine ⟨fun x hx => ?_, rfl, rfl⟩
    rcases (show x = 0 ∨ x = 1 ∨ x = 2 ∨ x = 3 ∨ x = 4 by omega) with h | h | h | h | h <;> (subst h; rfl)
  · subst h
    refine ⟨fun x hx => ?_, rfl, rfl⟩
    rcases (show x = 0 ∨ x = 1 ∨ x = 2 ∨ x = 3 ∨ x = 4 by omega) with h | h | h | h | h <;> (subst h; rfl)
  · subst h
    refine ⟨fun x hx => ?_, rfl, rfl⟩
    rcases (show x = 0 ∨ x = 1 ∨ x = 2 ∨ x = 3 ∨ x = 4 by omega) with h | h | h | h | h <;> (subst h; rfl)
  · exact absurd h hn
  · subst h
    refine ⟨fun x hx => ?_, rfl, rfl⟩
    rcases (show x = 0 ∨ x = 1 ∨ x = 2 ∨ x = 3 ∨ x = 4 by omega) with h | h | h | h | h <;> (subst h; rfl)
  · subst h
    refine ⟨fun x hx => ?_, rfl, rfl⟩
    rcases (show x = 0 ∨ x = 1 ∨ x = 2 ∨ x = 3 ∨ x = 4 by omega) with h | h | h | h | h <;> (subst h; rfl)
  · subst h
    refine ⟨fun x hx => ?_, rfl, rfl⟩
    rcases (show x = 0 ∨ x = 1 ∨ x = 2 ∨ x = 3 ∨ x = 4 by omega) with h | h | h | h | h <;> (subst h; rfl)
  · subst h
    refine ⟨fun x hx => ?_, rfl, rfl⟩
    rcases (show x = 0 ∨ x = 1 ∨ x = 2 ∨ x = 3 ∨ x = 4 by omega) with h | h | h | h | h <;> (subst h; rfl)
  · subst h
    refine ⟨fun x hx => ?_, rfl, rfl⟩
    rcases (show x = 0 ∨ x = 1 ∨ x = 2 ∨ x = 3 ∨ x = 4 by omega) with h | h | h | h | h <;> (subst h; rfl)
  · subst h
    refine ⟨fun x hx => ?_, rfl, rfl⟩
    rcases (show x = 0 ∨ x = 1 ∨ x = 2 ∨ x = 3 ∨ x = 4 by omega) with h | h | h | h | h <;> (subst h; rfl)
  · subst h
    refine ⟨fun x hx => ?_, rfl, rfl⟩
    rcases (show x = 0 ∨ x = 1 ∨ x = 2 ∨ x = 3 ∨ x = 4 by omega) with h | h | h | h | h <;> (subst h; rfl)
  · subst h
    refine ⟨fun x hx => ?_, rfl, rfl⟩
    rcases (show x = 0 ∨ x = 1 ∨ x = 2 ∨ x = 3 ∨ x = 4 by omega) with h | h | h | h | h <;> (subst h; rfl)
theorem rs_kp8 {U L : Int} (h : (L + 1) % 16 = 8) (m t s g c : Int) (pl he : Nat → Int) (gI : Nat → Int) (gF : Nat → Nat → Int) : ∃ pl1 he1, Ff_X1_keep U L gI m t s g c pl gF he = (fl_min (U + 1) 16, 8, fl_nI [gI 0, gI 1, gI 2, gI 3, gI 4, gI 5, gI 6, gI 7, gI 8, gI 9, gI 10, gI 11, gI 12, gI 13, gI 14, gI 15, gI 16, gI 17, gI 18, gI 19, gI 20, gI 21, gI 22, gI 23, gI 24, gI 25, gI 26, gI 27, gI 28, gI 29, gI 30, gI 31, gI 32, gI 33, gI 34, gI 35, gI 36, gI 37, gI 38, gI 39, m, t, s, g, c, gI 45, gI 46, gI 47, gI 48, gI 49, gI 50, gI 51, gI 52, gI 53, gI 54, gI 55, gI 56, gI 57, gI 58, gI 59, gI 60, gI 61, gI 62, gI 63, gI 64, gI 65, gI 66, gI 67, gI 68, gI 69, gI 70, gI 71, gI 72, gI 73, gI 74, gI 75, gI 76, gI 77, gI 78, gI 79], fl_nF [gF 0, gF 1, gF 2, gF 3, gF 4, gF 5, gF 6, gF 7, gF 8, gF 9, gF 10, gF 11, gF 12, gF 13, gF 14, gF 15, pl1, he1, gF 18, gF 19, gF 20, gF 21, gF 22, gF 23, gF 24, gF 25, gF 26, gF 27, gF 28, gF 29, gF 30, gF 31]) ∧ ∀ k : Nat, k < 9 → pl1 k = pl k ∧ he1 k = he k := by
  obtain ⟨pl1, he1, e, q⟩ := rs_cp m t s g c pl (gF 16) he (gF 17)
  refine ⟨pl1, he1, ?_, q⟩
  unfold Ff_X1_keep
  rw [fl_lt_eq rfl, fl_lt_eq h.symm]
  rw [if_neg (by decide)]
  rw [if_neg (by decide)]
  rw [if_neg (by decide)]
  rw [if_neg (by decide)]
  rw [if_neg (by decide)]
  rw [if_neg (by decide)]
  rw [if_neg (by decide)]
  rw [if_neg (by decide)]
  rw [if_pos rfl]
  rw [e, fl_c7_eq rfl]
  rfl
theorem rs_ks8 (m t s g c : Int) (pl he : Nat → Int) (gI : Nat → Int) (gF : Nat → Nat → Int) (pl1 he1 : Nat → Int) (hq : ∀ k : Nat, k < 9 → pl1 k = pl k ∧ he1 k = he k) : rs_P (fl_nI [gI 0, gI 1, gI 2, gI 3, gI 4, gI 5, gI 6, gI 7, gI 8, gI 9, gI 10, gI 11, gI 12, gI 13, gI 14, gI 15, gI 16, gI 17, gI 18, gI 19, gI 20, gI 21, gI 22, gI 23, gI 24, gI 25, gI 26, gI 27, gI 28, gI 29, gI 30, gI 31, gI 32, gI 33, gI 34, gI 35, gI 36, gI 37, gI 38, gI 39, m, t, s, g, c, gI 45, gI 46, gI 47, gI 48, gI 49, gI 50, gI 51, gI 52, gI 53, gI 54, gI 55, gI 56, gI 57, gI 58, gI 59, gI 60, gI 61, gI 62, gI 63, gI 64, gI 65, gI 66, gI 67, gI 68, gI 69, gI 70, gI 71, gI 72, gI 73, gI 74, gI 75, gI 76, gI 77, gI 78, gI 79]) (fl_nF [gF 0, gF 1, gF 2, gF 3, gF 4, gF 5, gF 6, gF 7, gF 8, gF 9, gF 10, gF 11, gF 12, gF 13, gF 14, gF 15, pl1, he1, gF 18, gF 19, gF 20, gF 21, gF 22, gF 23, gF 24, gF 25, gF 26, gF 27, gF 28, gF 29, gF 30, gF 31]) 8 m t s g c pl he ∧ ∀ j : Nat, j < 16 → j ≠ 8 → (∀ x : Nat, x < 5 → (fl_nI [gI 0, gI 1, gI 2, gI 3, gI 4, gI 5, gI 6, gI 7, gI 8, gI 9, gI 10, gI 11, gI 12, gI 13, gI 14, gI 15, gI 16, gI 17, gI 18, gI 19, gI 20, gI 21, gI 22, gI 23, gI 24, gI 25, gI 26, gI 27, gI 28, gI 29, gI 30, gI 31, gI 32, gI 33, gI 34, gI 35, gI 36, gI 37, gI 38, gI 39, m, t, s, g, c, gI 45, gI 46, gI 47, gI 48, gI 49, gI 50, gI 51, gI 52, gI 53, gI 54, gI 55, gI 56, gI 57, gI 58, gI 59, gI 60, gI 61, gI 62, gI 63, gI 64, gI 65, gI 66, gI 67, gI 68, gI 69, gI 70, gI 71, gI 72, gI 73, gI 74, gI 75, gI 76, gI 77, gI 78, gI 79]) (5 * j + x) = gI (5 * j + x)) ∧ (fl_nF [gF 0, gF 1, gF 2, gF 3, gF 4, gF 5, gF 6, gF 7, gF 8, gF 9, gF 10, gF 11, gF 12, gF 13, gF 14, gF 15, pl1, he1, gF 18, gF 19, gF 20, gF 21, gF 22, gF 23, gF 24, gF 25, gF 26, gF 27, gF 28, gF 29, gF 30, gF 31]) (2 * j) = gF (2 * j) ∧ (fl_nF [gF 0, gF 1, gF 2, gF 3, gF 4, gF 5, gF 6, gF 7, gF 8, gF 9, gF 10, gF 11, gF 12, gF 13, gF 14, gF 15, pl1, he1, gF 18, gF 19, gF 20, gF 21, gF 22, gF 23, gF 24, gF 25, gF 26, gF 27, gF 28, gF 29, gF 30, gF 31]) (2 * j + 1) = gF (2 * j + 1) := by
  refine ⟨⟨rfl, rfl, rfl, rfl, rfl, hq⟩, fun j hj hn => ?_⟩
  rcases (show j = 0 ∨ j = 1 ∨ j = 2 ∨ j = 3 ∨ j = 4 ∨ j = 5 ∨ j = 6 ∨ j = 7 ∨ j = 8 ∨ j = 9 ∨ j = 10 ∨ j = 11 ∨ j = 12 ∨ j = 13 ∨ j = 14 ∨ j = 15 by omega) with h | h | h | h | h | h | h | h | h | h | h | h | h | h | h | h
  · subst h
    refine ⟨fun x hx => ?_, rfl, rfl⟩
    rcases (show x = 0 ∨ x = 1 ∨ x = 2 ∨ x = 3 ∨ x = 4 by omega) with h | h | h | h | h <;> (subst h; rfl)
  · subst h
    refine ⟨fun x hx => ?_, rfl, rfl⟩
    rcases (show x = 0 ∨ x = 1 ∨ x = 2 ∨ x = 3 ∨ x = 4 by omega) with h | h | h | h | h <;> (subst h; rfl)
  · subst h
    refine ⟨fun x hx => ?_, rfl, rfl⟩
    rcases (show x = 0 ∨ x = 1 ∨ x = 2 ∨ x = 3 ∨ x = 4 by omega) with h | h | h | h | h <;> (subst h; rfl)
  · subst h
    refine ⟨fun x hx => ?_, rfl, rfl⟩
    rcases (show x = 0 ∨ x = 1 ∨ x = 2 ∨ x = 3 ∨ x = 4 by omega) with h | h | h | h | h <;> (subst h; rfl)
  · subst h
    refine ⟨fun x hx => ?_, rfl, rfl⟩
    rcases (show x = 0 ∨ x = 1 ∨ x = 2 ∨ x = 3 ∨ x = 4 by omega) with h | h | h | h | h <;> (subst h; rfl)
  · subst h
    refine ⟨fun x hx => ?_, rfl, rfl⟩
    rcases (show x = 0 ∨ x = 1 ∨ x = 2 ∨ x = 3 ∨ x = 4 by omega) with h | h | h | h | h <;> (subst h; rfl)
  · subst h
    refine ⟨fun x hx => ?_, rfl, rfl⟩
    rcases (show x = 0 ∨ x = 1 ∨ x = 2 ∨ x = 3 ∨ x = 4 by omega) with h | h | h | h | h <;> (subst h; rfl)
  · subst h
    refine ⟨fun x hx => ?_, rfl, rfl⟩
    rcases (show x = 0 ∨ x = 1 ∨ x = 2 ∨ x = 3 ∨ x = 4 by omega) with h | h | h | h | h <;> (subst h; rfl)
  · exact absurd h hn
  · subst h
    refine ⟨fun x hx => ?_, rfl, rfl⟩
    rcases (show x = 0 ∨ x = 1 ∨ x = 2 ∨ x = 3 ∨ x = 4 by omega) with h | h | h | h | h <;> (subst h; rfl)
  · subst h
    refine ⟨fun x hx => ?_, rfl, rfl⟩
    rcases (show x = 0 ∨ x = 1 ∨ x = 2 ∨ x = 3 ∨ x = 4 by omega) with h | h | h | h | h <;> (subst h; rfl)
  · subst h
    refine ⟨fun x hx => ?_, rfl, rfl⟩
    rcases (show x = 0 ∨ x = 1 ∨ x = 2 ∨ x = 3 ∨ x = 4 by omega) with h | h | h | h | h <;> (subst h; rfl)
  · subst h
    refine ⟨fun x hx => ?_, rfl, rfl⟩
    rcases (show x = 0 ∨ x = 1 ∨ x = 2 ∨ x = 3 ∨ x = 4 by omega) with h | h | h | h | h <;> (subst h; rfl)
  · subst h
    refine ⟨fun x hx => ?_, rfl, rfl⟩
    rcases (show x = 0 ∨ x = 1 ∨ x = 2 ∨ x = 3 ∨ x = 4 by omega) with h | h | h | h | h <;> (subst h; rfl)
  · subst h
    refine ⟨fun x hx => ?_, rfl, rfl⟩
    rcases (show x = 0 ∨ x = 1 ∨ x = 2 ∨ x = 3 ∨ x = 4 by omega) with h | h | h | h | h <;> (subst h; rfl)
  · subst h
    refine ⟨fun x hx => ?_, rfl, rfl⟩
    rcases (show x = 0 ∨ x = 1 ∨ x = 2 ∨ x = 3 ∨ x = 4 by omega) with h | h | h | h | h <;> (subst h; rfl)
theorem rs_kp9 {U L : Int} (h : (L + 1) % 16 = 9) (m t s g c : Int) (pl he : Nat → Int) (gI : Nat → Int) (gF : Nat → Nat → Int) : ∃ pl1 he1, Ff_X1_keep U L gI m t s g c pl gF he = (fl_min (U + 1) 16, 9, fl_nI [gI 0, gI 1, gI 2, gI 3, gI 4, gI 5, gI 6, gI 7, gI 8, gI 9, gI 10, gI 11, gI 12, gI 13, gI 14, gI 15, gI 16, gI 17, gI 18, gI 19, gI 20, gI 21, gI 22, gI 23, gI 24, gI 25, gI 26, gI 27, gI 28, gI 29, gI 30, gI 31, gI 32, gI 33, gI 34, gI 35, gI 36, gI 37, gI 38, gI 39, gI 40, gI 41, gI 42, gI 43, gI 44, m, t, s, g, c, gI 50, gI 51, gI 52, gI 53, gI 54, gI 55, gI 56, gI 57, gI 58, gI 59, gI 60, gI 61, gI 62, gI 63, gI 64, gI 65, gI 66, gI 67, gI 68, gI 69, gI 70, gI 71, gI 72, gI 73, gI 74, gI 75, gI 76, gI 77, gI 78, gI 79], fl_nF [gF 0, gF 1, gF 2, gF 3, gF 4, gF 5, gF 6, gF 7, gF 8, gF 9, gF 10, gF 11, gF 12, gF 13, gF 14, gF 15, gF 16, gF 17, pl1, he1, gF 20, gF 21, gF 22, gF 23, gF 24, gF 25, gF 26, gF 27, gF 28, gF 29, gF 30, gF 31]) ∧ ∀ k : Nat, k < 9 → pl1 k = pl k ∧ he1 k = he k := by
  obtain ⟨pl1, he1, e, q⟩ := rs_cp m t s g c pl (gF 18) he (gF 19)
  refine ⟨pl1, he1, ?_, q⟩
  unfold Ff_X1_keep
  rw [fl_lt_eq rfl, fl_lt_eq h.symm]
  rw [if_neg (by decide)]
  rw [if_neg (by decide)]
  rw [if_neg (by decide)]
  rw [if_neg (by decide)]
  rw [if_neg (by decide)]
  rw [if_neg (by decide)]
  rw [if_neg (by decide)]
  rw [if_neg (by decide)]
  rw [if_neg (by decide)]
  rw [if_pos rfl]
  rw [e, fl_c7_eq rfl]
  rfl
theorem rs_ks9 (m t s g c : Int) (pl he : Nat → Int) (gI : Nat → Int) (gF : Nat → Nat → Int) (pl1 he1 : Nat → Int) (hq : ∀ k : Nat, k < 9 → pl1 k = pl k ∧ he1 k = he k) : rs_P (fl_nI [gI 0, gI 1, gI 2, gI 3, gI 4, gI 5, gI 6, gI 7, gI 8, gI 9, gI 10, gI 11, gI 12, gI 13, gI 14, gI 15, gI 16, gI 17, gI 18, gI 19, gI 20, gI 21, gI 22, gI 23, gI 24, gI 25, gI 26, gI 27, gI 28, gI 29, gI 30, gI 31, gI 32, gI 33, gI 34, gI 35, gI 36, gI 37, gI 38, gI 39, gI 40, gI 41, gI 42, gI 43, gI 44, m, t, s, g, c, gI 50, gI 51, gI 52, gI 53, gI 54, gI 55, gI 56, gI 57, gI 58, gI 59, gI 60, gI 61, gI 62, gI 63, gI 64, gI 65, gI 66, gI 67, gI 68, gI 69, gI 70, gI 71, gI 72, gI 73, gI 74, gI 75, gI 76, gI 77, gI 78, gI 79]) (fl_nF [gF 0, gF 1, gF 2, gF 3, gF 4, gF 5, gF 6, gF 7, gF 8, gF 9, gF 10, gF 11, gF 12, gF 13, gF 14, gF 15, gF 16, gF 17, pl1, he1, gF 20, gF 21, gF 22, gF 23, gF 24, gF 25, gF 26, gF 27, gF 28, gF 29, gF 30, gF 31]) 9 m t s g c pl he ∧ ∀ j : Nat, j < 16 → j ≠ 9 → (∀ x : Nat, x < 5 → (fl_nI [gI 0, gI 1, gI 2, gI 3, gI 4, gI 5, gI 6, gI 7, gI 8, gI 9, gI 10, gI 11, gI 12, gI 13, gI 14, gI 15, gI 16, gI 17, gI 18, gI 19, gI 20, gI 21, gI 22, gI 23, gI 24, gI 25, gI 26, gI 27, gI 28, gI 29, gI 30, gI 31, gI 32, gI 33, gI 34, gI 35, gI 36, gI 37, gI 38, gI 39, gI 40, gI 41, gI 42, gI 43, gI 44, m, t, s, g, c, gI 50, gI 51, gI 52, gI 53, gI 54, gI 55, gI 56, gI 57, gI 58, gI 59, gI 60, gI 61, gI 62, gI 63, gI 64, gI 65, gI 66, gI 67, gI 68, gI 69, gI 70, gI 71, gI 72, gI 73, gI 74, gI 75, gI 76, gI 77, gI 78, gI 79]) (5 * j + x) = gI (5 * j + x)) ∧ (fl_nF [gF 0, gF 1, gF 2, gF 3, gF 4, gF 5, gF 6, gF 7, gF 8, gF 9, gF 10, gF 11, gF 12, gF 13, gF 14, gF 15, gF 16, gF 17, pl1, he1, gF 20, gF 21, gF 22, gF 23, gF 24, gF 25, gF 26, gF 27, gF 28, gF 29, gF 30, gF 31]) (2 * j) = gF (2 * j) ∧ (fl_nF [gF 0, gF 1, gF 2, gF 3, gF 4, gF 5, gF 6, gF 7, gF 8, gF 9, gF 10, gF 11, gF 12, gF 13, gF 14, gF 15, gF 16, gF 17, pl1, he1, gF 20, gF 21, gF 22, gF 23, gF 24, gF 25, gF 26, gF 27, gF 28, gF 29, gF 30, gF 31]) (2 * j + 1) = gF (2 * j + 1) := by
  refine ⟨⟨rfl, rfl, rfl, rfl, rfl, hq⟩, fun j hj hn => ?_⟩
  rcases (show j = 0 ∨ j = 1 ∨ j = 2 ∨ j = 3 ∨ j = 4 ∨ j = 5 ∨ j = 6 ∨ j = 7 ∨ j = 8 ∨ j = 9 ∨ j = 10 ∨ j = 11 ∨ j = 12 ∨ j = 13 ∨ j = 14 ∨ j = 15 by omega) with h | h | h | h | h | h | h | h | h | h | h | h | h | h | h | h
  · subst h
    refine ⟨fun x hx => ?_, rfl, rfl⟩
    rcases (show x = 0 ∨ x = 1 ∨ x = 2 ∨ x = 3 ∨ x = 4 by omega) with h | h | h | h | h <;> (subst h; rfl)
  · subst h
    refine ⟨fun x hx => ?_, rfl, rfl⟩
    rcases (show x = 0 ∨ x = 1 ∨ x = 2 ∨ x = 3 ∨ x = 4 by omega) with h | h | h | h | h <;> (subst h; rfl)
  · subst h
    refine ⟨fun x hx => ?_, rfl, rfl⟩
    rcases (show x = 0 ∨ x = 1 ∨ x = 2 ∨ x = 3 ∨ x = 4 by omega) with h | h | h | h | h <;> (subst h; rfl)
  · subst h
    refine ⟨fun x hx => ?_, rfl, rfl⟩
    rcases (show x = 0 ∨ x = 1 ∨ x = 2 ∨ x = 3 ∨ x = 4 by omega) with h | h | h | h | h <;> (subst h; rfl)
  · subst h
    refine ⟨fun x hx => ?_, rfl, rfl⟩
    rcases (show x = 0 ∨ x = 1 ∨ x = 2 ∨ x = 3 ∨ x = 4 by omega) with h | h | h | h | h <;> (subst h; rfl)
  · subst h
    refine ⟨fun x hx => ?_, rfl, rfl⟩
    rcases (show x = 0 ∨ x = 1 ∨ x = 2 ∨ x = 3 ∨ x = 4 by omega) with h | h | h | h | h <;> (subst h; rfl)
  · subst h
    refine ⟨fun x hx => ?_, rfl, rfl⟩
    rcases (show x = 0 ∨ x = 1 ∨ x = 2 ∨ x = 3 ∨ x = 4 by omega) with h | h | h | h | h <;> (subst h; rfl)
  · subst h
    refine ⟨fun x hx => ?_, rfl, rfl⟩
    rcases (show x = 0 ∨ x = 1 ∨ x = 2 ∨ x = 3 ∨ x = 4 by omega) with h | h | h | h | h <;> (subst h; rfl)
  · subst h
    refine ⟨fun x hx => ?_, rfl, rfl⟩
    rcases (show x = 0 ∨ x = 1 ∨ x = 2 ∨ x = 3 ∨ x = 4 by omega) with h | h | h | h | h <;> (subst h; rfl)
  · exact absurd h hn
  · subst h
    refine ⟨fun x hx => ?_, rfl, rfl⟩
    rcases (show x = 0 ∨ x = 1 ∨ x = 2 ∨ x = 3 ∨ x = 4 by omega) with h | h | h | h | h <;> (subst h; rfl)
  · subst h
    refine ⟨fun x hx => ?_, rfl, rfl⟩
    rcases (show x = 0 ∨ x = 1 ∨ x = 2 ∨ x = 3 ∨ x = 4 by omega) with h | h | h | h | h <;> (subst h; rfl)
  · subst h
    refine ⟨fun x hx => ?_, rfl, rfl⟩
    rcases (show x = 0 ∨ x = 1 ∨ x = 2 ∨ x = 3 ∨ x = 4 by omega) with h | h | h | h | h <;> (subst h; rfl)
  · subst h
    refine ⟨fun x hx => ?_, rfl, rfl⟩
    rcases (show x = 0 ∨ x = 1 ∨ x = 2 ∨ x = 3 ∨ x = 4 by omega) with h | h | h | h | h <;> (subst h; rfl)
  · subst h
    refine ⟨fun x hx => ?_, rfl, rfl⟩
    rcases (show x = 0 ∨ x = 1 ∨ x = 2 ∨ x = 3 ∨ x = 4 by omega) with h | h | h | h | h <;> (subst h; rfl)
  · subst h
    refine ⟨fun x hx => ?_, rfl, rfl⟩
    rcases (show x = 0 ∨ x = 1 ∨ x = 2 ∨ x = 3 ∨ x = 4 by omega) with h | h | h | h | h <;> (subst h; rfl)
theorem rs_kp10 {U L : Int} (h : (L + 1) % 16 = 10) (m t s g c : Int) (pl he : Nat → Int) (gI : Nat → Int) (gF : Nat → Nat → Int) : ∃ pl1 he1, Ff_X1_keep U L gI m t s g c pl gF he = (fl_min (U + 1) 16, 10, fl_nI [gI 0, gI 1, gI 2, gI 3, gI 4, gI 5, gI 6, gI 7, gI 8, gI 9, gI 10, gI 11, gI 12, gI 13, gI 14, gI 15, gI 16, gI 17, gI 18, gI 19, gI 20, gI 21, gI 22, gI 23, gI 24, gI 25, gI 26, gI 27, gI 28, gI 29, gI 30, gI 31, gI 32, gI 33, gI 34, gI 35, gI 36, gI 37, gI 38, gI 39, gI 40, gI 41, gI 42, gI 43, gI 44, gI 45, gI 46, gI 47, gI 48, gI 49, m, t, s, g, c, gI 55, gI 56, gI 57, gI 58, gI 59, gI 60, gI 61, gI 62, gI 63, gI 64, gI 65, gI 66, gI 67, gI 68, gI 69, gI 70, gI 71, gI 72, gI 73, gI 74, gI 75, gI 76, gI 77, gI 78, gI 79], fl_nF [gF 0, gF 1, gF 2, gF 3, gF 4, gF 5, gF 6, gF 7, gF 8, gF 9, gF 10, gF 11, gF 12, gF 13, gF 14, gF 15, gF 16, gF 17, gF 18, gF 19, pl1, he1, gF 22, gF 23, gF 24, gF 25, gF 26, gF 27, gF 28, gF 29, gF 30, gF 31]) ∧ ∀ k : Nat, k < 9 → pl1 k = pl k ∧ he1 k = he k := by
  obtain ⟨pl1, he1, e, q⟩ := rs_cp m t s g c pl (gF 20) he (gF 21)
  refine ⟨pl1, he1, ?_, q⟩
  unfold Ff_X1_keep
  rw [fl_lt_eq rfl, fl_lt_eq h.symm]
  rw [if_neg (by decide)]
  rw [if_neg (by decide)]
  rw [if_neg (by decide)]
  rw [if_neg (by decide)]
  rw [if_neg (by decide)]
  rw [if_neg (by decide)]
  rw [if_neg (by decide)]
  rw [if_neg (by decide)]
  rw [if_neg (by decide)]
  rw [if_neg (by decide)]
  rw [if_pos rfl]
  rw [e, fl_c7_eq rfl]
  rfl
theorem rs_ks10 (m t s g c : Int) (pl he : Nat → Int) (gI : Nat → Int) (gF : Nat → Nat → Int) (pl1 he1 : Nat → Int) (hq : ∀ k : Nat, k < 9 → pl1 k = pl k ∧ he1 k = he k) : rs_P (fl_nI [gI 0, gI 1, gI 2, gI 3, gI 4, gI 5, gI 6, gI 7, gI 8, gI 9, gI 10, gI 11, gI 12, gI 13, gI 14, gI 15, gI 16, gI 17, gI 18, gI 19, gI 20, gI 21, gI 22, gI 23, gI 24, gI 25, gI 26, gI 27, gI 28, gI 29, gI 30, gI 31, gI 32, gI 33, gI 34, gI 35, gI 36, gI 37, gI 38, gI 39, gI 40, gI 41, gI 42, gI 43, gI 44, gI 45, gI 46, gI 47, gI 48, gI 49, m, t, s, g, c, gI 55, gI 56, gI 57, gI 58, gI 59, gI 60, gI 61, gI 62, gI 63, gI 64, gI 65, gI 66, gI 67, gI 68, gI 69, gI 70, gI 71, gI 72, gI 73, gI 74, gI 75, gI 76, gI 77, gI 78, gI 79]) (fl_nF [gF 0, gF 1, gF 2, gF 3, gF 4, gF 5, gF 6, gF 7, gF 8, gF 9, gF 10, gF 11, gF 12, gF 13, gF 14, gF 15, gF 16, gF 17, gF 18, gF 19, pl1, he1, gF 22, gF 23, gF 24, gF 25, gF 26, gF 27, gF 28, gF 29, gF 30, gF 31]) 10 m t s g c pl he ∧ ∀ j : Nat, j < 16 → j ≠ 10 → (∀ x : Nat, x < 5 → (fl_nI [gI 0, gI 1, gI 2, gI 3, gI 4, gI 5, gI 6, gI 7, gI 8, gI 9, gI 10, gI 11, gI 12, gI 13, gI 14, gI 15, gI 16, gI 17, gI 18, gI 19, gI 20, gI 21, gI 22, gI 23, gI 24, gI 25, gI 26, gI 27, gI 28, gI 29, gI 30, gI 31, gI 32, gI 33, gI 34, gI 35, gI 36, gI 37, gI 38, gI 39, gI 40, gI 41, gI 42, gI 43, gI 44, gI 45, gI 46, gI 47, gI 48, gI 49, m, t, s, g, c, gI 55, gI 56, gI 57, gI 58, gI 59, gI 60, gI 61, gI 62, gI 63, gI 64, gI 65, gI 66, gI 67, gI 68, gI 69, gI 70, gI 71, gI 72, gI 73, gI 74, gI 75, gI 76, gI 77, gI 78, gI 79]) (5 * j + x) = gI (5 * j + x)) ∧ (fl_nF [gF 0, gF 1, gF 2, gF 3, gF 4, gF 5, gF 6, gF 7, gF 8, gF 9, gF 10, gF 11, gF 12, gF 13, gF 14, gF 15, gF 16, gF 17, gF 18, gF 19, pl1, he1, gF 22, gF 23, gF 24, gF 25, gF 26, gF 27, gF 28, gF 29, gF 30, gF 31]) (2 * j) = gF (2 * j) ∧ (fl_nF [gF 0, gF 1, gF 2, gF 3, gF 4, gF 5, gF 6, gF 7, gF 8, gF 9, gF 10, gF 11, gF 12, gF 13, gF 14, gF 15, gF 16, gF 17, gF 18, gF 19, pl1, he1, gF 22, gF 23, gF 24, gF 25, gF 26, gF 27, gF 28, gF 29, gF 30, gF 31]) (2 * j + 1) = gF (2 * j + 1) := by
  refine ⟨⟨rfl, rfl, rfl, rfl, rfl, hq⟩, fun j hj hn => ?_⟩
  rcases (show j = 0 ∨ j = 1 ∨ j = 2 ∨ j = 3 ∨ j = 4 ∨ j = 5 ∨ j = 6 ∨ j = 7 ∨ j = 8 ∨ j = 9 ∨ j = 10 ∨ j = 11 ∨ j = 12 ∨ j = 13 ∨ j = 14 ∨ j = 15 by omega) with h | h | h | h | h | h | h | h | h | h | h | h | h | h | h | h
  · subst h
    refine ⟨fun x hx => ?_, rfl, rfl⟩
    rcases (show x = 0 ∨ x = 1 ∨ x = 2 ∨ x = 3 ∨ x = 4 by omega) with h | h | h | h | h <;> (subst h; rfl)
  · subst h
    refine ⟨fun x hx => ?_, rfl, rfl⟩
    rcases (show x = 0 ∨ x = 1 ∨ x = 2 ∨ x = 3 ∨ x = 4 by omega) with h | h | h | h | h <;> (subst h; rfl)
  · subst h
    refine ⟨fun x hx => ?_, rfl, rfl⟩
    rcases (show x = 0 ∨ x = 1 ∨ x = 2 ∨ x = 3 ∨ x = 4 by omega) with h | h | h | h | h <;> (subst h; rfl)
  · subst h
    refine ⟨fun x hx => ?_, rfl, rfl⟩
    rcases (show x = 0 ∨ x = 1 ∨ x = 2 ∨ x = 3 ∨ x = 4 by omega) with h | h | h | h | h <;> (subst h; rfl)
  · subst h
    refine ⟨fun x hx => ?_, rfl, rfl⟩
    rcases (show x = 0 ∨ x = 1 ∨ x = 2 ∨ x = 3 ∨ x = 4 by omega) with h | h | h | h | h <;> (subst h; rfl)
  · subst h
    refine ⟨fun x hx => ?_, rfl, rfl⟩
    rcases (show x = 0 ∨ x = 1 ∨ x = 2 ∨ x = 3 ∨ x = 4 by omega) with h | h | h | h | h <;> (subst h; rfl)
  · subst h
    refine ⟨fun x hx => ?_, rfl, rfl⟩
    rcases (show x = 0 ∨ x = 1 ∨ x = 2 ∨ x = 3 ∨ x = 4 by omega) with h | h | h | h | h <;> (subst h; rfl)
  · subst h
    refine ⟨fun x hx => ?_, rfl, rfl⟩
    rcases (show x = 0 ∨ x = 1 ∨ x = 2 ∨ x = 3 ∨ x = 4 by omega) with h | h | h | h | h <;> (subst h; rfl)
  · subst h
    refine ⟨fun x hx => ?_, rfl, rfl⟩
    rcases (show x = 0 ∨ x = 1 ∨ x = 2 ∨ x = 3 ∨ x = 4 by omega) with h | h | h | h | h <;> (subst h; rfl)
  · subst h
    refine ⟨fun x hx => ?_, rfl, rfl⟩
    rcases (show x = 0 ∨ x = 1 ∨ x = 2 ∨ x = 3 ∨ x = 4 by omega) with h | h | h | h | h <;> (subst h; rfl)
  · exact absurd h hn
  · subst h
    refine ⟨fun x hx => ?_, rfl, rfl⟩
    rcases (show x = 0 ∨ x = 1 ∨ x = 2 ∨ x = 3 ∨ x = 4 by omega) with h | h | h | h | h <;> (subst h; rfl)
  · subst h
    refine ⟨fun x hx => ?_, rfl, rfl⟩
    rcases (show x = 0 ∨ x = 1 ∨ x = 2 ∨ x = 3 ∨ x = 4 by omega) with h | h | h | h | h <;> (subst h; rfl)
  · subst h
    refine ⟨fun x hx => ?_, rfl, rfl⟩
    rcases (show x = 0 ∨ x = 1 ∨ x = 2 ∨ x = 3 ∨ x = 4 by omega) with h | h | h | h | h <;> (subst h; rfl)
  · subst h
    refine ⟨fun x hx => ?_, rfl, rfl⟩
    rcases (show x = 0 ∨ x = 1 ∨ x = 2 ∨ x = 3 ∨ x = 4 by omega) with h | h | h | h | h <;> (subst h; rfl)
  · subst h
    refine ⟨fun x hx => ?_, rfl, rfl⟩
    rcases (show x = 0 ∨ x = 1 ∨ x = 2 ∨ x = 3 ∨ x = 4 by omega) with h | h | h | h | h <;> (subst h; rfl)
theorem rs_kp11 {U L : Int} (h : (L + 1) % 16 = 11) (m t s g c : Int) (pl he : Nat → Int) (gI : Nat → Int) (gF : Nat → Nat → Int) : ∃ pl1 he1, Ff_X1_keep U L gI m t s g c pl gF he = (fl_min (U + 1) 16, 11, fl_nI [gI 0, gI 1, gI 2, gI 3, gI 4, gI 5, gI 6, gI 7, gI 8, gI 9, gI 10, gI 11, gI 12, gI 13, gI 14, gI 15, gI 16, gI 17, gI 18, gI 19, gI 20, gI 21, gI 22, gI 23, gI 24, gI 25, gI 26, gI 27, gI 28, gI 29, gI 30, gI 31, gI 32, gI 33, gI 34, gI 35, gI 36, gI 37, gI 38, gI 39, gI 40, gI 41, gI 42, gI 43, gI 44, gI 45, gI 46, gI 47, gI 48, gI 49, gI 50, gI 51, gI 52, gI 53, gI 54, m, t, s, g, c, gI 60, gI 61, gI 62, gI 63, gI 64, gI 65, gI 66, gI 67, gI 68, gI 69, gI 70, gI 71, gI 72, gI 73, gI 74, gI 75, gI 76, gI 77, gI 78, gI 79], fl_nF [gF 0, gF 1, gF 2, gF 3, gF 4, gF 5, gF 6, gF 7, gF 8, gF 9, gF 10, gF 11, gF 12, gF 13, gF 14, gF 15, gF 16, gF 17, gF 18, gF 19, gF 20, gF 21, pl1, he1, gF 24, gF 25, gF 26, gF 27, gF 28, gF 29, gF 30, gF 31]) ∧ ∀ k : Nat, k < 9 → pl1 k = pl k ∧ he1 k = he k := by
  obtain ⟨pl1, he1, e, q⟩ := rs_cp m t s g c pl (gF 22) he (gF 23)
  refine ⟨pl1, he1, ?_, q⟩
  unfold Ff_X1_keep
  rw [fl_lt_eq rfl, fl_lt_eq h.symm]
  rw [if_neg (by decide)]
  rw [if_neg (by decide)]
  rw [if_neg (by decide)]
  rw [if_neg (by decide)]
  rw [if_neg (by decide)]
  rw [if_neg (by decide)]
  rw [if_neg (by decide)]
  rw [if_neg (by decide)]
  rw [if_neg (by decide)]
  rw [if_neg (by decide)]
  rw [if_neg (by decide)]
  rw [if_pos rfl]
  rw [e, fl_c7_eq rfl]
  rfl
theorem rs_ks11 (m t s g c : Int) (pl he : Nat → Int) (gI : Nat → Int) (gF : Nat → Nat → Int) (pl1 he1 : Nat → Int) (hq : ∀ k : Nat, k < 9 → pl1 k = pl k ∧ he1 k = he k) : rs_P (fl_nI [gI 0, gI 1, gI 2, gI 3, gI 4, gI 5, gI 6, gI 7, gI 8, gI 9, gI 10, gI 11, gI 12, gI 13, gI 14, gI 15, gI 16, gI 17, gI 18, gI 19, gI 20, gI 21, gI 22, gI 23, gI 24, gI 25, gI 26, gI 27, gI 28, gI 29, gI 30, gI 31, gI 32, gI 33, gI 34, gI 35, gI 36, gI 37, gI 38, gI 39, gI 40, gI 41, gI 42, gI 43, gI 44, gI 45, gI 46, gI 47, gI 48, gI 49, gI 50, gI 51, gI 52, gI 53, gI 54, m, t, s, g, c, gI 60, gI 61, gI 62, gI 63, gI 64, gI 65, gI 66, gI 67, gI 68, gI 69, gI 70, gI 71, gI 72, gI 73, gI 74, gI 75, gI 76, gI 77, gI 78, gI 79]) (fl_nF [gF 0, gF 1, gF 2, gF 3, gF 4, gF 5, gF 6, gF 7, gF 8, gF 9, gF 10, gF 11, gF 12, gF 13, gF 14, gF 15, gF 16, gF 17, gF 18, gF 19, gF 20, gF 21, pl1, he1, gF 24, gF 25, gF 26, gF 27, gF 28, gF 29, gF 30, gF 31]) 11 m t s g c pl he ∧ ∀ j : Nat, j < 16 → j ≠ 11 → (∀ x : Nat, x < 5 → (fl_nI [gI 0, gI 1, gI 2, gI 3, gI 4, gI 5, gI 6, gI 7, gI 8, gI 9, gI 10, gI 11, gI 12, gI 13, gI 14, gI 15, gI 16, gI 17, gI 18, gI 19, gI 20, gI 21, gI 22, gI 23, gI 24, gI 25, gI 26, gI 27, gI 28, gI 29, gI 30, gI 31, gI 32, gI 33, gI 34, gI 35, gI 36, gI 37, gI 38, gI 39, gI 40, gI 41, gI 42, gI 43, gI 44, gI 45, gI 46, gI 47, gI 48, gI 49, gI 50, gI 51, gI 52, gI 53, gI 54, m, t, s, g, c, gI 60, gI 61, gI 62, gI 63, gI 64, gI 65, gI 66, gI 67, gI 68, gI 69, gI 70, gI 71, gI 72, gI 73, gI 74, gI 75, gI 76, gI 77, gI 78, gI 79]) (5 * j + x) = gI (5 * j + x)) ∧ (fl_nF [gF 0, gF 1, gF 2, gF 3, gF 4, gF 5, gF 6, gF 7, gF 8, gF 9, gF 10, gF 11, gF 12, gF 13, gF 14, gF 15, gF 16, gF 17, gF 18, gF 19, gF 20, gF 21, pl1, he1, gF 24, gF 25, gF 26, gF 27, gF 28, gF 29, gF 30, gF 31]) (2 * j) = gF (2 * j) ∧ (fl_nF [gF 0, gF 1, gF 2, gF 3, gF 4, gF 5, gF 6, gF 7, gF 8, gF 9, gF 10, gF 11, gF 12, gF 13, gF 14, gF 15, gF 16, gF 17, gF 18, gF 19, gF 20, gF 21, pl1, he1, gF 24, gF 25, gF 26, gF 27, gF 28, gF 29, gF 30, gF 31]) (2 * j + 1) = gF (2 * j + 1) := by
  refine ⟨⟨rfl, rfl, rfl, rfl, rfl, hq⟩, fun j hj hn => ?_⟩
  rcases (show j = 0 ∨ j = 1 ∨ j = 2 ∨ j = 3 ∨ j = 4 ∨ j = 5 ∨ j = 6 ∨ j = 7 ∨ j = 8 ∨ j = 9 ∨ j = 10 ∨ j = 11 ∨ j = 12 ∨ j = 13 ∨ j = 14 ∨ j = 15 by omega) with h | h | h | h | h | h | h | h | h | h | h | h | h | h | h | h
  · subst h
    refine ⟨fun x hx => ?_, rfl, rfl⟩
    rcases (show x = 0 ∨ x = 1 ∨ x = 2 ∨ x = 3 ∨ x = 4 by omega) with h | h | h | h | h <;> (subst h; rfl)
  · subst h
    refine ⟨fun x hx => ?_, rfl, rfl⟩
    rcases (show x = 0 ∨ x = 1 ∨ x = 2 ∨ x = 3 ∨ x = 4 by omega) with h | h | h | h | h <;> (subst h; rfl)
  · subst h
    refine ⟨fun x hx => ?_, rfl, rfl⟩
    rcases (show x = 0 ∨ x = 1 ∨ x = 2 ∨ x = 3 ∨ x = 4 by omega) with h | h | h | h | h <;> (subst h; rfl)
  · subst h
    refine ⟨fun x hx => ?_, rfl, rfl⟩
    rcases (show x = 0 ∨ x = 1 ∨ x = 2 ∨ x = 3 ∨ x = 4 by omega) with h | h | h | h | h <;> (subst h; rfl)
  · subst h
    refine ⟨fun x hx => ?_, rfl, rfl⟩
    rcases (show x = 0 ∨ x = 1 ∨ x = 2 ∨ x = 3 ∨ x = 4 by omega) with h | h | h | h | h <;> (subst h; rfl)
  · subst h
    refine ⟨fun x hx => ?_, rfl, rfl⟩
    rcases (show x = 0 ∨ x = 1 ∨ x = 2 ∨ x = 3 ∨ x = 4 by omega) with h | h | h | h | h <;> (subst h; rfl)
  · subst h
    refine ⟨fun x hx => ?_, rfl, rfl⟩
    rcases (show x = 0 ∨ x = 1 ∨ x = 2 ∨ x = 3 ∨ x = 4 by omega) with h | h | h | h | h <;> (subst h; rfl)
  · subst h
    refine ⟨fun x hx => ?_, rfl, rfl⟩
    rcases (show x = 0 ∨ x = 1 ∨ x = 2 ∨ x = 3 ∨ x = 4 by omega) with h | h | h | h | h <;> (subst h; rfl)
  · subst h
    refine ⟨fun x hx => ?_, rfl, rfl⟩
    rcases (show x = 0 ∨ x = 1 ∨ x = 2 ∨ x = 3 ∨ x = 4 by omega) with h | h | h | h | h <;> (subst h; rfl)
  · subst h
    refine ⟨fun x hx => ?_, rfl, rfl⟩
    rcases (show x = 0 ∨ x = 1 ∨ x = 2 ∨ x = 3 ∨ x = 4 by omega) with h | h | h | h | h <;> (subst h; rfl)
  · subst h
    refine ⟨fun x hx => ?_, rfl, rfl⟩
    rcases (show x = 0 ∨ x = 1 ∨ x = 2 ∨ x = 3 ∨ x = 4 by omega) with h | h | h | h | h <;> (subst h; rfl)
  · exact absurd h hn
  · subst h
    refine ⟨fun x hx => ?_, rfl, rfl⟩
    rcases (show x = 0 ∨ x = 1 ∨ x = 2 ∨ x = 3 ∨ x = 4 by omega) with h | h | h | h | h <;> (subst h; rfl)
  · subst h
    refine ⟨fun x hx => ?_, rfl, rfl⟩
    rcases (show x = 0 ∨ x = 1 ∨ x = 2 ∨ x = 3 ∨ x = 4 by omega) with h | h | h | h | h <;> (subst h; rfl)
  · subst h
    refine ⟨fun x hx => ?_, rfl, rfl⟩
    rcases (show x = 0 ∨ x = 1 ∨ x = 2 ∨ x = 3 ∨ x = 4 by omega) with h | h | h | h | h <;> (subst h; rfl)
  · subst h
    refine ⟨fun x hx => ?_, rfl, rfl⟩
    rcases (show x = 0 ∨ x = 1 ∨ x = 2 ∨ x = 3 ∨ x = 4 by omega) with h | h | h | h | h <;> (subst h; rfl)
theorem rs_kp12 {U L : Int} (h : (L + 1) % 16 = 12) (m t s g c : Int) (pl he : Nat → Int) (gI : Nat → Int) (gF : Nat → Nat → Int) : ∃ pl1 he1, Ff_X1_keep U L gI m t s g c pl gF he = (fl_min (U + 1) 16, 12, fl_nI [gI 0, gI 1, gI 2, gI 3, gI 4, gI 5, gI 6, gI 7, gI 8, gI 9, gI 10, gI 11, gI 12, gI 13, gI 14, gI 15, gI 16, gI 17, gI 18, gI 19, gI 20, gI 21, gI 22, gI 23, gI 24, gI 25, gI 26, gI 27, gI 28, gI 29, gI 30, gI 31, gI 32, gI 33, gI 34, gI 35, gI 36, gI 37, gI 38, gI 39, gI 40, gI 41, gI 42, gI 43, gI 44, gI 45, gI 46, gI 47, gI 48, gI 49, gI 50, gI 51, gI 52, gI 53, gI 54, gI 55, gI 56, gI 57, gI 58, gI 59, m, t, s, g, c, gI 65, gI 66, gI 67, gI 68, gI 69, gI 70, gI 71, gI 72, gI 73, gI 74, gI 75, gI 76, gI 77, gI 78, gI 79], fl_nF [gF 0, gF 1, gF 2, gF 3, gF 4, gF 5, gF 6, gF 7, gF 8, gF 9, gF 10, gF 11, gF 12, gF 13, gF 14, gF 15, gF 16, gF 17, gF 18, gF 19, gF 20, gF 21, gF 22, gF 23, pl1, he1, gF 26, gF 27, gF 28, gF 29, gF 30, gF 31]) ∧ ∀ k : Nat, k < 9 → pl1 k = pl k ∧ he1 k = he k := by
  obtain ⟨pl1, he1, e, q⟩ := rs_cp m t s g c pl (gF 24) he (gF 25)
  refine ⟨pl1, he1, ?_, q⟩
  unfold Ff_X1_keep
  rw [fl_lt_eq rfl, fl_lt_eq h.symm]
  rw [if_neg (by decide)]
  rw [if_neg (by decide)]
  rw [if_neg (by decide)]
  rw [if_neg (by decide)]
  rw [if_neg (by decide)]
  rw [if_neg (by decide)]
  rw [if_neg (by decide)]
  rw [if_neg (by decide)]
  rw [if_neg (by decide)]
  rw [if_neg (by decide)]
  rw [if_neg (by decide)]
  rw [if_neg (by decide)]
  rw [if_pos rfl]
  rw [e, fl_c7_eq rfl]
  rfl
theorem rs_ks12 (m t s g c : Int) (pl he : Nat → Int) (gI : Nat → Int) (gF : Nat → Nat → Int) (pl1 he1 : Nat → Int) (hq : ∀ k : Nat, k < 9 → pl1 k = pl k ∧ he1 k = he k) : rs_P (fl_nI [gI 0, gI 1, gI 2, gI 3, gI 4, gI 5, gI 6, gI 7, gI 8, gI 9, gI 10, gI 11, gI 12, gI 13, gI 14, gI 15, gI 16, gI 17, gI 18, gI 19, gI 20, gI 21, gI 22, gI 23, gI 24, gI 25, gI 26, gI 27, gI 28, gI 29, gI 30, gI 31, gI 32, gI 33, gI 34, gI 35, gI 36, gI 37, gI 38, gI 39, gI 40, gI 41, gI 42, gI 43, gI 44, gI 45, gI 46, gI 47, gI 48, gI 49, gI 50, gI 51, gI 52, gI 53, gI 54, gI 55, gI 56, gI 57, gI 58, gI 59, m, t, s, g, c, gI 65, gI 66, gI 67, gI 68, gI 69, gI 70, gI 71, gI 72, gI 73, gI 74, gI 75, gI 76, gI 77, gI 78, gI 79]) (fl_nF [gF 0, gF 1, gF 2, gF 3, gF 4, gF 5, gF 6, gF 7, gF 8, gF 9, gF 10, gF 11, gF 12, gF 13, gF 14, gF 15, gF 16, gF 17, gF 18, gF 19, gF 20, gF 21, gF 22, gF 23, pl1, he1, gF 26, gF 27, gF 28, gF 29, gF 30, gF 31]) 12 m t s g c pl he ∧ ∀ j : Nat, j < 16 → j ≠ 12 → (∀ x : Nat, x < 5 → (fl_nI [gI 0, gI 1, gI 2, gI 3, gI 4, gI 5, gI 6, gI 7, gI 8, gI 9, gI 10, gI 11, gI 12, gI 13, gI 14, gI 15, gI 16, gI 17, gI 18, gI 19, gI 20, gI 21, gI 22, gI 23, gI 24, gI 25, gI 26, gI 27, gI 28, gI 29, gI 30, gI 31, gI 32, gI 33, gI 34, gI 35, gI 36, gI 37, gI 38, gI 39, gI 40, gI 41, gI 42, gI 43, gI 44, gI 45, gI 46, gI 47, gI 48, gI 49, gI 50, gI 51, gI 52, gI 53, gI 54, gI 55, gI 56, gI 57, gI 58, gI 59, m, t, s, g, c, gI 65, gI 66, gI 67, gI 68, gI 69, gI 70, gI 71, gI 72, gI 73, gI 74, gI 75, gI 76, gI 77, gI 78, gI 79]) (5 * j + x) = gI (5 * j + x)) ∧ (fl_nF [gF 0, gF 1, gF 2, gF 3, gF 4, gF 5, gF 6, gF 7, gF 8, gF 9, gF 10, gF 11, gF 12, gF 13, gF 14, gF 15, gF 16, gF 17, gF 18, gF 19, gF 20, gF 21, gF 22, gF 23, pl1, he1, gF 26, gF 27, gF 28, gF 29, gF 30, gF 31]) (2 * j) = gF (2 * j) ∧ (fl_nF [gF 0, gF 1, gF 2, gF 3, gF 4, gF 5, gF 6, gF 7, gF 8, gF 9, gF 10, gF 11, gF 12, gF 13, gF 14, gF 15, gF 16, gF 17, gF 18, gF 19, gF 20, gF 21, gF 22, gF 23, pl1, he1, gF 26, gF 27, gF 28, gF 29, gF 30, gF 31]) (2 * j + 1) = gF (2 * j + 1) := by
  refine ⟨⟨rfl, rfl, rfl, rfl, rfl, hq⟩, fun j hj hn => ?_⟩
  rcases (show j = 0 ∨ j = 1 ∨ j = 2 ∨ j = 3 ∨ j = 4 ∨ j = 5 ∨ j = 6 ∨ j = 7 ∨ j = 8 ∨ j = 9 ∨ j = 10 ∨ j = 11 ∨ j = 12 ∨ j = 13 ∨ j = 14 ∨ j = 15 by omega) with h | h | h | h | h | h | h | h | h | h | h | h | h | h | h | h
  · subst h
    refine ⟨fun x hx => ?_, rfl, rfl⟩
    rcases (show x = 0 ∨ x = 1 ∨ x = 2 ∨ x = 3 ∨ x = 4 by omega) with h | h | h | h | h <;> (subst h; rfl)
  · subst h
    refine ⟨fun x hx => ?_, rfl, rfl⟩
    rcases (show x = 0 ∨ x = 1 ∨ x = 2 ∨ x = 3 ∨ x = 4 by omega) with h | h | h | h | h <;> (subst h; rfl)
  · subst h
    refine ⟨fun x hx => ?_, rfl, rfl⟩
    rcases (show x = 0 ∨ x = 1 ∨ x = 2 ∨ x = 3 ∨ x = 4 by omega) with h | h | h | h | h <;> (subst h; rfl)
  · subst h
    refine ⟨fun x hx => ?_, rfl, rfl⟩
    rcases (show x = 0 ∨ x = 1 ∨ x = 2 ∨ x = 3 ∨ x = 4 by omega) with h | h | h | h | h <;> (subst h; rfl)
  · subst h
    refine ⟨fun x hx => ?_, rfl, rfl⟩
    rcases (show x = 0 ∨ x = 1 ∨ x = 2 ∨ x = 3 ∨ x = 4 by omega) with h | h | h | h | h <;> (subst h; rfl)
  · subst h
    refine ⟨fun x hx => ?_, rfl, rfl⟩
    rcases (show x = 0 ∨ x = 1 ∨ x = 2 ∨ x = 3 ∨ x = 4 by omega) with h | h | h | h | h <;> (subst h; rfl)
  · subst h
    refine ⟨fun x hx => ?_, rfl, rfl⟩
    rcases (show x = 0 ∨ x = 1 ∨ x = 2 ∨ x = 3 ∨ x = 4 by omega) with h | h | h | h | h <;> (subst h; rfl)
  · subst h
    refine ⟨fun x hx => ?_, rfl, rfl⟩
    rcases (show x = 0 ∨ x = 1 ∨ x = 2 ∨ x = 3 ∨ x = 4 by omega) with h | h | h | h | h <;> (subst h; rfl)
  · subst h
    refine ⟨fun x hx => ?_, rfl, rfl⟩
    rcases (show x = 0 ∨ x = 1 ∨ x = 2 ∨ x = 3 ∨ x = 4 by omega) with h | h | h | h | h <;> (subst h; rfl)
  · subst h
    refine ⟨fun x hx => ?_, rfl, rfl⟩
    rcases (show x = 0 ∨ x = 1 ∨ x = 2 ∨ x = 3 ∨ x = 4 by omega) with h | h | h | h | h <;> (subst h; rfl)
  · subst h
    refine ⟨fun x hx => ?_, rfl, rfl⟩
    rcases (show x = 0 ∨ x = 1 ∨ x = 2 ∨ x = 3 ∨ x = 4 by omega) with h | h | h | h | h <;> (subst h; rfl)
  · subst h
    refine ⟨fun x hx => ?_, rfl, rfl⟩
    rcases (show x = 0 ∨ x = 1 ∨ x = 2 ∨ x = 3 ∨ x = 4 by omega) with h | h | h | h | h <;> (subst h; rfl)
  · exact absurd h hn
  · subst h
    refine ⟨fun x hx => ?_, rfl, rfl⟩
    rcases (show x = 0 ∨ x = 1 ∨ x = 2 ∨ x = 3 ∨ x = 4 by omega) with h | h | h | h | h <;> (subst h; rfl)
  · subst h
    refine ⟨fun x hx => ?_, rfl, rfl⟩
    rcases (show x = 0 ∨ x = 1 ∨ x = 2 ∨ x = 3 ∨ x = 4 by omega) with h | h | h | h | h <;> (subst h; rfl)
  · subst h
    refine ⟨fun x hx => ?_, rfl, rfl⟩
    rcases (show x = 0 ∨ x = 1 ∨ x = 2 ∨ x = 3 ∨ x = 4 by omega) with h | h | h | h | h <;> (subst h; rfl)
theorem rs_kp13 {U L : Int} (h : (L + 1) % 16 = 13) (m t s g c : Int) (pl he : Nat → Int) (gI : Nat → Int) (gF : Nat → Nat → Int) : ∃ pl1 he1, Ff_X1_keep U L gI m t s g c pl gF he = (fl_min (U + 1) 16, 13, fl_nI [gI 0, gI 1, gI 2, gI 3, gI 4, gI 5, gI 6, gI 7, gI 8, gI 9, gI 10, gI 11, gI 12, gI 13, gI 14, gI 15, gI 16, gI 17, gI 18, gI 19, gI 20, gI 21, gI 22, gI 23, gI 24, gI 25, gI 26, gI 27, gI 28, gI 29, gI 30, gI 31, gI 32, gI 33, gI 34, gI 35, gI 36, gI 37, gI 38, gI 39, gI 40, gI 41, gI 42, gI 43, gI 44, gI 45, gI 46, gI 47, gI 48, gI 49, gI 50, gI 51, gI 52, gI 53, gI 54, gI 55, gI 56, gI 57, gI 58, gI 59, gI 60, gI 61, gI 62, gI 63, gI 64, m, t, s, g, c, gI 70, gI 71, gI 72, gI 73, gI 74, gI 75, gI 76, gI 77, gI 78, gI 79], fl_nF [gF 0, gF 1, gF 2, gF 3, gF 4, gF 5, gF 6, gF 7, gF 8, gF 9, gF 10, gF 11, gF 12, gF 13, gF 14, gF 15, gF 16, gF 17, gF 18, gF 19, gF 20, gF 21, gF 22, gF 23, gF 24, gF 25, pl1, he1, gF 28, gF 29, gF 30, gF 31]) ∧ ∀ k : Nat, k < 9 → pl1 k = pl k ∧ he1 k = he k := by
  obtain ⟨pl1, he1, e, q⟩ := rs_cp m t s g c pl (gF 26) he (gF 27)
  refine ⟨pl1, he1, ?_, q⟩
  unfold Ff_X1_keep
  rw [fl_lt_eq rfl, fl_lt_eq h.symm]
  rw [if_neg (by decide)]
  rw [if_neg (by decide)]
  rw [if_neg (by decide)]
  rw [if_neg (by decide)]
  rw [if_neg (by decide)]
  rw [if_neg (by decide)]
  rw [if_neg (by decide)]
  rw [if_neg (by decide)]
  rw [if_neg (by decide)]
  rw [if_neg (by decide)]
  rw [if_neg (by decide)]
  rw [if_neg (by decide)]
  rw [if_neg (by decide)]
  rw [if_pos rfl]
  rw [e, fl_c7_eq rfl]
  rfl
theorem rs_ks13 (m t s g c : Int) (pl he : Nat → Int) (gI : Nat → Int) (gF : Nat → Nat → Int) (pl1 he1 : Nat → Int) (hq : ∀ k : Nat, k < 9 → pl1 k = pl k ∧ he1 k = he k) : rs_P (fl_nI [gI 0, gI 1, gI 2, gI 3, gI 4, gI 5, gI 6, gI 7, gI 8, gI 9, gI 10, gI 11, gI 12, gI 13, gI 14, gI 15, gI 16, gI 17, gI 18, gI 19, gI 20, gI 21, gI 22, gI 23, gI 24, gI 25, gI 26, gI 27, gI 28, gI 29, gI 30, gI 31, gI 32, gI 33, gI 34, gI 35, gI 36, gI 37, gI 38, gI 39, gI 40, gI 41, gI 42, gI 43, gI 44, gI 45, gI 46, gI 47, gI 48, gI 49, gI 50, gI 51, gI 52, gI 53, gI 54, gI 55, gI 56, gI 57, gI 58, gI 59, gI 60, gI 61, gI 62, gI 63, gI 64, m, t, s, g, c, gI 70, gI 71, gI 72, gI 73, gI 74, gI 75, gI 76, gI 77, gI 78, gI 79]) (fl_nF [gF 0, gF 1, gF 2, gF 3, gF 4, gF 5, gF 6, gF 7, gF 8, gF 9, gF 10, gF 11, gF 12, gF 13, gF 14, gF 15, gF 16, gF 17, gF 18, gF 19, gF 20, gF 21, gF 22, gF 23, gF 24, gF 25, pl1, he1, gF 28, gF 29, gF 30, gF 31]) 13 m t s g c pl he ∧ ∀ j : Nat, j < 16 → j ≠ 13 → (∀ x : Nat, x < 5 → (fl_nI [gI 0, gI 1, gI 2, gI 3, gI 4, gI 5, gI 6, gI 7, gI 8, gI 9, gI 10, gI 11, gI 12, gI 13, gI 14, gI 15, gI 16, gI 17, gI 18, gI 19, gI 20, gI 21, gI 22, gI 23, gI 24, gI 25, gI 26, gI 27, gI 28, gI 29, gI 30, gI 31, gI 32, gI 33, gI 34, gI 35, gI 36, gI 37, gI 38, gI 39, gI 40, gI 41, gI 42, gI 43, gI 44, gI 45, gI 46, gI 47, gI 48, gI 49, gI 50, gI 51, gI 52, gI 53, gI 54, gI 55, gI 56, gI 57, gI 58, gI 59, gI 60, gI 61, gI 62, gI 63, gI 64, m, t, s, g, c, gI 70, gI 71, gI 72, gI 73, gI 74, gI 75, gI 76, gI 77, gI 78, gI 79]) (5 * j + x) = gI (5 * j + x)) ∧ (fl_nF [gF 0, gF 1, gF 2, gF 3, gF 4, gF 5, gF 6, gF 7, gF 8, gF 9, gF 10, gF 11, gF 12, gF 13, gF 14, gF 15, gF 16, gF 17, gF 18, gF 19, gF 20, gF 21, gF 22, gF 23, gF 24, gF 25, pl1, he1, gF 28, gF 29, gF 30, gF 31]) (2 * j) = gF (2 * j) ∧ (fl_nF [gF 0, gF 1, gF 2, gF 3, gF 4, gF 5, gF 6, gF 7, gF 8, gF 9, gF 10, gF 11, gF 12, gF 13, gF 14, gF 15, gF 16, gF 17, gF 18, gF 19, gF 20, gF 21, gF 22, gF 23, gF 24, gF 25, pl1, he1, gF 28, gF 29, gF 30, gF 31]) (2 * j + 1) = gF (2 * j + 1) := by
  refine ⟨⟨rfl, rfl, rfl, rfl, rfl, hq⟩, fun j hj hn => ?_⟩
  rcases (show j = 0 ∨ j = 1 ∨ j = 2 ∨ j = 3 ∨ j = 4 ∨ j = 5 ∨ j = 6 ∨ j = 7 ∨ j = 8 ∨ j = 9 ∨ j = 10 ∨ j = 11 ∨ j = 12 ∨ j = 13 ∨ j = 14 ∨ j = 15 by omega) with h | h | h | h | h | h | h | h | h | h | h | h | h | h | h | h
  · subst h
    refine ⟨fun x hx => ?_, rfl, rfl⟩
    rcases (show x = 0 ∨ x = 1 ∨ x = 2 ∨ x = 3 ∨ x = 4 by omega) with h | h | h | h | h <;> (subst h; rfl)
  · subst h
    refine ⟨fun x hx => ?_, rfl, rfl⟩
    rcases (show x = 0 ∨ x = 1 ∨ x = 2 ∨ x = 3 ∨ x = 4 by omega) with h | h | h | h | h <;> (subst h; rfl)
  · subst h
    refine ⟨fun x hx => ?_, rfl, rfl⟩
    rcases (show x = 0 ∨ x = 1 ∨ x = 2 ∨ x = 3 ∨ x = 4 by omega) with h | h | h | h | h <;> (subst h; rfl)
  · subst h
    refine ⟨fun x hx => ?_, rfl, rfl⟩
    rcases (show x = 0 ∨ x = 1 ∨ x = 2 ∨ x = 3 ∨ x = 4 by omega) with h | h | h | h | h <;> (subst h; rfl)
  · subst h
    refine ⟨fun x hx => ?_, rfl, rfl⟩
    rcases (show x = 0 ∨ x = 1 ∨ x = 2 ∨ x = 3 ∨ x = 4 by omega) with h | h | h | h | h <;> (subst h; rfl)
  · subst h
    refine ⟨fun x hx => ?_, rfl, rfl⟩
    rcases (show x = 0 ∨ x = 1 ∨ x = 2 ∨ x = 3 ∨ x = 4 by omega) with h | h | h | h | h <;> (subst h; rfl)
  · subst h
    refine ⟨fun x hx => ?_, rfl, rfl⟩
    rcases (show x = 0 ∨ x = 1 ∨ x = 2 ∨ x = 3 ∨ x = 4 by omega) with h | h | h | h | h <;> (subst h; rfl)
  · subst h
    refine ⟨fun x hx => ?_, rfl, rfl⟩
    rcases (show x = 0 ∨ x = 1 ∨ x = 2 ∨ x = 3 ∨ x = 4 by omega) with h | h | h | h | h <;> (subst h; rfl)
  · subst h
    refine ⟨fun x hx => ?_, rfl, rfl⟩
    rcases (show x = 0 ∨ x = 1 ∨ x = 2 ∨ x = 3 ∨ x = 4 by omega) with h | h | h | h | h <;> (subst h; rfl)
  · subst h
    refine ⟨fun x hx => ?_, rfl, rfl⟩
    rcases (show x = 0 ∨ x = 1 ∨ x = 2 ∨ x = 3 ∨ x = 4 by omega) with h | h | h | h | h <;> (subst h; rfl)
  · subst h
    refine ⟨fun x hx => ?_, rfl, rfl⟩
    rcases (show x = 0 ∨ x = 1 ∨ x = 2 ∨ x = 3 ∨ x = 4 by omega) with h | h | h | h | h <;> (subst h; rfl)
  · subst h
    refine ⟨fun x hx => ?_, rfl, rfl⟩
    rcases (show x = 0 ∨ x = 1 ∨ x = 2 ∨ x = 3 ∨ x = 4 by omega) with h | h | h | h | h <;> (subst h; rfl)
  · subst h
    refine ⟨fun x hx => ?_, rfl, rfl⟩
    rcases (show x = 0 ∨ x = 1 ∨ x = 2 ∨ x = 3 ∨ x = 4 by omega) with h | h | h | h | h <;> (subst h; rfl)
  · exact absurd h hn
  · subst h
    refine ⟨fun x hx => ?_, rfl, rfl⟩
    rcases (show x = 0 ∨ x = 1 ∨ x = 2 ∨ x = 3 ∨ x = 4 by omega) with h | h | h | h | h <;> (subst h; rfl)
  · subst h
    refine ⟨fun x hx => ?_, rfl, rfl⟩
    rcases (show x = 0 ∨ x = 1 ∨ x = 2 ∨ x = 3 ∨ x = 4 by omega) with h | h | h | h | h <;> (subst h; rfl)
theorem rs_kp14 {U L : Int} (h : (L + 1) % 16 = 14) (m t s g c : Int) (pl he : Nat → Int) (gI : Nat → Int) (gF : Nat → Nat → Int) : ∃ pl1 he1, Ff_X1_keep U L gI m t s g c pl gF he = (fl_min (U + 1) 16, 14, fl_nI [gI 0, gI 1, gI 2, gI 3, gI 4, gI 5, gI 6, gI 7, gI 8, gI 9, gI 10, gI 11, gI 12, gI 13, gI 14, gI 15, gI 16, gI 17, gI 18, gI 19, gI 20, gI 21, gI 22, gI 23, gI 24, gI 25, gI 26, gI 27, gI 28, gI 29, gI 30, gI 31, gI 32, gI 33, gI 34, gI 35, gI 36, gI 37, gI 38, gI 39, gI 40, gI 41, gI 42, gI 43, gI 44, gI 45, gI 46, gI 47, gI 48, gI 49, gI 50, gI 51, gI 52, gI 53, gI 54, gI 55, gI 56, gI 57, gI 58, gI 59, gI 60, gI 61, gI 62, gI 63, gI 64, gI 65, gI 66, gI 67, gI 68, gI 69, m, t, s, g, c, gI 75, gI 76, gI 77, gI 78, gI 79], fl_nF [gF 0, gF 1, gF 2, gF 3, gF 4, gF 5, gF 6, gF 7, gF 8, gF 9, gF 10, gF 11, gF 12, gF 13, gF 14, gF 15, gF 16, gF 17, gF 18, gF 19, gF 20, gF 21, gF 22, gF 23, gF 24, gF 25, gF 26, gF 27, pl1, he1, gF 30, gF 31]) ∧ ∀ k : Nat, k < 9 → pl1 k = pl k ∧ he1 k = he k := by
  obtain ⟨pl1, he1, e, q⟩ := rs_cp m t s g c pl (gF 28) he (gF 29)
  refine ⟨pl1, he1, ?_, q⟩
  unfold Ff_X1_keep
  rw [fl_lt_eq rfl, fl_lt_eq h.symm]
  rw [if_neg (by decide)]
  rw [if_neg (by decide)]
  rw [if_neg (by decide)]
  rw [if_neg (by decide)]
  rw [if_neg (by decide)]
  rw [if_neg (by decide)]
  rw [if_neg (by decide)]
  rw [if_neg (by decide)]
  rw [if_neg (by decide)]
  rw [if_neg (by decide)]
  rw [if_neg (by decide)]
  rw [if_neg (by decide)]
  rw [if_neg (by decide)]
  rw [if_neg (by decide)]
  rw [if_pos rfl]
  rw [e, fl_c7_eq rfl]
  rfl
theorem rs_ks14 (m t s g c : Int) (pl he : Nat → Int) (gI : Nat → Int) (gF : Nat → Nat → Int) (pl1 he1 : Nat → Int) (hq : ∀ k : Nat, k < 9 → pl1 k = pl k ∧ he1 k = he k) : rs_P (fl_nI [gI 0, gI 1, gI 2, gI 3, gI 4, gI 5, gI 6, gI 7, gI 8, gI 9, gI 10, gI 11, gI 12, gI 13, gI 14, gI 15, gI 16, gI 17, gI 18, gI 19, gI 20, gI 21, gI 22, gI 23, gI 24, gI 25, gI 26, gI 27, gI 28, gI 29, gI 30, gI 31, gI 32, gI 33, gI 34, gI 35, gI 36, gI 37, gI 38, gI 39, gI 40, gI 41, gI 42, gI 43, gI 44, gI 45, gI 46, gI 47, gI 48, gI 49, gI 50, gI 51, gI 52, gI 53, gI 54, gI 55, gI 56, gI 57, gI 58, gI 59, gI 60, gI 61, gI 62, gI 63, gI 64, gI 65, gI 66, gI 67, gI 68, gI 69, m, t, s, g, c, gI 75, gI 76, gI 77, gI 78, gI 79]) (fl_nF [gF 0, gF 1, gF 2, gF 3, gF 4, gF 5, gF 6, gF 7, gF 8, gF 9, gF 10, gF 11, gF 12, gF 13, gF 14, gF 15, gF 16, gF 17, gF 18, gF 19, gF 20, gF 21, gF 22, gF 23, gF 24, gF 25, gF 26, gF 27, pl1, he1, gF 30, gF 31]) 14 m t s g c pl he ∧ ∀ j : Nat, j < 16 → j ≠ 14 → (∀ x : Nat, x < 5 → (fl_nI [gI 0, gI 1, gI 2, gI 3, gI 4, gI 5, gI 6, gI 7, gI 8, gI 9, gI 10, gI 11, gI 12, gI 13, gI 14, gI 15, gI 16, gI 17, gI 18, gI 19, gI 20, gI 21, gI 22, gI 23, gI 24, gI 25, gI 26, gI 27, gI 28, gI 29, gI 30, gI 31, gI 32, gI 33, gI 34, gI 35, gI 36, gI 37, gI 38, gI 39, gI 40, gI 41, gI 42, gI 43, gI 44, gI 45, gI 46, gI 47, gI 48, gI 49, gI 50, gI 51, gI 52, gI 53, gI 54, gI 55, gI 56, gI 57, gI 58, gI 59, gI 60, gI 61, gI 62, gI 63, gI 64, gI 65, gI 66, gI 67, gI 68, gI 69, m, t, s, g, c, gI 75, gI 76, gI 77, gI 78, gI 79]) (5 * j + x) = gI (5 * j + x)) ∧ (fl_nF [gF 0, gF 1, gF 2, gF 3, gF 4, gF 5, gF 6, gF 7, gF 8, gF 9, gF 10, gF 11, gF 12, gF 13, gF 14, gF 15, gF 16, gF 17, gF 18, gF 19, gF 20, gF 21, gF 22, gF 23, gF 24, gF 25, gF 26, gF 27, pl1, he1, gF 30, gF 31]) (2 * j) = gF (2 * j) ∧ (fl_nF [gF 0, gF 1, gF 2, gF 3, gF 4, gF 5, gF 6, gF 7, gF 8, gF 9, gF 10, gF 11, gF 12, gF 13, gF 14, gF 15, gF 16, gF 17, gF 18, gF 19, gF 20, gF 21, gF 22, gF 23, gF 24, gF 25, gF 26, gF 27, pl1, he1, gF 30, gF 31]) (2 * j + 1) = gF (2 * j + 1) := by
  refine ⟨⟨rfl, rfl, rfl, rfl, rfl, hq⟩, fun j hj hn => ?_⟩
  rcases (show j = 0 ∨ j = 1 ∨ j = 2 ∨ j = 3 ∨ j = 4 ∨ j = 5 ∨ j = 6 ∨ j = 7 ∨ j = 8 ∨ j = 9 ∨ j = 10 ∨ j = 11 ∨ j = 12 ∨ j = 13 ∨ j = 14 ∨ j = 15 by omega) with h | h | h | h | h | h | h | h | h | h | h | h | h | h | h | h
  · subst h
    refine ⟨fun x hx => ?_, rfl, rfl⟩
    rcases (show x = 0 ∨ x = 1 ∨ x = 2 ∨ x = 3 ∨ x = 4 by omega) with h | h | h | h | h <;> (subst h; rfl)
  · subst h
    refine ⟨fun x hx => ?_, rfl, rfl⟩
    rcases (show x = 0 ∨ x = 1 ∨ x = 2 ∨ x = 3 ∨ x = 4 by omega) with h | h | h | h | h <;> (subst h; rfl)
  · subst h
    refine ⟨fun x hx => ?_, rfl, rfl⟩
    rcases (show x = 0 ∨ x = 1 ∨ x = 2 ∨ x = 3 ∨ x = 4 by omega) with h | h | h | h | h <;> (subst h; rfl)
  · subst h
    refine ⟨fun x hx => ?_, rfl, rfl⟩
    rcases (show x = 0 ∨ x = 1 ∨ x = 2 ∨ x = 3 ∨ x = 4 by omega) with h | h | h | h | h <;> (subst h; rfl)
  · subst h
    refine ⟨fun x hx => ?_, rfl, rfl⟩
    rcases (show x = 0 ∨ x = 1 ∨ x = 2 ∨ x = 3 ∨ x = 4 by omega) with h | h | h | h | h <;> (subst h; rfl)
  · subst h
    refine ⟨fun x hx => ?_, rfl, rfl⟩
    rcases (show x = 0 ∨ x = 1 ∨ x = 2 ∨ x = 3 ∨ x = 4 by omega) with h | h | h | h | h <;> (subst h; rfl)
  · subst h
    refine ⟨fun x hx => ?_, rfl, rfl⟩
    rcases (show x = 0 ∨ x = 1 ∨ x = 2 ∨ x = 3 ∨ x = 4 by omega) with h | h | h | h | h <;> (subst h; rfl)
  · subst h
    refine ⟨fun x hx => ?_, rfl, rfl⟩
    rcases (show x = 0 ∨ x = 1 ∨ x = 2 ∨ x = 3 ∨ x = 4 by omega) with h | h | h | h | h <;> (subst h; rfl)
  · subst h
    refine ⟨fun x hx => ?_, rfl, rfl⟩
    rcases (show x = 0 ∨ x = 1 ∨ x = 2 ∨ x = 3 ∨ x = 4 by omega) with h | h | h | h | h <;> (subst h; rfl)
  · subst h
    refine ⟨fun x hx => ?_, rfl, rfl⟩
    rcases (show x = 0 ∨ x = 1 ∨ x = 2 ∨ x = 3 ∨ x = 4 by omega) with h | h | h | h | h <;> (subst h; rfl)
  · subst h
    refine ⟨fun x hx => ?_, rfl, rfl⟩
    rcases (show x = 0 ∨ x = 1 ∨ x = 2 ∨ x = 3 ∨ x = 4 by omega) with h | h | h | h | h <;> (subst h; rfl)
  · subst h
    refine ⟨fun x hx => ?_, rfl, rfl⟩
    rcases (show x = 0 ∨ x = 1 ∨ x = 2 ∨ x = 3 ∨ x = 4 by omega) with h | h | h | h | h <;> (subst h; rfl)
  · subst h
    refine ⟨fun x hx => ?_, rfl, rfl⟩
    rcases (show x = 0 ∨ x = 1 ∨ x = 2 ∨ x = 3 ∨ x = 4 by omega) with h | h | h | h | h <;> (subst h; rfl)
  · subst h
    refine ⟨fun x hx => ?_, rfl, rfl⟩
    rcases (show x = 0 ∨ x = 1 ∨ x = 2 ∨ x = 3 ∨ x = 4 by omega) with h | h | h | h | h <;> (subst h; rfl)
  · exact absurd h hn
  · subst h
    refine ⟨fun x hx => ?_, rfl, rfl⟩
    rcases (show x = 0 ∨ x = 1 ∨ x = 2 ∨ x = 3 ∨ x = 4 by omega) with h | h | h | h | h <;> (subst h; rfl)
theorem rs_kp15 {U L : Int} (h : (L + 1) % 16 = 15) (m t s g c : Int) (pl he : Nat → Int) (gI : Nat → Int) (gF : Nat → Nat → Int) : ∃ pl1 he1, Ff_X1_keep U L gI m t s g c pl gF he = (fl_min (U + 1) 16, 15, fl_nI [gI 0, gI 1, gI 2, gI 3, gI 4, gI 5, gI 6, gI 7, gI 8, gI 9, gI 10, gI 11, gI 12, gI 13, gI 14, gI 15, gI 16, gI 17, gI 18, gI 19, gI 20, gI 21, gI 22, gI 23, gI 24, gI 25, gI 26, gI 27, gI 28, gI 29, gI 30, gI 31, gI 32, gI 33, gI 34, gI 35, gI 36, gI 37, gI 38, gI 39, gI 40, gI 41, gI 42, gI 43, gI 44, gI 45, gI 46, gI 47, gI 48, gI 49, gI 50, gI 51, gI 52, gI 53, gI 54, gI 55, gI 56, gI 57, gI 58, gI 59, gI 60, gI 61, gI 62, gI 63, gI 64, gI 65, gI 66, gI 67, gI 68, gI 69, gI 70, gI 71, gI 72, gI 73, gI 74, m, t, s, g, c], fl_nF [gF 0, gF 1, gF 2, gF 3, gF 4, gF 5, gF 6, gF 7, gF 8, gF 9, gF 10, gF 11, gF 12, gF 13, gF 14, gF 15, gF 16, gF 17, gF 18, gF 19, gF 20, gF 21, gF 22, gF 23, gF 24, gF 25, gF 26, gF 27, gF 28, gF 29, pl1, he1]) ∧ ∀ k : Nat, k < 9 → pl1 k = pl k ∧ he1 k = he k := by
  obtain ⟨pl1, he1, e, q⟩ := rs_cp m t s g c pl (gF 30) he (gF 31)
  refine ⟨pl1, he1, ?_, q⟩
  unfold Ff_X1_keep
  rw [fl_lt_eq rfl, fl_lt_eq h.symm]
  rw [if_neg (by decide)]
  rw [if_neg (by decide)]
  rw [if_neg (by decide)]
  rw [if_neg (by decide)]
  rw [if_neg (by decide)]
  rw [if_neg (by decide)]
  rw [if_neg (by decide)]
  rw [if_neg (by decide)]
  rw [if_neg (by decide)]
  rw [if_neg (by decide)]
  rw [if_neg (by decide)]
  rw [if_neg (by decide)]
  rw [if_neg (by decide)]
  rw [if_neg (by decide)]
  rw [if_neg (by decide)]
  rw [e, fl_c7_eq rfl]
  rfl
theorem rs_ks15 (m t s g c : Int) (pl he : Nat → Int) (gI : Nat → Int) (gF : Nat → Nat → Int) (pl1 he1 : Nat → Int) (hq : ∀ k : Nat, k < 9 → pl1 k = pl k ∧ he1 k = he k) : rs_P (fl_nI [gI 0, gI 1, gI 2, gI 3, gI 4, gI 5, gI 6, gI 7, gI 8, gI 9, gI 10, gI 11, gI 12, gI 13, gI 14, gI 15, gI 16, gI 17, gI 18, gI 19, gI 20, gI 21, gI 22, gI 23, gI 24, gI 25, gI 26, gI 27, gI 28, gI 29, gI 30, gI 31, gI 32, gI 33, gI 34, gI 35, gI 36, gI 37, gI 38, gI 39, gI 40, gI 41, gI 42, gI 43, gI 44, gI 45, gI 46, gI 47, gI 48, gI 49, gI 50, gI 51, gI 52, gI 53, gI 54, gI 55, gI 56, gI 57, gI 58, gI 59, gI 60, gI 61, gI 62, gI 63, gI 64, gI 65, gI 66, gI 67, gI 68, gI 69, gI 70, gI 71, gI 72, gI 73, gI 74, m, t, s, g, c]) (fl_nF [gF 0, gF 1, gF 2, gF 3, gF 4, gF 5, gF 6, gF 7, gF 8, gF 9, gF 10, gF 11, gF 12, gF 13, gF 14, gF 15, gF 16, gF 17, gF 18, gF 19, gF 20, gF 21, gF 22, gF 23, gF 24, gF 25, gF 26, gF 27, gF 28, gF 29, pl1, he1]) 15 m t s g c pl he ∧ ∀ j : Nat, j < 16 → j ≠ 15 → (∀ x : Nat, x < 5 → (fl_nI [gI 0, gI 1, gI 2, gI 3, gI 4, gI 5, gI 6, gI 7, gI 8, gI 9, gI 10, gI 11, gI 12, gI 13, gI 14, gI 15, gI 16, gI 17, gI 18, gI 19, gI 20, gI 21, gI 22, gI 23, gI 24, gI 25, gI 26, gI 27, gI 28, gI 29, gI 30, gI 31, gI 32, gI 33, gI 34, gI 35, gI 36, gI 37, gI 38, gI 39, gI 40, gI 41, gI 42, gI 43, gI 44, gI 45, gI 46, gI 47, gI 48, gI 49, gI 50, gI 51, gI 52, gI 53, gI 54, gI 55, gI 56, gI 57, gI 58, gI 59, gI 60, gI 61, gI 62, gI 63, gI 64, gI 65, gI 66, gI 67, gI 68, gI 69, gI 70, gI 71, gI 72, gI 73, gI 74, m, t, s, g, c]) (5 * j + x) = gI (5 * j + x)) ∧ (fl_nF [gF 0, gF 1, gF 2, gF 3, gF 4, gF 5, gF 6, gF 7, gF 8, gF 9, gF 10, gF 11, gF 12, gF 13, gF 14, gF 15, gF 16, gF 17, gF 18, gF 19, gF 20, gF 21, gF 22, gF 23, gF 24, gF 25, gF 26, gF 27, gF 28, gF 29, pl1, he1]) (2 * j) = gF (2 * j) ∧ (fl_nF [gF 0, gF 1, gF 2, gF 3, gF 4, gF 5, gF 6, gF 7, gF 8, gF 9, gF 10, gF 11, gF 12, gF 13, gF 14, gF 15, gF 16, gF 17, gF 18, gF 19, gF 20, gF 21, gF 22, gF 23, gF 24, gF 25, gF 26, gF 27, gF 28, gF 29, pl1, he1]) (2 * j + 1) = gF (2 * j + 1) := by
  refine ⟨⟨rfl, rfl, rfl, rfl, rfl, hq⟩, fun j hj hn => ?_⟩
  rcases (show j = 0 ∨ j = 1 ∨ j = 2 ∨ j = 3 ∨ j = 4 ∨ j = 5 ∨ j = 6 ∨ j = 7 ∨ j = 8 ∨ j = 9 ∨ j = 10 ∨ j = 11 ∨ j = 12 ∨ j = 13 ∨ j = 14 ∨ j = 15 by omega) with h | h | h | h | h | h | h | h | h | h | h | h | h | h | h | h
  · subst h
    refine ⟨fun x hx => ?_, rfl, rfl⟩
    rcases (show x = 0 ∨ x = 1 ∨ x = 2 ∨ x = 3 ∨ x = 4 by omega) with h | h | h | h | h <;> (subst h; rfl)
  · subst h
    refine ⟨fun x hx => ?_, rfl, rfl⟩
    rcases (show x = 0 ∨ x = 1 ∨ x = 2 ∨ x = 3 ∨ x = 4 by omega) with h | h | h | h | h <;> (subst h; rfl)
  · subst h
    refine ⟨fun x hx => ?_, rfl, rfl⟩
    rcases (show x = 0 ∨ x = 1 ∨ x = 2 ∨ x = 3 ∨ x = 4 by omega) with h | h | h | h | h <;> (subst h; rfl)
  · subst h
    refine ⟨fun x hx => ?_, rfl, rfl⟩
    rcases (show x = 0 ∨ x = 1 ∨ x = 2 ∨ x = 3 ∨ x = 4 by omega) with h | h | h | h | h <;> (subst h; rfl)
  · subst h
    refine ⟨fun x hx => ?_, rfl, rfl⟩
    rcases (show x = 0 ∨ x = 1 ∨ x = 2 ∨ x = 3 ∨ x = 4 by omega) with h | h | h | h | h <;> (subst h; rfl)
  · subst h
    refine ⟨fun x hx => ?_, rfl, rfl⟩
    rcases (show x = 0 ∨ x = 1 ∨ x = 2 ∨ x = 3 ∨ x = 4 by omega) with h | h | h | h | h <;> (subst h; rfl)
  · subst h
    refine ⟨fun x hx => ?_, rfl, rfl⟩
    rcases (show x = 0 ∨ x = 1 ∨ x = 2 ∨ x = 3 ∨ x = 4 by omega) with h | h | h | h | h <;> (subst h; rfl)
  · subst h
    refine ⟨fun x hx => ?_, rfl, rfl⟩
    rcases (show x = 0 ∨ x = 1 ∨ x = 2 ∨ x = 3 ∨ x = 4 by omega) with h | h | h | h | h <;> (subst h; rfl)
  · subst h
    refine ⟨fun x hx => ?_, rfl, rfl⟩
    rcases (show x = 0 ∨ x = 1 ∨ x = 2 ∨ x = 3 ∨ x = 4 by omega) with h | h | h | h | h <;> (subst h; rfl)
  · subst h
    refine ⟨fun x hx => ?_, rfl, rfl⟩
    rcases (show x = 0 ∨ x = 1 ∨ x = 2 ∨ x = 3 ∨ x = 4 by omega) with h | h | h | h | h <;> (subst h; rfl)
  · subst h
    refine ⟨fun x hx => ?_, rfl, rfl⟩
    rcases (show x = 0 ∨ x = 1 ∨ x = 2 ∨ x = 3 ∨ x = 4 by omega) with h | h | h | h | h <;> (subst h; rfl)
  · subst h
    refine ⟨fun x hx => ?_, rfl, rfl⟩
    rcases (show x = 0 ∨ x = 1 ∨ x = 2 ∨ x = 3 ∨ x = 4 by omega) with h | h | h | h | h <;> (subst h; rfl)
  · subst h
    refine ⟨fun x hx => ?_, rfl, rfl⟩
    rcases (show x = 0 ∨ x = 1 ∨ x = 2 ∨ x = 3 ∨ x = 4 by omega) with h | h | h | h | h <;> (subst h; rfl)
  · subst h
    refine ⟨fun x hx => ?_, rfl, rfl⟩
    rcases (show x = 0 ∨ x = 1 ∨ x = 2 ∨ x = 3 ∨ x = 4 by omega) with h | h | h | h | h <;> (subst h; rfl)
  · subst h
    refine ⟨fun x hx => ?_, rfl, rfl⟩
    rcases (show x = 0 ∨ x = 1 ∨ x = 2 ∨ x = 3 ∨ x = 4 by omega) with h | h | h | h | h <;> (subst h; rfl)
  · exact absurd h hn
/-- keep: here -/
theorem rs_kp {L : Int} (h0 : 0 ≤ L) (h1 : L ≤ 15) (U : Int) (m t s g c : Int) (pl he : Nat → Int) (gI : Nat → Int) (gF : Nat → Nat → Int) : ∃ gI1 gF1, Ff_X1_keep U L gI m t s g c pl gF he = (fl_min (U + 1) 16, (L + 1) % 16, gI1, gF1) ∧ rs_P gI1 gF1 ((L + 1) % 16).toNat m t s g c pl he ∧ ∀ j : Nat, j < 16 → j ≠ ((L + 1) % 16).toNat → (∀ x : Nat, x < 5 → gI1 (5 * j + x) = gI (5 * j + x)) ∧ gF1 (2 * j) = gF (2 * j) ∧ gF1 (2 * j + 1) = gF (2 * j + 1) := by
  rcases (show (L + 1) % 16 = 0 ∨ (L + 1) % 16 = 1 ∨ (L + 1) % 16 = 2 ∨ (L + 1) % 16 = 3 ∨ (L + 1) % 16 = 4 ∨ (L + 1) % 16 = 5 ∨ (L + 1) % 16 = 6 ∨ (L + 1) % 16 = 7 ∨ (L + 1) % 16 = 8 ∨ (L + 1) % 16 = 9 ∨ (L + 1) % 16 = 10 ∨ (L + 1) % 16 = 11 ∨ (L + 1) % 16 = 12 ∨ (L + 1) % 16 = 13 ∨ (L + 1) % 16 = 14 ∨ (L + 1) % 16 = 15 by omega) with h | h | h | h | h | h | h | h | h | h | h | h | h | h | h | h
  · obtain ⟨pl1, he1, e, q⟩ := rs_kp0 (U := U) h m t s g c pl he gI gF
    rw [h]
    exact ⟨_, _, e, rs_ks0 m t s g c pl he gI gF pl1 he1 q⟩
  · obtain ⟨pl1, he1, e, q⟩ := rs_kp1 (U := U) h m t s g c pl he gI gF
    rw [h]
    exact ⟨_, _, e, rs_ks1 m t s g c pl he gI gF pl1 he1 q⟩
  · obtain ⟨pl1, he1, e, q⟩ := rs_kp2 (U := U) h m t s g c pl he gI gF
    rw [h]
    exact ⟨_, _, e, rs_ks2 m t s g c pl he gI gF pl1 he1 q⟩
  · obtain ⟨pl1, he1, e, q⟩ := rs_kp3 (U := U) h m t s g c pl he gI gF
    rw [h]
    exact ⟨_, _, e, rs_ks3 m t s g c pl he gI gF pl1 he1 q⟩
  · obtain ⟨pl1, he1, e, q⟩ := rs_kp4 (U := U) h m t s g c pl he gI gF
    rw [h]
    exact ⟨_, _, e, rs_ks4 m t s g c pl he gI gF pl1 he1 q⟩
  · obtain ⟨pl1, he1, e, q⟩ := rs_kp5 (U := U) h m t s g c pl he gI gF
    rw [h]
    exact ⟨_, _, e, rs_ks5 m t s g c pl he gI gF pl1 he1 q⟩
  · obtain ⟨pl1, he1, e, q⟩ := rs_kp6 (U := U) h m t s g c pl he gI gF
    rw [h]
    exact ⟨_, _, e, rs_ks6 m t s g c pl he gI gF pl1 he1 q⟩
  · obtain ⟨pl1, he1, e, q⟩ := rs_kp7 (U := U) h m t s g c pl he gI gF
    rw [h]
    exact ⟨_, _, e, rs_ks7 m t s g c pl he gI gF pl1 he1 q⟩
  · obtain ⟨pl1, he1, e, q⟩ := rs_kp8 (U := U) h m t s g c pl he gI gF
    rw [h]
    exact ⟨_, _, e, rs_ks8 m t s g c pl he gI gF pl1 he1 q⟩
  · obtain ⟨pl1, he1, e, q⟩ := rs_kp9 (U := U) h m t s g c pl he gI gF
    rw [h]
    exact ⟨_, _, e, rs_ks9 m t s g c pl he gI gF pl1 he1 q⟩
  · obtain ⟨pl1, he1, e, q⟩ := rs_kp10 (U := U) h m t s g c pl he gI gF
    rw [h]
    exact ⟨_, _, e, rs_ks10 m t s g c pl he gI gF pl1 he1 q⟩
  · obtain ⟨pl1, he1, e, q⟩ := rs_kp11 (U := U) h m t s g c pl he gI gF
    rw [h]
    exact ⟨_, _, e, rs_ks11 m t s g c pl he gI gF pl1 he1 q⟩
  · obtain ⟨pl1, he1, e, q⟩ := rs_kp12 (U := U) h m t s g c pl he gI gF
    rw [h]
    exact ⟨_, _, e, rs_ks12 m t s g c pl he gI gF pl1 he1 q⟩
  · obtain ⟨pl1, he1, e, q⟩ := rs_kp13 (U := U) h m t s g c pl he gI gF
    rw [h]
    exact ⟨_, _, e, rs_ks13 m t s g c pl he gI gF pl1 he1 q⟩
  · obtain ⟨pl1, he1, e, q⟩ := rs_kp14 (U := U) h m t s g c pl he gI gF
    rw [h]
    exact ⟨_, _, e, rs_ks14 m t s g c pl he gI gF pl1 he1 q⟩
  · obtain ⟨pl1, he1, e, q⟩ := rs_kp15 (U := U) h m t s g c pl he gI gF
    rw [h]
    exact ⟨_, _, e, rs_ks15 m t s g c pl he gI gF pl1 he1 q⟩
theorem rs_tk0 {U : Int} (hU : ¬ U = 0) (m t s g c : Int) (pl he : Nat → Int) (gI : Nat → Int) (gF : Nat → Nat → Int) : ∃ pl1 he1, Ff_X1_takeLatest U 0 m t s g c gI gF pl he = (1, U - 1, 15, gI 0, gI 1, gI 2, gI 3, gI 4, pl1, he1) ∧ ∀ k : Nat, k < 9 → gF 0 k = pl1 k ∧ gF 1 k = he1 k := by
  obtain ⟨pl1, he1, e, q⟩ := rs_cp (gI 0) (gI 1) (gI 2) (gI 3) (gI 4) (gF 0) pl (gF 1) he
  refine ⟨pl1, he1, ?_, fun k hk => ⟨(q k hk).1.symm, (q k hk).2.symm⟩⟩
  unfold Ff_X1_takeLatest
  rw [if_neg hU]
  rw [if_pos rfl]
  rw [e, fl_c7_eq rfl]
  rfl
theorem rs_tk1 {U : Int} (hU : ¬ U = 0) (m t s g c : Int) (pl he : Nat → Int) (gI : Nat → Int) (gF : Nat → Nat → Int) : ∃ pl1 he1, Ff_X1_takeLatest U 1 m t s g c gI gF pl he = (1, U - 1, 0, gI 5, gI 6, gI 7, gI 8, gI 9, pl1, he1) ∧ ∀ k : Nat, k < 9 → gF 2 k = pl1 k ∧ gF 3 k = he1 k := by
  obtain ⟨pl1, he1, e, q⟩ := rs_cp (gI 5) (gI 6) (gI 7) (gI 8) (gI 9) (gF 2) pl (gF 3) he
  refine ⟨pl1, he1, ?_, fun k hk => ⟨(q k hk).1.symm, (q k hk).2.symm⟩⟩
  unfold Ff_X1_takeLatest
  rw [if_neg hU]
  rw [if_neg (by decide)]
  rw [if_pos rfl]
  rw [e, fl_c7_eq rfl]
  rfl
theorem rs_tk2 {U : Int} (hU : ¬ U = 0) (m t s g c : Int) (pl he : Nat → Int) (gI : Nat → Int) (gF : Nat → Nat → Int) : ∃ pl1 he1, Ff_X1_takeLatest U 2 m t s g c gI gF pl he = (1, U - 1, 1, gI 10, gI 11, gI 12, gI 13, gI 14, pl1, he1) ∧ ∀ k : Nat, k < 9 → gF 4 k = pl1 k ∧ gF 5 k = he1 k := by
  obtain ⟨pl1, he1, e, q⟩ := rs_cp (gI 10) (gI 11) (gI 12) (gI 13) (gI 14) (gF 4) pl (gF 5) he
  refine ⟨pl1, he1, ?_, fun k hk => ⟨(q k hk).1.symm, (q k hk).2.symm⟩⟩
  unfold Ff_X1_takeLatest
  rw [if_neg hU]
  rw [if_neg (by decide)]
  rw [if_neg (by decide)]
  rw [if_pos rfl]
  rw [e, fl_c7_eq rfl]
  rfl
theorem rs_tk3 {U : Int} (hU : ¬ U = 0) (m t s g c : Int) (pl he : Nat → Int) (gI : Nat → Int) (gF : Nat → Nat → Int) : ∃ pl1 he1, Ff_X1_takeLatest U 3 m t s g c gI gF pl he = (1, U - 1, 2, gI 15, gI 16, gI 17, gI 18, gI 19, pl1, he1) ∧ ∀ k : Nat, k < 9 → gF 6 k = pl1 k ∧ gF 7 k = he1 k := by
  obtain ⟨pl1, he1, e, q⟩ := rs_cp (gI 15) (gI 16) (gI 17) (gI 18) (gI 19) (gF 6) pl (gF 7) he
  refine ⟨pl1, he1, ?_, fun k hk => ⟨(q k hk).1.symm, (q k hk).2.symm⟩⟩
  unfold Ff_X1_takeLatest
  rw [if_neg hU]
  rw [if_neg (by decide)]
  rw [if_neg (by decide)]
  rw [if_neg (by decide)]
  rw [if_pos rfl]
  rw [e, fl_c7_eq rfl]
  rfl
theorem rs_tk4 {U : Int} (hU : ¬ U = 0) (m t s g c : Int) (pl he : Nat → Int) (gI : Nat → Int) (gF : Nat → Nat → Int) : ∃ pl1 he1, Ff_X1_takeLatest U 4 m t s g c gI gF pl he = (1, U - 1, 3, gI 20, gI 21, gI 22, gI 23, gI 24, pl1, he1) ∧ ∀ k : Nat, k < 9 → gF 8 k = pl1 k ∧ gF 9 k = he1 k := by
  obtain ⟨pl1, he1, e, q⟩ := rs_cp (gI 20) (gI 21) (gI 22) (gI 23) (gI 24) (gF 8) pl (gF 9) he
  refine ⟨pl1, he1, ?_, fun k hk => ⟨(q k hk).1.symm, (q k hk).2.symm⟩⟩
  unfold Ff_X1_takeLatest
  rw [if_neg hU]
  rw [if_neg (by decide)]
  rw [if_neg (by decide)]
  rw [if_neg (by decide)]
  rw [if_neg (by decide)]
  rw [if_pos rfl]
  rw [e, fl_c7_eq rfl]
  rfl
theorem rs_tk5 {U : Int} (hU : ¬ U = 0) (m t s g c : Int) (pl he : Nat → Int) (gI : Nat → Int) (gF : Nat → Nat → Int) : ∃ pl1 he1, Ff_X1_takeLatest U 5 m t s g c gI gF pl he = (1, U - 1, 4, gI 25, gI 26, gI 27, gI 28, gI 29, pl1, he1) ∧ ∀ k : Nat, k < 9 → gF 10 k = pl1 k ∧ gF 11 k = he1 k := by
  obtain ⟨pl1, he1, e, q⟩ := rs_cp (gI 25) (gI 26) (gI 27) (gI 28) (gI 29) (gF 10) pl (gF 11) he
  refine ⟨pl1, he1, ?_, fun k hk => ⟨(q k hk).1.symm, (q k hk).2.symm⟩⟩
  unfold Ff_X1_takeLatest
  rw [if_neg hU]
  rw [if_neg (by decide)]
  rw [if_neg (by decide)]
  rw [if_neg (by decide)]
  rw [if_neg (by decide)]
  rw [if_neg (by decide)]
  rw [if_pos rfl]
  rw [e, fl_c7_eq rfl]
  rfl
theorem rs_tk6 {U : Int} (hU : ¬ U = 0) (m t s g c : Int) (pl he : Nat → Int) (gI : Nat → Int) (gF : Nat → Nat → Int) : ∃ pl1 he1, Ff_X1_takeLatest U 6 m t s g c gI gF pl he = (1, U - 1, 5, gI 30, gI 31, gI 32, gI 33, gI 34, pl1, he1) ∧ ∀ k : Nat, k < 9 → gF 12 k = pl1 k ∧ gF 13 k = he1 k := by
  obtain ⟨pl1, he1, e, q⟩ := rs_cp (gI 30) (gI 31) (gI 32) (gI 33) (gI 34) (gF 12) pl (gF 13) he
  refine ⟨pl1, he1, ?_, fun k hk => ⟨(q k hk).1.symm, (q k hk).2.symm⟩⟩
  unfold Ff_X1_takeLatest
  rw [if_neg hU]
  rw [if_neg (by decide)]
  rw [if_neg (by decide)]
  rw [if_neg (by decide)]
  rw [if_neg (by decide)]
  rw [if_neg (by decide)]
  rw [if_neg (by decide)]
  rw [if_pos rfl]
  rw [e, fl_c7_eq rfl]
  rfl
theorem rs_tk7 {U : Int} (hU : ¬ U = 0) (m t s g c : Int) (pl he : Nat → Int) (gI : Nat → Int) (gF : Nat → Nat → Int) : ∃ pl1 he1, Ff_X1_takeLatest U 7 m t s g c gI gF pl he = (1, U - 1, 6, gI 35, gI 36, gI 37, gI 38, gI 39, pl1, he1) ∧ ∀ k : Nat, k < 9 → gF 14 k = pl1 k ∧ gF 15 k = he1 k := by
  obtain ⟨pl1, he1, e, q⟩ := rs_cp (gI 35) (gI 36) (gI 37) (gI 38) (gI 39) (gF 14) pl (gF 15) he
  refine ⟨pl1, he1, ?_, fun k hk => ⟨(q k hk).1.symm, (q k hk).2.symm⟩⟩
  unfold Ff_X1_takeLatest
  rw [if_neg hU]
  rw [if_neg (by decide)]
  rw [if_neg (by decide)]
  rw [if_neg (by decide)]
  rw [if_neg (by decide)]
  rw [if_neg (by decide)]
  rw [if_neg (by decide)]
  rw [if_neg (by decide)]
  rw [if_pos rfl]
  rw [e, fl_c7_eq rfl]
  rfl
theorem rs_tk8 {U : Int} (hU : ¬ U = 0) (m t s g c : Int) (pl he : Nat → Int) (gI : Nat → Int) (gF : Nat → Nat → Int) : ∃ pl1 he1, Ff_X1_takeLatest U 8 m t s g c gI gF pl he = (1, U - 1, 7, gI 40, gI 41, gI 42, gI 43, gI 44, pl1, he1) ∧ ∀ k : Nat, k < 9 → gF 16 k = pl1 k ∧ gF 17 k = he1 k := by
  obtain ⟨pl1, he1, e, q⟩ := rs_cp (gI 40) (gI 41) (gI 42) (gI 43) (gI 44) (gF 16) pl (gF 17) he
  refine ⟨pl1, he1, ?_, fun k hk => ⟨(q k hk).1.symm, (q k hk).2.symm⟩⟩
  unfold Ff_X1_takeLatest
  rw [if_neg hU]
  rw [if_neg (by decide)]
  rw [if_neg (by decide)]
  rw [if_neg (by decide)]
  rw [if_neg (by decide)]
  rw [if_neg (by decide)]
  rw [if_neg (by decide)]
  rw [if_neg (by decide)]
  rw [if_neg (by decide)]
  rw [if_pos rfl]
  rw [e, fl_c7_eq rfl]
  rfl
theorem rs_tk9 {U : Int} (hU : ¬ U = 0) (m t s g c : Int) (pl he : Nat → Int) (gI : Nat → Int) (gF : Nat → Nat → Int) : ∃ pl1 he1, Ff_X1_takeLatest U 9 m t s g c gI gF pl he = (1, U - 1, 8, gI 45, gI 46, gI 47, gI 48, gI 49, pl1, he1) ∧ ∀ k : Nat, k < 9 → gF 18 k = pl1 k ∧ gF 19 k = he1 k := by
  obtain ⟨pl1, he1, e, q⟩ := rs_cp (gI 45) (gI 46) (gI 47) (gI 48) (gI 49) (gF 18) pl (gF 19) he
  refine ⟨pl1, he1, ?_, fun k hk => ⟨(q k hk).1.symm, (q k hk).2.symm⟩⟩
  unfold Ff_X1_takeLatest
  rw [if_neg hU]
  rw [if_neg (by decide)]
  rw [if_neg (by decide)]
  rw [if_neg (by decide)]
  rw [if_neg (by decide)]
  rw [if_neg (by decide)]
  rw [if_neg (by decide)]
  rw [if_neg (by decide)]
  rw [if_neg (by decide)]
  rw [if_neg (by decide)]
  rw [if_pos rfl]
  rw [e, fl_c7_eq rfl]
  rfl
theorem rs_tk10 {U : Int} (hU : ¬ U = 0) (m t s g c : Int) (pl he : Nat → Int) (gI : Nat → Int) (gF : Nat → Nat → Int) : ∃ pl1 he1, Ff_X1_takeLatest U 10 m t s g c gI gF pl he = (1, U - 1, 9, gI 50, gI 51, gI 52, gI 53, gI 54, pl1, he1) ∧ ∀ k : Nat, k < 9 → gF 20 k = pl1 k ∧ gF 21 k = he1 k := by
  obtain ⟨pl1, he1, e, q⟩ := rs_cp (gI 50) (gI 51) (gI 52) (gI 53) (gI 54) (gF 20) pl (gF 21) he
  refine ⟨pl1, he1, ?_, fun k hk => ⟨(q k hk).1.symm, (q k hk).2.symm⟩⟩
  unfold Ff_X1_takeLatest
  rw [if_neg hU]
  rw [if_neg (by decide)]
  rw [if_neg (by decide)]
  rw [if_neg (by decide)]
  rw [if_neg (by decide)]
  rw [if_neg (by decide)]
  rw [if_neg (by decide)]
  rw [if_neg (by decide)]
  rw [if_neg (by decide)]
  rw [if_neg (by decide)]
  rw [if_neg (by decide)]
  rw [if_pos rfl]
  rw [e, fl_c7_eq rfl]
  rfl
theorem rs_tk11 {U : Int} (hU : ¬ U = 0) (m t s g c : Int) (pl he : Nat → Int) (gI : Nat → Int) (gF : Nat → Nat → Int) : ∃ pl1 he1, Ff_X1_takeLatest U 11 m t s g c gI gF pl he = (1, U - 1, 10, gI 55, gI 56, gI 57, gI 58, gI 59, pl1, he1) ∧ ∀ k : Nat, k < 9 → gF 22 k = pl1 k ∧ gF 23 k = he1 k := by
  obtain ⟨pl1, he1, e, q⟩ := rs_cp (gI 55) (gI 56) (gI 57) (gI 58) (gI 59) (gF 22) pl (gF 23) he
  refine ⟨pl1, he1, ?_, fun k hk => ⟨(q k hk).1.symm, (q k hk).2.symm⟩⟩
  unfold Ff_X1_takeLatest
  rw [if_neg hU]
  rw [if_neg (by decide)]
  rw [if_neg (by decide)]
  rw [if_neg (by decide)]
  rw [if_neg (by decide)]
  rw [if_neg (by decide)]
  rw [if_neg (by decide)]
  rw [if_neg (by decide)]
  rw [if_neg (by decide)]
  rw [if_neg (by decide)]
  rw [if_neg (by decide)]
  rw [if_neg (by decide)]
  rw [if_pos rfl]
  rw [e, fl_c7_eq rfl]
  rfl
theorem rs_tk12 {U : Int} (hU : ¬ U = 0) (m t s g c : Int) (pl he : Nat → Int) (gI : Nat → Int) (gF : Nat → Nat → Int) : ∃ pl1 he1, Ff_X1_takeLatest U 12 m t s g c gI gF pl he = (1, U - 1, 11, gI 60, gI 61, gI 62, gI 63, gI 64, pl1, he1) ∧ ∀ k : Nat, k < 9 → gF 24 k = pl1 k ∧ gF 25 k = he1 k := by
  obtain ⟨pl1, he1, e, q⟩ := rs_cp (gI 60) (gI 61) (gI 62) (gI 63) (gI 64) (gF 24) pl (gF 25) he
  refine ⟨pl1, he1, ?_, fun k hk => ⟨(q k hk).1.symm, (q k hk).2.symm⟩⟩
  unfold Ff_X1_takeLatest
  rw [if_neg hU]
  rw [if_neg (by decide)]
  rw [if_neg (by decide)]
  rw [if_neg (by decide)]
  rw [if_neg (by decide)]
  rw [if_neg (by decide)]
  rw [if_neg (by decide)]
  rw [if_neg (by decide)]
  rw [if_neg (by decide)]
  rw [if_neg (by decide)]
  rw [if_neg (by decide)]
  rw [if_neg (by decide)]
  rw [if_neg (by decide)]
  rw [if_pos rfl]
  rw [e, fl_c7_eq rfl]
  rfl
theorem rs_tk13 {U : Int} (hU : ¬ U = 0) (m t s g c : Int) (pl he : Nat → Int) (gI : Nat → Int) (gF : Nat → Nat → Int) : ∃ pl1 he1, Ff_X1_takeLatest U 13 m t s g c gI gF pl he = (1, U - 1, 12, gI 65, gI 66, gI 67, gI 68, gI 69, pl1, he1) ∧ ∀ k : Nat, k < 9 → gF 26 k = pl1 k ∧ gF 27 k = he1 k := by
  obtain ⟨pl1, he1, e, q⟩ := rs_cp (gI 65) (gI 66) (gI 67) (gI 68) (gI 69) (gF 26) pl (gF 27) he
  refine ⟨pl1, he1, ?_, fun k hk => ⟨(q k hk).1.symm, (q k hk).2.symm⟩⟩
  unfold Ff_X1_takeLatest
  rw [if_neg hU]
  rw [if_neg (by decide)]
  rw [if_neg (by decide)]
  rw [if_neg (by decide)]
  rw [if_neg (by decide)]
  rw [if_neg (by decide)]
  rw [if_neg (by decide)]
  rw [if_neg (by decide)]
  rw [if_neg (by decide)]
  rw [if_neg (by decide)]
  rw [if_neg (by decide)]
  rw [if_neg (by decide)]
  rw [if_neg (by decide)]
  rw [if_neg (by decide)]
  rw [if_pos rfl]
  rw [e, fl_c7_eq rfl]
  rfl
theorem rs_tk14 {U : Int} (hU : ¬ U = 0) (m t s g c : Int) (pl he : Nat → Int) (gI : Nat → Int) (gF : Nat → Nat → Int) : ∃ pl1 he1, Ff_X1_takeLatest U 14 m t s g c gI gF pl he = (1, U - 1, 13, gI 70, gI 71, gI 72, gI 73, gI 74, pl1, he1) ∧ ∀ k : Nat, k < 9 → gF 28 k = pl1 k ∧ gF 29 k = he1 k := by
  obtain ⟨pl1, he1, e, q⟩ := rs_cp (gI 70) (gI 71) (gI 72) (gI 73) (gI 74) (gF 28) pl (gF 29) he
  refine ⟨pl1, he1, ?_, fun k hk => ⟨(q k hk).1.symm, (q k hk).2.symm⟩⟩
  unfold Ff_X1_takeLatest
  rw [if_neg hU]
  rw [if_neg (by decide)]
  rw [if_neg (by decide)]
  rw [if_neg (by decide)]
  rw [if_neg (by decide)]
  rw [if_neg (by decide)]
  rw [if_neg (by decide)]
  rw [if_neg (by decide)]
  rw [if_neg (by decide)]
  rw [if_neg (by decide)]
  rw [if_neg (by decide)]
  rw [if_neg (by decide)]
  rw [if_neg (by decide)]
  rw [if_neg (by decide)]
  rw [if_neg (by decide)]
  rw [if_pos rfl]
  rw [e, fl_c7_eq rfl]
  rfl
theorem rs_tk15 {U : Int} (hU : ¬ U = 0) (m t s g c : Int) (pl he : Nat → Int) (gI : Nat → Int) (gF : Nat → Nat → Int) : ∃ pl1 he1, Ff_X1_takeLatest U 15 m t s g c gI gF pl he = (1, U - 1, 14, gI 75, gI 76, gI 77, gI 78, gI 79, pl1, he1) ∧ ∀ k : Nat, k < 9 → gF 30 k = pl1 k ∧ gF 31 k = he1 k := by
  obtain ⟨pl1, he1, e, q⟩ := rs_cp (gI 75) (gI 76) (gI 77) (gI 78) (gI 79) (gF 30) pl (gF 31) he
  refine ⟨pl1, he1, ?_, fun k hk => ⟨(q k hk).1.symm, (q k hk).2.symm⟩⟩
  unfold Ff_X1_takeLatest
  rw [if_neg hU]
  rw [if_neg (by decide)]
  rw [if_neg (by decide)]
  rw [if_neg (by decide)]
  rw [if_neg (by decide)]
  rw [if_neg (by decide)]
  rw [if_neg (by decide)]
  rw [if_neg (by decide)]
  rw [if_neg (by decide)]
  rw [if_neg (by decide)]
  rw [if_neg (by decide)]
  rw [if_neg (by decide)]
  rw [if_neg (by decide)]
  rw [if_neg (by decide)]
  rw [if_neg (by decide)]
  rw [if_neg (by decide)]
  rw [e, fl_c7_eq rfl]
  rfl
/-- the latest comes back: here -/
theorem rs_tk {U L : Int} (hU : ¬ U = 0) (h0 : 0 ≤ L) (h1 : L ≤ 15) (m t s g c : Int) (pl he : Nat → Int) (gI : Nat → Int) (gF : Nat → Nat → Int) : ∃ m1 t1 s1 g1 c1 pl1 he1, Ff_X1_takeLatest U L m t s g c gI gF pl he = (1, U - 1, (L + 15) % 16, m1, t1, s1, g1, c1, pl1, he1) ∧ rs_P gI gF L.toNat m1 t1 s1 g1 c1 pl1 he1 := by
  rcases (show L = 0 ∨ L = 1 ∨ L = 2 ∨ L = 3 ∨ L = 4 ∨ L = 5 ∨ L = 6 ∨ L = 7 ∨ L = 8 ∨ L = 9 ∨ L = 10 ∨ L = 11 ∨ L = 12 ∨ L = 13 ∨ L = 14 ∨ L = 15 by omega) with h | h | h | h | h | h | h | h | h | h | h | h | h | h | h | h
  · subst h
    obtain ⟨pl1, he1, e, q⟩ := rs_tk0 hU m t s g c pl he gI gF
    exact ⟨_, _, _, _, _, pl1, he1, e, rfl, rfl, rfl, rfl, rfl, q⟩
  · subst h
    obtain ⟨pl1, he1, e, q⟩ := rs_tk1 hU m t s g c pl he gI gF
    exact ⟨_, _, _, _, _, pl1, he1, e, rfl, rfl, rfl, rfl, rfl, q⟩
  · subst h
    obtain ⟨pl1, he1, e, q⟩ := rs_tk2 hU m t s g c pl he gI gF
    exact ⟨_, _, _, _, _, pl1, he1, e, rfl, rfl, rfl, rfl, rfl, q⟩
  · subst h
    obtain ⟨pl1, he1, e, q⟩ := rs_tk3 hU m t s g c pl he gI gF
    exact ⟨_, _, _, _, _, pl1, he1, e, rfl, rfl, rfl, rfl, rfl, q⟩
  · subst h
    obtain ⟨pl1, he1, e, q⟩ := rs_tk4 hU m t s g c pl he gI gF
    exact ⟨_, _, _, _, _, pl1, he1, e, rfl, rfl, rfl, rfl, rfl, q⟩
  · subst h
    obtain ⟨pl1, he1, e, q⟩ := rs_tk5 hU m t s g c pl he gI gF
    exact ⟨_, _, _, _, _, pl1, he1, e, rfl, rfl, rfl, rfl, rfl, q⟩
  · subst h
    obtain ⟨pl1, he1, e, q⟩ := rs_tk6 hU m t s g c pl he gI gF
    exact ⟨_, _, _, _, _, pl1, he1, e, rfl, rfl, rfl, rfl, rfl, q⟩
  · subst h
    obtain ⟨pl1, he1, e, q⟩ := rs_tk7 hU m t s g c pl he gI gF
    exact ⟨_, _, _, _, _, pl1, he1, e, rfl, rfl, rfl, rfl, rfl, q⟩
  · subst h
    obtain ⟨pl1, he1, e, q⟩ := rs_tk8 hU m t s g c pl he gI gF
    exact ⟨_, _, _, _, _, pl1, he1, e, rfl, rfl, rfl, rfl, rfl, q⟩
  · subst h
    obtain ⟨pl1, he1, e, q⟩ := rs_tk9 hU m t s g c pl he gI gF
    exact ⟨_, _, _, _, _, pl1, he1, e, rfl, rfl, rfl, rfl, rfl, q⟩
  · subst h
    obtain ⟨pl1, he1, e, q⟩ := rs_tk10 hU m t s g c pl he gI gF
    exact ⟨_, _, _, _, _, pl1, he1, e, rfl, rfl, rfl, rfl, rfl, q⟩
  · subst h
    obtain ⟨pl1, he1, e, q⟩ := rs_tk11 hU m t s g c pl he gI gF
    exact ⟨_, _, _, _, _, pl1, he1, e, rfl, rfl, rfl, rfl, rfl, q⟩
  · subst h
    obtain ⟨pl1, he1, e, q⟩ := rs_tk12 hU m t s g c pl he gI gF
    exact ⟨_, _, _, _, _, pl1, he1, e, rfl, rfl, rfl, rfl, rfl, q⟩
  · subst h
    obtain ⟨pl1, he1, e, q⟩ := rs_tk13 hU m t s g c pl he gI gF
    exact ⟨_, _, _, _, _, pl1, he1, e, rfl, rfl, rfl, rfl, rfl, q⟩
  · subst h
    obtain ⟨pl1, he1, e, q⟩ := rs_tk14 hU m t s g c pl he gI gF
    exact ⟨_, _, _, _, _, pl1, he1, e, rfl, rfl, rfl, rfl, rfl, q⟩
  · subst h
    obtain ⟨pl1, he1, e, q⟩ := rs_tk15 hU m t s g c pl he gI gF
    exact ⟨_, _, _, _, _, pl1, he1, e, rfl, rfl, rfl, rfl, rfl, q⟩
theorem rs_im0 (m t s g c : Int) (pl he : Nat → Int) (gI : Nat → Int) (gF : Nat → Nat → Int) : ∃ pl1 he1, Ff_X1_addImage 0 gI m t s g c pl gF he = (0, 1, fl_nI [m, t, s, g, c, gI 5, gI 6, gI 7, gI 8, gI 9, gI 10, gI 11, gI 12, gI 13, gI 14], fl_nF [pl1, he1, gF 2, gF 3, gF 4, gF 5]) ∧ ∀ k : Nat, k < 9 → pl1 k = pl k ∧ he1 k = he k := by
  obtain ⟨pl1, he1, e, q⟩ := rs_cp m t s g c pl (gF 0) he (gF 1)
  refine ⟨pl1, he1, ?_, q⟩
  unfold Ff_X1_addImage
  rw [if_pos (by decide)]
  rw [if_pos rfl]
  rw [e, fl_c7_eq rfl]
theorem rs_is0 (m t s g c : Int) (pl he : Nat → Int) (gI : Nat → Int) (gF : Nat → Nat → Int) (pl1 he1 : Nat → Int) (hq : ∀ k : Nat, k < 9 → pl1 k = pl k ∧ he1 k = he k) : rs_P (fl_nI [m, t, s, g, c, gI 5, gI 6, gI 7, gI 8, gI 9, gI 10, gI 11, gI 12, gI 13, gI 14]) (fl_nF [pl1, he1, gF 2, gF 3, gF 4, gF 5]) 0 m t s g c pl he ∧ ∀ j : Nat, j < 3 → j ≠ 0 → (∀ x : Nat, x < 5 → (fl_nI [m, t, s, g, c, gI 5, gI 6, gI 7, gI 8, gI 9, gI 10, gI 11, gI 12, gI 13, gI 14]) (5 * j + x) = gI (5 * j + x)) ∧ (fl_nF [pl1, he1, gF 2, gF 3, gF 4, gF 5]) (2 * j) = gF (2 * j) ∧ (fl_nF [pl1, he1, gF 2, gF 3, gF 4, gF 5]) (2 * j + 1) = gF (2 * j + 1) := by
  refine ⟨⟨rfl, rfl, rfl, rfl, rfl, hq⟩, fun j hj hn => ?_⟩
  rcases (show j = 0 ∨ j = 1 ∨ j = 2 by omega) with h | h | h
  · exact absurd h hn
  · subst h
    refine ⟨fun x hx => ?_, rfl, rfl⟩
    rcases (show x = 0 ∨ x = 1 ∨ x = 2 ∨ x = 3 ∨ x = 4 by omega) with h | h | h | h | h <;> (subst h; rfl)
  · subst h
    refine ⟨fun x hx => ?_, rfl, rfl⟩
    rcases (show x = 0 ∨ x = 1 ∨ x = 2 ∨ x = 3 ∨ x = 4 by omega) with h | h | h | h | h <;> (subst h; rfl)
theorem rs_im1 (m t s g c : Int) (pl he : Nat → Int) (gI : Nat → Int) (gF : Nat → Nat → Int) : ∃ pl1 he1, Ff_X1_addImage 1 gI m t s g c pl gF he = (1, 2, fl_nI [gI 0, gI 1, gI 2, gI 3, gI 4, m, t, s, g, c, gI 10, gI 11, gI 12, gI 13, gI 14], fl_nF [gF 0, gF 1, pl1, he1, gF 4, gF 5]) ∧ ∀ k : Nat, k < 9 → pl1 k = pl k ∧ he1 k = he k := by
  obtain ⟨pl1, he1, e, q⟩ := rs_cp m t s g c pl (gF 2) he (gF 3)
  refine ⟨pl1, he1, ?_, q⟩
  unfold Ff_X1_addImage
  rw [if_pos (by decide)]
  rw [if_neg (by decide)]
  rw [if_pos rfl]
  rw [e, fl_c7_eq rfl]
theorem rs_is1 (m t s g c : Int) (pl he : Nat → Int) (gI : Nat → Int) (gF : Nat → Nat → Int) (pl1 he1 : Nat → Int) (hq : ∀ k : Nat, k < 9 → pl1 k = pl k ∧ he1 k = he k) : rs_P (fl_nI [gI 0, gI 1, gI 2, gI 3, gI 4, m, t, s, g, c, gI 10, gI 11, gI 12, gI 13, gI 14]) (fl_nF [gF 0, gF 1, pl1, he1, gF 4, gF 5]) 1 m t s g c pl he ∧ ∀ j : Nat, j < 3 → j ≠ 1 → (∀ x : Nat, x < 5 → (fl_nI [gI 0, gI 1, gI 2, gI 3, gI 4, m, t, s, g, c, gI 10, gI 11, gI 12, gI 13, gI 14]) (5 * j + x) = gI (5 * j + x)) ∧ (fl_nF [gF 0, gF 1, pl1, he1, gF 4, gF 5]) (2 * j) = gF (2 * j) ∧ (fl_nF [gF 0, gF 1, pl1, he1, gF 4, gF 5]) (2 * j + 1) = gF (2 * j + 1) := by
  refine ⟨⟨rfl, rfl, rfl, rfl, rfl, hq⟩, fun j hj hn => ?_⟩
  rcases (show j = 0 ∨ j = 1 ∨ j = 2 by omega) with h | h | h
  · subst h
    refine ⟨fun x hx => ?_, rfl, rfl⟩
    rcases (show x = 0 ∨ x = 1 ∨ x = 2 ∨ x = 3 ∨ x = 4 by omega) with h | h | h | h | h <;> (subst h; rfl)
  · exact absurd h hn
  · subst h
    refine ⟨fun x hx => ?_, rfl, rfl⟩
    rcases (show x = 0 ∨ x = 1 ∨ x = 2 ∨ x = 3 ∨ x = 4 by omega) with h | h | h | h | h <;> (subst h; rfl)
theorem rs_im2 (m t s g c : Int) (pl he : Nat → Int) (gI : Nat → Int) (gF : Nat → Nat → Int) : ∃ pl1 he1, Ff_X1_addImage 2 gI m t s g c pl gF he = (2, 3, fl_nI [gI 0, gI 1, gI 2, gI 3, gI 4, gI 5, gI 6, gI 7, gI 8, gI 9, m, t, s, g, c], fl_nF [gF 0, gF 1, gF 2, gF 3, pl1, he1]) ∧ ∀ k : Nat, k < 9 → pl1 k = pl k ∧ he1 k = he k := by
  obtain ⟨pl1, he1, e, q⟩ := rs_cp m t s g c pl (gF 4) he (gF 5)
  refine ⟨pl1, he1, ?_, q⟩
  unfold Ff_X1_addImage
  rw [if_pos (by decide)]
  rw [if_neg (by decide)]
  rw [if_neg (by decide)]
  rw [e, fl_c7_eq rfl]
theorem rs_is2 (m t s g c : Int) (pl he : Nat → Int) (gI : Nat → Int) (gF : Nat → Nat → Int) (pl1 he1 : Nat → Int) (hq : ∀ k : Nat, k < 9 → pl1 k = pl k ∧ he1 k = he k) : rs_P (fl_nI [gI 0, gI 1, gI 2, gI 3, gI 4, gI 5, gI 6, gI 7, gI 8, gI 9, m, t, s, g, c]) (fl_nF [gF 0, gF 1, gF 2, gF 3, pl1, he1]) 2 m t s g c pl he ∧ ∀ j : Nat, j < 3 → j ≠ 2 → (∀ x : Nat, x < 5 → (fl_nI [gI 0, gI 1, gI 2, gI 3, gI 4, gI 5, gI 6, gI 7, gI 8, gI 9, m, t, s, g, c]) (5 * j + x) = gI (5 * j + x)) ∧ (fl_nF [gF 0, gF 1, gF 2, gF 3, pl1, he1]) (2 * j) = gF (2 * j) ∧ (fl_nF [gF 0, gF 1, gF 2, gF 3, pl1, he1]) (2 * j + 1) = gF (2 * j + 1) := by
  refine ⟨⟨rfl, rfl, rfl, rfl, rfl, hq⟩, fun j hj hn => ?_⟩
  rcases (show j = 0 ∨ j = 1 ∨ j = 2 by omega) with h | h | h
  · subst h
    refine ⟨fun x hx => ?_, rfl, rfl⟩
    rcases (show x = 0 ∨ x = 1 ∨ x = 2 ∨ x = 3 ∨ x = 4 by omega) with h | h | h | h | h <;> (subst h; rfl)
  · subst h
    refine ⟨fun x hx => ?_, rfl, rfl⟩
    rcases (show x = 0 ∨ x = 1 ∨ x = 2 ∨ x = 3 ∨ x = 4 by omega) with h | h | h | h | h <;> (subst h; rfl)
  · exact absurd h hn
/-- an image more: here -/
theorem rs_im {N : Int} (h0 : 0 ≤ N) (h1 : N ≤ 2) (m t s g c : Int) (pl he : Nat → Int) (gI : Nat → Int) (gF : Nat → Nat → Int) : ∃ gI1 gF1, Ff_X1_addImage N gI m t s g c pl gF he = (N, N + 1, gI1, gF1) ∧ rs_P gI1 gF1 N.toNat m t s g c pl he ∧ ∀ j : Nat, j < 3 → j ≠ N.toNat → (∀ x : Nat, x < 5 → gI1 (5 * j + x) = gI (5 * j + x)) ∧ gF1 (2 * j) = gF (2 * j) ∧ gF1 (2 * j + 1) = gF (2 * j + 1) := by
  rcases (show N = 0 ∨ N = 1 ∨ N = 2 by omega) with h | h | h
  · subst h
    obtain ⟨pl1, he1, e, q⟩ := rs_im0 m t s g c pl he gI gF
    exact ⟨_, _, e, rs_is0 m t s g c pl he gI gF pl1 he1 q⟩
  · subst h
    obtain ⟨pl1, he1, e, q⟩ := rs_im1 m t s g c pl he gI gF
    exact ⟨_, _, e, rs_is1 m t s g c pl he gI gF pl1 he1 q⟩
  · subst h
    obtain ⟨pl1, he1, e, q⟩ := rs_im2 m t s g c pl he gI gF
    exact ⟨_, _, e, rs_is2 m t s g c pl he gI gF pl1 he1 q⟩
theorem rs_bk0 {N : Int} (hN : 0 < N) (U m t s g c : Int) (pl he : Nat → Int) (gI : Nat → Int) (gF : Nat → Nat → Int) : ∃ pl1 he1, Ff_X1_goBack 0 U N m t s g c gI gF pl he = (1, 0, gI 0, gI 1, gI 2, gI 3, gI 4, pl1, he1) ∧ ∀ k : Nat, k < 9 → gF 0 k = pl1 k ∧ gF 1 k = he1 k := by
  obtain ⟨pl1, he1, e, q⟩ := rs_cp (gI 0) (gI 1) (gI 2) (gI 3) (gI 4) (gF 0) pl (gF 1) he
  refine ⟨pl1, he1, ?_, fun k hk => ⟨(q k hk).1.symm, (q k hk).2.symm⟩⟩
  unfold Ff_X1_goBack
  rw [fl_lt_eq rfl, fl_lt_eq ((rp_in 0 0 (N - 1)).trans (rp_in1 (by omega) (by omega))).symm, if_pos rfl]
  rw [if_pos rfl]
  rw [e, fl_c7_eq rfl]
theorem rs_bk1 {N : Int} (hN : 1 < N) (U m t s g c : Int) (pl he : Nat → Int) (gI : Nat → Int) (gF : Nat → Nat → Int) : ∃ pl1 he1, Ff_X1_goBack 1 U N m t s g c gI gF pl he = (1, 0, gI 5, gI 6, gI 7, gI 8, gI 9, pl1, he1) ∧ ∀ k : Nat, k < 9 → gF 2 k = pl1 k ∧ gF 3 k = he1 k := by
  obtain ⟨pl1, he1, e, q⟩ := rs_cp (gI 5) (gI 6) (gI 7) (gI 8) (gI 9) (gF 2) pl (gF 3) he
  refine ⟨pl1, he1, ?_, fun k hk => ⟨(q k hk).1.symm, (q k hk).2.symm⟩⟩
  unfold Ff_X1_goBack
  rw [fl_lt_eq rfl, fl_lt_eq ((rp_in 1 0 (N - 1)).trans (rp_in1 (by omega) (by omega))).symm, if_pos rfl]
  rw [if_neg (by decide)]
  rw [if_pos rfl]
  rw [e, fl_c7_eq rfl]
theorem rs_bk2 {N : Int} (hN : 2 < N) (U m t s g c : Int) (pl he : Nat → Int) (gI : Nat → Int) (gF : Nat → Nat → Int) : ∃ pl1 he1, Ff_X1_goBack 2 U N m t s g c gI gF pl he = (1, 0, gI 10, gI 11, gI 12, gI 13, gI 14, pl1, he1) ∧ ∀ k : Nat, k < 9 → gF 4 k = pl1 k ∧ gF 5 k = he1 k := by
  obtain ⟨pl1, he1, e, q⟩ := rs_cp (gI 10) (gI 11) (gI 12) (gI 13) (gI 14) (gF 4) pl (gF 5) he
  refine ⟨pl1, he1, ?_, fun k hk => ⟨(q k hk).1.symm, (q k hk).2.symm⟩⟩
  unfold Ff_X1_goBack
  rw [fl_lt_eq rfl, fl_lt_eq ((rp_in 2 0 (N - 1)).trans (rp_in1 (by omega) (by omega))).symm, if_pos rfl]
  rw [if_neg (by decide)]
  rw [if_neg (by decide)]
  rw [e, fl_c7_eq rfl]
/-- back to an image: here -/
theorem rs_bk {N a : Int} (h0 : 0 ≤ a) (h1 : a < N) (h2 : N ≤ 3) (U m t s g c : Int) (pl he : Nat → Int) (gI : Nat → Int) (gF : Nat → Nat → Int) : ∃ m1 t1 s1 g1 c1 pl1 he1, Ff_X1_goBack a U N m t s g c gI gF pl he = (1, 0, m1, t1, s1, g1, c1, pl1, he1) ∧ rs_P gI gF a.toNat m1 t1 s1 g1 c1 pl1 he1 := by
  rcases (show a = 0 ∨ a = 1 ∨ a = 2 by omega) with h | h | h
  · subst h
    obtain ⟨pl1, he1, e, q⟩ := rs_bk0 h1 U m t s g c pl he gI gF
    exact ⟨_, _, _, _, _, pl1, he1, e, rfl, rfl, rfl, rfl, rfl, q⟩
  · subst h
    obtain ⟨pl1, he1, e, q⟩ := rs_bk1 h1 U m t s g c pl he gI gF
    exact ⟨_, _, _, _, _, pl1, he1, e, rfl, rfl, rfl, rfl, rfl, q⟩
  · subst h
    obtain ⟨pl1, he1, e, q⟩ := rs_bk2 h1 U m t s g c pl he gI gF
    exact ⟨_, _, _, _, _, pl1, he1, e, rfl, rfl, rfl, rfl, rfl, q⟩
end RSD
end P092249603_rs4
section P092249604_rs5
section RSE
theorem rs_S_cg {fg sp mi tu sn go ca : Int} {kd pl he st pl1 he1 st1 : Nat → Int} (hf : fg ≤ 9) (hp : ∀ k : Nat, k < 9 → pl1 k = pl k ∧ he1 k = he k) (hs : ∀ k : Nat, k < 23 → st1 k = st k) (h : rs_S fg sp kd mi tu sn go ca pl he st) : rs_S fg sp kd mi tu sn go ca pl1 he1 st1 := by
  obtain ⟨⟨s1, s2, s3, s4, s5⟩, m0, a2, a3, a4, hk⟩ := h
  refine ⟨⟨?_, ?_, ?_, ?_, ?_⟩, m0, a2, a3, a4, fun k hk' => ?_⟩
  · rw [hs 21 (by decide)]; exact s1
  · rw [hs 19 (by decide)]; exact s2
  · rw [hs 20 (by decide)]; exact s3
  · rw [hs 18 (by decide)]; exact s4
  · rw [hs 22 (by decide)]; exact s5
  · have q := hp k (by omega)
    rw [q.1, q.2, hs k (by omega), hs (9 + k) (by omega)]
    exact hk k hk'
/-- a kept scene in its place, and its row there -/
def rs_L (fg sp : Int) (kd : Nat → Int) (gI : Nat → Int) (gF : Nat → Nat → Int) (j : Nat) (row : Nat → Int) : Prop := rs_S fg sp kd (gI (5 * j)) (gI (5 * j + 1)) (gI (5 * j + 2)) (gI (5 * j + 3)) (gI (5 * j + 4)) (gF (2 * j)) (gF (2 * j + 1)) row ∧ gI (5 * j) ≤ 9999
theorem rs_L_of {fg sp m t s g c : Int} {kd gI pl he row row1 : Nat → Int} {gF : Nat → Nat → Int} {j : Nat} (hf : fg ≤ 9) (hP : rs_P gI gF j m t s g c pl he) (hS : rs_S fg sp kd m t s g c pl he row) (hm : m ≤ 9999) (hr : ∀ k : Nat, k < 23 → row1 k = row k) : rs_L fg sp kd gI gF j row1 := by
  obtain ⟨p1, p2, p3, p4, p5, p6⟩ := hP
  unfold rs_L
  rw [p1, p2, p3, p4, p5]
  exact ⟨rs_S_cg hf p6 hr hS, hm⟩
theorem rs_L_to {fg sp m t s g c : Int} {kd gI pl he row row1 : Nat → Int} {gF : Nat → Nat → Int} {j : Nat} (hf : fg ≤ 9) (hP : rs_P gI gF j m t s g c pl he) (h : rs_L fg sp kd gI gF j row) (hr : ∀ k : Nat, k < 23 → row1 k = row k) : rs_S fg sp kd m t s g c pl he row1 ∧ m ≤ 9999 := by
  obtain ⟨p1, p2, p3, p4, p5, p6⟩ := hP
  unfold rs_L at h
  rw [p1, p2, p3, p4, p5] at h
  exact ⟨rs_S_cg hf (fun k hk => ⟨(p6 k hk).1.symm, (p6 k hk).2.symm⟩) hr h.1, h.2⟩
theorem rs_L_same {fg sp : Int} {kd gI gI1 row row1 : Nat → Int} {gF gF1 : Nat → Nat → Int} {j : Nat} (hf : fg ≤ 9) (hI : ∀ x : Nat, x < 5 → gI1 (5 * j + x) = gI (5 * j + x)) (h1 : gF1 (2 * j) = gF (2 * j)) (h2 : gF1 (2 * j + 1) = gF (2 * j + 1)) (h : rs_L fg sp kd gI gF j row) (hr : ∀ k : Nat, k < 23 → row1 k = row k) : rs_L fg sp kd gI1 gF1 j row1 := by
  unfold rs_L at h ⊢
  have e0 : gI1 (5 * j) = gI (5 * j) := hI 0 (by decide)
  rw [e0, hI 1 (by decide), hI 2 (by decide), hI 3 (by decide), hI 4 (by decide), h1, h2]
  exact ⟨rs_S_cg hf (fun _ _ => ⟨rfl, rfl⟩) hr h.1, h.2⟩
/-- what can be undone: here and there -/
def rs_H (fg sp : Int) (kd : Nat → Int) (U L : Int) (gI : Nat → Int) (gF : Nat → Nat → Int) (und : Nat → Int) : Prop := (0 ≤ U ∧ U ≤ 16) ∧ (0 ≤ L ∧ L ≤ 15) ∧ ∀ i : Nat, (i : Int) < U → rs_L fg sp kd gI gF ((L.toNat + 16 - i) % 16) (fun k => und (23 * (U.toNat - 1 - i) + k))
/-- images: here and there -/
def rs_I (fg sp : Int) (kd : Nat → Int) (N : Int) (gI : Nat → Int) (gF : Nat → Nat → Int) (kp : Nat → Int) : Prop := (0 ≤ N ∧ N ≤ 3) ∧ ∀ i : Nat, (i : Int) < N → rs_L fg sp kd gI gF i (fun k => kp (23 * i + k))
theorem rs_cpi {f g : Nat → Int} {sp dp k : Nat} (hk : k < 23) : va_cpy f g sp dp 23 (dp + k) = f (sp + k) := by
  unfold va_cpy
  rw [if_pos (by omega), show dp + k - dp = k by omega]
theorem rs_cpo {f g : Nat → Int} {sp dp k : Nat} (hk : ¬ (dp ≤ k ∧ k < dp + 23)) : va_cpy f g sp dp 23 k = g k := by
  unfold va_cpy
  rw [if_neg hk]
/-- the oldest gives way: there -/
theorem rs_sh2 {U : Int} {st und : Nat → Int} : ∀ (m : Nat) (j : Nat) (u : Nat → Int), 346 ≤ m + j → j ≤ 345 → (∀ k : Nat, k < j → u k = und (k + 23)) → (∀ k : Nat, j ≤ k → u k = und k) →
    ∃ u1, fl_wh (fun t9 : Int × (Nat → Int) => Sf_X8_note_11_1 U st t9.1 t9.2) (0, (fun _ => 0)) m ((j : Int), u) = (U - 1 + 1, va_cpy st u1 0 (23 * (U - 1)).toNat 23) ∧ ∀ k : Nat, k < 345 → u1 k = und (k + 23) := by
  intro m
  induction m with
  | zero => intro j u h1 h2; omega
  | succ m ih =>
    intro j u h1 h2 h3 h4
    by_cases hj : 345 ≤ j
    · refine ⟨u, fl_wh_r (step := fun t9 : Int × (Nat → Int) => Sf_X8_note_11_1 U st t9.1 t9.2) (s := ((j : Int), u)) ?_, fun k hk => h3 k (by omega)⟩
      show Sf_X8_note_11_1 U st (j : Int) u = _
      unfold Sf_X8_note_11_1
      rw [if_pos (by omega)]
      rfl
    · have st1 : Sf_X8_note_11_1 U st (j : Int) u = .inl (((j + 1 : Nat) : Int), fl_up u j (und (j + 23))) := by
        unfold Sf_X8_note_11_1
        rw [if_neg (by omega), fl_lt_eq rfl, fl_lt_eq rfl, fl_lt_eq rfl, fl_lt_eq rfl, show ((j : Int) + 23).toNat = j + 23 by omega, h4 (j + 23) (by omega), Int.toNat_natCast]
        rfl
      obtain ⟨u1, e1, e2⟩ := ih (j + 1) (fl_up u j (und (j + 23))) (by omega) (by omega) (fun k hk => by
        by_cases q : k = j
        · rw [q, rp_up_eq]
        · rw [rp_up_ne _ _ q]; exact h3 k (by omega)) (fun k hk => by rw [rp_up_ne _ _ (by omega)]; exact h4 k (by omega))
      exact ⟨u1, (fl_wh_l (step := fun t9 : Int × (Nat → Int) => Sf_X8_note_11_1 U st t9.1 t9.2) (s := ((j : Int), u)) st1).trans e1, e2⟩
theorem rs_nt {U : Int} (h0 : 0 ≤ U) (h1 : U ≤ 16) (st und : Nat → Int) : ∃ und1, Ff_X8_note U st und = (fl_min (U + 1) 16, und1) ∧ (∀ k : Nat, k < 23 → und1 (23 * ((fl_min (U + 1) 16).toNat - 1) + k) = st k) ∧ ∀ i : Nat, 1 ≤ i → (i : Int) < fl_min (U + 1) 16 → ∀ k : Nat, k < 23 → und1 (23 * ((fl_min (U + 1) 16).toNat - 1 - i) + k) = und (23 * (U.toNat - 1 - (i - 1)) + k) := by
  by_cases hU : U = 16
  · subst hU
    have em : fl_min (16 + 1) 16 = 16 := by decide
    rw [em]
    obtain ⟨u1, e1, e2⟩ := rs_sh2 (U := 16) (st := st) (und := und) 346 0 und (by omega) (by omega) (fun k hk => by omega) (fun k hk => rfl)
    refine ⟨va_cpy st u1 0 (23 * ((16 : Int) - 1)).toNat 23, ?_, ?_, ?_⟩
    · unfold Ff_X8_note
      rw [if_pos rfl]
      exact e1
    · intro k hk
      have := rs_cpi (f := st) (g := u1) (sp := 0) (dp := 345) hk
      rw [Nat.zero_add] at this
      exact this
    · intro i i1 i2 k hk
      have q : 23 * ((16 : Int).toNat - 1 - i) + k = 23 * (15 - i) + k := rfl
      rw [q]
      have c : va_cpy st u1 0 (23 * ((16 : Int) - 1)).toNat 23 (23 * (15 - i) + k) = u1 (23 * (15 - i) + k) := rs_cpo (f := st) (g := u1) (sp := 0) (dp := 345) (by omega)
      rw [c, e2 _ (by omega)]
      have z : 23 * (15 - i) + k + 23 = 23 * ((16 : Int).toNat - 1 - (i - 1)) + k := by
        show 23 * (15 - i) + k + 23 = 23 * (15 - (i - 1)) + k
        omega
      rw [z]
  · have em : fl_min (U + 1) 16 = U + 1 := by unfold fl_min; rw [if_neg (by omega)]
    rw [em]
    refine ⟨va_cpy st und 0 (23 * U).toNat 23, ?_, ?_, ?_⟩
    · unfold Ff_X8_note
      rw [if_neg hU]
      rfl
    · intro k hk
      have := rs_cpi (f := st) (g := und) (sp := 0) (dp := (23 * U).toNat) hk
      rw [Nat.zero_add] at this
      rw [show 23 * ((U + 1).toNat - 1) + k = (23 * U).toNat + k by omega]
      exact this
    · intro i i1 i2 k hk
      rw [rs_cpo (by omega), show 23 * ((U + 1).toNat - 1 - i) + k = 23 * (U.toNat - 1 - (i - 1)) + k by omega]
/-- an act comes: how it is now is kept, here and there -/
theorem rs_H_keep {fg sp m t s g c U L : Int} {kd pl he st und gI : Nat → Int} {gF : Nat → Nat → Int} (hf : fg ≤ 9) (hH : rs_H fg sp kd U L gI gF und) (hS : rs_S fg sp kd m t s g c pl he st) (hm : m ≤ 9999) :
    ∃ U1 L1 gI1 gF1 und1, Ff_X1_keep U L gI m t s g c pl gF he = (U1, L1, gI1, gF1) ∧ Ff_X8_note U st und = (U1, und1) ∧ rs_H fg sp kd U1 L1 gI1 gF1 und1 := by
  obtain ⟨⟨u0, u1⟩, ⟨l0, l1⟩, hk⟩ := hH
  obtain ⟨gI1, gF1, e1, e2, e3⟩ := rs_kp l0 l1 U m t s g c pl he gI gF
  obtain ⟨und1, d1, d2, d3⟩ := rs_nt u0 u1 st und
  have mU : 1 ≤ fl_min (U + 1) 16 ∧ fl_min (U + 1) 16 ≤ 16 ∧ fl_min (U + 1) 16 ≤ U + 1 := by
    unfold fl_min
    split <;> omega
  refine ⟨_, _, gI1, gF1, und1, e1, d1, ⟨by omega, mU.2.1⟩, ⟨by omega, by omega⟩, fun i hi => ?_⟩
  by_cases i0 : i = 0
  · subst i0
    have eL : (((L + 1) % 16).toNat + 16 - 0) % 16 = ((L + 1) % 16).toNat := by omega
    rw [eL]
    exact rs_L_of hf e2 hS hm (fun k hk' => d2 k hk')
  · have hi1 : ((i - 1 : Nat) : Int) < U := by omega
    have eL : (((L + 1) % 16).toNat + 16 - i) % 16 = (L.toNat + 16 - (i - 1)) % 16 := by omega
    have hne : (L.toNat + 16 - (i - 1)) % 16 ≠ ((L + 1) % 16).toNat := by omega
    rw [eL]
    obtain ⟨q1, q2, q3⟩ := e3 _ (by omega) hne
    exact rs_L_same hf q1 q2 q3 (hk (i - 1) hi1) (fun k hk' => d3 i (by omega) hi k hk')
/-- one is undone, here and there -/
theorem rs_H_undo {fg sp U L : Int} {kd und gI st : Nat → Int} {gF : Nat → Nat → Int} (hf : fg ≤ 9) (hH : rs_H fg sp kd U L gI gF und) (hU : ¬ U = 0) (m t s g c : Int) (pl he : Nat → Int) :
    ∃ m1 t1 s1 g1 c1 pl1 he1, Ff_X1_takeLatest U L m t s g c gI gF pl he = (1, U - 1, (L + 15) % 16, m1, t1, s1, g1, c1, pl1, he1) ∧ rs_S fg sp kd m1 t1 s1 g1 c1 pl1 he1 (va_cpy und st (23 * (U - 1)).toNat 0 23) ∧ m1 ≤ 9999 ∧ rs_H fg sp kd (U - 1) ((L + 15) % 16) gI gF und := by
  obtain ⟨⟨u0, u1⟩, ⟨l0, l1⟩, hk⟩ := hH
  obtain ⟨m1, t1, s1, g1, c1, pl1, he1, e1, e2⟩ := rs_tk hU l0 l1 m t s g c pl he gI gF
  have h0 := hk 0 (by omega)
  have eL : (L.toNat + 16 - 0) % 16 = L.toNat := by omega
  rw [eL] at h0
  obtain ⟨q1, q2⟩ := rs_L_to (row1 := va_cpy und st (23 * (U - 1)).toNat 0 23) hf e2 h0 (fun k hk' => by
    have := rs_cpi (f := und) (g := st) (sp := (23 * (U - 1)).toNat) (dp := 0) hk'
    rw [Nat.zero_add] at this
    rw [this]
    show und ((23 * (U - 1)).toNat + k) = und (23 * (U.toNat - 1 - 0) + k)
    rw [show (23 * (U - 1)).toNat + k = 23 * (U.toNat - 1 - 0) + k by omega])
  refine ⟨m1, t1, s1, g1, c1, pl1, he1, e1, q1, q2, ⟨by omega, by omega⟩, ⟨by omega, by omega⟩, fun i hi => ?_⟩
  have := hk (i + 1) (by omega)
  rw [show (L.toNat + 16 - (i + 1)) % 16 = (((L + 15) % 16).toNat + 16 - i) % 16 by omega, show U.toNat - 1 - (i + 1) = (U - 1).toNat - 1 - i by omega] at this
  exact this
/-- an image more, here and there -/
theorem rs_I_add {fg sp m t s g c N : Int} {kd pl he st kp gI : Nat → Int} {gF : Nat → Nat → Int} (hf : fg ≤ 9) (hI : rs_I fg sp kd N gI gF kp) (hN : N ≤ 2) (hS : rs_S fg sp kd m t s g c pl he st) (hm : m ≤ 9999) :
    ∃ gI1 gF1, Ff_X1_addImage N gI m t s g c pl gF he = (N, N + 1, gI1, gF1) ∧ rs_I fg sp kd (N + 1) gI1 gF1 (va_cpy st kp 0 (23 * N).toNat 23) := by
  obtain ⟨⟨n0, n1⟩, hk⟩ := hI
  obtain ⟨gI1, gF1, e1, e2, e3⟩ := rs_im n0 hN m t s g c pl he gI gF
  refine ⟨gI1, gF1, e1, ⟨by omega, by omega⟩, fun i hi => ?_⟩
  by_cases q : i = N.toNat
  · rw [← q] at e2
    refine rs_L_of hf e2 hS hm (fun k hk' => ?_)
    have := rs_cpi (f := st) (g := kp) (sp := 0) (dp := (23 * N).toNat) hk'
    rw [Nat.zero_add] at this
    show va_cpy st kp 0 (23 * N).toNat 23 (23 * i + k) = st k
    rw [show 23 * i + k = (23 * N).toNat + k by omega]
    exact this
  · obtain ⟨q1, q2, q3⟩ := e3 i (by omega) q
    exact rs_L_same hf q1 q2 q3 (hk i (by omega)) (fun k hk' => rs_cpo (by omega))
/-- back to an image, here and there -/
theorem rs_I_back {fg sp N a : Int} {kd kp gI st : Nat → Int} {gF : Nat → Nat → Int} (hf : fg ≤ 9) (hI : rs_I fg sp kd N gI gF kp) (h0 : 0 ≤ a) (h1 : a < N) (U m t s g c : Int) (pl he : Nat → Int) :
    ∃ m1 t1 s1 g1 c1 pl1 he1, Ff_X1_goBack a U N m t s g c gI gF pl he = (1, 0, m1, t1, s1, g1, c1, pl1, he1) ∧ rs_S fg sp kd m1 t1 s1 g1 c1 pl1 he1 (va_cpy kp st (23 * a).toNat 0 23) ∧ m1 ≤ 9999 := by
  obtain ⟨⟨n0, n1⟩, hk⟩ := hI
  obtain ⟨m1, t1, s1, g1, c1, pl1, he1, e1, e2⟩ := rs_bk h0 h1 n1 U m t s g c pl he gI gF
  obtain ⟨q1, q2⟩ := rs_L_to (row1 := va_cpy kp st (23 * a).toNat 0 23) hf e2 (hk a.toNat (by omega)) (fun k hk' => by
    have := rs_cpi (f := kp) (g := st) (sp := (23 * a).toNat) (dp := 0) hk'
    rw [Nat.zero_add] at this
    rw [this]
    show kp ((23 * a).toNat + k) = kp (23 * a.toNat + k)
    rw [show (23 * a).toNat + k = 23 * a.toNat + k by omega])
  exact ⟨m1, t1, s1, g1, c1, pl1, he1, e1, q1, q2⟩
end RSE
end P092249604_rs5
section P092249605_rs6
section RSF
theorem rs_tn (a lo hi fg : Int) : Ff_X7_troubleOfNumber a lo hi fg = if fg ≤ 0 then 1 else if lo ≤ a ∧ a ≤ hi then 0 else 2 := by
  unfold Ff_X7_troubleOfNumber Ff_X7_hasGallery
  by_cases h1 : fg ≤ 0
  · rw [if_pos h1, if_pos h1]; rfl
  · rw [if_neg h1, if_neg h1, fl_lt_eq rfl, if_pos rfl, rp_in]
    by_cases h2 : lo ≤ a ∧ a ≤ hi
    · rw [if_pos h2, rp_in1 h2.1 h2.2]; rfl
    · rw [if_neg h2, rp_in0 h2]; rfl
theorem rs_isf (a fg : Int) : Ff_X7_isFigure a fg = if 0 ≤ a ∧ a ≤ fg - 1 then 1 else 0 := by
  unfold Ff_X7_isFigure
  rw [fl_lt_eq rfl, rp_in]
  by_cases h2 : 0 ≤ a ∧ a ≤ fg - 1
  · rw [if_pos h2, rp_in1 h2.1 h2.2]; rfl
  · rw [if_neg h2, rp_in0 h2]; rfl
theorem rs_isfm (a : Int) (r : Nat → Int) : Ff_X8_isFigure a 1 r = if 0 ≤ a ∧ a ≤ r 0 - 1 then 1 else 0 := by
  unfold Ff_X8_isFigure
  rw [if_neg (by decide), fl_lt_eq rfl, fl_lt_eq rfl]
  by_cases h2 : 0 ≤ a ∧ a ≤ r 0 - 1
  · rw [if_pos h2, rp_in1 h2.1 h2.2]; rfl
  · rw [if_neg h2, rp_in0 h2]; rfl
/-- the watchers as told: there -/
theorem rs_wt {r : Nat → Int} (h0 : 0 ≤ r 5) (h3 : r 5 ≤ 3) : ∀ (m : Nat) (j : Nat) (f t : Nat → Int), r 5 + 1 - (j : Int) ≤ (m : Int) → (j : Int) ≤ r 5 → (∀ w : Nat, w < j → f w = r (30 + 2 * w) ∧ t w = r (31 + 2 * w)) →
    ∃ f1 t1, fl_wh (fun t9 : Int × (Nat → Int) × (Nat → Int) => Sf_X8_watchAsTold_2_1 r t9.1 t9.2.1 t9.2.2) (0, (fun _ => 0), (fun _ => 0)) m ((j : Int), f, t) = (0, f1, t1) ∧ ∀ w : Nat, (w : Int) < r 5 → f1 w = r (30 + 2 * w) ∧ t1 w = r (31 + 2 * w) := by
  intro m
  induction m with
  | zero => intro j f t h1 h2; omega
  | succ m ih =>
    intro j f t h1 h2 hw
    by_cases hj : r 5 ≤ (j : Int)
    · refine ⟨f, t, fl_wh_r (step := fun t9 : Int × (Nat → Int) × (Nat → Int) => Sf_X8_watchAsTold_2_1 r t9.1 t9.2.1 t9.2.2) (s := ((j : Int), f, t)) ?_, fun w hw' => hw w (by omega)⟩
      show Sf_X8_watchAsTold_2_1 r (j : Int) f t = _
      unfold Sf_X8_watchAsTold_2_1
      rw [fl_lt_eq rfl, if_pos hj]
    · have st1 : Sf_X8_watchAsTold_2_1 r (j : Int) f t = .inl (((j + 1 : Nat) : Int), fl_up f j (r (30 + 2 * j)), fl_up t j (r (31 + 2 * j))) := by
        unfold Sf_X8_watchAsTold_2_1
        rw [fl_lt_eq rfl, if_neg hj]
        simp only [fl_lt]
        rw [Int.toNat_natCast, show (30 + 2 * (j : Int)).toNat = 30 + 2 * j by omega, show (30 + 2 * (j : Int) + 1).toNat = 31 + 2 * j by omega]
        rfl
      obtain ⟨f1, t1, e1, e2⟩ := ih (j + 1) (fl_up f j (r (30 + 2 * j))) (fl_up t j (r (31 + 2 * j))) (by omega) (by omega) (fun w hw' => by
        by_cases q : w = j
        · rw [q, rp_up_eq, rp_up_eq]; exact ⟨rfl, rfl⟩
        · rw [rp_up_ne _ _ q, rp_up_ne _ _ q]; exact hw w (by omega))
      exact ⟨f1, t1, (fl_wh_l (step := fun t9 : Int × (Nat → Int) × (Nat → Int) => Sf_X8_watchAsTold_2_1 r t9.1 t9.2.1 t9.2.2) (s := ((j : Int), f, t)) st1).trans e1, e2⟩
/-- the watchers told, here and there -/
def rs_D (wc po : Int) (wf wt r : Nat → Int) : Prop := wc = r 5 ∧ 0 ≤ wc ∧ wc ≤ 3 ∧ po = 0 ∧ ∀ w : Nat, (w : Int) < wc → wf w = r (30 + 2 * w) ∧ wt w = r (31 + 2 * w) ∧ (0 ≤ r (30 + 2 * w) ∧ r (30 + 2 * w) ≤ 8) ∧ (0 ≤ r (31 + 2 * w) ∧ r (31 + 2 * w) ≤ 8)
theorem rs_told {wc po : Int} {wf wt r : Nat → Int} (h : rs_D wc po wf wt r) (f0 t0 : Nat → Int) : ∃ f1 t1, Ff_X8_watchAsTold r f0 t0 = (0, f1, t1) ∧ rs_W wc po wf wt 0 r f1 t1 := by
  obtain ⟨h1, h2, h3, h4, h5⟩ := h
  obtain ⟨f1, t1, e1, e2⟩ := rs_wt (r := r) (by omega) (by omega) 4 0 f0 t0 (by omega) (by omega) (fun w hw => by omega)
  refine ⟨f1, t1, e1, h1, h2, h3, h4, by omega, by omega, fun w hw => ?_⟩
  obtain ⟨q1, q2, q3, q4⟩ := h5 w hw
  obtain ⟨p1, p2⟩ := e2 w (by omega)
  rw [p1, p2]
  exact ⟨q1, q2, q3, q4⟩
/-- minutes of go: here and there -/
theorem rs_gol {n fg sp sa ti pu g0 wc po U1 L1 v0 v11 sd : Int} {kd me wf wt r f1 t1 gI1 und1 : Nat → Int} {gF1 : Nat → Nat → Int} (hG : rs_G fg sp sa ti pu kd me r) (hW : rs_W wc po wf wt sd r f1 t1) :
    ∀ (d : Nat) (m1 m2 : Nat) (j mi tu sn go ca y1 y2 y3 : Int) (pl he st : Nat → Int), n - j = (d : Int) → d + 1 ≤ m1 → d + 1 ≤ m2 → rs_S fg sp kd mi tu sn go ca pl he st → mi + (d : Int) ≤ 9999 →
    ∃ mi1 tu1 sn1 go1 ca1 z1 z2 z3 pl1 he1 st1, fl_wh (fun t9 : Int × Int × Int × Int × Int × Int × (Nat → Int) × (Nat → Int) => Sf_X7_go_62_1 n fg sp sa ti pu g0 kd me wc po wt wf U1 L1 gI1 gF1 t9.1 t9.2.1 t9.2.2.1 t9.2.2.2.1 t9.2.2.2.2.1 t9.2.2.2.2.2.1 t9.2.2.2.2.2.2.1 t9.2.2.2.2.2.2.2) (0, 0, 0, 0, 0, 0, 0, 0, 0, (fun _ => 0), (fun _ => 0), (fun _ _ => 0), (fun _ => 0)) m1 (j, mi, tu, sn, go, ca, pl, he) = (fl_and go1 (fl_xor g0 (-1)), 0, mi1, tu1, sn1, go1, ca1, U1, L1, gI1, pl1, gF1, he1) ∧
      fl_wh (fun t9 : Int × Int × Int × Int × (Nat → Int) => Sf_X8_go_70_1 n r v0 v11 U1 und1 sd f1 t1 g0 t9.1 t9.2.1 t9.2.2.1 t9.2.2.2.1 t9.2.2.2.2) (0, 0, 0, 0, 0, 0, 0, 0, (fun _ => 0), (fun _ => 0), (fun _ => 0), (fun _ => 0)) m2 (j, y1, y2, y3, st) = (fl_and go1 (fl_xor g0 (-1)), v0, v11, U1, sd, z1, z2, z3, st1, und1, f1, t1) ∧ rs_S fg sp kd mi1 tu1 sn1 go1 ca1 pl1 he1 st1 ∧ mi1 ≤ 9999 := by
  intro d
  induction d with
  | zero =>
    intro m1 m2 j mi tu sn go ca y1 y2 y3 pl he st hd h1 h2 hS hm
    obtain ⟨m1, rfl⟩ : ∃ q, m1 = q + 1 := ⟨m1 - 1, by omega⟩
    obtain ⟨m2, rfl⟩ : ∃ q, m2 = q + 1 := ⟨m2 - 1, by omega⟩
    obtain ⟨⟨s1, s2, s3, s4, s5⟩, -⟩ := id hS
    refine ⟨mi, tu, sn, go, ca, y1, y2, y3, pl, he, st, fl_wh_r (step := fun t9 : Int × Int × Int × Int × Int × Int × (Nat → Int) × (Nat → Int) => Sf_X7_go_62_1 n fg sp sa ti pu g0 kd me wc po wt wf U1 L1 gI1 gF1 t9.1 t9.2.1 t9.2.2.1 t9.2.2.2.1 t9.2.2.2.2.1 t9.2.2.2.2.2.1 t9.2.2.2.2.2.2.1 t9.2.2.2.2.2.2.2) (s := (j, mi, tu, sn, go, ca, pl, he)) ?_, fl_wh_r (step := fun t9 : Int × Int × Int × Int × (Nat → Int) => Sf_X8_go_70_1 n r v0 v11 U1 und1 sd f1 t1 g0 t9.1 t9.2.1 t9.2.2.1 t9.2.2.2.1 t9.2.2.2.2) (s := (j, y1, y2, y3, st)) ?_, hS, by omega⟩
    · show Sf_X7_go_62_1 n fg sp sa ti pu g0 kd me wc po wt wf U1 L1 gI1 gF1 j mi tu sn go ca pl he = _
      unfold Sf_X7_go_62_1
      rw [if_pos (by omega)]
      rfl
    · show Sf_X8_go_70_1 n r v0 v11 U1 und1 sd f1 t1 g0 j y1 y2 y3 st = _
      unfold Sf_X8_go_70_1
      rw [if_pos (by omega), ← s4]
      rfl
  | succ d ih =>
    intro m1 m2 j mi tu sn go ca y1 y2 y3 pl he st hd h1 h2 hS hm
    obtain ⟨m1, rfl⟩ : ∃ q, m1 = q + 1 := ⟨m1 - 1, by omega⟩
    obtain ⟨m2, rfl⟩ : ∃ q, m2 = q + 1 := ⟨m2 - 1, by omega⟩
    obtain ⟨tu1, sn1, go1, ca1, pl1, he1, st1, e1, e2, e3⟩ := rs_pass hG hW hS (by omega)
    obtain ⟨mi2, tu2, sn2, go2, ca2, z1, z2, z3, pl2, he2, st2, q1, q2, q3, q4⟩ := ih m1 m2 (j + 1) (mi + 1) tu1 sn1 go1 ca1 tu _ _ pl1 he1 st1 (by omega) (by omega) (by omega) e3 (by omega)
    refine ⟨mi2, tu2, sn2, go2, ca2, z1, z2, z3, pl2, he2, st2, (fl_wh_l (step := fun t9 : Int × Int × Int × Int × Int × Int × (Nat → Int) × (Nat → Int) => Sf_X7_go_62_1 n fg sp sa ti pu g0 kd me wc po wt wf U1 L1 gI1 gF1 t9.1 t9.2.1 t9.2.2.1 t9.2.2.2.1 t9.2.2.2.2.1 t9.2.2.2.2.2.1 t9.2.2.2.2.2.2.1 t9.2.2.2.2.2.2.2) (s := (j, mi, tu, sn, go, ca, pl, he)) ?_).trans q1, (fl_wh_l (step := fun t9 : Int × Int × Int × Int × (Nat → Int) => Sf_X8_go_70_1 n r v0 v11 U1 und1 sd f1 t1 g0 t9.1 t9.2.1 t9.2.2.1 t9.2.2.2.1 t9.2.2.2.2) (s := (j, y1, y2, y3, st)) ?_).trans q2, q3, q4⟩
    · show Sf_X7_go_62_1 n fg sp sa ti pu g0 kd me wc po wt wf U1 L1 gI1 gF1 j mi tu sn go ca pl he = _
      unfold Sf_X7_go_62_1
      rw [if_neg (by omega), e1, fl_c7_eq rfl]
      rfl
    · show Sf_X8_go_70_1 n r v0 v11 U1 und1 sd f1 t1 g0 j y1 y2 y3 st = _
      unfold Sf_X8_go_70_1
      rw [if_neg (by omega), e2, fl_c4_eq rfl]
      rfl
/-- go: here and there -/
theorem rs_go {fg sp sa ti pu wc po mi tu sn go ca U L : Int} {kd me wf wt r pl he st und gI : Nat → Int} {gF : Nat → Nat → Int} (hG : rs_G fg sp sa ti pu kd me r) (hD : rs_D wc po wf wt r) (hS : rs_S fg sp kd mi tu sn go ca pl he st) (hm : mi ≤ 9999) (hH : rs_H fg sp kd U L gI gF und) (n x5 x6 x7 x8 : Int) (f0 t0 : Nat → Int) :
    ∃ R tr mi1 tu1 sn1 go1 ca1 U1 L1 z5 z6 z7 z8 gI1 pl1 gF1 he1 st1 und1 f1 t1, Ff_X7_go n fg sp sa ti pu mi tu sn go ca U L gI pl gF he kd me wc po wt wf = (R, tr, mi1, tu1, sn1, go1, ca1, U1, L1, gI1, pl1, gF1, he1) ∧ Ff_X8_go n 1 U x5 x6 x7 x8 st und r f0 t0 = (R, 0, tr, U1, z5, z6, z7, z8, st1, und1, f1, t1) ∧ rs_S fg sp kd mi1 tu1 sn1 go1 ca1 pl1 he1 st1 ∧ mi1 ≤ 9999 ∧ rs_H fg sp kd U1 L1 gI1 gF1 und1 := by
  obtain ⟨⟨f1, f2, f3⟩, -⟩ := id hG
  obtain ⟨⟨s1, s2, s3, s4, s5⟩, m0, -⟩ := id hS
  have hg : ¬ fg ≤ 0 := by omega
  by_cases hn : 1 ≤ n ∧ n ≤ 60
  · have et : Ff_X7_troubleOfNumber n 1 60 fg = 0 := by rw [rs_tn, if_neg hg, if_pos hn]
    have ei : Ff_X8_in n 1 60 = 1 := rp_in1 hn.1 hn.2
    have ea : fl_iadd mi n = mi + n := rp_iadd (by omega) (by omega) (by omega) (by omega) (by omega) (by omega)
    by_cases hr : mi + n ≤ 9999
    · obtain ⟨U1, L1, gI1, gF1, und1, k1, k2, k3⟩ := rs_H_keep f3 hH hS hm
      obtain ⟨f1', t1', w1, w2⟩ := rs_told hD f0 t0
      obtain ⟨mi1, tu1, sn1, go1, ca1, z1, z2, z3, pl1, he1, st1, q1, q2, q3, q4⟩ := rs_gol (n := n) (g0 := go) (U1 := U1) (L1 := L1) (v0 := 0) (v11 := 0) (gI1 := gI1) (und1 := und1) (gF1 := gF1) hG w2 n.toNat 61 2147483648 0 mi tu sn go ca x6 x7 x8 pl he st (by omega) (by omega) (by omega) hS (by omega)
      refine ⟨fl_and go1 (fl_xor go (-1)), 0, mi1, tu1, sn1, go1, ca1, U1, L1, 0, z1, z2, z3, gI1, pl1, gF1, he1, st1, und1, f1', t1', ?_, ?_, q3, q4, k3⟩
      · unfold Ff_X7_go
        rw [et, fl_lt_eq rfl, if_pos rfl, ea, fl_lt_eq rfl, if_pos hr, k1, fl_c4_eq rfl]
        exact q1
      · unfold Ff_X8_go Ff_X8_good
        rw [fl_c2_eq rfl, ei, fl_lt_eq rfl, if_pos rfl, show Ff_X8_why 1 1 = 0 from rfl, fl_lt_eq rfl, if_neg (by decide), if_neg (by decide), fl_lt_eq rfl, ← s1, ea, fl_lt_eq rfl, if_pos hr]
        unfold Gf_X8_go_41_1
        rw [if_pos rfl, k2, fl_c2_eq rfl, w1, fl_c3_eq rfl, fl_lt_eq rfl, ← s4]
        exact q2
    · refine ⟨-1, 3, mi, tu, sn, go, ca, U, L, x5, x6, x7, x8, gI, pl, gF, he, st, und, f0, t0, ?_, ?_, hS, hm, hH⟩
      · unfold Ff_X7_go
        rw [et, fl_lt_eq rfl, if_pos rfl, ea, fl_lt_eq rfl, if_neg hr]
        rfl
      · unfold Ff_X8_go Ff_X8_good
        rw [fl_c2_eq rfl, ei, fl_lt_eq rfl, if_pos rfl, show Ff_X8_why 1 1 = 0 from rfl, fl_lt_eq rfl, if_neg (by decide), if_neg (by decide), fl_lt_eq rfl, ← s1, ea, fl_lt_eq rfl, if_neg hr]
        unfold Gf_X8_go_41_1
        rw [if_neg (by decide)]
        rfl
  · have et : Ff_X7_troubleOfNumber n 1 60 fg = 2 := by rw [rs_tn, if_neg hg, if_neg hn]
    have ei : Ff_X8_in n 1 60 = 0 := rp_in0 hn
    refine ⟨-1, 2, mi, tu, sn, go, ca, U, L, x5, x6, x7, x8, gI, pl, gF, he, st, und, f0, t0, ?_, ?_, hS, hm, hH⟩
    · unfold Ff_X7_go
      rw [et, fl_lt_eq rfl, if_neg (by decide), if_neg (by decide)]
      rfl
    · unfold Ff_X8_go Ff_X8_good
      rw [fl_c2_eq rfl, ei, fl_lt_eq rfl, if_neg (by decide), show Ff_X8_why 1 0 = 2 from rfl, fl_lt_eq rfl, if_pos rfl]
      unfold Gf_X8_go_41_2
      rw [if_neg (by decide)]
      rfl
/-- put: here and there -/
theorem rs_put {fg sp sa ti pu mi tu sn go ca U L : Int} {kd me r pl he st und gI : Nat → Int} {gF : Nat → Nat → Int} (hG : rs_G fg sp sa ti pu kd me r) (hS : rs_S fg sp kd mi tu sn go ca pl he st) (hm : mi ≤ 9999) (hH : rs_H fg sp kd U L gI gF und) (a : Int) :
    ∃ R tr U1 L1 gI1 pl1 gF1 st1 und1, Ff_X7_put a fg mi tu sn go ca pl U L gI gF he = (R, tr, pl1, U1, L1, gI1, gF1) ∧ Ff_X8_put a 1 U r st und = (R, 0, tr, U1, st1, und1) ∧ rs_S fg sp kd mi tu sn go ca pl1 he st1 ∧ rs_H fg sp kd U1 L1 gI1 gF1 und1 := by
  obtain ⟨⟨f1, f2, f3⟩, -⟩ := id hG
  obtain ⟨⟨s1, s2, s3, s4, s5⟩, m0, -, -, -, hk⟩ := id hS
  by_cases h : 0 ≤ a ∧ a ≤ fg - 1
  · have e1 : Ff_X7_isFigure a fg = 1 := by rw [rs_isf, if_pos h]
    have e2 : Ff_X8_isFigure a 1 r = 1 := by rw [rs_isfm, if_pos (by omega)]
    obtain ⟨k1, k2, k3, k4⟩ := hk a.toNat (by omega)
    by_cases hb : Ff_X7_hasBit go a = 1
    · refine ⟨-1, 5, U, L, gI, pl, gF, st, und, ?_, ?_, hS, hH⟩
      · unfold Ff_X7_put Ff_X5_isGone
        rw [e1, fl_lt_eq rfl, if_pos rfl, hb]
        rfl
      · unfold Ff_X8_put Ff_X8_good
        rw [fl_c2_eq rfl, e2, fl_lt_eq rfl, if_pos rfl, fl_lt_eq rfl, ← s4, rs_hb, hb]
        rfl
    · have hb0 : Ff_X7_hasBit go a = 0 := (rs_hb01 go a).resolve_right hb
      by_cases hp : pl a.toNat = a
      · refine ⟨-1, 5, U, L, gI, pl, gF, st, und, ?_, ?_, hS, hH⟩
        · unfold Ff_X7_put Ff_X5_isGone
          rw [e1, fl_lt_eq rfl, if_pos rfl, hb0, fl_lt_eq rfl, fl_lt_eq rfl, if_neg (by decide), fl_lt_eq rfl, if_pos hp]
          rfl
        · unfold Ff_X8_put Ff_X8_good
          rw [fl_c2_eq rfl, e2, fl_lt_eq rfl, if_pos rfl, fl_lt_eq rfl, ← s4, rs_hb, hb0, fl_lt_eq rfl, if_neg (by decide), fl_lt_eq rfl, ← k1, if_pos hp]
          rfl
      · obtain ⟨U1, L1, gI1, gF1, und1, q1, q2, q3⟩ := rs_H_keep f3 hH hS hm
        refine ⟨pl a.toNat, 0, U1, L1, gI1, fl_up pl a.toNat a, gF1, fl_up st a.toNat a, und1, ?_, ?_, rs_S_pl hS (by omega) (by omega) (by omega), q3⟩
        · unfold Ff_X7_put Ff_X5_isGone
          rw [e1, fl_lt_eq rfl, if_pos rfl, hb0, fl_lt_eq rfl, fl_lt_eq rfl, if_neg (by decide), fl_lt_eq rfl, if_neg hp, q1, fl_c4_eq rfl]
          rfl
        · unfold Ff_X8_put Ff_X8_good
          rw [fl_c2_eq rfl, e2, fl_lt_eq rfl, if_pos rfl, fl_lt_eq rfl, ← s4, rs_hb, hb0, fl_lt_eq rfl, if_neg (by decide), fl_lt_eq rfl, ← k1, if_neg hp, q2, fl_c2_eq rfl]
          rfl
  · have e1 : Ff_X7_isFigure a fg = 0 := by rw [rs_isf, if_neg h]
    have e2 : Ff_X8_isFigure a 1 r = 0 := by rw [rs_isfm, if_neg (by omega)]
    refine ⟨-1, 1, U, L, gI, pl, gF, st, und, ?_, ?_, hS, hH⟩
    · unfold Ff_X7_put
      rw [e1]
      rfl
    · unfold Ff_X8_put Ff_X8_good
      rw [fl_c2_eq rfl, e2]
      rfl
theorem rs_S_tu {fg sp mi tu sn go ca : Int} {kd pl he st : Nat → Int} (hf : fg ≤ 9) (hs : 1 ≤ sp) (h : rs_S fg sp kd mi tu sn go ca pl he st) {a : Int} (a0 : 0 ≤ a) (a1 : a < fg) : rs_S fg sp kd mi a 0 go ca pl he (fl_up (fl_up st 19 a) 20 0) := by
  obtain ⟨⟨s1, s2, s3, s4, s5⟩, m0, a2, a3, a4, hk⟩ := h
  refine ⟨⟨?_, ?_, (rp_up_eq _ _ _).symm, ?_, ?_⟩, m0, ⟨a0, a1⟩, by omega, a4, fun k hk' => ?_⟩
  · rw [rp_up_ne _ _ (by omega), rp_up_ne _ _ (by omega)]; exact s1
  · rw [rp_up_ne _ _ (by omega), rp_up_eq]
  · rw [rp_up_ne _ _ (by omega), rp_up_ne _ _ (by omega)]; exact s4
  · rw [rp_up_ne _ _ (by omega), rp_up_ne _ _ (by omega)]; exact s5
  · rw [rp_up_ne _ _ (by omega), rp_up_ne _ _ (by omega), rp_up_ne _ _ (by omega), rp_up_ne _ _ (by omega)]; exact hk k hk'
/-- wind: here and there -/
theorem rs_wind {fg sp sa ti pu mi tu sn go ca U L : Int} {kd me r pl he st und gI : Nat → Int} {gF : Nat → Nat → Int} (hG : rs_G fg sp sa ti pu kd me r) (hS : rs_S fg sp kd mi tu sn go ca pl he st) (hm : mi ≤ 9999) (hH : rs_H fg sp kd U L gI gF und) (a : Int) :
    ∃ R tr tu1 sn1 U1 L1 gI1 gF1 st1 und1, Ff_X7_wind a fg mi tu sn go ca U L gI pl gF he = (R, tr, tu1, sn1, U1, L1, gI1, gF1) ∧ Ff_X8_wind a 1 U r st und = (R, 0, tr, U1, st1, und1) ∧ rs_S fg sp kd mi tu1 sn1 go ca pl he st1 ∧ rs_H fg sp kd U1 L1 gI1 gF1 und1 := by
  obtain ⟨⟨f1, f2, f3⟩, ⟨sp1, sp2, sp3⟩, -⟩ := id hG
  obtain ⟨⟨s1, s2, s3, s4, s5⟩, -⟩ := id hS
  by_cases h : 0 ≤ a ∧ a ≤ fg - 1
  · have e1 : Ff_X7_isFigure a fg = 1 := by rw [rs_isf, if_pos h]
    have e2 : Ff_X8_isFigure a 1 r = 1 := by rw [rs_isfm, if_pos (by omega)]
    by_cases hb : tu = a ∧ sn = 0
    · refine ⟨-1, 5, tu, sn, U, L, gI, gF, st, und, ?_, ?_, hS, hH⟩
      · unfold Ff_X7_wind
        rw [e1, fl_lt_eq rfl, if_pos rfl, if_pos hb.1, if_pos hb.2]
        rfl
      · unfold Ff_X8_wind Ff_X8_good
        rw [fl_c2_eq rfl, e2, fl_lt_eq rfl, if_pos rfl, fl_lt_eq rfl, ← s2, if_pos hb.1, fl_lt_eq rfl, ← s3, if_pos hb.2]
        rfl
    · obtain ⟨U1, L1, gI1, gF1, und1, q1, q2, q3⟩ := rs_H_keep f3 hH hS hm
      refine ⟨tu, 0, a, 0, U1, L1, gI1, gF1, fl_up (fl_up st 19 a) 20 0, und1, ?_, ?_, rs_S_tu f3 sp2 hS h.1 (by omega), q3⟩
      · unfold Ff_X7_wind
        rw [e1, fl_lt_eq rfl, if_pos rfl]
        by_cases ht : tu = a
        · rw [if_pos ht, if_neg (fun z => hb ⟨ht, z⟩), q1, fl_c4_eq rfl]; rfl
        · rw [if_neg ht, q1, fl_c4_eq rfl]; rfl
      · unfold Ff_X8_wind Ff_X8_good
        rw [fl_c2_eq rfl, e2, fl_lt_eq rfl, if_pos rfl, fl_lt_eq rfl, ← s2]
        by_cases ht : tu = a
        · rw [if_pos ht, fl_lt_eq rfl, ← s3, if_neg (fun z => hb ⟨ht, z⟩), q2, fl_c2_eq rfl]; rfl
        · rw [if_neg ht, q2, fl_c2_eq rfl]; rfl
  · have e1 : Ff_X7_isFigure a fg = 0 := by rw [rs_isf, if_neg h]
    have e2 : Ff_X8_isFigure a 1 r = 0 := by rw [rs_isfm, if_neg (by omega)]
    refine ⟨-1, 1, tu, sn, U, L, gI, gF, st, und, ?_, ?_, hS, hH⟩
    · unfold Ff_X7_wind
      rw [e1]
      rfl
    · unfold Ff_X8_wind Ff_X8_good
      rw [fl_c2_eq rfl, e2]
      rfl
/-- undo: here and there -/
theorem rs_undo {fg sp mi tu sn go ca U L : Int} {kd pl he st und gI : Nat → Int} {gF : Nat → Nat → Int} (hf : fg ≤ 9) (hS : rs_S fg sp kd mi tu sn go ca pl he st) (hm : mi ≤ 9999) (hH : rs_H fg sp kd U L gI gF und) :
    ∃ R tr U1 L1 mi1 tu1 sn1 go1 ca1 pl1 he1 st1, Ff_X7_undo U L mi tu sn go ca gI gF pl he = (R, tr, U1, L1, mi1, tu1, sn1, go1, ca1, pl1, he1) ∧ Ff_X8_undo U und st = (R, 0, tr, U1, st1) ∧ rs_S fg sp kd mi1 tu1 sn1 go1 ca1 pl1 he1 st1 ∧ mi1 ≤ 9999 ∧ rs_H fg sp kd U1 L1 gI gF und := by
  by_cases h : U = 0
  · refine ⟨0, 6, U, L, mi, tu, sn, go, ca, pl, he, st, ?_, ?_, hS, hm, hH⟩
    · unfold Ff_X7_undo Ff_X1_takeLatest
      rw [if_pos h, fl_c10_eq rfl]
      rfl
    · unfold Ff_X8_undo Ff_X8_good
      rw [fl_c2_eq rfl, if_pos h]
      rfl
  · obtain ⟨m1, t1, s1, g1, c1, pl1, he1, e1, e2, e3, e4⟩ := rs_H_undo (st := st) hf hH h mi tu sn go ca pl he
    refine ⟨1, 0, U - 1, (L + 15) % 16, m1, t1, s1, g1, c1, pl1, he1, _, ?_, ?_, e2, e3, e4⟩
    · unfold Ff_X7_undo
      rw [e1, fl_c10_eq rfl]
      rfl
    · unfold Ff_X8_undo Ff_X8_good
      rw [fl_c2_eq rfl, if_neg h]
      rfl
/-- image: here and there -/
theorem rs_image {fg sp mi tu sn go ca N : Int} {kd pl he st kp gI : Nat → Int} {gF : Nat → Nat → Int} (hf : fg ≤ 9) (hg : ¬ fg ≤ 0) (hS : rs_S fg sp kd mi tu sn go ca pl he st) (hm : mi ≤ 9999) (hI : rs_I fg sp kd N gI gF kp) :
    ∃ R tr N1 gI1 gF1 kp1, Ff_X7_image fg N gI mi tu sn go ca pl gF he = (R, tr, N1, gI1, gF1) ∧ Ff_X8_image 1 N st kp = (R, 0, tr, N1, kp1) ∧ rs_I fg sp kd N1 gI1 gF1 kp1 := by
  have e1 : Ff_X7_hasGallery fg = 1 := by unfold Ff_X7_hasGallery; rw [if_neg hg]
  obtain ⟨⟨n0, n1⟩, -⟩ := id hI
  by_cases h : N = 3
  · refine ⟨-1, 3, N, gI, gF, kp, ?_, ?_, hI⟩
    · unfold Ff_X7_image
      rw [e1, fl_lt_eq rfl, if_pos rfl, if_neg (by omega)]
      rfl
    · unfold Ff_X8_image Ff_X8_good
      rw [fl_c2_eq rfl, if_neg (by decide), if_pos h]
      rfl
  · obtain ⟨gI1, gF1, q1, q2⟩ := rs_I_add hf hI (by omega) hS hm
    refine ⟨N, 0, N + 1, gI1, gF1, _, ?_, ?_, q2⟩
    · unfold Ff_X7_image
      rw [e1, fl_lt_eq rfl, if_pos rfl, if_pos (by omega), q1, fl_c4_eq rfl]
      rcases (show N = 0 ∨ N = 1 ∨ N = 2 by omega) with z | z | z <;> (subst z; rfl)
    · unfold Ff_X8_image Ff_X8_good
      rw [fl_c2_eq rfl, if_neg (by decide), if_neg h]
      simp only [fl_lt]
      rw [show N + 1 - 1 = N by omega]
/-- back: here and there -/
theorem rs_back {fg sp mi tu sn go ca U L N : Int} {kd pl he st und kp gI gJ : Nat → Int} {gF gG : Nat → Nat → Int} (hf : fg ≤ 9) (hS : rs_S fg sp kd mi tu sn go ca pl he st) (hm : mi ≤ 9999) (hH : rs_H fg sp kd U L gJ gG und) (hI : rs_I fg sp kd N gI gF kp) (a : Int) :
    ∃ R tr U1 mi1 tu1 sn1 go1 ca1 pl1 he1 st1, Ff_X7_back a U N mi tu sn go ca gI gF pl he = (R, tr, U1, mi1, tu1, sn1, go1, ca1, pl1, he1) ∧ Ff_X8_back a U N kp st = (R, 0, tr, U1, st1) ∧ rs_S fg sp kd mi1 tu1 sn1 go1 ca1 pl1 he1 st1 ∧ mi1 ≤ 9999 ∧ rs_H fg sp kd U1 L gJ gG und := by
  obtain ⟨⟨n0, n1⟩, -⟩ := id hI
  by_cases h : 0 ≤ a ∧ a ≤ N - 1
  · obtain ⟨m1, t1, s1, g1, c1, pl1, he1, e1, e2, e3⟩ := rs_I_back (st := st) hf hI h.1 (by omega) U mi tu sn go ca pl he
    obtain ⟨hU, hL, -⟩ := hH
    refine ⟨1, 0, 0, m1, t1, s1, g1, c1, pl1, he1, _, ?_, ?_, e2, e3, ⟨by omega, by omega⟩, hL, fun i hi => by omega⟩
    · unfold Ff_X7_back
      rw [e1, fl_c9_eq rfl]
      rfl
    · unfold Ff_X8_back Ff_X8_good
      rw [fl_c2_eq rfl, fl_lt_eq rfl, rp_in1 h.1 h.2]
      rfl
  · refine ⟨0, 1, U, mi, tu, sn, go, ca, pl, he, st, ?_, ?_, hS, hm, hH⟩
    · unfold Ff_X7_back Ff_X1_goBack
      rw [fl_lt_eq rfl, rp_in, rp_in0 h, fl_lt_eq rfl, if_neg (by decide), fl_c9_eq rfl]
      rfl
    · unfold Ff_X8_back Ff_X8_good
      rw [fl_c2_eq rfl, fl_lt_eq rfl, rp_in0 h]
      rfl
end RSF
end P092249605_rs6
section P092249606_rs7
section RSG
theorem rs_L_cg {fg sp : Int} {kd gI gI1 row : Nat → Int} {gF gF1 : Nat → Nat → Int} {j n : Nat} (hj : j < n) (hI : ∀ k : Nat, k < 5 * n → gI1 k = gI k) (hF : ∀ k : Nat, k < 2 * n → gF1 k = gF k) (h : rs_L fg sp kd gI gF j row) : rs_L fg sp kd gI1 gF1 j row := by
  unfold rs_L at h ⊢
  rw [hI (5 * j) (by omega), hI (5 * j + 1) (by omega), hI (5 * j + 2) (by omega), hI (5 * j + 3) (by omega), hI (5 * j + 4) (by omega), hF (2 * j) (by omega), hF (2 * j + 1) (by omega)]
  exact h
theorem rs_H_cg {fg sp U L : Int} {kd gI gI1 und : Nat → Int} {gF gF1 : Nat → Nat → Int} (hI : ∀ k : Nat, k < 80 → gI1 k = gI k) (hF : ∀ k : Nat, k < 32 → gF1 k = gF k) (h : rs_H fg sp kd U L gI gF und) : rs_H fg sp kd U L gI1 gF1 und := by
  obtain ⟨a, b, c⟩ := h
  exact ⟨a, b, fun i hi => rs_L_cg (n := 16) (Nat.mod_lt _ (by decide)) hI hF (c i hi)⟩
theorem rs_I_cg {fg sp N : Int} {kd gI gI1 kp : Nat → Int} {gF gF1 : Nat → Nat → Int} (hI : ∀ k : Nat, k < 15 → gI1 k = gI k) (hF : ∀ k : Nat, k < 6 → gF1 k = gF k) (h : rs_I fg sp kd N gI gF kp) : rs_I fg sp kd N gI1 gF1 kp := by
  obtain ⟨a, c⟩ := h
  exact ⟨a, fun i hi => rs_L_cg (n := 3) (by omega) hI hF (c i hi)⟩
theorem fl_nI_r (f : Nat → Int) {n k : Nat} (h : k < n) : fl_nI ((List.range n).map f) k = f k := by
  unfold fl_nI
  rw [List.getD_eq_getElem?_getD, List.getElem?_map, List.getElem?_range h]
  rfl
theorem fl_nF_r (f : Nat → Nat → Int) {n k : Nat} (h : k < n) : fl_nF ((List.range n).map f) k = f k := by
  unfold fl_nF
  rw [List.getD_eq_getElem?_getD, List.getElem?_map, List.getElem?_range h]
  rfl
theorem kp_out {l : List Nat} {a b k : Nat} (h : l.all (fun x => decide (x < a) || decide (b ≤ x)) = true) (h1 : a ≤ k) (h2 : k < b) : k ∉ l := by
  intro hm
  have h3 := List.all_eq_true.mp h k hm
  rw [Bool.or_eq_true, decide_eq_true_eq, decide_eq_true_eq] at h3
  omega
/-- the kept scenes and images as the object has them -/
def lr_g3 (vi : Nat → Int32) : Nat → Int := fun k => (vi (57 + k)).toInt
def lr_f3 (vf : Nat → Nat → Int32) : Nat → Nat → Int := fun k => fl_A (vf (23 + k))
def lr_g4 (vi : Nat → Int32) : Nat → Int := fun k => (vi (137 + k)).toInt
def lr_f4 (vf : Nat → Nat → Int32) : Nat → Nat → Int := fun k => fl_A (vf (55 + k))
set_option maxRecDepth 100000 in
theorem lr_g3e (vi : Nat → Int32) {k : Nat} (h : k < 80) : (fl_nI [(vi 57).toInt, (vi 58).toInt, (vi 59).toInt, (vi 60).toInt, (vi 61).toInt, (vi 62).toInt, (vi 63).toInt, (vi 64).toInt, (vi 65).toInt, (vi 66).toInt, (vi 67).toInt, (vi 68).toInt, (vi 69).toInt, (vi 70).toInt, (vi 71).toInt, (vi 72).toInt, (vi 73).toInt, (vi 74).toInt, (vi 75).toInt, (vi 76).toInt, (vi 77).toInt, (vi 78).toInt, (vi 79).toInt, (vi 80).toInt, (vi 81).toInt, (vi 82).toInt, (vi 83).toInt, (vi 84).toInt, (vi 85).toInt, (vi 86).toInt, (vi 87).toInt, (vi 88).toInt, (vi 89).toInt, (vi 90).toInt, (vi 91).toInt, (vi 92).toInt, (vi 93).toInt, (vi 94).toInt, (vi 95).toInt, (vi 96).toInt, (vi 97).toInt, (vi 98).toInt, (vi 99).toInt, (vi 100).toInt, (vi 101).toInt, (vi 102).toInt, (vi 103).toInt, (vi 104).toInt, (vi 105).toInt, (vi 106).toInt, (vi 107).toInt, (vi 108).toInt, (vi 109).toInt, (vi 110).toInt, (vi 111).toInt, (vi 112).toInt, (vi 113).toInt, (vi 114).toInt, (vi 115).toInt, (vi 116).toInt, (vi 117).toInt, (vi 118).toInt, (vi 119).toInt, (vi 120).toInt, (vi 121).toInt, (vi 122).toInt, (vi 123).toInt, (vi 124).toInt, (vi 125).toInt, (vi 126).toInt, (vi 127).toInt, (vi 128).toInt, (vi 129).toInt, (vi 130).toInt, (vi 131).toInt, (vi 132).toInt, (vi 133).toInt, (vi 134).toInt, (vi 135).toInt, (vi 136).toInt]) k = lr_g3 vi k := (congrFun (show (fl_nI [(vi 57).toInt, (vi 58).toInt, (vi 59).toInt, (vi 60).toInt, (vi 61).toInt, (vi 62).toInt, (vi 63).toInt, (vi 64).toInt, (vi 65).toInt, (vi 66).toInt, (vi 67).toInt, (vi 68).toInt, (vi 69).toInt, (vi 70).toInt, (vi 71).toInt, (vi 72).toInt, (vi 73).toInt, (vi 74).toInt, (vi 75).toInt, (vi 76).toInt, (vi 77).toInt, (vi 78).toInt, (vi 79).toInt, (vi 80).toInt, (vi 81).toInt, (vi 82).toInt, (vi 83).toInt, (vi 84).toInt, (vi 85).toInt, (vi 86).toInt, (vi 87).toInt, (vi 88).toInt, (vi 89).toInt, (vi 90).toInt, (vi 91).toInt, (vi 92).toInt, (vi 93).toInt, (vi 94).toInt, (vi 95).toInt, (vi 96).toInt, (vi 97).toInt, (vi 98).toInt, (vi 99).toInt, (vi 100).toInt, (vi 101).toInt, (vi 102).toInt, (vi 103).toInt, (vi 104).toInt, (vi 105).toInt, (vi 106).toInt, (vi 107).toInt, (vi 108).toInt, (vi 109).toInt, (vi 110).toInt, (vi 111).toInt, (vi 112).toInt, (vi 113).toInt, (vi 114).toInt, (vi 115).toInt, (vi 116).toInt, (vi 117).toInt, (vi 118).toInt, (vi 119).toInt, (vi 120).toInt, (vi 121).toInt, (vi 122).toInt, (vi 123).toInt, (vi 124).toInt, (vi 125).toInt, (vi 126).toInt, (vi 127).toInt, (vi 128).toInt, (vi 129).toInt, (vi 130).toInt, (vi 131).toInt, (vi 132).toInt, (vi 133).toInt, (vi 134).toInt, (vi 135).toInt, (vi 136).toInt]) = fl_nI ((List.range 80).map (fun k => (vi (57 + k)).toInt)) from rfl) k).trans (fl_nI_r _ h)
set_option maxRecDepth 100000 in
theorem lr_f3e (vi : Nat → Nat → Int32) {k : Nat} (h : k < 32) : (fl_nF [(fl_A (vi 23)), (fl_A (vi 24)), (fl_A (vi 25)), (fl_A (vi 26)), (fl_A (vi 27)), (fl_A (vi 28)), (fl_A (vi 29)), (fl_A (vi 30)), (fl_A (vi 31)), (fl_A (vi 32)), (fl_A (vi 33)), (fl_A (vi 34)), (fl_A (vi 35)), (fl_A (vi 36)), (fl_A (vi 37)), (fl_A (vi 38)), (fl_A (vi 39)), (fl_A (vi 40)), (fl_A (vi 41)), (fl_A (vi 42)), (fl_A (vi 43)), (fl_A (vi 44)), (fl_A (vi 45)), (fl_A (vi 46)), (fl_A (vi 47)), (fl_A (vi 48)), (fl_A (vi 49)), (fl_A (vi 50)), (fl_A (vi 51)), (fl_A (vi 52)), (fl_A (vi 53)), (fl_A (vi 54))]) k = lr_f3 vi k := (congrFun (show (fl_nF [(fl_A (vi 23)), (fl_A (vi 24)), (fl_A (vi 25)), (fl_A (vi 26)), (fl_A (vi 27)), (fl_A (vi 28)), (fl_A (vi 29)), (fl_A (vi 30)), (fl_A (vi 31)), (fl_A (vi 32)), (fl_A (vi 33)), (fl_A (vi 34)), (fl_A (vi 35)), (fl_A (vi 36)), (fl_A (vi 37)), (fl_A (vi 38)), (fl_A (vi 39)), (fl_A (vi 40)), (fl_A (vi 41)), (fl_A (vi 42)), (fl_A (vi 43)), (fl_A (vi 44)), (fl_A (vi 45)), (fl_A (vi 46)), (fl_A (vi 47)), (fl_A (vi 48)), (fl_A (vi 49)), (fl_A (vi 50)), (fl_A (vi 51)), (fl_A (vi 52)), (fl_A (vi 53)), (fl_A (vi 54))]) = fl_nF ((List.range 32).map (fun k => fl_A (vi (23 + k)))) from rfl) k).trans (fl_nF_r _ h)
set_option maxRecDepth 100000 in
theorem lr_g4e (vi : Nat → Int32) {k : Nat} (h : k < 15) : (fl_nI [(vi 137).toInt, (vi 138).toInt, (vi 139).toInt, (vi 140).toInt, (vi 141).toInt, (vi 142).toInt, (vi 143).toInt, (vi 144).toInt, (vi 145).toInt, (vi 146).toInt, (vi 147).toInt, (vi 148).toInt, (vi 149).toInt, (vi 150).toInt, (vi 151).toInt]) k = lr_g4 vi k := (congrFun (show (fl_nI [(vi 137).toInt, (vi 138).toInt, (vi 139).toInt, (vi 140).toInt, (vi 141).toInt, (vi 142).toInt, (vi 143).toInt, (vi 144).toInt, (vi 145).toInt, (vi 146).toInt, (vi 147).toInt, (vi 148).toInt, (vi 149).toInt, (vi 150).toInt, (vi 151).toInt]) = fl_nI ((List.range 15).map (fun k => (vi (137 + k)).toInt)) from rfl) k).trans (fl_nI_r _ h)
set_option maxRecDepth 100000 in
theorem lr_f4e (vi : Nat → Nat → Int32) {k : Nat} (h : k < 6) : (fl_nF [(fl_A (vi 55)), (fl_A (vi 56)), (fl_A (vi 57)), (fl_A (vi 58)), (fl_A (vi 59)), (fl_A (vi 60))]) k = lr_f4 vi k := (congrFun (show (fl_nF [(fl_A (vi 55)), (fl_A (vi 56)), (fl_A (vi 57)), (fl_A (vi 58)), (fl_A (vi 59)), (fl_A (vi 60))]) = fl_nF ((List.range 6).map (fun k => fl_A (vi (55 + k)))) from rfl) k).trans (fl_nF_r _ h)
end RSG
end P092249606_rs7
section P09403_rel
section REL
/-- the halls alike: none, here and there, or what was told, here and there -/
def lr_H (vi : Nat → Int32) (vf : Nat → Nat → Int32) (vm : Nat → Int32) (vn : Nat → Nat → Int32) : Prop := (vm 11 = 0 ∧ vi 33 = 0 ∧ vi 34 = 0 ∧ vi 35 = 0 ∧ vi 36 = 0 ∧ vi 38 = 0 ∧ vi 39 = 0 ∧ vi 40 = 0 ∧ vi 41 = 0 ∧ vi 42 = 0 ∧ vi 53 = 0) ∨ (vm 11 = 1 ∧ (2 ≤ (vi 33).toInt ∧ (vi 33).toInt ≤ 9 ∧ (vi 37).toInt = 1) ∧ rp_Dh (vi 33).toInt (vi 34).toInt (vi 35).toInt (vi 36).toInt (vi 37).toInt (vi 38).toInt (vi 39).toInt (vi 40).toInt (fl_A (vn 2)) ∧ rp_Df (vi 41).toInt (fl_A (vf 11)) (fl_A (vf 12)) (fl_A (vn 2)) ∧ rp_Dw (vi 53).toInt (fl_A (vf 19)) (fl_A (vf 20)) (fl_A (vn 2)) ∧ rp_Ds (vi 42).toInt (fl_A (vf 13)) (fl_A (vf 14)) (fl_A (vn 2)))
/-- scenes alike: now, what can be undone, images -/
def lr_V (vi : Nat → Int32) (vf : Nat → Nat → Int32) (vm : Nat → Int32) (vn : Nat → Nat → Int32) : Prop := (vi 54 = 0 ∧ vi 56 = 0) ∧ ((vm 11 = 0 ∧ vi 12 = 0 ∧ vi 24 = 0 ∧ vi 25 = 0 ∧ vm 12 = 0 ∧ vm 13 = 0) ∨ (vm 11 = 1 ∧ rs_S (vi 33).toInt (vi 34).toInt (fl_A (vf 11)) (vi 12).toInt (vi 13).toInt (vi 14).toInt (vi 15).toInt (vi 16).toInt (fl_A (vf 1)) (fl_A (vf 2)) (fl_A (vn 4)) ∧ (vi 12).toInt ≤ 9999 ∧ (vi 24).toInt = (vm 12).toInt ∧ (vi 25).toInt = (vm 13).toInt ∧ rs_H (vi 33).toInt (vi 34).toInt (fl_A (vf 11)) (vi 24).toInt (vi 26).toInt (lr_g3 vi) (lr_f3 vf) (fl_A (vn 6)) ∧ rs_I (vi 33).toInt (vi 34).toInt (fl_A (vf 11)) (vi 25).toInt (lr_g4 vi) (lr_f4 vf) (fl_A (vn 7))))
/-- all but the tapes -/
def lr_Q (vi : Nat → Int32) (vf : Nat → Nat → Int32) (vm : Nat → Int32) (vn : Nat → Nat → Int32) : Prop := (vi 1).toInt = (vm 7).toInt ∧ lr_H vi vf vm vn ∧ lr_V vi vf vm vn
def lr_R (tp : Int32) (vi : Nat → Int32) (vf : Nat → Nat → Int32) (vm : Nat → Int32) (vn : Nat → Nat → Int32) : Prop := rp_T (fl_A (vf 0)) (fl_A (vn 0)) tp.toInt ∧ lr_Q vi vf vm vn
theorem rs_b0 : ∀ k : Fin 9, Ff_X7_hasBit 0 (k.val : Int) = 0 := by decide +kernel
theorem lr_H_keep {vi vi1 vm vm1 : Nat → Int32} {vf vf1 vn vn1 : Nat → Nat → Int32} (i33 : vi1 33 = vi 33) (i34 : vi1 34 = vi 34) (i35 : vi1 35 = vi 35) (i36 : vi1 36 = vi 36) (i37 : vi1 37 = vi 37) (i38 : vi1 38 = vi 38) (i39 : vi1 39 = vi 39) (i40 : vi1 40 = vi 40) (i41 : vi1 41 = vi 41) (i42 : vi1 42 = vi 42) (i53 : vi1 53 = vi 53) (f11 : vf1 11 = vf 11) (f12 : vf1 12 = vf 12) (f13 : vf1 13 = vf 13) (f14 : vf1 14 = vf 14) (f19 : vf1 19 = vf 19) (f20 : vf1 20 = vf 20) (m11 : vm1 11 = vm 11) (n2 : fl_A (vn1 2) = fl_A (vn 2)) (h : lr_H vi vf vm vn) : lr_H vi1 vf1 vm1 vn1 := by
  unfold lr_H at h ⊢
  rw [i33, i34, i35, i36, i37, i38, i39, i40, i41, i42, i53, f11, f12, f13, f14, f19, f20, m11, n2]
  exact h
theorem lr_keep {vi vi1 vm vm1 : Nat → Int32} {vf vf1 vn vn1 : Nat → Nat → Int32} (ki : ∀ k : Nat, k ∈ ([1, 33, 34, 35, 36, 37, 38, 39, 40, 41, 42, 53, 12, 13, 14, 15, 16, 24, 25, 26, 54, 56] : List Nat) → vi1 k = vi k) (kj : ∀ k : Nat, 57 ≤ k → k < 152 → vi1 k = vi k) (kf : ∀ k : Nat, k ∈ ([11, 12, 13, 14, 19, 20, 1, 2] : List Nat) → vf1 k = vf k) (kg : ∀ k : Nat, 23 ≤ k → k < 61 → vf1 k = vf k) (km : ∀ k : Nat, k ∈ ([7, 11, 12, 13] : List Nat) → vm1 k = vm k) (kn : ∀ k : Nat, k ∈ ([2, 4, 6, 7] : List Nat) → vn1 k = vn k) (h : lr_Q vi vf vm vn) : lr_Q vi1 vf1 vm1 vn1 := by
  obtain ⟨h1, h2, h3, h4⟩ := h
  refine ⟨by rw [ki 1 (by decide), km 7 (by decide)]; exact h1, lr_H_keep (ki 33 (by decide)) (ki 34 (by decide)) (ki 35 (by decide)) (ki 36 (by decide)) (ki 37 (by decide)) (ki 38 (by decide)) (ki 39 (by decide)) (ki 40 (by decide)) (ki 41 (by decide)) (ki 42 (by decide)) (ki 53 (by decide)) (kf 11 (by decide)) (kf 12 (by decide)) (kf 13 (by decide)) (kf 14 (by decide)) (kf 19 (by decide)) (kf 20 (by decide)) (km 11 (by decide)) (by rw [kn 2 (by decide)]) h2, ⟨by rw [ki 54 (by decide)]; exact h3.1, by rw [ki 56 (by decide)]; exact h3.2⟩, ?_⟩
  rw [km 11 (by decide), km 12 (by decide), km 13 (by decide), ki 12 (by decide), ki 13 (by decide), ki 14 (by decide), ki 15 (by decide), ki 16 (by decide), ki 24 (by decide), ki 25 (by decide), ki 26 (by decide), ki 33 (by decide), ki 34 (by decide), kf 1 (by decide), kf 2 (by decide), kf 11 (by decide), kn 4 (by decide), kn 6 (by decide), kn 7 (by decide)]
  rcases h4 with h4 | ⟨a, b, c, d, e, f, g⟩
  · exact Or.inl h4
  · exact Or.inr ⟨a, b, c, d, e, rs_H_cg (fun k h9 => by show (vi1 (57 + k)).toInt = (vi (57 + k)).toInt; rw [kj (57 + k) (by omega) (by omega)]) (fun k h9 => by show fl_A (vf1 (23 + k)) = fl_A (vf (23 + k)); rw [kg (23 + k) (by omega) (by omega)]) f, rs_I_cg (fun k h9 => by show (vi1 (137 + k)).toInt = (vi (137 + k)).toInt; rw [kj (137 + k) (by omega) (by omega)]) (fun k h9 => by show fl_A (vf1 (55 + k)) = fl_A (vf (55 + k)); rw [kg (55 + k) (by omega) (by omega)]) g⟩
theorem lr_D_cg {fg sp sa sh lw ti pu fi tb sc wc : Int} {kd me sf sm wf wt fr fr' : Nat → Int} (q : ∀ i : Nat, i < 156 → fr' i = fr i) (h : rp_Dh fg sp sa sh lw ti pu fi fr ∧ rp_Df tb kd me fr ∧ rp_Dw wc wf wt fr ∧ rp_Ds sc sf sm fr) : rp_Dh fg sp sa sh lw ti pu fi fr' ∧ rp_Df tb kd me fr' ∧ rp_Dw wc wf wt fr' ∧ rp_Ds sc sf sm fr' := by
  obtain ⟨h1, h2, h3, h4⟩ := h
  refine ⟨?_, rp_Df_cg h2 (fun i hi => q i (by omega)), rp_Dw_cg h3 (fun i hi => q i (by omega)), rp_Ds_cg h4 (fun i hi => q i (by omega))⟩
  unfold rp_Dh at h1 ⊢
  rw [q 0 (by decide), q 1 (by decide), q 2 (by decide), q 3 (by decide), q 4 (by decide), q 5 (by decide), q 6 (by decide), q 7 (by decide), q 8 (by decide), q 9 (by decide), q 10 (by decide), q 11 (by decide)]
  exact h1
theorem lr_cpy {f g : Nat → Int} (i : Nat) (h : i < 156) : va_cpy f g 0 0 156 i = f i := by
  unfold va_cpy
  rw [if_pos (by omega)]
  congr 1
  omega
theorem lr_init : lr_R 0 (ux (fun _ => 0) [(2, -1)]) (fun _ _ => 0) (ux (fun _ => 0) [(8, -1)]) (fun _ _ => 0) := by
  refine ⟨fun i9 h9 => absurd h9 (by have h8 : (0 : Int32).toInt = 0 := (by decide); omega), rfl, Or.inl ⟨rfl, rfl, rfl, rfl, rfl, rfl, rfl, rfl, rfl, rfl, rfl⟩, ⟨rfl, rfl⟩, Or.inl ⟨rfl, rfl, rfl, rfl, rfl, rfl⟩⟩
theorem rp_bg0 (f : Int) (a b : Nat → Int) : Sf_X5_begin_17_1 f 0 a b = .inl (1, fl_up a 0 0, fl_up b 0 0) := rfl
theorem rp_bg1 (f : Int) (a b : Nat → Int) : Sf_X5_begin_17_1 f 1 a b = .inl (2, fl_up a 1 1, fl_up b 1 0) := rfl
theorem rp_bg2 (f : Int) (a b : Nat → Int) : Sf_X5_begin_17_1 f 2 a b = .inl (3, fl_up a 2 2, fl_up b 2 0) := rfl
theorem rp_bg3 (f : Int) (a b : Nat → Int) : Sf_X5_begin_17_1 f 3 a b = .inl (4, fl_up a 3 3, fl_up b 3 0) := rfl
theorem rp_bg4 (f : Int) (a b : Nat → Int) : Sf_X5_begin_17_1 f 4 a b = .inl (5, fl_up a 4 4, fl_up b 4 0) := rfl
theorem rp_bg5 (f : Int) (a b : Nat → Int) : Sf_X5_begin_17_1 f 5 a b = .inl (6, fl_up a 5 5, fl_up b 5 0) := rfl
theorem rp_bg6 (f : Int) (a b : Nat → Int) : Sf_X5_begin_17_1 f 6 a b = .inl (7, fl_up a 6 6, fl_up b 6 0) := rfl
theorem rp_bg7 (f : Int) (a b : Nat → Int) : Sf_X5_begin_17_1 f 7 a b = .inl (8, fl_up a 7 7, fl_up b 7 0) := rfl
theorem rp_bg8 (f : Int) (a b : Nat → Int) : Sf_X5_begin_17_1 f 8 a b = .inl (9, fl_up a 8 8, fl_up b 8 0) := rfl
theorem rp_begin (f : Int) (a b : Nat → Int) : ∃ pl he, Ff_X5_begin f a b = (0, f, 0, 0, 0, pl, he) ∧ ∀ k : Nat, k < 9 → pl k = (k : Int) ∧ he k = 0 := by
  refine ⟨(fl_up (fl_up (fl_up (fl_up (fl_up (fl_up (fl_up (fl_up (fl_up a 0 0) 1 1) 2 2) 3 3) 4 4) 5 5) 6 6) 7 7) 8 8), (fl_up (fl_up (fl_up (fl_up (fl_up (fl_up (fl_up (fl_up (fl_up b 0 0) 1 0) 2 0) 3 0) 4 0) 5 0) 6 0) 7 0) 8 0), ?_, ?_⟩
  · unfold Ff_X5_begin
    rw [fl_wh_l (step := (fun t9 : Int × (Nat → Int) × (Nat → Int) => Sf_X5_begin_17_1 f t9.1 t9.2.1 t9.2.2)) (rp_bg0 f _ _)]
    rw [fl_wh_l (step := (fun t9 : Int × (Nat → Int) × (Nat → Int) => Sf_X5_begin_17_1 f t9.1 t9.2.1 t9.2.2)) (rp_bg1 f _ _)]
    rw [fl_wh_l (step := (fun t9 : Int × (Nat → Int) × (Nat → Int) => Sf_X5_begin_17_1 f t9.1 t9.2.1 t9.2.2)) (rp_bg2 f _ _)]
    rw [fl_wh_l (step := (fun t9 : Int × (Nat → Int) × (Nat → Int) => Sf_X5_begin_17_1 f t9.1 t9.2.1 t9.2.2)) (rp_bg3 f _ _)]
    rw [fl_wh_l (step := (fun t9 : Int × (Nat → Int) × (Nat → Int) => Sf_X5_begin_17_1 f t9.1 t9.2.1 t9.2.2)) (rp_bg4 f _ _)]
    rw [fl_wh_l (step := (fun t9 : Int × (Nat → Int) × (Nat → Int) => Sf_X5_begin_17_1 f t9.1 t9.2.1 t9.2.2)) (rp_bg5 f _ _)]
    rw [fl_wh_l (step := (fun t9 : Int × (Nat → Int) × (Nat → Int) => Sf_X5_begin_17_1 f t9.1 t9.2.1 t9.2.2)) (rp_bg6 f _ _)]
    rw [fl_wh_l (step := (fun t9 : Int × (Nat → Int) × (Nat → Int) => Sf_X5_begin_17_1 f t9.1 t9.2.1 t9.2.2)) (rp_bg7 f _ _)]
    rw [fl_wh_l (step := (fun t9 : Int × (Nat → Int) × (Nat → Int) => Sf_X5_begin_17_1 f t9.1 t9.2.1 t9.2.2)) (rp_bg8 f _ _)]
    exact fl_wh_r (step := (fun t9 : Int × (Nat → Int) × (Nat → Int) => Sf_X5_begin_17_1 f t9.1 t9.2.1 t9.2.2)) (s := (9, (fl_up (fl_up (fl_up (fl_up (fl_up (fl_up (fl_up (fl_up (fl_up a 0 0) 1 1) 2 2) 3 3) 4 4) 5 5) 6 6) 7 7) 8 8), (fl_up (fl_up (fl_up (fl_up (fl_up (fl_up (fl_up (fl_up (fl_up b 0 0) 1 0) 2 0) 3 0) 4 0) 5 0) 6 0) 7 0) 8 0))) rfl
  · intro k hk
    have h : k = 0 ∨ k = 1 ∨ k = 2 ∨ k = 3 ∨ k = 4 ∨ k = 5 ∨ k = 6 ∨ k = 7 ∨ k = 8 := by omega
    rcases h with h | h | h | h | h | h | h | h | h <;> (subst h; exact ⟨rfl, rfl⟩)
/-- the halls as minutes want them -/
theorem lr_G {vi vm : Nat → Int32} {vf vn : Nat → Nat → Int32} (hH : lr_H vi vf vm vn) (h1 : vm 11 = 1) (hr : ((∀ k : Nat, 0 ≤ k → k ≤ 0 → (2 : Int) ≤ ((vn 2) k).toInt ∧ ((vn 2) k).toInt ≤ 9) ∧ (∀ k : Nat, 1 ≤ k → k ≤ 1 → (1 : Int) ≤ ((vn 2) k).toInt ∧ ((vn 2) k).toInt ≤ 20) ∧ (∀ k : Nat, 2 ≤ k → k ≤ 2 → (0 : Int) ≤ ((vn 2) k).toInt ∧ ((vn 2) k).toInt ≤ 8) ∧ (∀ k : Nat, 3 ≤ k → k ≤ 3 → (0 : Int) ≤ ((vn 2) k).toInt ∧ ((vn 2) k).toInt ≤ 100) ∧ (∀ k : Nat, 4 ≤ k → k ≤ 4 → (0 : Int) ≤ ((vn 2) k).toInt ∧ ((vn 2) k).toInt ≤ 9) ∧ (∀ k : Nat, 5 ≤ k → k ≤ 5 → (0 : Int) ≤ ((vn 2) k).toInt ∧ ((vn 2) k).toInt ≤ 3) ∧ (∀ k : Nat, 6 ≤ k → k ≤ 6 → (0 : Int) ≤ ((vn 2) k).toInt ∧ ((vn 2) k).toInt ≤ 6) ∧ (∀ k : Nat, 7 ≤ k → k ≤ 9 → (0 : Int) ≤ ((vn 2) k).toInt ∧ ((vn 2) k).toInt ≤ 8) ∧ (∀ k : Nat, 12 ≤ k → k ≤ 29 → (0 : Int) ≤ ((vn 2) k).toInt ∧ ((vn 2) k).toInt ≤ 20) ∧ (∀ k : Nat, 30 ≤ k → k ≤ 35 → (0 : Int) ≤ ((vn 2) k).toInt ∧ ((vn 2) k).toInt ≤ 8) ∧ (∀ k : Nat, 36 ≤ k → k ≤ 47 → (0 : Int) ≤ ((vn 2) k).toInt ∧ ((vn 2) k).toInt ≤ 999))) (hk : ((∀ (j i0 i : Int32), (0 : Int) ≤ j.toInt → j.toInt ≤ 8 → i0.toInt = 12 + 2 * j.toInt → i.toInt = 13 + 2 * j.toInt → ((vn 2) i0.toNatClampNeg).toInt = (1 : Int32).toInt → (1 : Int) ≤ ((vn 2) i.toNatClampNeg).toInt))) : rs_G (vi 33).toInt (vi 34).toInt (vi 35).toInt (vi 38).toInt (vi 39).toInt (fl_A (vf 11)) (fl_A (vf 12)) (fl_A (vn 2)) ∧ (vi 54 = 0 → rs_D (vi 53).toInt (vi 54).toInt (fl_A (vf 19)) (fl_A (vf 20)) (fl_A (vn 2))) ∧ (0 ≤ (vi 40).toInt ∧ (vi 40).toInt < (vi 33).toInt) := by
  rcases hH with ⟨z, -⟩ | ⟨-, ⟨f2, f9, f37⟩, ⟨⟨d1, d2, d3, d4⟩, d5, d6, d7⟩, ⟨e1, e2, e3, -⟩, ⟨w1, w2, w3, w4⟩, -⟩
  · rw [z] at h1; exact absurd h1 (by decide)
  obtain ⟨g7, g8, g9, g10⟩ := d7 f37
  have d11 : fl_A (vn 2) 11 = 1 := by
    rcases d2 with q | q
    · have := d3 q; omega
    · exact q
  obtain ⟨-, -, s1, s2, s3⟩ := d4 d11
  obtain ⟨r0, r1, r2, r3, r4, r5, r6, r7, r12, r30, r36⟩ := hr
  have rng : ∀ k : Nat, k < 9 → 0 ≤ fl_A (vn 2) (13 + 2 * k) ∧ fl_A (vn 2) (13 + 2 * k) ≤ 20 := fun k hk' => r12 (13 + 2 * k) (by omega) (by omega)
  have hkd : ∀ k : Nat, k < 9 → fl_A (vn 2) (12 + 2 * k) = 1 → 1 ≤ fl_A (vn 2) (13 + 2 * k) := by
    intro k hk' h9
    have a1 : (Int32.ofNat k).toInt = (k : Int) := by rw [Int32.toInt_ofNat_of_lt (by omega)]
    have a2 : (Int32.ofNat (12 + 2 * k)).toInt = 12 + 2 * (k : Int) := by rw [Int32.toInt_ofNat_of_lt (by omega)]; omega
    have a3 : (Int32.ofNat (13 + 2 * k)).toInt = 13 + 2 * (k : Int) := by rw [Int32.toInt_ofNat_of_lt (by omega)]; omega
    have b2 : (Int32.ofNat (12 + 2 * k)).toNatClampNeg = 12 + 2 * k := by show (Int32.ofNat (12 + 2 * k)).toInt.toNat = _; rw [a2]; omega
    have b3 : (Int32.ofNat (13 + 2 * k)).toNatClampNeg = 13 + 2 * k := by show (Int32.ofNat (13 + 2 * k)).toInt.toNat = _; rw [a3]; omega
    have q := hk (Int32.ofNat k) (Int32.ofNat (12 + 2 * k)) (Int32.ofNat (13 + 2 * k)) (by omega) (by omega) (by omega) (by omega) (by rw [b2]; exact h9.trans (by decide))
    rw [b3] at q
    exact q
  refine ⟨⟨⟨d1, f2, f9⟩, ⟨s1, ?_, ?_⟩, ⟨s2, ?_, ?_⟩, ⟨g7, ?_, ?_⟩, ⟨g8, ?_, ?_⟩, fun k hk' => ?_⟩, fun hp => ⟨w1, w2, w3, by rw [hp]; decide, fun w hw => ?_⟩, g10.1, by omega⟩
  · rw [s1]; exact (r1 1 (by decide) (by decide)).1
  · rw [s1]; exact (r1 1 (by decide) (by decide)).2
  · rw [s2]; exact (r2 2 (by decide) (by decide)).1
  · rw [s2]; exact (r2 2 (by decide) (by decide)).2
  · rw [g7]; exact (r7 7 (by decide) (by decide)).1
  · rw [g7]; exact (r7 7 (by decide) (by decide)).2
  · rw [g8]; exact (r7 8 (by decide) (by decide)).1
  · rw [g8]; exact (r7 8 (by decide) (by decide)).2
  · obtain ⟨q1, q2, -⟩ := e3 k hk'
    rw [q1, q2]
    exact ⟨rfl, rfl, (rng k hk').1, (rng k hk').2, hkd k hk'⟩
  · obtain ⟨q1, q2⟩ := w4 w hw
    exact ⟨q1, q2, r30 (30 + 2 * w) (by omega) (by omega), r30 (31 + 2 * w) (by omega) (by omega)⟩
end REL
end P09403_rel
section P094031_rel
section RELG
theorem lr_gal {tp tp9 tpm : Int32} {vi vi1 vm vm1 : Nat → Int32} {vf vf1 vn vn1 : Nat → Nat → Int32} (hR : lr_R tp vi vf vm vn) (h0 : 0 ≤ tp.toInt) (h9 : tp.toInt ≤ 900) (n : Int32) (kx1 : (∀ k9 : Nat, k9 ∉ ([0, 1, 2, 3, 4, 5, 6, 7, 8, 9, 10, 11, 12, 13, 14, 15, 16, 24, 25, 30, 31, 33, 34, 35, 36, 37, 38, 39, 40, 41, 42, 43, 44, 45, 46, 47, 48, 49, 50, 51, 52, 53, 54, 55, 56] : List Nat) → vi1 k9 = vi k9)) (kx2 : (∀ k9 : Nat, k9 ∉ ([1, 2, 11, 12, 13, 14, 15, 16, 17, 18, 19, 20, 21, 22] : List Nat) → vf1 k9 = vf k9)) (km1 : (∀ k9 : Nat, k9 ∉ ([0, 1, 2, 3, 4, 5, 6, 7, 8, 9, 10, 11, 12, 13] : List Nat) → vm1 k9 = vm k9)) (km2 : (∀ k9 : Nat, k9 ∉ ([1, 2, 3, 4] : List Nat) → vn1 k9 = vn k9)) (hM : vm1 11 = 0 ∨ (vm1 11 = 1 ∧ ((∀ k : Nat, 0 ≤ k → k ≤ 0 → (2 : Int) ≤ ((vn1 2) k).toInt ∧ ((vn1 2) k).toInt ≤ 9) ∧ (∀ k : Nat, 1 ≤ k → k ≤ 1 → (1 : Int) ≤ ((vn1 2) k).toInt ∧ ((vn1 2) k).toInt ≤ 20) ∧ (∀ k : Nat, 2 ≤ k → k ≤ 2 → (0 : Int) ≤ ((vn1 2) k).toInt ∧ ((vn1 2) k).toInt ≤ 8) ∧ (∀ k : Nat, 3 ≤ k → k ≤ 3 → (0 : Int) ≤ ((vn1 2) k).toInt ∧ ((vn1 2) k).toInt ≤ 100) ∧ (∀ k : Nat, 4 ≤ k → k ≤ 4 → (0 : Int) ≤ ((vn1 2) k).toInt ∧ ((vn1 2) k).toInt ≤ 9) ∧ (∀ k : Nat, 5 ≤ k → k ≤ 5 → (0 : Int) ≤ ((vn1 2) k).toInt ∧ ((vn1 2) k).toInt ≤ 3) ∧ (∀ k : Nat, 6 ≤ k → k ≤ 6 → (0 : Int) ≤ ((vn1 2) k).toInt ∧ ((vn1 2) k).toInt ≤ 6) ∧ (∀ k : Nat, 7 ≤ k → k ≤ 9 → (0 : Int) ≤ ((vn1 2) k).toInt ∧ ((vn1 2) k).toInt ≤ 8) ∧ (∀ k : Nat, 12 ≤ k → k ≤ 29 → (0 : Int) ≤ ((vn1 2) k).toInt ∧ ((vn1 2) k).toInt ≤ 20) ∧ (∀ k : Nat, 30 ≤ k → k ≤ 35 → (0 : Int) ≤ ((vn1 2) k).toInt ∧ ((vn1 2) k).toInt ≤ 8) ∧ (∀ k : Nat, 36 ≤ k → k ≤ 47 → (0 : Int) ≤ ((vn1 2) k).toInt ∧ ((vn1 2) k).toInt ≤ 999)) ∧ ((∀ (j i0 i : Int32), (0 : Int) ≤ j.toInt → j.toInt ≤ 8 → i0.toInt = 12 + 2 * j.toInt → i.toInt = 13 + 2 * j.toInt → ((vn1 2) i0.toNatClampNeg).toInt = (1 : Int32).toInt → (1 : Int) ≤ ((vn1 2) i.toNatClampNeg).toInt)))) (hL : 0 ≤ (vi1 26).toInt ∧ (vi1 26).toInt ≤ 15) (gx : (∃ (vl : Int64) (fl : Nat → Int64) (vl9 : Int64) (fl9 : Nat → Int64), ((Ff_X7_gallery n.toInt (vi 1).toInt (vi 2).toInt tp.toInt (vi 3).toInt (vi 4).toInt (vi 5).toInt (vi 6).toInt (vi 7).toInt (vi 8).toInt (vi 9).toInt vl.toInt (vi 10).toInt (vi 11).toInt (vi 43).toInt (vi 44).toInt (vi 45).toInt (vi 46).toInt (vi 47).toInt (vi 48).toInt (vi 49).toInt (vi 50).toInt (vi 51).toInt (vi 52).toInt (vi 55).toInt (fl_A (vf 15)) (fl_A (vf 16)) (fl_A (vf 0)) (fl_L fl) (fl_A (vf 21)) (fl_A (vf 22)) (fl_A (vf 18)) (fl_A (vf 17)) (vi 12).toInt (vi 13).toInt (vi 14).toInt (vi 15).toInt (vi 16).toInt (fl_A (vf 1)) (fl_A (vf 2)) (vi 24).toInt (vi 25).toInt (vi 30).toInt (vi 31).toInt).2 = ((vi1 0).toInt, (vi1 1).toInt, (vi1 2).toInt, tp9.toInt, (vi1 3).toInt, (vi1 4).toInt, (vi1 5).toInt, (vi1 6).toInt, (vi1 7).toInt, (vi1 8).toInt, (vi1 9).toInt, vl9.toInt, (vi1 10).toInt, (vi1 11).toInt, (vi1 33).toInt, (vi1 34).toInt, (vi1 35).toInt, (vi1 36).toInt, (vi1 37).toInt, (vi1 38).toInt, (vi1 39).toInt, (vi1 40).toInt, (vi1 41).toInt, (vi1 42).toInt, (vi1 53).toInt, fl_A (vf1 11), fl_A (vf1 12), fl_L fl9, fl_A (vf1 19), fl_A (vf1 20), fl_A (vf1 14), fl_A (vf1 13), (vi1 12).toInt, (vi1 13).toInt, (vi1 14).toInt, (vi1 15).toInt, (vi1 16).toInt, fl_A (vf1 1), fl_A (vf1 2), (vi1 24).toInt, (vi1 25).toInt, (vi1 30).toInt, (vi1 31).toInt, 0) ∧ vi1 54 = vi 56 ∧ vi1 56 = vi 54) ∨ ((Ff_X7_gallery n.toInt (vi 1).toInt (vi 2).toInt tp.toInt (vi 3).toInt (vi 4).toInt (vi 5).toInt (vi 6).toInt (vi 7).toInt (vi 8).toInt (vi 9).toInt vl.toInt (vi 10).toInt (vi 11).toInt (vi 43).toInt (vi 44).toInt (vi 45).toInt (vi 46).toInt (vi 47).toInt (vi 48).toInt (vi 49).toInt (vi 50).toInt (vi 51).toInt (vi 52).toInt (vi 55).toInt (fl_A (vf 15)) (fl_A (vf 16)) (fl_A (vf 0)) (fl_L fl) (fl_A (vf 21)) (fl_A (vf 22)) (fl_A (vf 18)) (fl_A (vf 17)) (vi 12).toInt (vi 13).toInt (vi 14).toInt (vi 15).toInt (vi 16).toInt (fl_A (vf 1)) (fl_A (vf 2)) (vi 24).toInt (vi 25).toInt (vi 30).toInt (vi 31).toInt).2 = ((vi1 0).toInt, (vi1 1).toInt, (vi1 2).toInt, tp9.toInt, (vi1 3).toInt, (vi1 4).toInt, (vi1 5).toInt, (vi1 6).toInt, (vi1 7).toInt, (vi1 8).toInt, (vi1 9).toInt, vl9.toInt, (vi1 10).toInt, (vi1 11).toInt, (vi1 43).toInt, (vi1 44).toInt, (vi1 45).toInt, (vi1 46).toInt, (vi1 47).toInt, (vi1 48).toInt, (vi1 49).toInt, (vi1 50).toInt, (vi1 51).toInt, (vi1 52).toInt, (vi1 55).toInt, fl_A (vf1 15), fl_A (vf1 16), fl_L fl9, fl_A (vf1 21), fl_A (vf1 22), fl_A (vf1 18), fl_A (vf1 17), (vi1 12).toInt, (vi1 13).toInt, (vi1 14).toInt, (vi1 15).toInt, (vi1 16).toInt, fl_A (vf1 1), fl_A (vf1 2), (vi1 24).toInt, (vi1 25).toInt, (vi1 30).toInt, (vi1 31).toInt, 1) ∧ (∀ k9 : Nat, k9 ∈ ([33, 34, 35, 36, 37, 38, 39, 40, 41, 42, 53, 54] : List Nat) → vi1 k9 = vi k9) ∧ (∀ k9 : Nat, k9 ∈ ([11, 12, 13, 14, 19, 20] : List Nat) → vf1 k9 = vf k9) ∧ vi1 56 = vi 56))) (gm : ((Ff_X8_gallery n.toInt tp.toInt (vm 1).toInt (vm 2).toInt (vm 3).toInt (vm 4).toInt (vm 5).toInt (vm 6).toInt (vm 7).toInt (vm 8).toInt (vm 10).toInt (vm 11).toInt (vm 12).toInt (vm 13).toInt (fl_A (vn 3)) (fl_A (vn 0)) (fl_A (vn 1)) (fl_A (vn 2)) (fl_A (vn 4))).2 = ((vm1 0).toInt, tpm.toInt, (vm1 1).toInt, (vm1 2).toInt, (vm1 3).toInt, (vm1 4).toInt, (vm1 5).toInt, (vm1 6).toInt, (vm1 7).toInt, (vm1 8).toInt, (vm1 9).toInt, (vm1 10).toInt, (vm1 11).toInt, (vm1 12).toInt, (vm1 13).toInt, fl_A (vn1 3), fl_A (vn1 1), fl_A (vn1 2), fl_A (vn1 4)))) : lr_Q vi1 vf1 vm1 vn1 := by
  obtain ⟨hT, hF, hH, hV⟩ := hR
  obtain ⟨vl, fl, vl9, fl9, gx⟩ := gx
  have n01 : ¬ (0 : Int) = 1 := by decide
  by_cases h : 0 ≤ n.toInt ∧ n.toInt ≤ tp.toInt
  · rcases rp_gal h.1 h.2 h9 (tp := fl_A (vf 0)) (tm := fl_A (vn 0)) (fun i hi => hT i (by omega)) vl.toInt (vi 10).toInt (vi 11).toInt (vi 44).toInt (vi 45).toInt (vi 46).toInt (vi 48).toInt (vi 49).toInt (vi 50).toInt (fl_A (vf 15)) (fl_A (vf 16)) (fl_L fl) (fl_A (vf 21)) (fl_A (vf 22)) (fl_A (vf 18)) (fl_A (vf 17)) (vm 1).toInt (vm 2).toInt (vm 3).toInt (vm 4).toInt (vm 5).toInt (vm 6).toInt (vm 7).toInt (vm 8).toInt (vm 10).toInt (vm 11).toInt (vm 12).toInt (vm 13).toInt (fl_A (vn 3)) (fl_A (vn 1)) (fl_A (vn 2)) (fl_A (vn 4)) with ⟨q_c, q_st, q_be, q_tk, q_wd, q_wh, q_ta, q_fg, q_sp, q_sa, q_sh, q_lw, q_ti, q_pu, q_fi, q_tb, q_sc, q_wc, q_kd, q_me, q_nm, q_wf, q_wt, q_sm, q_sf, fr3, lt3, at3, en3, tk6, wm3, ns3, s1, b1, b2, b3, b4, b5, b6, b7⟩ | ⟨q, p, b1, y1, y2, y3, y4, y5, y6, y7, b2⟩
    · obtain ⟨b_pl, b_he, hbg, hbk⟩ := rp_begin q_fi (fl_A (vf 1)) (fl_A (vf 2))
      have ex : Ff_X7_gallery n.toInt (vi 1).toInt (vi 2).toInt tp.toInt (vi 3).toInt (vi 4).toInt (vi 5).toInt (vi 6).toInt (vi 7).toInt (vi 8).toInt (vi 9).toInt vl.toInt (vi 10).toInt (vi 11).toInt (vi 43).toInt (vi 44).toInt (vi 45).toInt (vi 46).toInt (vi 47).toInt (vi 48).toInt (vi 49).toInt (vi 50).toInt (vi 51).toInt (vi 52).toInt (vi 55).toInt (fl_A (vf 15)) (fl_A (vf 16)) (fl_A (vf 0)) (fl_L fl) (fl_A (vf 21)) (fl_A (vf 22)) (fl_A (vf 18)) (fl_A (vf 17)) (vi 12).toInt (vi 13).toInt (vi 14).toInt (vi 15).toInt (vi 16).toInt (fl_A (vf 1)) (fl_A (vf 2)) (vi 24).toInt (vi 25).toInt (vi 30).toInt (vi 31).toInt = (q_fg, 0, 0, (-1), 0, 0, (-1), q_c, n.toInt, q_st, q_be, q_tk, q_wd, q_wh, q_ta, q_fg, q_sp, q_sa, q_sh, q_lw, q_ti, q_pu, q_fi, q_tb, q_sc, q_wc, q_kd, q_me, q_nm, q_wf, q_wt, q_sm, q_sf, 0, q_fi, 0, 0, 0, b_pl, b_he, 0, 0, 0, 0, 0) := by
        unfold Ff_X7_gallery
        rw [fl_lt_eq ((rp_in n.toInt 0 tp.toInt).trans (rp_in1 h.1 h.2)).symm, if_pos rfl, b1, fl_c29_eq rfl, if_pos rfl, hbg, fl_c7_eq rfl]; rfl
      rw [ex] at gx
      rcases gx with ⟨g1, g2, g3⟩ | ⟨g1, g2, g3, g4⟩
      · clear ex hbg b1
        have e0 : q_fg = (vi1 33).toInt := congrArg (fun z9 => z9.2.2.2.2.2.2.2.2.2.2.2.2.2.2.1) g1
        have e1 : q_sp = (vi1 34).toInt := congrArg (fun z9 => z9.2.2.2.2.2.2.2.2.2.2.2.2.2.2.2.1) g1
        have e2 : q_sa = (vi1 35).toInt := congrArg (fun z9 => z9.2.2.2.2.2.2.2.2.2.2.2.2.2.2.2.2.1) g1
        have e3 : q_sh = (vi1 36).toInt := congrArg (fun z9 => z9.2.2.2.2.2.2.2.2.2.2.2.2.2.2.2.2.2.1) g1
        have e4 : q_lw = (vi1 37).toInt := congrArg (fun z9 => z9.2.2.2.2.2.2.2.2.2.2.2.2.2.2.2.2.2.2.1) g1
        have e5 : q_ti = (vi1 38).toInt := congrArg (fun z9 => z9.2.2.2.2.2.2.2.2.2.2.2.2.2.2.2.2.2.2.2.1) g1
        have e6 : q_pu = (vi1 39).toInt := congrArg (fun z9 => z9.2.2.2.2.2.2.2.2.2.2.2.2.2.2.2.2.2.2.2.2.1) g1
        have e7 : q_fi = (vi1 40).toInt := congrArg (fun z9 => z9.2.2.2.2.2.2.2.2.2.2.2.2.2.2.2.2.2.2.2.2.2.1) g1
        have e8 : q_tb = (vi1 41).toInt := congrArg (fun z9 => z9.2.2.2.2.2.2.2.2.2.2.2.2.2.2.2.2.2.2.2.2.2.2.1) g1
        have e9 : q_sc = (vi1 42).toInt := congrArg (fun z9 => z9.2.2.2.2.2.2.2.2.2.2.2.2.2.2.2.2.2.2.2.2.2.2.2.1) g1
        have e10 : q_wc = (vi1 53).toInt := congrArg (fun z9 => z9.2.2.2.2.2.2.2.2.2.2.2.2.2.2.2.2.2.2.2.2.2.2.2.2.1) g1
        have e11 : q_kd = fl_A (vf1 11) := congrArg (fun z9 => z9.2.2.2.2.2.2.2.2.2.2.2.2.2.2.2.2.2.2.2.2.2.2.2.2.2.1) g1
        have e12 : q_me = fl_A (vf1 12) := congrArg (fun z9 => z9.2.2.2.2.2.2.2.2.2.2.2.2.2.2.2.2.2.2.2.2.2.2.2.2.2.2.1) g1
        have e13 : q_sf = fl_A (vf1 13) := congrArg (fun z9 => z9.2.2.2.2.2.2.2.2.2.2.2.2.2.2.2.2.2.2.2.2.2.2.2.2.2.2.2.2.2.2.2.1) g1
        have e14 : q_sm = fl_A (vf1 14) := congrArg (fun z9 => z9.2.2.2.2.2.2.2.2.2.2.2.2.2.2.2.2.2.2.2.2.2.2.2.2.2.2.2.2.2.2.1) g1
        have e15 : q_wf = fl_A (vf1 19) := congrArg (fun z9 => z9.2.2.2.2.2.2.2.2.2.2.2.2.2.2.2.2.2.2.2.2.2.2.2.2.2.2.2.2.1) g1
        have e16 : q_wt = fl_A (vf1 20) := congrArg (fun z9 => z9.2.2.2.2.2.2.2.2.2.2.2.2.2.2.2.2.2.2.2.2.2.2.2.2.2.2.2.2.2.1) g1
        have ef : (0 : Int) = (vi1 1).toInt := congrArg (fun z9 => z9.2.1) g1
        have p_mi : (0 : Int) = (vi1 12).toInt := congrArg (fun z9 => z9.2.2.2.2.2.2.2.2.2.2.2.2.2.2.2.2.2.2.2.2.2.2.2.2.2.2.2.2.2.2.2.2.1) g1
        have p_tu : (q_fi : Int) = (vi1 13).toInt := congrArg (fun z9 => z9.2.2.2.2.2.2.2.2.2.2.2.2.2.2.2.2.2.2.2.2.2.2.2.2.2.2.2.2.2.2.2.2.2.1) g1
        have p_sn : (0 : Int) = (vi1 14).toInt := congrArg (fun z9 => z9.2.2.2.2.2.2.2.2.2.2.2.2.2.2.2.2.2.2.2.2.2.2.2.2.2.2.2.2.2.2.2.2.2.2.1) g1
        have p_go : (0 : Int) = (vi1 15).toInt := congrArg (fun z9 => z9.2.2.2.2.2.2.2.2.2.2.2.2.2.2.2.2.2.2.2.2.2.2.2.2.2.2.2.2.2.2.2.2.2.2.2.1) g1
        have p_ca : (0 : Int) = (vi1 16).toInt := congrArg (fun z9 => z9.2.2.2.2.2.2.2.2.2.2.2.2.2.2.2.2.2.2.2.2.2.2.2.2.2.2.2.2.2.2.2.2.2.2.2.2.1) g1
        have p_pl : (b_pl : Nat → Int) = fl_A (vf1 1) := congrArg (fun z9 => z9.2.2.2.2.2.2.2.2.2.2.2.2.2.2.2.2.2.2.2.2.2.2.2.2.2.2.2.2.2.2.2.2.2.2.2.2.2.1) g1
        have p_he : (b_he : Nat → Int) = fl_A (vf1 2) := congrArg (fun z9 => z9.2.2.2.2.2.2.2.2.2.2.2.2.2.2.2.2.2.2.2.2.2.2.2.2.2.2.2.2.2.2.2.2.2.2.2.2.2.2.1) g1
        have p_U : (0 : Int) = (vi1 24).toInt := congrArg (fun z9 => z9.2.2.2.2.2.2.2.2.2.2.2.2.2.2.2.2.2.2.2.2.2.2.2.2.2.2.2.2.2.2.2.2.2.2.2.2.2.2.2.1) g1
        have p_N : (0 : Int) = (vi1 25).toInt := congrArg (fun z9 => z9.2.2.2.2.2.2.2.2.2.2.2.2.2.2.2.2.2.2.2.2.2.2.2.2.2.2.2.2.2.2.2.2.2.2.2.2.2.2.2.2.1) g1
        rw [b2] at gm
        have mf : (0 : Int) = (vm1 7).toInt := congrArg (fun z9 => z9.2.2.2.2.2.2.2.2.1) gm
        have mh : (1 : Int) = (vm1 11).toInt := congrArg (fun z9 => z9.2.2.2.2.2.2.2.2.2.2.2.2.1) gm
        have mr : va_cpy fr3 (fl_A (vn 2)) 0 0 156 = fl_A (vn1 2) := congrArg (fun z9 => z9.2.2.2.2.2.2.2.2.2.2.2.2.2.2.2.2.2.1) gm
        have r_st : s1 = fl_A (vn1 4) := congrArg (fun z9 => z9.2.2.2.2.2.2.2.2.2.2.2.2.2.2.2.2.2.2) gm
        have r_U : (0 : Int) = (vm1 12).toInt := congrArg (fun z9 => z9.2.2.2.2.2.2.2.2.2.2.2.2.2.1) gm
        have r_N : (0 : Int) = (vm1 13).toInt := congrArg (fun z9 => z9.2.2.2.2.2.2.2.2.2.2.2.2.2.2.1) gm
        clear g1 gm
        subst e0
        subst e1
        subst e2
        subst e3
        subst e4
        subst e5
        subst e6
        subst e7
        subst e8
        subst e9
        subst e10
        subst e11
        subst e12
        subst e13
        subst e14
        subst e15
        subst e16
        have m11 : vm1 11 = 1 := Int32.toInt_inj.mp mh.symm
        have hHn : lr_H vi1 vf1 vm1 vn1 := by
          refine Or.inr ⟨m11, ⟨b4, b5, b3⟩, ?_⟩
          rw [← mr]
          exact lr_D_cg (fun i hi => lr_cpy i hi) ⟨b6.1, b6.2.1, b6.2.2.1, b6.2.2.2.1⟩
        rcases hM with z9 | ⟨-, hrs, hkm⟩
        · rw [m11] at z9; exact absurd z9 (by decide)
        obtain ⟨hG, -, hfi⟩ := lr_G hHn m11 hrs hkm
        obtain ⟨⟨-, h2, h9'⟩, ⟨-, hsp, -⟩, -⟩ := id hG
        have e0 : (vi1 33).toInt = fr3 0 := b6.1.1.1
        have e9 : (vi1 40).toInt = fr3 9 := (b6.1.2.2.2 b3).2.2.1
        have k21 : s1 21 = 0 := by rw [b7 21 (by decide), if_neg (by decide), if_neg (by omega)]
        have k20 : s1 20 = 0 := by rw [b7 20 (by decide), if_neg (by decide), if_neg (by omega)]
        have k18 : s1 18 = 0 := by rw [b7 18 (by decide), if_neg (by decide), if_neg (by omega)]
        have k22 : s1 22 = 0 := by rw [b7 22 (by decide), if_neg (by decide), if_neg (by omega)]
        have k19 : s1 19 = fr3 9 := by rw [b7 19 (by decide), if_pos rfl]
        have hSn : rs_S (vi1 33).toInt (vi1 34).toInt (fl_A (vf1 11)) 0 (vi1 40).toInt 0 0 0 b_pl b_he s1 := by
          refine ⟨⟨k21.symm, e9.trans k19.symm, k20.symm, k18.symm, k22.symm⟩, by omega, hfi, ⟨by omega, by omega⟩, ⟨by omega, by omega⟩, fun k hk' => ?_⟩
          obtain ⟨c1, c2⟩ := hbk k (by omega)
          have d1 : s1 k = (k : Int) := by rw [b7 k (by omega), if_neg (by omega), if_pos (by omega)]
          have d2 : s1 (9 + k) = 0 := by rw [b7 (9 + k) (by omega), if_neg (by omega), if_neg (by omega)]
          refine ⟨by rw [c1, d1], by rw [c2, d2], by rw [c1]; omega, fun h9 => ?_⟩
          have b0 := rs_b0 ⟨k, by omega⟩
          simp only at b0
          omega
        refine ⟨ef.symm.trans mf, hHn, ⟨by rw [g2]; exact hV.1.2, by rw [g3]; exact hV.1.1⟩, Or.inr ⟨m11, ?_, ?_, ?_, ?_, ?_, ?_⟩⟩
        · rw [← p_mi, ← p_tu, ← p_sn, ← p_go, ← p_ca, ← p_pl, ← p_he, ← r_st]
          exact hSn
        · rw [← p_mi]; omega
        · rw [← p_U, ← r_U]
        · rw [← p_N, ← r_N]
        · rw [← p_U]
          exact ⟨⟨by omega, by omega⟩, hL, fun i hi => by omega⟩
        · rw [← p_N]
          exact ⟨⟨by omega, by omega⟩, fun i hi => by omega⟩
      · exact absurd (congrArg (fun z9 => z9.2.2.2.2.2.2.2.2.2.2.2.2.2.2.2.2.2.2.2.2.2.2.2.2.2.2.2.2.2.2.2.2.2.2.2.2.2.2.2.2.2.2.2) g1 : (0 : Int) = 1) n01
    · generalize hG : Ff_X3_read n.toInt tp.toInt vl.toInt (vi 10).toInt (vi 11).toInt (vi 44).toInt (vi 45).toInt (vi 46).toInt (vi 48).toInt (vi 49).toInt (vi 50).toInt (fl_A (vf 15)) (fl_A (vf 16)) (fl_A (vf 0)) (fl_L fl) (fl_A (vf 21)) (fl_A (vf 22)) (fl_A (vf 18)) (fl_A (vf 17)) = G at b1
      obtain ⟨g1_, g2_, g3_, g4_, g5_, g6_, g7_, g8_, g9_, g10_, g11_, g12_, g13_, g14_, g15_, g16_, g17_, g18_, g19_, g20_, g21_, g22_, g23_, g24_, g25_, g26_, g27_, g28_, g29_⟩ := G
      have e1 : g1_ = 0 := b1.1
      subst e1
      have ex : Ff_X7_gallery n.toInt (vi 1).toInt (vi 2).toInt tp.toInt (vi 3).toInt (vi 4).toInt (vi 5).toInt (vi 6).toInt (vi 7).toInt (vi 8).toInt (vi 9).toInt vl.toInt (vi 10).toInt (vi 11).toInt (vi 43).toInt (vi 44).toInt (vi 45).toInt (vi 46).toInt (vi 47).toInt (vi 48).toInt (vi 49).toInt (vi 50).toInt (vi 51).toInt (vi 52).toInt (vi 55).toInt (fl_A (vf 15)) (fl_A (vf 16)) (fl_A (vf 0)) (fl_L fl) (fl_A (vf 21)) (fl_A (vf 22)) (fl_A (vf 18)) (fl_A (vf 17)) (vi 12).toInt (vi 13).toInt (vi 14).toInt (vi 15).toInt (vi 16).toInt (fl_A (vf 1)) (fl_A (vf 2)) (vi 24).toInt (vi 25).toInt (vi 30).toInt (vi 31).toInt = ((-1), 4, g2_, g3_, 0, g2_, g3_, g4_, g5_, g6_, g7_, g8_, g9_, g10_, g11_, g12_, g13_, g14_, g15_, g16_, g17_, g18_, g19_, g20_, g21_, g22_, g23_, g24_, g25_, g26_, g27_, g28_, g29_, (vi 12).toInt, (vi 13).toInt, (vi 14).toInt, (vi 15).toInt, (vi 16).toInt, (fl_A (vf 1)), (fl_A (vf 2)), (vi 24).toInt, (vi 25).toInt, (vi 30).toInt, (vi 31).toInt, 1) := by
        unfold Ff_X7_gallery
        rw [fl_lt_eq ((rp_in n.toInt 0 tp.toInt).trans (rp_in1 h.1 h.2)).symm, if_pos rfl, hG, fl_c29_eq rfl, if_neg n01]; rfl
      rw [ex] at gx
      rcases gx with ⟨g1, g2, g3⟩ | ⟨g1, g2, g3, g4⟩
      · exact absurd (congrArg (fun z9 => z9.2.2.2.2.2.2.2.2.2.2.2.2.2.2.2.2.2.2.2.2.2.2.2.2.2.2.2.2.2.2.2.2.2.2.2.2.2.2.2.2.2.2.2) g1 : (1 : Int) = 0).symm n01
      · rw [b2] at gm
        have ef : g2_ = (vi1 1).toInt := congrArg (fun z9 => z9.2.1) g1
        have mf : q = (vm1 7).toInt := congrArg (fun z9 => z9.2.2.2.2.2.2.2.2.1) gm
        have e2 : g2_ = q := b1.2.1
        have mh : (vm 11).toInt = (vm1 11).toInt := congrArg (fun z9 => z9.2.2.2.2.2.2.2.2.2.2.2.2.1) gm
        have mr : (fl_A (vn 2)) = fl_A (vn1 2) := congrArg (fun z9 => z9.2.2.2.2.2.2.2.2.2.2.2.2.2.2.2.2.2.1) gm
        have p_mi : (vi 12).toInt = (vi1 12).toInt := congrArg (fun z9 => z9.2.2.2.2.2.2.2.2.2.2.2.2.2.2.2.2.2.2.2.2.2.2.2.2.2.2.2.2.2.2.2.2.1) g1
        have p_tu : (vi 13).toInt = (vi1 13).toInt := congrArg (fun z9 => z9.2.2.2.2.2.2.2.2.2.2.2.2.2.2.2.2.2.2.2.2.2.2.2.2.2.2.2.2.2.2.2.2.2.1) g1
        have p_sn : (vi 14).toInt = (vi1 14).toInt := congrArg (fun z9 => z9.2.2.2.2.2.2.2.2.2.2.2.2.2.2.2.2.2.2.2.2.2.2.2.2.2.2.2.2.2.2.2.2.2.2.1) g1
        have p_go : (vi 15).toInt = (vi1 15).toInt := congrArg (fun z9 => z9.2.2.2.2.2.2.2.2.2.2.2.2.2.2.2.2.2.2.2.2.2.2.2.2.2.2.2.2.2.2.2.2.2.2.2.1) g1
        have p_ca : (vi 16).toInt = (vi1 16).toInt := congrArg (fun z9 => z9.2.2.2.2.2.2.2.2.2.2.2.2.2.2.2.2.2.2.2.2.2.2.2.2.2.2.2.2.2.2.2.2.2.2.2.2.1) g1
        have p_pl : (fl_A (vf 1)) = fl_A (vf1 1) := congrArg (fun z9 => z9.2.2.2.2.2.2.2.2.2.2.2.2.2.2.2.2.2.2.2.2.2.2.2.2.2.2.2.2.2.2.2.2.2.2.2.2.2.1) g1
        have p_he : (fl_A (vf 2)) = fl_A (vf1 2) := congrArg (fun z9 => z9.2.2.2.2.2.2.2.2.2.2.2.2.2.2.2.2.2.2.2.2.2.2.2.2.2.2.2.2.2.2.2.2.2.2.2.2.2.2.1) g1
        have p_U : (vi 24).toInt = (vi1 24).toInt := congrArg (fun z9 => z9.2.2.2.2.2.2.2.2.2.2.2.2.2.2.2.2.2.2.2.2.2.2.2.2.2.2.2.2.2.2.2.2.2.2.2.2.2.2.2.1) g1
        have p_N : (vi 25).toInt = (vi1 25).toInt := congrArg (fun z9 => z9.2.2.2.2.2.2.2.2.2.2.2.2.2.2.2.2.2.2.2.2.2.2.2.2.2.2.2.2.2.2.2.2.2.2.2.2.2.2.2.2.1) g1
        have r_st : (fl_A (vn 4)) = fl_A (vn1 4) := congrArg (fun z9 => z9.2.2.2.2.2.2.2.2.2.2.2.2.2.2.2.2.2.2) gm
        have r_U : (vm 12).toInt = (vm1 12).toInt := congrArg (fun z9 => z9.2.2.2.2.2.2.2.2.2.2.2.2.2.1) gm
        have r_N : (vm 13).toInt = (vm1 13).toInt := congrArg (fun z9 => z9.2.2.2.2.2.2.2.2.2.2.2.2.2.2.1) gm
        have hVn : lr_V vi1 vf1 vm1 vn1 := by
          refine ⟨⟨by rw [g2 54 (by decide)]; exact hV.1.1, by rw [g4]; exact hV.1.2⟩, ?_⟩
          have m11 : vm1 11 = vm 11 := Int32.toInt_inj.mp mh.symm
          rw [m11, g2 33 (by decide), g2 34 (by decide), g3 11 (by decide), ← p_mi, ← p_tu, ← p_sn, ← p_go, ← p_ca, ← p_pl, ← p_he, ← p_U, ← p_N, ← r_st, ← r_U, ← r_N, kx1 26 (by decide), km2 6 (by decide), km2 7 (by decide)]
          have i12 : vi1 12 = vi 12 := Int32.toInt_inj.mp p_mi.symm
          have i24 : vi1 24 = vi 24 := Int32.toInt_inj.mp p_U.symm
          have i25 : vi1 25 = vi 25 := Int32.toInt_inj.mp p_N.symm
          have j12 : vm1 12 = vm 12 := Int32.toInt_inj.mp r_U.symm
          have j13 : vm1 13 = vm 13 := Int32.toInt_inj.mp r_N.symm
          rw [i12, i24, i25, j12, j13]
          rcases hV.2 with h4 | ⟨a, b, c, d, e, f, g⟩
          · exact Or.inl h4
          · exact Or.inr ⟨a, b, c, d, e, rs_H_cg (fun k h9 => by show (vi1 (57 + k)).toInt = (vi (57 + k)).toInt; rw [kx1 (57 + k) (kp_out (a := 57) (b := 137) (by decide) (by omega) (by omega))]) (fun k h9 => by show fl_A (vf1 (23 + k)) = fl_A (vf (23 + k)); rw [kx2 (23 + k) (kp_out (a := 23) (b := 55) (by decide) (by omega) (by omega))]) f, rs_I_cg (fun k h9 => by show (vi1 (137 + k)).toInt = (vi (137 + k)).toInt; rw [kx1 (137 + k) (kp_out (a := 137) (b := 152) (by decide) (by omega) (by omega))]) (fun k h9 => by show fl_A (vf1 (55 + k)) = fl_A (vf (55 + k)); rw [kx2 (55 + k) (kp_out (a := 55) (b := 61) (by decide) (by omega) (by omega))]) g⟩
        exact ⟨by rw [← ef, ← mf, e2], lr_H_keep (g2 33 (by decide)) (g2 34 (by decide)) (g2 35 (by decide)) (g2 36 (by decide)) (g2 37 (by decide)) (g2 38 (by decide)) (g2 39 (by decide)) (g2 40 (by decide)) (g2 41 (by decide)) (g2 42 (by decide)) (g2 53 (by decide)) (g3 11 (by decide)) (g3 12 (by decide)) (g3 13 (by decide)) (g3 14 (by decide)) (g3 19 (by decide)) (g3 20 (by decide)) (Int32.toInt_inj.mp mh.symm) mr.symm hH, hVn⟩
  · have ex : Ff_X7_gallery n.toInt (vi 1).toInt (vi 2).toInt tp.toInt (vi 3).toInt (vi 4).toInt (vi 5).toInt (vi 6).toInt (vi 7).toInt (vi 8).toInt (vi 9).toInt vl.toInt (vi 10).toInt (vi 11).toInt (vi 43).toInt (vi 44).toInt (vi 45).toInt (vi 46).toInt (vi 47).toInt (vi 48).toInt (vi 49).toInt (vi 50).toInt (vi 51).toInt (vi 52).toInt (vi 55).toInt (fl_A (vf 15)) (fl_A (vf 16)) (fl_A (vf 0)) (fl_L fl) (fl_A (vf 21)) (fl_A (vf 22)) (fl_A (vf 18)) (fl_A (vf 17)) (vi 12).toInt (vi 13).toInt (vi 14).toInt (vi 15).toInt (vi 16).toInt (fl_A (vf 1)) (fl_A (vf 2)) (vi 24).toInt (vi 25).toInt (vi 30).toInt (vi 31).toInt = ((-1), 2, (vi 1).toInt, (vi 2).toInt, tp.toInt, (vi 3).toInt, (vi 4).toInt, (vi 5).toInt, (vi 6).toInt, (vi 7).toInt, (vi 8).toInt, (vi 9).toInt, vl.toInt, (vi 10).toInt, (vi 11).toInt, (vi 43).toInt, (vi 44).toInt, (vi 45).toInt, (vi 46).toInt, (vi 47).toInt, (vi 48).toInt, (vi 49).toInt, (vi 50).toInt, (vi 51).toInt, (vi 52).toInt, (vi 55).toInt, (fl_A (vf 15)), (fl_A (vf 16)), (fl_L fl), (fl_A (vf 21)), (fl_A (vf 22)), (fl_A (vf 18)), (fl_A (vf 17)), (vi 12).toInt, (vi 13).toInt, (vi 14).toInt, (vi 15).toInt, (vi 16).toInt, (fl_A (vf 1)), (fl_A (vf 2)), (vi 24).toInt, (vi 25).toInt, (vi 30).toInt, (vi 31).toInt, 1) := by
      unfold Ff_X7_gallery
      rw [fl_lt_eq ((rp_in n.toInt 0 tp.toInt).trans (rp_in0 h)).symm, if_neg n01]; rfl
    have b2 : Ff_X8_gallery n.toInt tp.toInt (vm 1).toInt (vm 2).toInt (vm 3).toInt (vm 4).toInt (vm 5).toInt (vm 6).toInt (vm 7).toInt (vm 8).toInt (vm 10).toInt (vm 11).toInt (vm 12).toInt (vm 13).toInt (fl_A (vn 3)) (fl_A (vn 0)) (fl_A (vn 1)) (fl_A (vn 2)) (fl_A (vn 4)) = ((-1), 0, tp.toInt, (vm 1).toInt, (vm 2).toInt, (vm 3).toInt, (vm 4).toInt, (vm 5).toInt, (vm 6).toInt, (vm 7).toInt, (vm 8).toInt, 2, (vm 10).toInt, (vm 11).toInt, (vm 12).toInt, (vm 13).toInt, (fl_A (vn 3)), (fl_A (vn 1)), (fl_A (vn 2)), (fl_A (vn 4))) := by
      unfold Ff_X8_gallery Ff_X8_good
      rw [fl_c2_eq rfl, fl_lt_eq (rp_in0 h).symm, if_neg n01]; rfl
    rw [ex] at gx
    rcases gx with ⟨g1, g2, g3⟩ | ⟨g1, g2, g3, g4⟩
    · exact absurd (congrArg (fun z9 => z9.2.2.2.2.2.2.2.2.2.2.2.2.2.2.2.2.2.2.2.2.2.2.2.2.2.2.2.2.2.2.2.2.2.2.2.2.2.2.2.2.2.2.2) g1 : (1 : Int) = 0).symm n01
    · rw [b2] at gm
      have ef : (vi 1).toInt = (vi1 1).toInt := congrArg (fun z9 => z9.2.1) g1
      have mf : (vm 7).toInt = (vm1 7).toInt := congrArg (fun z9 => z9.2.2.2.2.2.2.2.2.1) gm
      have mh : (vm 11).toInt = (vm1 11).toInt := congrArg (fun z9 => z9.2.2.2.2.2.2.2.2.2.2.2.2.1) gm
      have mr : (fl_A (vn 2)) = fl_A (vn1 2) := congrArg (fun z9 => z9.2.2.2.2.2.2.2.2.2.2.2.2.2.2.2.2.2.1) gm
      have p_mi : (vi 12).toInt = (vi1 12).toInt := congrArg (fun z9 => z9.2.2.2.2.2.2.2.2.2.2.2.2.2.2.2.2.2.2.2.2.2.2.2.2.2.2.2.2.2.2.2.2.1) g1
      have p_tu : (vi 13).toInt = (vi1 13).toInt := congrArg (fun z9 => z9.2.2.2.2.2.2.2.2.2.2.2.2.2.2.2.2.2.2.2.2.2.2.2.2.2.2.2.2.2.2.2.2.2.1) g1
      have p_sn : (vi 14).toInt = (vi1 14).toInt := congrArg (fun z9 => z9.2.2.2.2.2.2.2.2.2.2.2.2.2.2.2.2.2.2.2.2.2.2.2.2.2.2.2.2.2.2.2.2.2.2.1) g1
      have p_go : (vi 15).toInt = (vi1 15).toInt := congrArg (fun z9 => z9.2.2.2.2.2.2.2.2.2.2.2.2.2.2.2.2.2.2.2.2.2.2.2.2.2.2.2.2.2.2.2.2.2.2.2.1) g1
      have p_ca : (vi 16).toInt = (vi1 16).toInt := congrArg (fun z9 => z9.2.2.2.2.2.2.2.2.2.2.2.2.2.2.2.2.2.2.2.2.2.2.2.2.2.2.2.2.2.2.2.2.2.2.2.2.1) g1
      have p_pl : (fl_A (vf 1)) = fl_A (vf1 1) := congrArg (fun z9 => z9.2.2.2.2.2.2.2.2.2.2.2.2.2.2.2.2.2.2.2.2.2.2.2.2.2.2.2.2.2.2.2.2.2.2.2.2.2.1) g1
      have p_he : (fl_A (vf 2)) = fl_A (vf1 2) := congrArg (fun z9 => z9.2.2.2.2.2.2.2.2.2.2.2.2.2.2.2.2.2.2.2.2.2.2.2.2.2.2.2.2.2.2.2.2.2.2.2.2.2.2.1) g1
      have p_U : (vi 24).toInt = (vi1 24).toInt := congrArg (fun z9 => z9.2.2.2.2.2.2.2.2.2.2.2.2.2.2.2.2.2.2.2.2.2.2.2.2.2.2.2.2.2.2.2.2.2.2.2.2.2.2.2.1) g1
      have p_N : (vi 25).toInt = (vi1 25).toInt := congrArg (fun z9 => z9.2.2.2.2.2.2.2.2.2.2.2.2.2.2.2.2.2.2.2.2.2.2.2.2.2.2.2.2.2.2.2.2.2.2.2.2.2.2.2.2.1) g1
      have r_st : (fl_A (vn 4)) = fl_A (vn1 4) := congrArg (fun z9 => z9.2.2.2.2.2.2.2.2.2.2.2.2.2.2.2.2.2.2) gm
      have r_U : (vm 12).toInt = (vm1 12).toInt := congrArg (fun z9 => z9.2.2.2.2.2.2.2.2.2.2.2.2.2.1) gm
      have r_N : (vm 13).toInt = (vm1 13).toInt := congrArg (fun z9 => z9.2.2.2.2.2.2.2.2.2.2.2.2.2.2.1) gm
      have hVn : lr_V vi1 vf1 vm1 vn1 := by
        refine ⟨⟨by rw [g2 54 (by decide)]; exact hV.1.1, by rw [g4]; exact hV.1.2⟩, ?_⟩
        have m11 : vm1 11 = vm 11 := Int32.toInt_inj.mp mh.symm
        rw [m11, g2 33 (by decide), g2 34 (by decide), g3 11 (by decide), ← p_mi, ← p_tu, ← p_sn, ← p_go, ← p_ca, ← p_pl, ← p_he, ← p_U, ← p_N, ← r_st, ← r_U, ← r_N, kx1 26 (by decide), km2 6 (by decide), km2 7 (by decide)]
        have i12 : vi1 12 = vi 12 := Int32.toInt_inj.mp p_mi.symm
        have i24 : vi1 24 = vi 24 := Int32.toInt_inj.mp p_U.symm
        have i25 : vi1 25 = vi 25 := Int32.toInt_inj.mp p_N.symm
        have j12 : vm1 12 = vm 12 := Int32.toInt_inj.mp r_U.symm
        have j13 : vm1 13 = vm 13 := Int32.toInt_inj.mp r_N.symm
        rw [i12, i24, i25, j12, j13]
        rcases hV.2 with h4 | ⟨a, b, c, d, e, f, g⟩
        · exact Or.inl h4
        · exact Or.inr ⟨a, b, c, d, e, rs_H_cg (fun k h9 => by show (vi1 (57 + k)).toInt = (vi (57 + k)).toInt; rw [kx1 (57 + k) (kp_out (a := 57) (b := 137) (by decide) (by omega) (by omega))]) (fun k h9 => by show fl_A (vf1 (23 + k)) = fl_A (vf (23 + k)); rw [kx2 (23 + k) (kp_out (a := 23) (b := 55) (by decide) (by omega) (by omega))]) f, rs_I_cg (fun k h9 => by show (vi1 (137 + k)).toInt = (vi (137 + k)).toInt; rw [kx1 (137 + k) (kp_out (a := 137) (b := 152) (by decide) (by omega) (by omega))]) (fun k h9 => by show fl_A (vf1 (55 + k)) = fl_A (vf (55 + k)); rw [kx2 (55 + k) (kp_out (a := 55) (b := 61) (by decide) (by omega) (by omega))]) g⟩
      exact ⟨by rw [← ef, ← mf]; exact hF, lr_H_keep (g2 33 (by decide)) (g2 34 (by decide)) (g2 35 (by decide)) (g2 36 (by decide)) (g2 37 (by decide)) (g2 38 (by decide)) (g2 39 (by decide)) (g2 40 (by decide)) (g2 41 (by decide)) (g2 42 (by decide)) (g2 53 (by decide)) (g3 11 (by decide)) (g3 12 (by decide)) (g3 13 (by decide)) (g3 14 (by decide)) (g3 19 (by decide)) (g3 20 (by decide)) (Int32.toInt_inj.mp mh.symm) mr.symm hH, hVn⟩
end RELG
end P094031_rel
