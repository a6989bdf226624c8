section RELP
theorem lr_0 {vi vm : Nat → Int32} {vf vn : Nat → Nat → Int32} (h : lr_H vi vf vm vn) (z : vm 11 = 0) : (vm 11).toInt = 0 ∧ (vi 33).toInt = 0 ∧ (vi 53).toInt = 0 := by
  rcases h with ⟨h1, h2, -, -, -, -, -, -, -, -, h3⟩ | ⟨h1, h2, -⟩
  · exact ⟨by rw [h1]; decide, by rw [h2]; decide, by rw [h3]; decide⟩
  · rw [z] at h1; exact absurd h1 (by decide)
theorem lr_1 {vi vm : Nat → Int32} {vf vn : Nat → Nat → Int32} (h : lr_H vi vf vm vn) (z : vm 11 = 1) : (vm 11).toInt = 1 ∧ 2 ≤ (vi 33).toInt ∧ (vi 33).toInt ≤ 9 := by
  rcases h with ⟨h1, h2, -⟩ | ⟨h1, h2, -⟩
  · rw [z] at h1; exact absurd h1 (by decide)
  · exact ⟨by rw [z]; decide, h2.1, h2.2.1⟩
theorem lr_alive {vi vm : Nat → Int32} {vf vn : Nat → Nat → Int32} (hH : lr_H vi vf vm vn) (hV : lr_V vi vf vm vn) (hMo : vm 11 = 0 ∨ (vm 11 = 1 ∧ ((∀ k : Nat, 0 ≤ k → k ≤ 0 → (2 : Int) ≤ ((vn 2) k).toInt ∧ ((vn 2) k).toInt ≤ 9) ∧ (∀ k : Nat, 1 ≤ k → k ≤ 1 → (1 : Int) ≤ ((vn 2) k).toInt ∧ ((vn 2) k).toInt ≤ 20) ∧ (∀ k : Nat, 2 ≤ k → k ≤ 2 → (0 : Int) ≤ ((vn 2) k).toInt ∧ ((vn 2) k).toInt ≤ 8) ∧ (∀ k : Nat, 3 ≤ k → k ≤ 3 → (0 : Int) ≤ ((vn 2) k).toInt ∧ ((vn 2) k).toInt ≤ 100) ∧ (∀ k : Nat, 4 ≤ k → k ≤ 4 → (0 : Int) ≤ ((vn 2) k).toInt ∧ ((vn 2) k).toInt ≤ 9) ∧ (∀ k : Nat, 5 ≤ k → k ≤ 5 → (0 : Int) ≤ ((vn 2) k).toInt ∧ ((vn 2) k).toInt ≤ 3) ∧ (∀ k : Nat, 6 ≤ k → k ≤ 6 → (0 : Int) ≤ ((vn 2) k).toInt ∧ ((vn 2) k).toInt ≤ 6) ∧ (∀ k : Nat, 7 ≤ k → k ≤ 9 → (0 : Int) ≤ ((vn 2) k).toInt ∧ ((vn 2) k).toInt ≤ 8) ∧ (∀ k : Nat, 12 ≤ k → k ≤ 29 → (0 : Int) ≤ ((vn 2) k).toInt ∧ ((vn 2) k).toInt ≤ 20) ∧ (∀ k : Nat, 30 ≤ k → k ≤ 35 → (0 : Int) ≤ ((vn 2) k).toInt ∧ ((vn 2) k).toInt ≤ 8) ∧ (∀ k : Nat, 36 ≤ k → k ≤ 47 → (0 : Int) ≤ ((vn 2) k).toInt ∧ ((vn 2) k).toInt ≤ 999)) ∧ ((∀ (j i0 i : Int32), (0 : Int) ≤ j.toInt → j.toInt ≤ 8 → i0.toInt = 12 + 2 * j.toInt → i.toInt = 13 + 2 * j.toInt → ((vn 2) i0.toNatClampNeg).toInt = (1 : Int32).toInt → (1 : Int) ≤ ((vn 2) i.toNatClampNeg).toInt)))) {b : Int} (hb : (vm 11 = 0 ∧ b = (Ff0_X8_alive (vm 11).toInt).1) ∨ (vm 11 = 1 ∧ b = (Ff_X8_alive (vm 11).toInt (fl_A (vn 4))).1)) : (Ff_X7_alive (vi 33).toInt (vi 13).toInt).1 = b := by
  rcases hb with ⟨z, hb⟩ | ⟨z, hb⟩
  · obtain ⟨e1, e2, -⟩ := lr_0 hH z
    rw [hb, e1, e2]; rfl
  · obtain ⟨e1, e2, e3⟩ := lr_1 hH z
    rcases hMo with z0 | ⟨-, hrs, hkm⟩
    · rw [z] at z0; exact absurd z0 (by decide)
    obtain ⟨hG, hD, -⟩ := lr_G hH z hrs hkm
    obtain ⟨v54, v⟩ := hV
    rcases v with ⟨z0, -⟩ | ⟨-, hS, -⟩
    · rw [z] at z0; exact absurd z0 (by decide)
    rw [hb, e1]
    unfold Ff_X7_alive Ff_X7_hasGallery
    rw [if_neg (by omega)]
    exact hS.1.2.1
end RELP
