section RELP
theorem lr_0 {vi vm : Nat → Int32} {vf vn : Nat → Nat → Int32} (h : lr_H vi vf vm vn) (z : vm 11 = 0) : (vm 11).toInt = 0 ∧ (vi 33).toInt = 0 ∧ (vi 53).toInt = 0 := by
  rcases h with ⟨h1, h2, -, -, -, -, -, -, -, -, h3⟩ | ⟨h1, h2, -⟩
  · exact ⟨by rw [h1]; decide, by rw [h2]; decide, by rw [h3]; decide⟩
  · rw [z] at h1; exact absurd h1 (by decide)
theorem lr_1 {vi vm : Nat → Int32} {vf vn : Nat → Nat → Int32} (h : lr_H vi vf vm vn) (z : vm 11 = 1) : (vm 11).toInt = 1 ∧ 2 ≤ (vi 33).toInt ∧ (vi 33).toInt ≤ 9 := by
  rcases h with ⟨h1, h2, -⟩ | ⟨h1, h2, -⟩
  · rw [z] at h1; exact absurd h1 (by decide)
  · exact ⟨by rw [z]; decide, h2.1, h2.2.1⟩
theorem lr_alive {vi vm : Nat → Int32} {vf vn : Nat → Nat → Int32} (hH : lr_H vi vf vm vn) (hV : lr_V vi vf vm vn) (hMo : vm 11 = 0 ∨ (vm 11 = 1 ∧ ((∀ k : Nat, 0 ≤ k → k ≤ 0 → (2 : Int) ≤ ((vn 2) k).toInt ∧ ((vn 2) k).toInt ≤ 9) ∧ (∀ k : Nat, 1 ≤ k → k ≤ 1 → (1 : Int) ≤ ((vn 2) k).toInt ∧ ((vn 2) k).toInt ≤ 20) ∧ (∀ k : Nat, 2 ≤ k → k ≤ 2 → (0 : Int) ≤ ((vn 2) k).toInt ∧ ((vn 2) k).toInt ≤ 8) ∧ (∀ k : Nat, 3 ≤ k → k ≤ 3 → (0 : Int) ≤ ((vn 2) k).toInt ∧ ((vn 2) k).toInt ≤ 100) ∧ (∀ k : Nat, 4 ≤ k → k ≤ 4 → (0 : Int) ≤ ((vn 2) k).toInt ∧ ((vn 2) k).toInt ≤ 9) ∧ (∀ k : Nat, 5 ≤ k → k ≤ 5 → (0 : Int) ≤ ((vn 2) k).toInt ∧ ((vn 2) k).toInt ≤ 3) ∧ (∀ k : Nat, 6 ≤ k → k ≤ 6 → (0 : Int) ≤ ((vn 2) k).toInt ∧ ((vn 2) k).toInt ≤ 6) ∧ (∀ k : Nat, 7 ≤ k → k ≤ 9 → (0 : Int) ≤ ((vn 2) k).toInt ∧ ((vn 2) k).toInt ≤ 8) ∧ (∀ k : Nat, 12 ≤ k → k ≤ 29 → (0 : Int) ≤ ((vn 2) k).toInt ∧ ((vn 2) k).toInt ≤ 20) ∧ (∀ k : Nat, 30 ≤ k → k ≤ 35 → (0 : Int) ≤ ((vn 2) k).toInt ∧ ((vn 2) k).toInt ≤ 8) ∧ (∀ k : Nat, 36 ≤ k → k ≤ 47 → (0 : Int) ≤ ((vn 2) k).toInt ∧ ((vn 2) k).toInt ≤ 999)) ∧ ((∀ (j i0 i : Int32), (0 : Int) ≤ j.toInt → j.toInt ≤ 8 → i0.toInt = 12 + 2 * j.toInt → i.toInt = 13 + 2 * j.toInt → ((vn 2) i0.toNatClampNeg).toInt = (1 : Int32).toInt → (1 : Int) ≤ ((vn 2) i.toNatClampNeg).toInt)))) {b : Int} (hb : (vm 11 = 0 ∧ b = (Ff0_X8_alive (vm 11).toInt).1) ∨ (vm 11 = 1 ∧ b = (Ff_X8_alive (vm 11).toInt (fl_A (vn 4))).1)) : (Ff_X7_alive (vi 33).toInt (vi 13).toInt).1 = b := by
  rcases hb with ⟨z, hb⟩ | ⟨z, hb⟩
  · obtain ⟨e1, e2, -⟩ := lr_0 hH z
    rw [hb, e1, e2]; rfl
  · obtain ⟨e1, e2, e3⟩ := lr_1 hH z
    rcases hMo with z0 | ⟨-, hrs, hkm⟩
    · rw [z] at z0; exact absurd z0 (by decide)
    obtain ⟨hG, hD, -⟩ := lr_G hH z hrs hkm
    obtain ⟨v54, v⟩ := hV
    rcases v with ⟨z0, -⟩ | ⟨-, hS, -⟩
    · rw [z] at z0; exact absurd z0 (by decide)
    rw [hb, e1]
    unfold Ff_X7_alive Ff_X7_hasGallery
    rw [if_neg (by omega)]
    exact hS.1.2.1
theorem lr_left {vi vm : Nat → Int32} {vf vn : Nat → Nat → Int32} (hH : lr_H vi vf vm vn) (hV : lr_V vi vf vm vn) (hMo : vm 11 = 0 ∨ (vm 11 = 1 ∧ ((∀ k : Nat, 0 ≤ k → k ≤ 0 → (2 : Int) ≤ ((vn 2) k).toInt ∧ ((vn 2) k).toInt ≤ 9) ∧ (∀ k : Nat, 1 ≤ k → k ≤ 1 → (1 : Int) ≤ ((vn 2) k).toInt ∧ ((vn 2) k).toInt ≤ 20) ∧ (∀ k : Nat, 2 ≤ k → k ≤ 2 → (0 : Int) ≤ ((vn 2) k).toInt ∧ ((vn 2) k).toInt ≤ 8) ∧ (∀ k : Nat, 3 ≤ k → k ≤ 3 → (0 : Int) ≤ ((vn 2) k).toInt ∧ ((vn 2) k).toInt ≤ 100) ∧ (∀ k : Nat, 4 ≤ k → k ≤ 4 → (0 : Int) ≤ ((vn 2) k).toInt ∧ ((vn 2) k).toInt ≤ 9) ∧ (∀ k : Nat, 5 ≤ k → k ≤ 5 → (0 : Int) ≤ ((vn 2) k).toInt ∧ ((vn 2) k).toInt ≤ 3) ∧ (∀ k : Nat, 6 ≤ k → k ≤ 6 → (0 : Int) ≤ ((vn 2) k).toInt ∧ ((vn 2) k).toInt ≤ 6) ∧ (∀ k : Nat, 7 ≤ k → k ≤ 9 → (0 : Int) ≤ ((vn 2) k).toInt ∧ ((vn 2) k).toInt ≤ 8) ∧ (∀ k : Nat, 12 ≤ k → k ≤ 29 → (0 : Int) ≤ ((vn 2) k).toInt ∧ ((vn 2) k).toInt ≤ 20) ∧ (∀ k : Nat, 30 ≤ k → k ≤ 35 → (0 : Int) ≤ ((vn 2) k).toInt ∧ ((vn 2) k).toInt ≤ 8) ∧ (∀ k : Nat, 36 ≤ k → k ≤ 47 → (0 : Int) ≤ ((vn 2) k).toInt ∧ ((vn 2) k).toInt ≤ 999)) ∧ ((∀ (j i0 i : Int32), (0 : Int) ≤ j.toInt → j.toInt ≤ 8 → i0.toInt = 12 + 2 * j.toInt → i.toInt = 13 + 2 * j.toInt → ((vn 2) i0.toNatClampNeg).toInt = (1 : Int32).toInt → (1 : Int) ≤ ((vn 2) i.toNatClampNeg).toInt)))) {b : Int} (hb : (vm 11 = 0 ∧ b = (Ff0_X8_left (vm 11).toInt).1) ∨ (vm 11 = 1 ∧ b = (Ff_X8_left (vm 11).toInt (fl_A (vn 2)) (fl_A (vn 4))).1)) : (Ff_X7_left (vi 33).toInt (vi 34).toInt (vi 14).toInt).1 = b := by
  rcases hb with ⟨z, hb⟩ | ⟨z, hb⟩
  · obtain ⟨e1, e2, -⟩ := lr_0 hH z
    rw [hb, e1, e2]; rfl
  · obtain ⟨e1, e2, e3⟩ := lr_1 hH z
    rcases hMo with z0 | ⟨-, hrs, hkm⟩
    · rw [z] at z0; exact absurd z0 (by decide)
    obtain ⟨hG, hD, -⟩ := lr_G hH z hrs hkm
    obtain ⟨v54, v⟩ := hV
    rcases v with ⟨z0, -⟩ | ⟨-, hS, -⟩
    · rw [z] at z0; exact absurd z0 (by decide)
    rw [hb, e1]
    unfold Ff_X7_left Ff_X7_hasGallery
    rw [if_neg (by omega)]
    show fl_isub (vi 34).toInt (vi 14).toInt = fl_A (vn 2) 1 - fl_A (vn 4) 20
    obtain ⟨-, ⟨g1, g2, g3⟩, -⟩ := hG
    obtain ⟨⟨-, -, s3, -⟩, -, -, ⟨n0, n1⟩, -⟩ := hS
    rw [rp_isub (by omega) (by omega) (by omega) (by omega) (by omega) (by omega), ← s3, ← g1]
theorem lr_caught {vi vm : Nat → Int32} {vf vn : Nat → Nat → Int32} (hH : lr_H vi vf vm vn) (hV : lr_V vi vf vm vn) (hMo : vm 11 = 0 ∨ (vm 11 = 1 ∧ ((∀ k : Nat, 0 ≤ k → k ≤ 0 → (2 : Int) ≤ ((vn 2) k).toInt ∧ ((vn 2) k).toInt ≤ 9) ∧ (∀ k : Nat, 1 ≤ k → k ≤ 1 → (1 : Int) ≤ ((vn 2) k).toInt ∧ ((vn 2) k).toInt ≤ 20) ∧ (∀ k : Nat, 2 ≤ k → k ≤ 2 → (0 : Int) ≤ ((vn 2) k).toInt ∧ ((vn 2) k).toInt ≤ 8) ∧ (∀ k : Nat, 3 ≤ k → k ≤ 3 → (0 : Int) ≤ ((vn 2) k).toInt ∧ ((vn 2) k).toInt ≤ 100) ∧ (∀ k : Nat, 4 ≤ k → k ≤ 4 → (0 : Int) ≤ ((vn 2) k).toInt ∧ ((vn 2) k).toInt ≤ 9) ∧ (∀ k : Nat, 5 ≤ k → k ≤ 5 → (0 : Int) ≤ ((vn 2) k).toInt ∧ ((vn 2) k).toInt ≤ 3) ∧ (∀ k : Nat, 6 ≤ k → k ≤ 6 → (0 : Int) ≤ ((vn 2) k).toInt ∧ ((vn 2) k).toInt ≤ 6) ∧ (∀ k : Nat, 7 ≤ k → k ≤ 9 → (0 : Int) ≤ ((vn 2) k).toInt ∧ ((vn 2) k).toInt ≤ 8) ∧ (∀ k : Nat, 12 ≤ k → k ≤ 29 → (0 : Int) ≤ ((vn 2) k).toInt ∧ ((vn 2) k).toInt ≤ 20) ∧ (∀ k : Nat, 30 ≤ k → k ≤ 35 → (0 : Int) ≤ ((vn 2) k).toInt ∧ ((vn 2) k).toInt ≤ 8) ∧ (∀ k : Nat, 36 ≤ k → k ≤ 47 → (0 : Int) ≤ ((vn 2) k).toInt ∧ ((vn 2) k).toInt ≤ 999)) ∧ ((∀ (j i0 i : Int32), (0 : Int) ≤ j.toInt → j.toInt ≤ 8 → i0.toInt = 12 + 2 * j.toInt → i.toInt = 13 + 2 * j.toInt → ((vn 2) i0.toNatClampNeg).toInt = (1 : Int32).toInt → (1 : Int) ≤ ((vn 2) i.toNatClampNeg).toInt)))) {b : Int} (hb : (vm 11 = 0 ∧ b = (Ff0_X8_caught (vm 11).toInt).1) ∨ (vm 11 = 1 ∧ b = (Ff_X8_caught (vm 11).toInt (fl_A (vn 4))).1)) : (Ff_X7_caught (vi 33).toInt (vi 16).toInt).1 = b := by
  rcases hb with ⟨z, hb⟩ | ⟨z, hb⟩
  · obtain ⟨e1, e2, -⟩ := lr_0 hH z
    rw [hb, e1, e2]; rfl
  · obtain ⟨e1, e2, e3⟩ := lr_1 hH z
    rcases hMo with z0 | ⟨-, hrs, hkm⟩
    · rw [z] at z0; exact absurd z0 (by decide)
    obtain ⟨hG, hD, -⟩ := lr_G hH z hrs hkm
    obtain ⟨v54, v⟩ := hV
    rcases v with ⟨z0, -⟩ | ⟨-, hS, -⟩
    · rw [z] at z0; exact absurd z0 (by decide)
    rw [hb, e1]
    unfold Ff_X7_caught Ff_X7_hasGallery
    rw [if_neg (by omega)]
    exact hS.1.2.2.2.2
set_option maxRecDepth 20000 in
theorem rs_hba : ∀ w : Fin 512, ∀ f : Fin 9, fl_and (fl_shr (w.val : Int) (f.val : Int)) 1 = Ff_X7_hasBit (w.val : Int) (f.val : Int) := by decide +kernel
theorem rs_figc {a w fg go : Int} {kd me pl he : Nat → Int} (h : 0 ≤ a ∧ a ≤ fg - 1) (hw : 0 ≤ w ∧ w ≤ 4) : (Ff_X7_figure a w fg kd me go pl he).1 = if w = 0 then kd a.toNat else if w = 1 then me a.toNat else if w = 2 then pl a.toNat else if w = 3 then Ff_X7_hasBit go a else he a.toNat := by
  unfold Ff_X7_figure Ff_X5_isGone
  rw [rs_isf, if_pos h, fl_lt_eq rfl, if_pos rfl, rp_in, rp_in1 hw.1 hw.2, fl_lt_eq rfl, if_pos rfl]
  by_cases w0 : w = 0
  · rw [if_pos w0, if_pos w0]; rfl
  · rw [if_neg w0, if_neg w0]
    by_cases w1 : w = 1
    · rw [if_pos w1, if_pos w1]; rfl
    · rw [if_neg w1, if_neg w1]
      by_cases w2 : w = 2
      · rw [if_pos w2, if_pos w2]; rfl
      · rw [if_neg w2, if_neg w2]
        by_cases w3 : w = 3
        · rw [if_pos w3, if_pos w3]; (rcases rs_hb01 go a with q | q <;> (rw [q]; rfl))
        · rw [if_neg w3, if_neg w3]
          rfl
theorem rs_figm {a w : Int} {r st : Nat → Int} (h : 0 ≤ a ∧ a ≤ r 0 - 1) (hw : 0 ≤ w ∧ w ≤ 4) : (Ff_X8_figure a w 1 r st).1 = if w = 0 then r (12 + 2 * a.toNat) else if w = 1 then r (13 + 2 * a.toNat) else if w = 2 then st a.toNat else if w = 3 then fl_and (fl_shr (st 18) a) 1 else st (9 + a.toNat) := by
  have z0 : (12 + 2 * a + 0).toNat = 12 + 2 * a.toNat := by omega
  have z1 : (12 + 2 * a + 1).toNat = 13 + 2 * a.toNat := by omega
  have z9 : (9 + a).toNat = 9 + a.toNat := by omega
  unfold Ff_X8_figure Ff_X8_good
  rw [fl_c2_eq (t := ((0 : Int), (0 : Int))) rfl, rs_isfm, if_pos h, fl_lt_eq rfl, if_pos rfl, rp_in1 hw.1 hw.2, fl_lt_eq rfl, if_pos rfl]
  simp only [fl_lt, z0, z1, z9]
  by_cases w0 : w = 0
  · rw [if_pos w0, if_pos w0]
  · rw [if_neg w0, if_neg w0]
    by_cases w1 : w = 1
    · rw [if_pos w1, if_pos w1]
    · rw [if_neg w1, if_neg w1]
      by_cases w2 : w = 2
      · rw [if_pos w2, if_pos w2]
      · rw [if_neg w2, if_neg w2]
        by_cases w3 : w = 3
        · rw [if_pos w3, if_pos w3]
        · rw [if_neg w3, if_neg w3]
theorem lr_figure {vi vm : Nat → Int32} {vf vn : Nat → Nat → Int32} (hH : lr_H vi vf vm vn) (hV : lr_V vi vf vm vn) (hMo : vm 11 = 0 ∨ (vm 11 = 1 ∧ ((∀ k : Nat, 0 ≤ k → k ≤ 0 → (2 : Int) ≤ ((vn 2) k).toInt ∧ ((vn 2) k).toInt ≤ 9) ∧ (∀ k : Nat, 1 ≤ k → k ≤ 1 → (1 : Int) ≤ ((vn 2) k).toInt ∧ ((vn 2) k).toInt ≤ 20) ∧ (∀ k : Nat, 2 ≤ k → k ≤ 2 → (0 : Int) ≤ ((vn 2) k).toInt ∧ ((vn 2) k).toInt ≤ 8) ∧ (∀ k : Nat, 3 ≤ k → k ≤ 3 → (0 : Int) ≤ ((vn 2) k).toInt ∧ ((vn 2) k).toInt ≤ 100) ∧ (∀ k : Nat, 4 ≤ k → k ≤ 4 → (0 : Int) ≤ ((vn 2) k).toInt ∧ ((vn 2) k).toInt ≤ 9) ∧ (∀ k : Nat, 5 ≤ k → k ≤ 5 → (0 : Int) ≤ ((vn 2) k).toInt ∧ ((vn 2) k).toInt ≤ 3) ∧ (∀ k : Nat, 6 ≤ k → k ≤ 6 → (0 : Int) ≤ ((vn 2) k).toInt ∧ ((vn 2) k).toInt ≤ 6) ∧ (∀ k : Nat, 7 ≤ k → k ≤ 9 → (0 : Int) ≤ ((vn 2) k).toInt ∧ ((vn 2) k).toInt ≤ 8) ∧ (∀ k : Nat, 12 ≤ k → k ≤ 29 → (0 : Int) ≤ ((vn 2) k).toInt ∧ ((vn 2) k).toInt ≤ 20) ∧ (∀ k : Nat, 30 ≤ k → k ≤ 35 → (0 : Int) ≤ ((vn 2) k).toInt ∧ ((vn 2) k).toInt ≤ 8) ∧ (∀ k : Nat, 36 ≤ k → k ≤ 47 → (0 : Int) ≤ ((vn 2) k).toInt ∧ ((vn 2) k).toInt ≤ 999)) ∧ ((∀ (j i0 i : Int32), (0 : Int) ≤ j.toInt → j.toInt ≤ 8 → i0.toInt = 12 + 2 * j.toInt → i.toInt = 13 + 2 * j.toInt → ((vn 2) i0.toNatClampNeg).toInt = (1 : Int32).toInt → (1 : Int) ≤ ((vn 2) i.toNatClampNeg).toInt)))) (a w : Int) {b : Int} (hb : (vm 11 = 0 ∧ b = (Ff0_X8_figure (vm 11).toInt).1) ∨ (vm 11 = 1 ∧ b = (Ff_X8_figure a w (vm 11).toInt (fl_A (vn 2)) (fl_A (vn 4))).1)) : (Ff_X7_figure a w (vi 33).toInt (fl_A (vf 11)) (fl_A (vf 12)) (vi 15).toInt (fl_A (vf 1)) (fl_A (vf 2))).1 = b := by
  rcases hb with ⟨z, hb⟩ | ⟨z, hb⟩
  · obtain ⟨e1, e2, e3⟩ := lr_0 hH z
    obtain ⟨v54, v⟩ := hV
    rcases v with ⟨-, v12, v24, v25, u12, u13⟩ | ⟨z0, -⟩
    rotate_left
    · rw [z] at z0; exact absurd z0 (by decide)
    rw [hb, e1, e2]
    unfold Ff_X7_figure
    rw [rs_isf, if_neg (by omega)]
    rfl
  · obtain ⟨e1, e2, e3⟩ := lr_1 hH z
    rcases hMo with z0 | ⟨-, hrs, hkm⟩
    · rw [z] at z0; exact absurd z0 (by decide)
    obtain ⟨hG, hD, -⟩ := lr_G hH z hrs hkm
    obtain ⟨v54, v⟩ := hV
    have hD := hD v54.1
    rcases v with ⟨z0, -⟩ | ⟨-, hS, hm, hU, hN, hHi, hIm⟩
    · rw [z] at z0; exact absurd z0 (by decide)
    obtain ⟨⟨s1, s2, s3, s4, s5⟩, m0, ⟨t0, t1⟩, ⟨n0, n1⟩, ⟨g0, g1⟩, hk⟩ := id hS
    obtain ⟨⟨f1, f2, f3⟩, ⟨sp1, sp2, sp3⟩, ⟨sa1, sa2, sa3⟩, ⟨ti1, ti2, ti3⟩, ⟨pu1, pu2, pu3⟩, hkd⟩ := id hG
    rw [hb, e1]
    by_cases h : 0 ≤ a ∧ a ≤ (vi 33).toInt - 1
    · by_cases hw : 0 ≤ w ∧ w ≤ 4
      · obtain ⟨k1, k2, -⟩ := hk a.toNat (by omega)
        obtain ⟨d1, d2, -⟩ := hkd a.toNat (by omega)
        have q := rs_hba ⟨(vi 15).toInt.toNat, by omega⟩ ⟨a.toNat, by omega⟩
        simp only [Int.toNat_of_nonneg g0, Int.toNat_of_nonneg h.1] at q
        rw [rs_figc h hw, rs_figm (by rw [← f1]; exact h) hw, ← d1, ← d2, ← k1, ← k2, ← s4, q]
      · unfold Ff_X7_figure Ff_X8_figure Ff_X8_good
        rw [fl_c2_eq (t := ((0 : Int), (0 : Int))) rfl, rs_isf, if_pos h, rs_isfm, if_pos (show 0 ≤ a ∧ a ≤ fl_A (vn 2) 0 - 1 by rw [← f1]; exact h), rp_in, rp_in0 hw]
        rfl
    · unfold Ff_X7_figure Ff_X8_figure Ff_X8_good
      rw [fl_c2_eq (t := ((0 : Int), (0 : Int))) rfl, rs_isf, if_neg h, rs_isfm, if_neg (show ¬ (0 ≤ a ∧ a ≤ fl_A (vn 2) 0 - 1) by rw [← f1]; exact h)]
      rfl
theorem rs_isw (a wc : Int) : Ff_X7_isWatcher a wc = if 0 ≤ a ∧ a ≤ wc - 1 then 1 else 0 := by
  unfold Ff_X7_isWatcher
  rw [fl_lt_eq rfl, rp_in]
  by_cases h2 : 0 ≤ a ∧ a ≤ wc - 1
  · rw [if_pos h2, rp_in1 h2.1 h2.2]; rfl
  · rw [if_neg h2, rp_in0 h2]; rfl
theorem rs_iswm (a : Int) (r : Nat → Int) : Ff_X8_isWatcher a 1 r = if 0 ≤ a ∧ a ≤ r 5 - 1 then 1 else 0 := by
  unfold Ff_X8_isWatcher
  rw [if_neg (by decide), fl_lt_eq rfl, fl_lt_eq rfl]
  by_cases h2 : 0 ≤ a ∧ a ≤ r 5 - 1
  · rw [if_pos h2, rp_in1 h2.1 h2.2]; rfl
  · rw [if_neg h2, rp_in0 h2]; rfl
theorem lr_watcher {vi vm : Nat → Int32} {vf vn : Nat → Nat → Int32} (hH : lr_H vi vf vm vn) (hV : lr_V vi vf vm vn) (hMo : vm 11 = 0 ∨ (vm 11 = 1 ∧ ((∀ k : Nat, 0 ≤ k → k ≤ 0 → (2 : Int) ≤ ((vn 2) k).toInt ∧ ((vn 2) k).toInt ≤ 9) ∧ (∀ k : Nat, 1 ≤ k → k ≤ 1 → (1 : Int) ≤ ((vn 2) k).toInt ∧ ((vn 2) k).toInt ≤ 20) ∧ (∀ k : Nat, 2 ≤ k → k ≤ 2 → (0 : Int) ≤ ((vn 2) k).toInt ∧ ((vn 2) k).toInt ≤ 8) ∧ (∀ k : Nat, 3 ≤ k → k ≤ 3 → (0 : Int) ≤ ((vn 2) k).toInt ∧ ((vn 2) k).toInt ≤ 100) ∧ (∀ k : Nat, 4 ≤ k → k ≤ 4 → (0 : Int) ≤ ((vn 2) k).toInt ∧ ((vn 2) k).toInt ≤ 9) ∧ (∀ k : Nat, 5 ≤ k → k ≤ 5 → (0 : Int) ≤ ((vn 2) k).toInt ∧ ((vn 2) k).toInt ≤ 3) ∧ (∀ k : Nat, 6 ≤ k → k ≤ 6 → (0 : Int) ≤ ((vn 2) k).toInt ∧ ((vn 2) k).toInt ≤ 6) ∧ (∀ k : Nat, 7 ≤ k → k ≤ 9 → (0 : Int) ≤ ((vn 2) k).toInt ∧ ((vn 2) k).toInt ≤ 8) ∧ (∀ k : Nat, 12 ≤ k → k ≤ 29 → (0 : Int) ≤ ((vn 2) k).toInt ∧ ((vn 2) k).toInt ≤ 20) ∧ (∀ k : Nat, 30 ≤ k → k ≤ 35 → (0 : Int) ≤ ((vn 2) k).toInt ∧ ((vn 2) k).toInt ≤ 8) ∧ (∀ k : Nat, 36 ≤ k → k ≤ 47 → (0 : Int) ≤ ((vn 2) k).toInt ∧ ((vn 2) k).toInt ≤ 999)) ∧ ((∀ (j i0 i : Int32), (0 : Int) ≤ j.toInt → j.toInt ≤ 8 → i0.toInt = 12 + 2 * j.toInt → i.toInt = 13 + 2 * j.toInt → ((vn 2) i0.toNatClampNeg).toInt = (1 : Int32).toInt → (1 : Int) ≤ ((vn 2) i.toNatClampNeg).toInt)))) (a w x25 : Int) (fz tz : Nat → Int) {b : Int} (hb : (vm 11 = 0 ∧ b = (Ff0_X8_watcher (vm 11).toInt).1) ∨ (vm 11 = 1 ∧ b = (Ff_X8_watcher a w (vm 11).toInt x25 (fl_A (vn 2)) fz tz (fl_A (vn 4))).1)) : (Ff_X7_watcher a w (vi 53).toInt (fl_A (vf 19)) (fl_A (vf 20)) (vi 12).toInt).1 = b := by
  rcases hb with ⟨z, hb⟩ | ⟨z, hb⟩
  · obtain ⟨e1, e2, e3⟩ := lr_0 hH z
    obtain ⟨v54, v⟩ := hV
    rcases v with ⟨-, v12, v24, v25, u12, u13⟩ | ⟨z0, -⟩
    rotate_left
    · rw [z] at z0; exact absurd z0 (by decide)
    rw [hb, e1, e3]
    unfold Ff_X7_watcher
    rw [rs_isw, if_neg (by omega)]
    rfl
  · obtain ⟨e1, e2, e3⟩ := lr_1 hH z
    rcases hMo with z0 | ⟨-, hrs, hkm⟩
    · rw [z] at z0; exact absurd z0 (by decide)
    obtain ⟨hG, hD, -⟩ := lr_G hH z hrs hkm
    obtain ⟨v54, v⟩ := hV
    have hD := hD v54.1
    rcases v with ⟨z0, -⟩ | ⟨-, hS, hm, hU, hN, hHi, hIm⟩
    · rw [z] at z0; exact absurd z0 (by decide)
    obtain ⟨⟨s1, s2, s3, s4, s5⟩, m0, ⟨t0, t1⟩, ⟨n0, n1⟩, ⟨g0, g1⟩, hk⟩ := id hS
    obtain ⟨⟨f1, f2, f3⟩, ⟨sp1, sp2, sp3⟩, ⟨sa1, sa2, sa3⟩, ⟨ti1, ti2, ti3⟩, ⟨pu1, pu2, pu3⟩, hkd⟩ := id hG
    rw [hb, e1]
    obtain ⟨w1, w2, w3, w4, w5⟩ := id hD
    obtain ⟨f9, t9, q1, q2⟩ := rs_told hD fz tz
    by_cases h : 0 ≤ a ∧ a ≤ (vi 53).toInt - 1
    · by_cases hw : 0 ≤ w ∧ w ≤ 2
      · obtain ⟨k1, k2, -⟩ := w5 a.toNat (by omega)
        have hp := (rs_W8 q2 (mi := (vi 12).toInt) m0 (by omega) a.toNat (by omega)).2.2
        rw [Int.toNat_of_nonneg h.1] at hp
        rcases (show w = 0 ∨ w = 1 ∨ w = 2 by omega) with q | q | q
        · subst q
          unfold Ff_X7_watcher Ff_X8_watcher Ff_X8_good
          rw [rs_isw, if_pos h, fl_c2_eq (t := ((0 : Int), (0 : Int))) rfl, rs_iswm, if_pos (show 0 ≤ a ∧ a ≤ fl_A (vn 2) 5 - 1 by rw [← w1]; exact h), q1]
          show fl_A (vf 19) a.toNat = fl_A (vn 2) (30 + 2 * a + 0).toNat
          rw [k1, show (30 + 2 * a + 0).toNat = 30 + 2 * a.toNat by omega]
        · subst q
          unfold Ff_X7_watcher Ff_X8_watcher Ff_X8_good
          rw [rs_isw, if_pos h, fl_c2_eq (t := ((0 : Int), (0 : Int))) rfl, rs_iswm, if_pos (show 0 ≤ a ∧ a ≤ fl_A (vn 2) 5 - 1 by rw [← w1]; exact h), q1]
          show fl_A (vf 20) a.toNat = fl_A (vn 2) (30 + 2 * a + 1).toNat
          rw [k2, show (30 + 2 * a + 1).toNat = 31 + 2 * a.toNat by omega]
        · subst q
          unfold Ff_X7_watcher Ff_X8_watcher Ff_X8_good
          rw [rs_isw, if_pos h, fl_c2_eq (t := ((0 : Int), (0 : Int))) rfl, rs_iswm, if_pos (show 0 ≤ a ∧ a ≤ fl_A (vn 2) 5 - 1 by rw [← w1]; exact h), q1]
          show Ff_X6_placeOf a (vi 12).toInt (fl_A (vf 20)) (fl_A (vf 19)) = Ff_X8_watcherAt a (fl_A (vn 4) 21) t9 f9
          rw [rs_at, ← s1, hp]
      · unfold Ff_X7_watcher Ff_X8_watcher Ff_X8_good
        rw [fl_c2_eq (t := ((0 : Int), (0 : Int))) rfl, rs_isw, if_pos h, rs_iswm, if_pos (show 0 ≤ a ∧ a ≤ fl_A (vn 2) 5 - 1 by rw [← w1]; exact h), rp_in, rp_in0 hw]
        rfl
    · unfold Ff_X7_watcher Ff_X8_watcher Ff_X8_good
      rw [fl_c2_eq (t := ((0 : Int), (0 : Int))) rfl, rs_isw, if_neg h, rs_iswm, if_neg (show ¬ (0 ≤ a ∧ a ≤ fl_A (vn 2) 5 - 1) by rw [← w1]; exact h)]
      rfl
theorem lr_c_put {tp : Int32} {vi vm : Nat → Int32} {vf vn : Nat → Nat → Int32} (hR : lr_R tp vi vf vm vn) (hM : vm 11 = 0 ∨ (vm 11 = 1 ∧ ((∀ k : Nat, 0 ≤ k → k ≤ 0 → (2 : Int) ≤ ((vn 2) k).toInt ∧ ((vn 2) k).toInt ≤ 9) ∧ (∀ k : Nat, 1 ≤ k → k ≤ 1 → (1 : Int) ≤ ((vn 2) k).toInt ∧ ((vn 2) k).toInt ≤ 20) ∧ (∀ k : Nat, 2 ≤ k → k ≤ 2 → (0 : Int) ≤ ((vn 2) k).toInt ∧ ((vn 2) k).toInt ≤ 8) ∧ (∀ k : Nat, 3 ≤ k → k ≤ 3 → (0 : Int) ≤ ((vn 2) k).toInt ∧ ((vn 2) k).toInt ≤ 100) ∧ (∀ k : Nat, 4 ≤ k → k ≤ 4 → (0 : Int) ≤ ((vn 2) k).toInt ∧ ((vn 2) k).toInt ≤ 9) ∧ (∀ k : Nat, 5 ≤ k → k ≤ 5 → (0 : Int) ≤ ((vn 2) k).toInt ∧ ((vn 2) k).toInt ≤ 3) ∧ (∀ k : Nat, 6 ≤ k → k ≤ 6 → (0 : Int) ≤ ((vn 2) k).toInt ∧ ((vn 2) k).toInt ≤ 6) ∧ (∀ k : Nat, 7 ≤ k → k ≤ 9 → (0 : Int) ≤ ((vn 2) k).toInt ∧ ((vn 2) k).toInt ≤ 8) ∧ (∀ k : Nat, 12 ≤ k → k ≤ 29 → (0 : Int) ≤ ((vn 2) k).toInt ∧ ((vn 2) k).toInt ≤ 20) ∧ (∀ k : Nat, 30 ≤ k → k ≤ 35 → (0 : Int) ≤ ((vn 2) k).toInt ∧ ((vn 2) k).toInt ≤ 8) ∧ (∀ k : Nat, 36 ≤ k → k ≤ 47 → (0 : Int) ≤ ((vn 2) k).toInt ∧ ((vn 2) k).toInt ≤ 999)) ∧ ((∀ (j i0 i : Int32), (0 : Int) ≤ j.toInt → j.toInt ≤ 8 → i0.toInt = 12 + 2 * j.toInt → i.toInt = 13 + 2 * j.toInt → ((vn 2) i0.toNatClampNeg).toInt = (1 : Int32).toInt → (1 : Int) ≤ ((vn 2) i.toNatClampNeg).toInt)))) (a : Int32) {b : Int} (hb : (vm 11 = 0 ∧ b = (Ff0_X8_put (vm 11).toInt).1) ∨ (vm 11 = 1 ∧ b = (Ff_X8_put a.toInt (vm 11).toInt (vm 12).toInt (fl_A (vn 2)) (fl_A (vn 4)) (fl_A (vn 6))).1)) : (Ff_X7_put a.toInt (vi 33).toInt (vi 12).toInt (vi 13).toInt (vi 14).toInt (vi 15).toInt (vi 16).toInt (fl_A (vf 1)) (vi 24).toInt (vi 26).toInt (fl_nI [(vi 57).toInt, (vi 58).toInt, (vi 59).toInt, (vi 60).toInt, (vi 61).toInt, (vi 62).toInt, (vi 63).toInt, (vi 64).toInt, (vi 65).toInt, (vi 66).toInt, (vi 67).toInt, (vi 68).toInt, (vi 69).toInt, (vi 70).toInt, (vi 71).toInt, (vi 72).toInt, (vi 73).toInt, (vi 74).toInt, (vi 75).toInt, (vi 76).toInt, (vi 77).toInt, (vi 78).toInt, (vi 79).toInt, (vi 80).toInt, (vi 81).toInt, (vi 82).toInt, (vi 83).toInt, (vi 84).toInt, (vi 85).toInt, (vi 86).toInt, (vi 87).toInt, (vi 88).toInt, (vi 89).toInt, (vi 90).toInt, (vi 91).toInt, (vi 92).toInt, (vi 93).toInt, (vi 94).toInt, (vi 95).toInt, (vi 96).toInt, (vi 97).toInt, (vi 98).toInt, (vi 99).toInt, (vi 100).toInt, (vi 101).toInt, (vi 102).toInt, (vi 103).toInt, (vi 104).toInt, (vi 105).toInt, (vi 106).toInt, (vi 107).toInt, (vi 108).toInt, (vi 109).toInt, (vi 110).toInt, (vi 111).toInt, (vi 112).toInt, (vi 113).toInt, (vi 114).toInt, (vi 115).toInt, (vi 116).toInt, (vi 117).toInt, (vi 118).toInt, (vi 119).toInt, (vi 120).toInt, (vi 121).toInt, (vi 122).toInt, (vi 123).toInt, (vi 124).toInt, (vi 125).toInt, (vi 126).toInt, (vi 127).toInt, (vi 128).toInt, (vi 129).toInt, (vi 130).toInt, (vi 131).toInt, (vi 132).toInt, (vi 133).toInt, (vi 134).toInt, (vi 135).toInt, (vi 136).toInt]) (fl_nF [(fl_A (vf 23)), (fl_A (vf 24)), (fl_A (vf 25)), (fl_A (vf 26)), (fl_A (vf 27)), (fl_A (vf 28)), (fl_A (vf 29)), (fl_A (vf 30)), (fl_A (vf 31)), (fl_A (vf 32)), (fl_A (vf 33)), (fl_A (vf 34)), (fl_A (vf 35)), (fl_A (vf 36)), (fl_A (vf 37)), (fl_A (vf 38)), (fl_A (vf 39)), (fl_A (vf 40)), (fl_A (vf 41)), (fl_A (vf 42)), (fl_A (vf 43)), (fl_A (vf 44)), (fl_A (vf 45)), (fl_A (vf 46)), (fl_A (vf 47)), (fl_A (vf 48)), (fl_A (vf 49)), (fl_A (vf 50)), (fl_A (vf 51)), (fl_A (vf 52)), (fl_A (vf 53)), (fl_A (vf 54))]) (fl_A (vf 2))).1 = b := by
  obtain ⟨hT, hF, hH, hV⟩ := hR
  rcases hM with hM0 | ⟨hM1, hrs, hkm⟩
  · rcases hH with hH | ⟨z9, -⟩
    rotate_left
    · rw [hM0] at z9; exact absurd z9 (by decide)
    obtain ⟨-, h33, -⟩ := hH
    obtain ⟨⟨v54, v56⟩, hV⟩ := hV
    rcases hV with ⟨-, v12, v24, v25, u12, u13⟩ | ⟨z9, -⟩
    rotate_left
    · rw [hM0] at z9; exact absurd z9 (by decide)
    have e33 : (vi 33).toInt = 0 := by rw [h33]; decide
    have e11 : (vm 11).toInt = 0 := by rw [hM0]; decide
    have ex : (Ff_X7_put a.toInt (vi 33).toInt (vi 12).toInt (vi 13).toInt (vi 14).toInt (vi 15).toInt (vi 16).toInt (fl_A (vf 1)) (vi 24).toInt (vi 26).toInt (fl_nI [(vi 57).toInt, (vi 58).toInt, (vi 59).toInt, (vi 60).toInt, (vi 61).toInt, (vi 62).toInt, (vi 63).toInt, (vi 64).toInt, (vi 65).toInt, (vi 66).toInt, (vi 67).toInt, (vi 68).toInt, (vi 69).toInt, (vi 70).toInt, (vi 71).toInt, (vi 72).toInt, (vi 73).toInt, (vi 74).toInt, (vi 75).toInt, (vi 76).toInt, (vi 77).toInt, (vi 78).toInt, (vi 79).toInt, (vi 80).toInt, (vi 81).toInt, (vi 82).toInt, (vi 83).toInt, (vi 84).toInt, (vi 85).toInt, (vi 86).toInt, (vi 87).toInt, (vi 88).toInt, (vi 89).toInt, (vi 90).toInt, (vi 91).toInt, (vi 92).toInt, (vi 93).toInt, (vi 94).toInt, (vi 95).toInt, (vi 96).toInt, (vi 97).toInt, (vi 98).toInt, (vi 99).toInt, (vi 100).toInt, (vi 101).toInt, (vi 102).toInt, (vi 103).toInt, (vi 104).toInt, (vi 105).toInt, (vi 106).toInt, (vi 107).toInt, (vi 108).toInt, (vi 109).toInt, (vi 110).toInt, (vi 111).toInt, (vi 112).toInt, (vi 113).toInt, (vi 114).toInt, (vi 115).toInt, (vi 116).toInt, (vi 117).toInt, (vi 118).toInt, (vi 119).toInt, (vi 120).toInt, (vi 121).toInt, (vi 122).toInt, (vi 123).toInt, (vi 124).toInt, (vi 125).toInt, (vi 126).toInt, (vi 127).toInt, (vi 128).toInt, (vi 129).toInt, (vi 130).toInt, (vi 131).toInt, (vi 132).toInt, (vi 133).toInt, (vi 134).toInt, (vi 135).toInt, (vi 136).toInt]) (fl_nF [(fl_A (vf 23)), (fl_A (vf 24)), (fl_A (vf 25)), (fl_A (vf 26)), (fl_A (vf 27)), (fl_A (vf 28)), (fl_A (vf 29)), (fl_A (vf 30)), (fl_A (vf 31)), (fl_A (vf 32)), (fl_A (vf 33)), (fl_A (vf 34)), (fl_A (vf 35)), (fl_A (vf 36)), (fl_A (vf 37)), (fl_A (vf 38)), (fl_A (vf 39)), (fl_A (vf 40)), (fl_A (vf 41)), (fl_A (vf 42)), (fl_A (vf 43)), (fl_A (vf 44)), (fl_A (vf 45)), (fl_A (vf 46)), (fl_A (vf 47)), (fl_A (vf 48)), (fl_A (vf 49)), (fl_A (vf 50)), (fl_A (vf 51)), (fl_A (vf 52)), (fl_A (vf 53)), (fl_A (vf 54))]) (fl_A (vf 2))).1 = -1 := by
      unfold Ff_X7_put
      rw [e33, rs_isf, if_neg (by omega)]
      rfl
    rcases hb with ⟨-, hb⟩ | ⟨z9, -⟩
    rotate_left
    · rw [hM0] at z9; exact absurd z9 (by decide)
    rw [ex, hb, e11]
    rfl
  · obtain ⟨hG, hD, -⟩ := lr_G hH hM1 hrs hkm
    have hf9 : 2 ≤ (vi 33).toInt ∧ (vi 33).toInt ≤ 9 := ⟨hG.1.2.1, hG.1.2.2⟩
    have f9 := hf9.2
    have hV4 := hV.2
    rcases hV4 with ⟨z9, -⟩ | ⟨-, hS, hm, hU, hN, hHi, hIm⟩
    · rw [hM1] at z9; exact absurd z9 (by decide)
    have e11 : (vm 11).toInt = 1 := by rw [hM1]; decide
    have hHi := rs_H_cg (gI1 := fl_nI [(vi 57).toInt, (vi 58).toInt, (vi 59).toInt, (vi 60).toInt, (vi 61).toInt, (vi 62).toInt, (vi 63).toInt, (vi 64).toInt, (vi 65).toInt, (vi 66).toInt, (vi 67).toInt, (vi 68).toInt, (vi 69).toInt, (vi 70).toInt, (vi 71).toInt, (vi 72).toInt, (vi 73).toInt, (vi 74).toInt, (vi 75).toInt, (vi 76).toInt, (vi 77).toInt, (vi 78).toInt, (vi 79).toInt, (vi 80).toInt, (vi 81).toInt, (vi 82).toInt, (vi 83).toInt, (vi 84).toInt, (vi 85).toInt, (vi 86).toInt, (vi 87).toInt, (vi 88).toInt, (vi 89).toInt, (vi 90).toInt, (vi 91).toInt, (vi 92).toInt, (vi 93).toInt, (vi 94).toInt, (vi 95).toInt, (vi 96).toInt, (vi 97).toInt, (vi 98).toInt, (vi 99).toInt, (vi 100).toInt, (vi 101).toInt, (vi 102).toInt, (vi 103).toInt, (vi 104).toInt, (vi 105).toInt, (vi 106).toInt, (vi 107).toInt, (vi 108).toInt, (vi 109).toInt, (vi 110).toInt, (vi 111).toInt, (vi 112).toInt, (vi 113).toInt, (vi 114).toInt, (vi 115).toInt, (vi 116).toInt, (vi 117).toInt, (vi 118).toInt, (vi 119).toInt, (vi 120).toInt, (vi 121).toInt, (vi 122).toInt, (vi 123).toInt, (vi 124).toInt, (vi 125).toInt, (vi 126).toInt, (vi 127).toInt, (vi 128).toInt, (vi 129).toInt, (vi 130).toInt, (vi 131).toInt, (vi 132).toInt, (vi 133).toInt, (vi 134).toInt, (vi 135).toInt, (vi 136).toInt]) (gF1 := fl_nF [(fl_A (vf 23)), (fl_A (vf 24)), (fl_A (vf 25)), (fl_A (vf 26)), (fl_A (vf 27)), (fl_A (vf 28)), (fl_A (vf 29)), (fl_A (vf 30)), (fl_A (vf 31)), (fl_A (vf 32)), (fl_A (vf 33)), (fl_A (vf 34)), (fl_A (vf 35)), (fl_A (vf 36)), (fl_A (vf 37)), (fl_A (vf 38)), (fl_A (vf 39)), (fl_A (vf 40)), (fl_A (vf 41)), (fl_A (vf 42)), (fl_A (vf 43)), (fl_A (vf 44)), (fl_A (vf 45)), (fl_A (vf 46)), (fl_A (vf 47)), (fl_A (vf 48)), (fl_A (vf 49)), (fl_A (vf 50)), (fl_A (vf 51)), (fl_A (vf 52)), (fl_A (vf 53)), (fl_A (vf 54))]) (fun k h9 => lr_g3e vi h9) (fun k h9 => lr_f3e vf h9) hHi
    have hIm := rs_I_cg (gI1 := fl_nI [(vi 137).toInt, (vi 138).toInt, (vi 139).toInt, (vi 140).toInt, (vi 141).toInt, (vi 142).toInt, (vi 143).toInt, (vi 144).toInt, (vi 145).toInt, (vi 146).toInt, (vi 147).toInt, (vi 148).toInt, (vi 149).toInt, (vi 150).toInt, (vi 151).toInt]) (gF1 := fl_nF [(fl_A (vf 55)), (fl_A (vf 56)), (fl_A (vf 57)), (fl_A (vf 58)), (fl_A (vf 59)), (fl_A (vf 60))]) (fun k h9 => lr_g4e vi h9) (fun k h9 => lr_f4e vf h9) hIm
    obtain ⟨R, tr, U1, L1, gI1, pl1, gF1, st1, und1, e1, e2, e3, e5⟩ := rs_put hG hS hm hHi a.toInt
    rcases hb with ⟨z9, -⟩ | ⟨-, hb⟩
    · rw [hM1] at z9; exact absurd z9 (by decide)
    rw [e11, ← hU] at hb
    rw [hb, e1, e2]

theorem lr_c_wind {tp : Int32} {vi vm : Nat → Int32} {vf vn : Nat → Nat → Int32} (hR : lr_R tp vi vf vm vn) (hM : vm 11 = 0 ∨ (vm 11 = 1 ∧ ((∀ k : Nat, 0 ≤ k → k ≤ 0 → (2 : Int) ≤ ((vn 2) k).toInt ∧ ((vn 2) k).toInt ≤ 9) ∧ (∀ k : Nat, 1 ≤ k → k ≤ 1 → (1 : Int) ≤ ((vn 2) k).toInt ∧ ((vn 2) k).toInt ≤ 20) ∧ (∀ k : Nat, 2 ≤ k → k ≤ 2 → (0 : Int) ≤ ((vn 2) k).toInt ∧ ((vn 2) k).toInt ≤ 8) ∧ (∀ k : Nat, 3 ≤ k → k ≤ 3 → (0 : Int) ≤ ((vn 2) k).toInt ∧ ((vn 2) k).toInt ≤ 100) ∧ (∀ k : Nat, 4 ≤ k → k ≤ 4 → (0 : Int) ≤ ((vn 2) k).toInt ∧ ((vn 2) k).toInt ≤ 9) ∧ (∀ k : Nat, 5 ≤ k → k ≤ 5 → (0 : Int) ≤ ((vn 2) k).toInt ∧ ((vn 2) k).toInt ≤ 3) ∧ (∀ k : Nat, 6 ≤ k → k ≤ 6 → (0 : Int) ≤ ((vn 2) k).toInt ∧ ((vn 2) k).toInt ≤ 6) ∧ (∀ k : Nat, 7 ≤ k → k ≤ 9 → (0 : Int) ≤ ((vn 2) k).toInt ∧ ((vn 2) k).toInt ≤ 8) ∧ (∀ k : Nat, 12 ≤ k → k ≤ 29 → (0 : Int) ≤ ((vn 2) k).toInt ∧ ((vn 2) k).toInt ≤ 20) ∧ (∀ k : Nat, 30 ≤ k → k ≤ 35 → (0 : Int) ≤ ((vn 2) k).toInt ∧ ((vn 2) k).toInt ≤ 8) ∧ (∀ k : Nat, 36 ≤ k → k ≤ 47 → (0 : Int) ≤ ((vn 2) k).toInt ∧ ((vn 2) k).toInt ≤ 999)) ∧ ((∀ (j i0 i : Int32), (0 : Int) ≤ j.toInt → j.toInt ≤ 8 → i0.toInt = 12 + 2 * j.toInt → i.toInt = 13 + 2 * j.toInt → ((vn 2) i0.toNatClampNeg).toInt = (1 : Int32).toInt → (1 : Int) ≤ ((vn 2) i.toNatClampNeg).toInt)))) (a : Int32) {b : Int} (hb : (vm 11 = 0 ∧ b = (Ff0_X8_wind (vm 11).toInt).1) ∨ (vm 11 = 1 ∧ b = (Ff_X8_wind a.toInt (vm 11).toInt (vm 12).toInt (fl_A (vn 2)) (fl_A (vn 4)) (fl_A (vn 6))).1)) : (Ff_X7_wind a.toInt (vi 33).toInt (vi 12).toInt (vi 13).toInt (vi 14).toInt (vi 15).toInt (vi 16).toInt (vi 24).toInt (vi 26).toInt (fl_nI [(vi 57).toInt, (vi 58).toInt, (vi 59).toInt, (vi 60).toInt, (vi 61).toInt, (vi 62).toInt, (vi 63).toInt, (vi 64).toInt, (vi 65).toInt, (vi 66).toInt, (vi 67).toInt, (vi 68).toInt, (vi 69).toInt, (vi 70).toInt, (vi 71).toInt, (vi 72).toInt, (vi 73).toInt, (vi 74).toInt, (vi 75).toInt, (vi 76).toInt, (vi 77).toInt, (vi 78).toInt, (vi 79).toInt, (vi 80).toInt, (vi 81).toInt, (vi 82).toInt, (vi 83).toInt, (vi 84).toInt, (vi 85).toInt, (vi 86).toInt, (vi 87).toInt, (vi 88).toInt, (vi 89).toInt, (vi 90).toInt, (vi 91).toInt, (vi 92).toInt, (vi 93).toInt, (vi 94).toInt, (vi 95).toInt, (vi 96).toInt, (vi 97).toInt, (vi 98).toInt, (vi 99).toInt, (vi 100).toInt, (vi 101).toInt, (vi 102).toInt, (vi 103).toInt, (vi 104).toInt, (vi 105).toInt, (vi 106).toInt, (vi 107).toInt, (vi 108).toInt, (vi 109).toInt, (vi 110).toInt, (vi 111).toInt, (vi 112).toInt, (vi 113).toInt, (vi 114).toInt, (vi 115).toInt, (vi 116).toInt, (vi 117).toInt, (vi 118).toInt, (vi 119).toInt, (vi 120).toInt, (vi 121).toInt, (vi 122).toInt, (vi 123).toInt, (vi 124).toInt, (vi 125).toInt, (vi 126).toInt, (vi 127).toInt, (vi 128).toInt, (vi 129).toInt, (vi 130).toInt, (vi 131).toInt, (vi 132).toInt, (vi 133).toInt, (vi 134).toInt, (vi 135).toInt, (vi 136).toInt]) (fl_A (vf 1)) (fl_nF [(fl_A (vf 23)), (fl_A (vf 24)), (fl_A (vf 25)), (fl_A (vf 26)), (fl_A (vf 27)), (fl_A (vf 28)), (fl_A (vf 29)), (fl_A (vf 30)), (fl_A (vf 31)), (fl_A (vf 32)), (fl_A (vf 33)), (fl_A (vf 34)), (fl_A (vf 35)), (fl_A (vf 36)), (fl_A (vf 37)), (fl_A (vf 38)), (fl_A (vf 39)), (fl_A (vf 40)), (fl_A (vf 41)), (fl_A (vf 42)), (fl_A (vf 43)), (fl_A (vf 44)), (fl_A (vf 45)), (fl_A (vf 46)), (fl_A (vf 47)), (fl_A (vf 48)), (fl_A (vf 49)), (fl_A (vf 50)), (fl_A (vf 51)), (fl_A (vf 52)), (fl_A (vf 53)), (fl_A (vf 54))]) (fl_A (vf 2))).1 = b := by
  obtain ⟨hT, hF, hH, hV⟩ := hR
  rcases hM with hM0 | ⟨hM1, hrs, hkm⟩
  · rcases hH with hH | ⟨z9, -⟩
    rotate_left
    · rw [hM0] at z9; exact absurd z9 (by decide)
    obtain ⟨-, h33, -⟩ := hH
    obtain ⟨⟨v54, v56⟩, hV⟩ := hV
    rcases hV with ⟨-, v12, v24, v25, u12, u13⟩ | ⟨z9, -⟩
    rotate_left
    · rw [hM0] at z9; exact absurd z9 (by decide)
    have e33 : (vi 33).toInt = 0 := by rw [h33]; decide
    have e11 : (vm 11).toInt = 0 := by rw [hM0]; decide
    have ex : (Ff_X7_wind a.toInt (vi 33).toInt (vi 12).toInt (vi 13).toInt (vi 14).toInt (vi 15).toInt (vi 16).toInt (vi 24).toInt (vi 26).toInt (fl_nI [(vi 57).toInt, (vi 58).toInt, (vi 59).toInt, (vi 60).toInt, (vi 61).toInt, (vi 62).toInt, (vi 63).toInt, (vi 64).toInt, (vi 65).toInt, (vi 66).toInt, (vi 67).toInt, (vi 68).toInt, (vi 69).toInt, (vi 70).toInt, (vi 71).toInt, (vi 72).toInt, (vi 73).toInt, (vi 74).toInt, (vi 75).toInt, (vi 76).toInt, (vi 77).toInt, (vi 78).toInt, (vi 79).toInt, (vi 80).toInt, (vi 81).toInt, (vi 82).toInt, (vi 83).toInt, (vi 84).toInt, (vi 85).toInt, (vi 86).toInt, (vi 87).toInt, (vi 88).toInt, (vi 89).toInt, (vi 90).toInt, (vi 91).toInt, (vi 92).toInt, (vi 93).toInt, (vi 94).toInt, (vi 95).toInt, (vi 96).toInt, (vi 97).toInt, (vi 98).toInt, (vi 99).toInt, (vi 100).toInt, (vi 101).toInt, (vi 102).toInt, (vi 103).toInt, (vi 104).toInt, (vi 105).toInt, (vi 106).toInt, (vi 107).toInt, (vi 108).toInt, (vi 109).toInt, (vi 110).toInt, (vi 111).toInt, (vi 112).toInt, (vi 113).toInt, (vi 114).toInt, (vi 115).toInt, (vi 116).toInt, (vi 117).toInt, (vi 118).toInt, (vi 119).toInt, (vi 120).toInt, (vi 121).toInt, (vi 122).toInt, (vi 123).toInt, (vi 124).toInt, (vi 125).toInt, (vi 126).toInt, (vi 127).toInt, (vi 128).toInt, (vi 129).toInt, (vi 130).toInt, (vi 131).toInt, (vi 132).toInt, (vi 133).toInt, (vi 134).toInt, (vi 135).toInt, (vi 136).toInt]) (fl_A (vf 1)) (fl_nF [(fl_A (vf 23)), (fl_A (vf 24)), (fl_A (vf 25)), (fl_A (vf 26)), (fl_A (vf 27)), (fl_A (vf 28)), (fl_A (vf 29)), (fl_A (vf 30)), (fl_A (vf 31)), (fl_A (vf 32)), (fl_A (vf 33)), (fl_A (vf 34)), (fl_A (vf 35)), (fl_A (vf 36)), (fl_A (vf 37)), (fl_A (vf 38)), (fl_A (vf 39)), (fl_A (vf 40)), (fl_A (vf 41)), (fl_A (vf 42)), (fl_A (vf 43)), (fl_A (vf 44)), (fl_A (vf 45)), (fl_A (vf 46)), (fl_A (vf 47)), (fl_A (vf 48)), (fl_A (vf 49)), (fl_A (vf 50)), (fl_A (vf 51)), (fl_A (vf 52)), (fl_A (vf 53)), (fl_A (vf 54))]) (fl_A (vf 2))).1 = -1 := by
      unfold Ff_X7_wind
      rw [e33, rs_isf, if_neg (by omega)]
      rfl
    rcases hb with ⟨-, hb⟩ | ⟨z9, -⟩
    rotate_left
    · rw [hM0] at z9; exact absurd z9 (by decide)
    rw [ex, hb, e11]
    rfl
  · obtain ⟨hG, hD, -⟩ := lr_G hH hM1 hrs hkm
    have hf9 : 2 ≤ (vi 33).toInt ∧ (vi 33).toInt ≤ 9 := ⟨hG.1.2.1, hG.1.2.2⟩
    have f9 := hf9.2
    have hV4 := hV.2
    rcases hV4 with ⟨z9, -⟩ | ⟨-, hS, hm, hU, hN, hHi, hIm⟩
    · rw [hM1] at z9; exact absurd z9 (by decide)
    have e11 : (vm 11).toInt = 1 := by rw [hM1]; decide
    have hHi := rs_H_cg (gI1 := fl_nI [(vi 57).toInt, (vi 58).toInt, (vi 59).toInt, (vi 60).toInt, (vi 61).toInt, (vi 62).toInt, (vi 63).toInt, (vi 64).toInt, (vi 65).toInt, (vi 66).toInt, (vi 67).toInt, (vi 68).toInt, (vi 69).toInt, (vi 70).toInt, (vi 71).toInt, (vi 72).toInt, (vi 73).toInt, (vi 74).toInt, (vi 75).toInt, (vi 76).toInt, (vi 77).toInt, (vi 78).toInt, (vi 79).toInt, (vi 80).toInt, (vi 81).toInt, (vi 82).toInt, (vi 83).toInt, (vi 84).toInt, (vi 85).toInt, (vi 86).toInt, (vi 87).toInt, (vi 88).toInt, (vi 89).toInt, (vi 90).toInt, (vi 91).toInt, (vi 92).toInt, (vi 93).toInt, (vi 94).toInt, (vi 95).toInt, (vi 96).toInt, (vi 97).toInt, (vi 98).toInt, (vi 99).toInt, (vi 100).toInt, (vi 101).toInt, (vi 102).toInt, (vi 103).toInt, (vi 104).toInt, (vi 105).toInt, (vi 106).toInt, (vi 107).toInt, (vi 108).toInt, (vi 109).toInt, (vi 110).toInt, (vi 111).toInt, (vi 112).toInt, (vi 113).toInt, (vi 114).toInt, (vi 115).toInt, (vi 116).toInt, (vi 117).toInt, (vi 118).toInt, (vi 119).toInt, (vi 120).toInt, (vi 121).toInt, (vi 122).toInt, (vi 123).toInt, (vi 124).toInt, (vi 125).toInt, (vi 126).toInt, (vi 127).toInt, (vi 128).toInt, (vi 129).toInt, (vi 130).toInt, (vi 131).toInt, (vi 132).toInt, (vi 133).toInt, (vi 134).toInt, (vi 135).toInt, (vi 136).toInt]) (gF1 := fl_nF [(fl_A (vf 23)), (fl_A (vf 24)), (fl_A (vf 25)), (fl_A (vf 26)), (fl_A (vf 27)), (fl_A (vf 28)), (fl_A (vf 29)), (fl_A (vf 30)), (fl_A (vf 31)), (fl_A (vf 32)), (fl_A (vf 33)), (fl_A (vf 34)), (fl_A (vf 35)), (fl_A (vf 36)), (fl_A (vf 37)), (fl_A (vf 38)), (fl_A (vf 39)), (fl_A (vf 40)), (fl_A (vf 41)), (fl_A (vf 42)), (fl_A (vf 43)), (fl_A (vf 44)), (fl_A (vf 45)), (fl_A (vf 46)), (fl_A (vf 47)), (fl_A (vf 48)), (fl_A (vf 49)), (fl_A (vf 50)), (fl_A (vf 51)), (fl_A (vf 52)), (fl_A (vf 53)), (fl_A (vf 54))]) (fun k h9 => lr_g3e vi h9) (fun k h9 => lr_f3e vf h9) hHi
    have hIm := rs_I_cg (gI1 := fl_nI [(vi 137).toInt, (vi 138).toInt, (vi 139).toInt, (vi 140).toInt, (vi 141).toInt, (vi 142).toInt, (vi 143).toInt, (vi 144).toInt, (vi 145).toInt, (vi 146).toInt, (vi 147).toInt, (vi 148).toInt, (vi 149).toInt, (vi 150).toInt, (vi 151).toInt]) (gF1 := fl_nF [(fl_A (vf 55)), (fl_A (vf 56)), (fl_A (vf 57)), (fl_A (vf 58)), (fl_A (vf 59)), (fl_A (vf 60))]) (fun k h9 => lr_g4e vi h9) (fun k h9 => lr_f4e vf h9) hIm
    obtain ⟨R, tr, tu1, sn1, U1, L1, gI1, gF1, st1, und1, e1, e2, e3, e5⟩ := rs_wind hG hS hm hHi a.toInt
    rcases hb with ⟨z9, -⟩ | ⟨-, hb⟩
    · rw [hM1] at z9; exact absurd z9 (by decide)
    rw [e11, ← hU] at hb
    rw [hb, e1, e2]

theorem lr_c_go {tp : Int32} {vi vm : Nat → Int32} {vf vn : Nat → Nat → Int32} (hR : lr_R tp vi vf vm vn) (hM : vm 11 = 0 ∨ (vm 11 = 1 ∧ ((∀ k : Nat, 0 ≤ k → k ≤ 0 → (2 : Int) ≤ ((vn 2) k).toInt ∧ ((vn 2) k).toInt ≤ 9) ∧ (∀ k : Nat, 1 ≤ k → k ≤ 1 → (1 : Int) ≤ ((vn 2) k).toInt ∧ ((vn 2) k).toInt ≤ 20) ∧ (∀ k : Nat, 2 ≤ k → k ≤ 2 → (0 : Int) ≤ ((vn 2) k).toInt ∧ ((vn 2) k).toInt ≤ 8) ∧ (∀ k : Nat, 3 ≤ k → k ≤ 3 → (0 : Int) ≤ ((vn 2) k).toInt ∧ ((vn 2) k).toInt ≤ 100) ∧ (∀ k : Nat, 4 ≤ k → k ≤ 4 → (0 : Int) ≤ ((vn 2) k).toInt ∧ ((vn 2) k).toInt ≤ 9) ∧ (∀ k : Nat, 5 ≤ k → k ≤ 5 → (0 : Int) ≤ ((vn 2) k).toInt ∧ ((vn 2) k).toInt ≤ 3) ∧ (∀ k : Nat, 6 ≤ k → k ≤ 6 → (0 : Int) ≤ ((vn 2) k).toInt ∧ ((vn 2) k).toInt ≤ 6) ∧ (∀ k : Nat, 7 ≤ k → k ≤ 9 → (0 : Int) ≤ ((vn 2) k).toInt ∧ ((vn 2) k).toInt ≤ 8) ∧ (∀ k : Nat, 12 ≤ k → k ≤ 29 → (0 : Int) ≤ ((vn 2) k).toInt ∧ ((vn 2) k).toInt ≤ 20) ∧ (∀ k : Nat, 30 ≤ k → k ≤ 35 → (0 : Int) ≤ ((vn 2) k).toInt ∧ ((vn 2) k).toInt ≤ 8) ∧ (∀ k : Nat, 36 ≤ k → k ≤ 47 → (0 : Int) ≤ ((vn 2) k).toInt ∧ ((vn 2) k).toInt ≤ 999)) ∧ ((∀ (j i0 i : Int32), (0 : Int) ≤ j.toInt → j.toInt ≤ 8 → i0.toInt = 12 + 2 * j.toInt → i.toInt = 13 + 2 * j.toInt → ((vn 2) i0.toNatClampNeg).toInt = (1 : Int32).toInt → (1 : Int) ≤ ((vn 2) i.toNatClampNeg).toInt)))) (a : Int32) {b : Int} (hb : (vm 11 = 0 ∧ b = (Ff0_X8_go a.toInt (vm 11).toInt).1) ∨ (vm 11 = 1 ∧ b = (Ff_X8_go a.toInt (vm 11).toInt (vm 12).toInt (vm 14).toInt (vm 15).toInt (vm 16).toInt (vm 17).toInt (fl_A (vn 4)) (fl_A (vn 6)) (fl_A (vn 2)) (fl_A (vn 8)) (fl_A (vn 9))).1)) : (Ff_X7_go a.toInt (vi 33).toInt (vi 34).toInt (vi 35).toInt (vi 38).toInt (vi 39).toInt (vi 12).toInt (vi 13).toInt (vi 14).toInt (vi 15).toInt (vi 16).toInt (vi 24).toInt (vi 26).toInt (fl_nI [(vi 57).toInt, (vi 58).toInt, (vi 59).toInt, (vi 60).toInt, (vi 61).toInt, (vi 62).toInt, (vi 63).toInt, (vi 64).toInt, (vi 65).toInt, (vi 66).toInt, (vi 67).toInt, (vi 68).toInt, (vi 69).toInt, (vi 70).toInt, (vi 71).toInt, (vi 72).toInt, (vi 73).toInt, (vi 74).toInt, (vi 75).toInt, (vi 76).toInt, (vi 77).toInt, (vi 78).toInt, (vi 79).toInt, (vi 80).toInt, (vi 81).toInt, (vi 82).toInt, (vi 83).toInt, (vi 84).toInt, (vi 85).toInt, (vi 86).toInt, (vi 87).toInt, (vi 88).toInt, (vi 89).toInt, (vi 90).toInt, (vi 91).toInt, (vi 92).toInt, (vi 93).toInt, (vi 94).toInt, (vi 95).toInt, (vi 96).toInt, (vi 97).toInt, (vi 98).toInt, (vi 99).toInt, (vi 100).toInt, (vi 101).toInt, (vi 102).toInt, (vi 103).toInt, (vi 104).toInt, (vi 105).toInt, (vi 106).toInt, (vi 107).toInt, (vi 108).toInt, (vi 109).toInt, (vi 110).toInt, (vi 111).toInt, (vi 112).toInt, (vi 113).toInt, (vi 114).toInt, (vi 115).toInt, (vi 116).toInt, (vi 117).toInt, (vi 118).toInt, (vi 119).toInt, (vi 120).toInt, (vi 121).toInt, (vi 122).toInt, (vi 123).toInt, (vi 124).toInt, (vi 125).toInt, (vi 126).toInt, (vi 127).toInt, (vi 128).toInt, (vi 129).toInt, (vi 130).toInt, (vi 131).toInt, (vi 132).toInt, (vi 133).toInt, (vi 134).toInt, (vi 135).toInt, (vi 136).toInt]) (fl_A (vf 1)) (fl_nF [(fl_A (vf 23)), (fl_A (vf 24)), (fl_A (vf 25)), (fl_A (vf 26)), (fl_A (vf 27)), (fl_A (vf 28)), (fl_A (vf 29)), (fl_A (vf 30)), (fl_A (vf 31)), (fl_A (vf 32)), (fl_A (vf 33)), (fl_A (vf 34)), (fl_A (vf 35)), (fl_A (vf 36)), (fl_A (vf 37)), (fl_A (vf 38)), (fl_A (vf 39)), (fl_A (vf 40)), (fl_A (vf 41)), (fl_A (vf 42)), (fl_A (vf 43)), (fl_A (vf 44)), (fl_A (vf 45)), (fl_A (vf 46)), (fl_A (vf 47)), (fl_A (vf 48)), (fl_A (vf 49)), (fl_A (vf 50)), (fl_A (vf 51)), (fl_A (vf 52)), (fl_A (vf 53)), (fl_A (vf 54))]) (fl_A (vf 2)) (fl_A (vf 11)) (fl_A (vf 12)) (vi 53).toInt (vi 54).toInt (fl_A (vf 20)) (fl_A (vf 19))).1 = b := by
  obtain ⟨hT, hF, hH, hV⟩ := hR
  rcases hM with hM0 | ⟨hM1, hrs, hkm⟩
  · rcases hH with hH | ⟨z9, -⟩
    rotate_left
    · rw [hM0] at z9; exact absurd z9 (by decide)
    obtain ⟨-, h33, -⟩ := hH
    obtain ⟨⟨v54, v56⟩, hV⟩ := hV
    rcases hV with ⟨-, v12, v24, v25, u12, u13⟩ | ⟨z9, -⟩
    rotate_left
    · rw [hM0] at z9; exact absurd z9 (by decide)
    have e33 : (vi 33).toInt = 0 := by rw [h33]; decide
    have e11 : (vm 11).toInt = 0 := by rw [hM0]; decide
    have ex : (Ff_X7_go a.toInt (vi 33).toInt (vi 34).toInt (vi 35).toInt (vi 38).toInt (vi 39).toInt (vi 12).toInt (vi 13).toInt (vi 14).toInt (vi 15).toInt (vi 16).toInt (vi 24).toInt (vi 26).toInt (fl_nI [(vi 57).toInt, (vi 58).toInt, (vi 59).toInt, (vi 60).toInt, (vi 61).toInt, (vi 62).toInt, (vi 63).toInt, (vi 64).toInt, (vi 65).toInt, (vi 66).toInt, (vi 67).toInt, (vi 68).toInt, (vi 69).toInt, (vi 70).toInt, (vi 71).toInt, (vi 72).toInt, (vi 73).toInt, (vi 74).toInt, (vi 75).toInt, (vi 76).toInt, (vi 77).toInt, (vi 78).toInt, (vi 79).toInt, (vi 80).toInt, (vi 81).toInt, (vi 82).toInt, (vi 83).toInt, (vi 84).toInt, (vi 85).toInt, (vi 86).toInt, (vi 87).toInt, (vi 88).toInt, (vi 89).toInt, (vi 90).toInt, (vi 91).toInt, (vi 92).toInt, (vi 93).toInt, (vi 94).toInt, (vi 95).toInt, (vi 96).toInt, (vi 97).toInt, (vi 98).toInt, (vi 99).toInt, (vi 100).toInt, (vi 101).toInt, (vi 102).toInt, (vi 103).toInt, (vi 104).toInt, (vi 105).toInt, (vi 106).toInt, (vi 107).toInt, (vi 108).toInt, (vi 109).toInt, (vi 110).toInt, (vi 111).toInt, (vi 112).toInt, (vi 113).toInt, (vi 114).toInt, (vi 115).toInt, (vi 116).toInt, (vi 117).toInt, (vi 118).toInt, (vi 119).toInt, (vi 120).toInt, (vi 121).toInt, (vi 122).toInt, (vi 123).toInt, (vi 124).toInt, (vi 125).toInt, (vi 126).toInt, (vi 127).toInt, (vi 128).toInt, (vi 129).toInt, (vi 130).toInt, (vi 131).toInt, (vi 132).toInt, (vi 133).toInt, (vi 134).toInt, (vi 135).toInt, (vi 136).toInt]) (fl_A (vf 1)) (fl_nF [(fl_A (vf 23)), (fl_A (vf 24)), (fl_A (vf 25)), (fl_A (vf 26)), (fl_A (vf 27)), (fl_A (vf 28)), (fl_A (vf 29)), (fl_A (vf 30)), (fl_A (vf 31)), (fl_A (vf 32)), (fl_A (vf 33)), (fl_A (vf 34)), (fl_A (vf 35)), (fl_A (vf 36)), (fl_A (vf 37)), (fl_A (vf 38)), (fl_A (vf 39)), (fl_A (vf 40)), (fl_A (vf 41)), (fl_A (vf 42)), (fl_A (vf 43)), (fl_A (vf 44)), (fl_A (vf 45)), (fl_A (vf 46)), (fl_A (vf 47)), (fl_A (vf 48)), (fl_A (vf 49)), (fl_A (vf 50)), (fl_A (vf 51)), (fl_A (vf 52)), (fl_A (vf 53)), (fl_A (vf 54))]) (fl_A (vf 2)) (fl_A (vf 11)) (fl_A (vf 12)) (vi 53).toInt (vi 54).toInt (fl_A (vf 20)) (fl_A (vf 19))).1 = -1 := by
      unfold Ff_X7_go
      rw [e33, rs_tn, if_pos (by decide)]
      rfl
    rcases hb with ⟨-, hb⟩ | ⟨z9, -⟩
    rotate_left
    · rw [hM0] at z9; exact absurd z9 (by decide)
    rw [ex, hb, e11]
    unfold Ff0_X8_go Ff_X8_good
    rw [fl_c2_eq rfl]
    by_cases hin : 1 ≤ a.toInt ∧ a.toInt ≤ 60
    · rw [rp_in1 hin.1 hin.2]; rfl
    · rw [rp_in0 hin]; rfl
  · obtain ⟨hG, hD, -⟩ := lr_G hH hM1 hrs hkm
    have hf9 : 2 ≤ (vi 33).toInt ∧ (vi 33).toInt ≤ 9 := ⟨hG.1.2.1, hG.1.2.2⟩
    have f9 := hf9.2
    have hV4 := hV.2
    rcases hV4 with ⟨z9, -⟩ | ⟨-, hS, hm, hU, hN, hHi, hIm⟩
    · rw [hM1] at z9; exact absurd z9 (by decide)
    have e11 : (vm 11).toInt = 1 := by rw [hM1]; decide
    have hHi := rs_H_cg (gI1 := fl_nI [(vi 57).toInt, (vi 58).toInt, (vi 59).toInt, (vi 60).toInt, (vi 61).toInt, (vi 62).toInt, (vi 63).toInt, (vi 64).toInt, (vi 65).toInt, (vi 66).toInt, (vi 67).toInt, (vi 68).toInt, (vi 69).toInt, (vi 70).toInt, (vi 71).toInt, (vi 72).toInt, (vi 73).toInt, (vi 74).toInt, (vi 75).toInt, (vi 76).toInt, (vi 77).toInt, (vi 78).toInt, (vi 79).toInt, (vi 80).toInt, (vi 81).toInt, (vi 82).toInt, (vi 83).toInt, (vi 84).toInt, (vi 85).toInt, (vi 86).toInt, (vi 87).toInt, (vi 88).toInt, (vi 89).toInt, (vi 90).toInt, (vi 91).toInt, (vi 92).toInt, (vi 93).toInt, (vi 94).toInt, (vi 95).toInt, (vi 96).toInt, (vi 97).toInt, (vi 98).toInt, (vi 99).toInt, (vi 100).toInt, (vi 101).toInt, (vi 102).toInt, (vi 103).toInt, (vi 104).toInt, (vi 105).toInt, (vi 106).toInt, (vi 107).toInt, (vi 108).toInt, (vi 109).toInt, (vi 110).toInt, (vi 111).toInt, (vi 112).toInt, (vi 113).toInt, (vi 114).toInt, (vi 115).toInt, (vi 116).toInt, (vi 117).toInt, (vi 118).toInt, (vi 119).toInt, (vi 120).toInt, (vi 121).toInt, (vi 122).toInt, (vi 123).toInt, (vi 124).toInt, (vi 125).toInt, (vi 126).toInt, (vi 127).toInt, (vi 128).toInt, (vi 129).toInt, (vi 130).toInt, (vi 131).toInt, (vi 132).toInt, (vi 133).toInt, (vi 134).toInt, (vi 135).toInt, (vi 136).toInt]) (gF1 := fl_nF [(fl_A (vf 23)), (fl_A (vf 24)), (fl_A (vf 25)), (fl_A (vf 26)), (fl_A (vf 27)), (fl_A (vf 28)), (fl_A (vf 29)), (fl_A (vf 30)), (fl_A (vf 31)), (fl_A (vf 32)), (fl_A (vf 33)), (fl_A (vf 34)), (fl_A (vf 35)), (fl_A (vf 36)), (fl_A (vf 37)), (fl_A (vf 38)), (fl_A (vf 39)), (fl_A (vf 40)), (fl_A (vf 41)), (fl_A (vf 42)), (fl_A (vf 43)), (fl_A (vf 44)), (fl_A (vf 45)), (fl_A (vf 46)), (fl_A (vf 47)), (fl_A (vf 48)), (fl_A (vf 49)), (fl_A (vf 50)), (fl_A (vf 51)), (fl_A (vf 52)), (fl_A (vf 53)), (fl_A (vf 54))]) (fun k h9 => lr_g3e vi h9) (fun k h9 => lr_f3e vf h9) hHi
    have hIm := rs_I_cg (gI1 := fl_nI [(vi 137).toInt, (vi 138).toInt, (vi 139).toInt, (vi 140).toInt, (vi 141).toInt, (vi 142).toInt, (vi 143).toInt, (vi 144).toInt, (vi 145).toInt, (vi 146).toInt, (vi 147).toInt, (vi 148).toInt, (vi 149).toInt, (vi 150).toInt, (vi 151).toInt]) (gF1 := fl_nF [(fl_A (vf 55)), (fl_A (vf 56)), (fl_A (vf 57)), (fl_A (vf 58)), (fl_A (vf 59)), (fl_A (vf 60))]) (fun k h9 => lr_g4e vi h9) (fun k h9 => lr_f4e vf h9) hIm
    obtain ⟨R, tr, mi1, tu1, sn1, go1, ca1, U1, L1, z5, z6, z7, z8, gI1, pl1, gF1, he1, st1, und1, ff1, tt1, e1, e2, e3, e4, e5⟩ := rs_go hG (hD hV.1.1) hS hm hHi a.toInt (vm 14).toInt (vm 15).toInt (vm 16).toInt (vm 17).toInt (fl_A (vn 8)) (fl_A (vn 9))
    rcases hb with ⟨z9, -⟩ | ⟨-, hb⟩
    · rw [hM1] at z9; exact absurd z9 (by decide)
    rw [e11, ← hU] at hb
    rw [hb, e1, e2]

theorem lr_c_image {tp : Int32} {vi vm : Nat → Int32} {vf vn : Nat → Nat → Int32} (hR : lr_R tp vi vf vm vn) (hM : vm 11 = 0 ∨ (vm 11 = 1 ∧ ((∀ k : Nat, 0 ≤ k → k ≤ 0 → (2 : Int) ≤ ((vn 2) k).toInt ∧ ((vn 2) k).toInt ≤ 9) ∧ (∀ k : Nat, 1 ≤ k → k ≤ 1 → (1 : Int) ≤ ((vn 2) k).toInt ∧ ((vn 2) k).toInt ≤ 20) ∧ (∀ k : Nat, 2 ≤ k → k ≤ 2 → (0 : Int) ≤ ((vn 2) k).toInt ∧ ((vn 2) k).toInt ≤ 8) ∧ (∀ k : Nat, 3 ≤ k → k ≤ 3 → (0 : Int) ≤ ((vn 2) k).toInt ∧ ((vn 2) k).toInt ≤ 100) ∧ (∀ k : Nat, 4 ≤ k → k ≤ 4 → (0 : Int) ≤ ((vn 2) k).toInt ∧ ((vn 2) k).toInt ≤ 9) ∧ (∀ k : Nat, 5 ≤ k → k ≤ 5 → (0 : Int) ≤ ((vn 2) k).toInt ∧ ((vn 2) k).toInt ≤ 3) ∧ (∀ k : Nat, 6 ≤ k → k ≤ 6 → (0 : Int) ≤ ((vn 2) k).toInt ∧ ((vn 2) k).toInt ≤ 6) ∧ (∀ k : Nat, 7 ≤ k → k ≤ 9 → (0 : Int) ≤ ((vn 2) k).toInt ∧ ((vn 2) k).toInt ≤ 8) ∧ (∀ k : Nat, 12 ≤ k → k ≤ 29 → (0 : Int) ≤ ((vn 2) k).toInt ∧ ((vn 2) k).toInt ≤ 20) ∧ (∀ k : Nat, 30 ≤ k → k ≤ 35 → (0 : Int) ≤ ((vn 2) k).toInt ∧ ((vn 2) k).toInt ≤ 8) ∧ (∀ k : Nat, 36 ≤ k → k ≤ 47 → (0 : Int) ≤ ((vn 2) k).toInt ∧ ((vn 2) k).toInt ≤ 999)) ∧ ((∀ (j i0 i : Int32), (0 : Int) ≤ j.toInt → j.toInt ≤ 8 → i0.toInt = 12 + 2 * j.toInt → i.toInt = 13 + 2 * j.toInt → ((vn 2) i0.toNatClampNeg).toInt = (1 : Int32).toInt → (1 : Int) ≤ ((vn 2) i.toNatClampNeg).toInt)))) {b : Int} (hb : (vm 11 = 0 ∧ b = (Ff0_X8_image (vm 11).toInt).1) ∨ (vm 11 = 1 ∧ b = (Ff_X8_image (vm 11).toInt (vm 13).toInt (fl_A (vn 4)) (fl_A (vn 7))).1)) : (Ff_X7_image (vi 33).toInt (vi 25).toInt (fl_nI [(vi 137).toInt, (vi 138).toInt, (vi 139).toInt, (vi 140).toInt, (vi 141).toInt, (vi 142).toInt, (vi 143).toInt, (vi 144).toInt, (vi 145).toInt, (vi 146).toInt, (vi 147).toInt, (vi 148).toInt, (vi 149).toInt, (vi 150).toInt, (vi 151).toInt]) (vi 12).toInt (vi 13).toInt (vi 14).toInt (vi 15).toInt (vi 16).toInt (fl_A (vf 1)) (fl_nF [(fl_A (vf 55)), (fl_A (vf 56)), (fl_A (vf 57)), (fl_A (vf 58)), (fl_A (vf 59)), (fl_A (vf 60))]) (fl_A (vf 2))).1 = b := by
  obtain ⟨hT, hF, hH, hV⟩ := hR
  rcases hM with hM0 | ⟨hM1, hrs, hkm⟩
  · rcases hH with hH | ⟨z9, -⟩
    rotate_left
    · rw [hM0] at z9; exact absurd z9 (by decide)
    obtain ⟨-, h33, -⟩ := hH
    obtain ⟨⟨v54, v56⟩, hV⟩ := hV
    rcases hV with ⟨-, v12, v24, v25, u12, u13⟩ | ⟨z9, -⟩
    rotate_left
    · rw [hM0] at z9; exact absurd z9 (by decide)
    have e33 : (vi 33).toInt = 0 := by rw [h33]; decide
    have e11 : (vm 11).toInt = 0 := by rw [hM0]; decide
    have ex : (Ff_X7_image (vi 33).toInt (vi 25).toInt (fl_nI [(vi 137).toInt, (vi 138).toInt, (vi 139).toInt, (vi 140).toInt, (vi 141).toInt, (vi 142).toInt, (vi 143).toInt, (vi 144).toInt, (vi 145).toInt, (vi 146).toInt, (vi 147).toInt, (vi 148).toInt, (vi 149).toInt, (vi 150).toInt, (vi 151).toInt]) (vi 12).toInt (vi 13).toInt (vi 14).toInt (vi 15).toInt (vi 16).toInt (fl_A (vf 1)) (fl_nF [(fl_A (vf 55)), (fl_A (vf 56)), (fl_A (vf 57)), (fl_A (vf 58)), (fl_A (vf 59)), (fl_A (vf 60))]) (fl_A (vf 2))).1 = -1 := by
      unfold Ff_X7_image Ff_X7_hasGallery
      rw [e33, if_pos (by decide)]
      rfl
    rcases hb with ⟨-, hb⟩ | ⟨z9, -⟩
    rotate_left
    · rw [hM0] at z9; exact absurd z9 (by decide)
    rw [ex, hb, e11]
    rfl
  · obtain ⟨hG, hD, -⟩ := lr_G hH hM1 hrs hkm
    have hf9 : 2 ≤ (vi 33).toInt ∧ (vi 33).toInt ≤ 9 := ⟨hG.1.2.1, hG.1.2.2⟩
    have f9 := hf9.2
    have hV4 := hV.2
    rcases hV4 with ⟨z9, -⟩ | ⟨-, hS, hm, hU, hN, hHi, hIm⟩
    · rw [hM1] at z9; exact absurd z9 (by decide)
    have e11 : (vm 11).toInt = 1 := by rw [hM1]; decide
    have hHi := rs_H_cg (gI1 := fl_nI [(vi 57).toInt, (vi 58).toInt, (vi 59).toInt, (vi 60).toInt, (vi 61).toInt, (vi 62).toInt, (vi 63).toInt, (vi 64).toInt, (vi 65).toInt, (vi 66).toInt, (vi 67).toInt, (vi 68).toInt, (vi 69).toInt, (vi 70).toInt, (vi 71).toInt, (vi 72).toInt, (vi 73).toInt, (vi 74).toInt, (vi 75).toInt, (vi 76).toInt, (vi 77).toInt, (vi 78).toInt, (vi 79).toInt, (vi 80).toInt, (vi 81).toInt, (vi 82).toInt, (vi 83).toInt, (vi 84).toInt, (vi 85).toInt, (vi 86).toInt, (vi 87).toInt, (vi 88).toInt, (vi 89).toInt, (vi 90).toInt, (vi 91).toInt, (vi 92).toInt, (vi 93).toInt, (vi 94).toInt, (vi 95).toInt, (vi 96).toInt, (vi 97).toInt, (vi 98).toInt, (vi 99).toInt, (vi 100).toInt, (vi 101).toInt, (vi 102).toInt, (vi 103).toInt, (vi 104).toInt, (vi 105).toInt, (vi 106).toInt, (vi 107).toInt, (vi 108).toInt, (vi 109).toInt, (vi 110).toInt, (vi 111).toInt, (vi 112).toInt, (vi 113).toInt, (vi 114).toInt, (vi 115).toInt, (vi 116).toInt, (vi 117).toInt, (vi 118).toInt, (vi 119).toInt, (vi 120).toInt, (vi 121).toInt, (vi 122).toInt, (vi 123).toInt, (vi 124).toInt, (vi 125).toInt, (vi 126).toInt, (vi 127).toInt, (vi 128).toInt, (vi 129).toInt, (vi 130).toInt, (vi 131).toInt, (vi 132).toInt, (vi 133).toInt, (vi 134).toInt, (vi 135).toInt, (vi 136).toInt]) (gF1 := fl_nF [(fl_A (vf 23)), (fl_A (vf 24)), (fl_A (vf 25)), (fl_A (vf 26)), (fl_A (vf 27)), (fl_A (vf 28)), (fl_A (vf 29)), (fl_A (vf 30)), (fl_A (vf 31)), (fl_A (vf 32)), (fl_A (vf 33)), (fl_A (vf 34)), (fl_A (vf 35)), (fl_A (vf 36)), (fl_A (vf 37)), (fl_A (vf 38)), (fl_A (vf 39)), (fl_A (vf 40)), (fl_A (vf 41)), (fl_A (vf 42)), (fl_A (vf 43)), (fl_A (vf 44)), (fl_A (vf 45)), (fl_A (vf 46)), (fl_A (vf 47)), (fl_A (vf 48)), (fl_A (vf 49)), (fl_A (vf 50)), (fl_A (vf 51)), (fl_A (vf 52)), (fl_A (vf 53)), (fl_A (vf 54))]) (fun k h9 => lr_g3e vi h9) (fun k h9 => lr_f3e vf h9) hHi
    have hIm := rs_I_cg (gI1 := fl_nI [(vi 137).toInt, (vi 138).toInt, (vi 139).toInt, (vi 140).toInt, (vi 141).toInt, (vi 142).toInt, (vi 143).toInt, (vi 144).toInt, (vi 145).toInt, (vi 146).toInt, (vi 147).toInt, (vi 148).toInt, (vi 149).toInt, (vi 150).toInt, (vi 151).toInt]) (gF1 := fl_nF [(fl_A (vf 55)), (fl_A (vf 56)), (fl_A (vf 57)), (fl_A (vf 58)), (fl_A (vf 59)), (fl_A (vf 60))]) (fun k h9 => lr_g4e vi h9) (fun k h9 => lr_f4e vf h9) hIm
    obtain ⟨R, tr, N1, iI1, iF1, kp1, e1, e2, e6⟩ := rs_image f9 (by omega) hS hm hIm
    rcases hb with ⟨z9, -⟩ | ⟨-, hb⟩
    · rw [hM1] at z9; exact absurd z9 (by decide)
    rw [e11, ← hN] at hb
    rw [hb, e1, e2]

theorem lr_c_undo {tp : Int32} {vi vm : Nat → Int32} {vf vn : Nat → Nat → Int32} (hR : lr_R tp vi vf vm vn) (hM : vm 11 = 0 ∨ (vm 11 = 1 ∧ ((∀ k : Nat, 0 ≤ k → k ≤ 0 → (2 : Int) ≤ ((vn 2) k).toInt ∧ ((vn 2) k).toInt ≤ 9) ∧ (∀ k : Nat, 1 ≤ k → k ≤ 1 → (1 : Int) ≤ ((vn 2) k).toInt ∧ ((vn 2) k).toInt ≤ 20) ∧ (∀ k : Nat, 2 ≤ k → k ≤ 2 → (0 : Int) ≤ ((vn 2) k).toInt ∧ ((vn 2) k).toInt ≤ 8) ∧ (∀ k : Nat, 3 ≤ k → k ≤ 3 → (0 : Int) ≤ ((vn 2) k).toInt ∧ ((vn 2) k).toInt ≤ 100) ∧ (∀ k : Nat, 4 ≤ k → k ≤ 4 → (0 : Int) ≤ ((vn 2) k).toInt ∧ ((vn 2) k).toInt ≤ 9) ∧ (∀ k : Nat, 5 ≤ k → k ≤ 5 → (0 : Int) ≤ ((vn 2) k).toInt ∧ ((vn 2) k).toInt ≤ 3) ∧ (∀ k : Nat, 6 ≤ k → k ≤ 6 → (0 : Int) ≤ ((vn 2) k).toInt ∧ ((vn 2) k).toInt ≤ 6) ∧ (∀ k : Nat, 7 ≤ k → k ≤ 9 → (0 : Int) ≤ ((vn 2) k).toInt ∧ ((vn 2) k).toInt ≤ 8) ∧ (∀ k : Nat, 12 ≤ k → k ≤ 29 → (0 : Int) ≤ ((vn 2) k).toInt ∧ ((vn 2) k).toInt ≤ 20) ∧ (∀ k : Nat, 30 ≤ k → k ≤ 35 → (0 : Int) ≤ ((vn 2) k).toInt ∧ ((vn 2) k).toInt ≤ 8) ∧ (∀ k : Nat, 36 ≤ k → k ≤ 47 → (0 : Int) ≤ ((vn 2) k).toInt ∧ ((vn 2) k).toInt ≤ 999)) ∧ ((∀ (j i0 i : Int32), (0 : Int) ≤ j.toInt → j.toInt ≤ 8 → i0.toInt = 12 + 2 * j.toInt → i.toInt = 13 + 2 * j.toInt → ((vn 2) i0.toNatClampNeg).toInt = (1 : Int32).toInt → (1 : Int) ≤ ((vn 2) i.toNatClampNeg).toInt)))) : (Ff_X7_undo (vi 24).toInt (vi 26).toInt (vi 12).toInt (vi 13).toInt (vi 14).toInt (vi 15).toInt (vi 16).toInt (fl_nI [(vi 57).toInt, (vi 58).toInt, (vi 59).toInt, (vi 60).toInt, (vi 61).toInt, (vi 62).toInt, (vi 63).toInt, (vi 64).toInt, (vi 65).toInt, (vi 66).toInt, (vi 67).toInt, (vi 68).toInt, (vi 69).toInt, (vi 70).toInt, (vi 71).toInt, (vi 72).toInt, (vi 73).toInt, (vi 74).toInt, (vi 75).toInt, (vi 76).toInt, (vi 77).toInt, (vi 78).toInt, (vi 79).toInt, (vi 80).toInt, (vi 81).toInt, (vi 82).toInt, (vi 83).toInt, (vi 84).toInt, (vi 85).toInt, (vi 86).toInt, (vi 87).toInt, (vi 88).toInt, (vi 89).toInt, (vi 90).toInt, (vi 91).toInt, (vi 92).toInt, (vi 93).toInt, (vi 94).toInt, (vi 95).toInt, (vi 96).toInt, (vi 97).toInt, (vi 98).toInt, (vi 99).toInt, (vi 100).toInt, (vi 101).toInt, (vi 102).toInt, (vi 103).toInt, (vi 104).toInt, (vi 105).toInt, (vi 106).toInt, (vi 107).toInt, (vi 108).toInt, (vi 109).toInt, (vi 110).toInt, (vi 111).toInt, (vi 112).toInt, (vi 113).toInt, (vi 114).toInt, (vi 115).toInt, (vi 116).toInt, (vi 117).toInt, (vi 118).toInt, (vi 119).toInt, (vi 120).toInt, (vi 121).toInt, (vi 122).toInt, (vi 123).toInt, (vi 124).toInt, (vi 125).toInt, (vi 126).toInt, (vi 127).toInt, (vi 128).toInt, (vi 129).toInt, (vi 130).toInt, (vi 131).toInt, (vi 132).toInt, (vi 133).toInt, (vi 134).toInt, (vi 135).toInt, (vi 136).toInt]) (fl_nF [(fl_A (vf 23)), (fl_A (vf 24)), (fl_A (vf 25)), (fl_A (vf 26)), (fl_A (vf 27)), (fl_A (vf 28)), (fl_A (vf 29)), (fl_A (vf 30)), (fl_A (vf 31)), (fl_A (vf 32)), (fl_A (vf 33)), (fl_A (vf 34)), (fl_A (vf 35)), (fl_A (vf 36)), (fl_A (vf 37)), (fl_A (vf 38)), (fl_A (vf 39)), (fl_A (vf 40)), (fl_A (vf 41)), (fl_A (vf 42)), (fl_A (vf 43)), (fl_A (vf 44)), (fl_A (vf 45)), (fl_A (vf 46)), (fl_A (vf 47)), (fl_A (vf 48)), (fl_A (vf 49)), (fl_A (vf 50)), (fl_A (vf 51)), (fl_A (vf 52)), (fl_A (vf 53)), (fl_A (vf 54))]) (fl_A (vf 1)) (fl_A (vf 2))).1 = (Ff_X8_undo (vm 12).toInt (fl_A (vn 6)) (fl_A (vn 4))).1 := by
  obtain ⟨hT, hF, hH, hV⟩ := hR
  rcases hM with hM0 | ⟨hM1, hrs, hkm⟩
  · rcases hH with hH | ⟨z9, -⟩
    rotate_left
    · rw [hM0] at z9; exact absurd z9 (by decide)
    obtain ⟨-, h33, -⟩ := hH
    obtain ⟨⟨v54, v56⟩, hV⟩ := hV
    rcases hV with ⟨-, v12, v24, v25, u12, u13⟩ | ⟨z9, -⟩
    rotate_left
    · rw [hM0] at z9; exact absurd z9 (by decide)
    have e33 : (vi 33).toInt = 0 := by rw [h33]; decide
    have e11 : (vm 11).toInt = 0 := by rw [hM0]; decide
    have e24 : (vi 24).toInt = 0 := by rw [v24]; decide
    have e12 : (vm 12).toInt = 0 := by rw [u12]; decide
    have ex : (Ff_X7_undo (vi 24).toInt (vi 26).toInt (vi 12).toInt (vi 13).toInt (vi 14).toInt (vi 15).toInt (vi 16).toInt (fl_nI [(vi 57).toInt, (vi 58).toInt, (vi 59).toInt, (vi 60).toInt, (vi 61).toInt, (vi 62).toInt, (vi 63).toInt, (vi 64).toInt, (vi 65).toInt, (vi 66).toInt, (vi 67).toInt, (vi 68).toInt, (vi 69).toInt, (vi 70).toInt, (vi 71).toInt, (vi 72).toInt, (vi 73).toInt, (vi 74).toInt, (vi 75).toInt, (vi 76).toInt, (vi 77).toInt, (vi 78).toInt, (vi 79).toInt, (vi 80).toInt, (vi 81).toInt, (vi 82).toInt, (vi 83).toInt, (vi 84).toInt, (vi 85).toInt, (vi 86).toInt, (vi 87).toInt, (vi 88).toInt, (vi 89).toInt, (vi 90).toInt, (vi 91).toInt, (vi 92).toInt, (vi 93).toInt, (vi 94).toInt, (vi 95).toInt, (vi 96).toInt, (vi 97).toInt, (vi 98).toInt, (vi 99).toInt, (vi 100).toInt, (vi 101).toInt, (vi 102).toInt, (vi 103).toInt, (vi 104).toInt, (vi 105).toInt, (vi 106).toInt, (vi 107).toInt, (vi 108).toInt, (vi 109).toInt, (vi 110).toInt, (vi 111).toInt, (vi 112).toInt, (vi 113).toInt, (vi 114).toInt, (vi 115).toInt, (vi 116).toInt, (vi 117).toInt, (vi 118).toInt, (vi 119).toInt, (vi 120).toInt, (vi 121).toInt, (vi 122).toInt, (vi 123).toInt, (vi 124).toInt, (vi 125).toInt, (vi 126).toInt, (vi 127).toInt, (vi 128).toInt, (vi 129).toInt, (vi 130).toInt, (vi 131).toInt, (vi 132).toInt, (vi 133).toInt, (vi 134).toInt, (vi 135).toInt, (vi 136).toInt]) (fl_nF [(fl_A (vf 23)), (fl_A (vf 24)), (fl_A (vf 25)), (fl_A (vf 26)), (fl_A (vf 27)), (fl_A (vf 28)), (fl_A (vf 29)), (fl_A (vf 30)), (fl_A (vf 31)), (fl_A (vf 32)), (fl_A (vf 33)), (fl_A (vf 34)), (fl_A (vf 35)), (fl_A (vf 36)), (fl_A (vf 37)), (fl_A (vf 38)), (fl_A (vf 39)), (fl_A (vf 40)), (fl_A (vf 41)), (fl_A (vf 42)), (fl_A (vf 43)), (fl_A (vf 44)), (fl_A (vf 45)), (fl_A (vf 46)), (fl_A (vf 47)), (fl_A (vf 48)), (fl_A (vf 49)), (fl_A (vf 50)), (fl_A (vf 51)), (fl_A (vf 52)), (fl_A (vf 53)), (fl_A (vf 54))]) (fl_A (vf 1)) (fl_A (vf 2))).1 = 0 := by
      unfold Ff_X7_undo Ff_X1_takeLatest
      rw [if_pos e24, fl_c10_eq rfl]
      rfl
    have em : (Ff_X8_undo (vm 12).toInt (fl_A (vn 6)) (fl_A (vn 4))).1 = 0 := by
      unfold Ff_X8_undo Ff_X8_good
      rw [fl_c2_eq rfl, if_pos e12]
      rfl
    exact ex.trans em.symm
  · obtain ⟨hG, hD, -⟩ := lr_G hH hM1 hrs hkm
    have hf9 : 2 ≤ (vi 33).toInt ∧ (vi 33).toInt ≤ 9 := ⟨hG.1.2.1, hG.1.2.2⟩
    have f9 := hf9.2
    have hV4 := hV.2
    rcases hV4 with ⟨z9, -⟩ | ⟨-, hS, hm, hU, hN, hHi, hIm⟩
    · rw [hM1] at z9; exact absurd z9 (by decide)
    have e11 : (vm 11).toInt = 1 := by rw [hM1]; decide
    have hHi := rs_H_cg (gI1 := fl_nI [(vi 57).toInt, (vi 58).toInt, (vi 59).toInt, (vi 60).toInt, (vi 61).toInt, (vi 62).toInt, (vi 63).toInt, (vi 64).toInt, (vi 65).toInt, (vi 66).toInt, (vi 67).toInt, (vi 68).toInt, (vi 69).toInt, (vi 70).toInt, (vi 71).toInt, (vi 72).toInt, (vi 73).toInt, (vi 74).toInt, (vi 75).toInt, (vi 76).toInt, (vi 77).toInt, (vi 78).toInt, (vi 79).toInt, (vi 80).toInt, (vi 81).toInt, (vi 82).toInt, (vi 83).toInt, (vi 84).toInt, (vi 85).toInt, (vi 86).toInt, (vi 87).toInt, (vi 88).toInt, (vi 89).toInt, (vi 90).toInt, (vi 91).toInt, (vi 92).toInt, (vi 93).toInt, (vi 94).toInt, (vi 95).toInt, (vi 96).toInt, (vi 97).toInt, (vi 98).toInt, (vi 99).toInt, (vi 100).toInt, (vi 101).toInt, (vi 102).toInt, (vi 103).toInt, (vi 104).toInt, (vi 105).toInt, (vi 106).toInt, (vi 107).toInt, (vi 108).toInt, (vi 109).toInt, (vi 110).toInt, (vi 111).toInt, (vi 112).toInt, (vi 113).toInt, (vi 114).toInt, (vi 115).toInt, (vi 116).toInt, (vi 117).toInt, (vi 118).toInt, (vi 119).toInt, (vi 120).toInt, (vi 121).toInt, (vi 122).toInt, (vi 123).toInt, (vi 124).toInt, (vi 125).toInt, (vi 126).toInt, (vi 127).toInt, (vi 128).toInt, (vi 129).toInt, (vi 130).toInt, (vi 131).toInt, (vi 132).toInt, (vi 133).toInt, (vi 134).toInt, (vi 135).toInt, (vi 136).toInt]) (gF1 := fl_nF [(fl_A (vf 23)), (fl_A (vf 24)), (fl_A (vf 25)), (fl_A (vf 26)), (fl_A (vf 27)), (fl_A (vf 28)), (fl_A (vf 29)), (fl_A (vf 30)), (fl_A (vf 31)), (fl_A (vf 32)), (fl_A (vf 33)), (fl_A (vf 34)), (fl_A (vf 35)), (fl_A (vf 36)), (fl_A (vf 37)), (fl_A (vf 38)), (fl_A (vf 39)), (fl_A (vf 40)), (fl_A (vf 41)), (fl_A (vf 42)), (fl_A (vf 43)), (fl_A (vf 44)), (fl_A (vf 45)), (fl_A (vf 46)), (fl_A (vf 47)), (fl_A (vf 48)), (fl_A (vf 49)), (fl_A (vf 50)), (fl_A (vf 51)), (fl_A (vf 52)), (fl_A (vf 53)), (fl_A (vf 54))]) (fun k h9 => lr_g3e vi h9) (fun k h9 => lr_f3e vf h9) hHi
    have hIm := rs_I_cg (gI1 := fl_nI [(vi 137).toInt, (vi 138).toInt, (vi 139).toInt, (vi 140).toInt, (vi 141).toInt, (vi 142).toInt, (vi 143).toInt, (vi 144).toInt, (vi 145).toInt, (vi 146).toInt, (vi 147).toInt, (vi 148).toInt, (vi 149).toInt, (vi 150).toInt, (vi 151).toInt]) (gF1 := fl_nF [(fl_A (vf 55)), (fl_A (vf 56)), (fl_A (vf 57)), (fl_A (vf 58)), (fl_A (vf 59)), (fl_A (vf 60))]) (fun k h9 => lr_g4e vi h9) (fun k h9 => lr_f4e vf h9) hIm
    obtain ⟨R, tr, U1, L1, mi1, tu1, sn1, go1, ca1, pl1, he1, st1, e1, e2, e3, e4, e5⟩ := rs_undo f9 hS hm hHi
    rw [← hU, e1, e2]

theorem lr_c_back {tp : Int32} {vi vm : Nat → Int32} {vf vn : Nat → Nat → Int32} (hR : lr_R tp vi vf vm vn) (hM : vm 11 = 0 ∨ (vm 11 = 1 ∧ ((∀ k : Nat, 0 ≤ k → k ≤ 0 → (2 : Int) ≤ ((vn 2) k).toInt ∧ ((vn 2) k).toInt ≤ 9) ∧ (∀ k : Nat, 1 ≤ k → k ≤ 1 → (1 : Int) ≤ ((vn 2) k).toInt ∧ ((vn 2) k).toInt ≤ 20) ∧ (∀ k : Nat, 2 ≤ k → k ≤ 2 → (0 : Int) ≤ ((vn 2) k).toInt ∧ ((vn 2) k).toInt ≤ 8) ∧ (∀ k : Nat, 3 ≤ k → k ≤ 3 → (0 : Int) ≤ ((vn 2) k).toInt ∧ ((vn 2) k).toInt ≤ 100) ∧ (∀ k : Nat, 4 ≤ k → k ≤ 4 → (0 : Int) ≤ ((vn 2) k).toInt ∧ ((vn 2) k).toInt ≤ 9) ∧ (∀ k : Nat, 5 ≤ k → k ≤ 5 → (0 : Int) ≤ ((vn 2) k).toInt ∧ ((vn 2) k).toInt ≤ 3) ∧ (∀ k : Nat, 6 ≤ k → k ≤ 6 → (0 : Int) ≤ ((vn 2) k).toInt ∧ ((vn 2) k).toInt ≤ 6) ∧ (∀ k : Nat, 7 ≤ k → k ≤ 9 → (0 : Int) ≤ ((vn 2) k).toInt ∧ ((vn 2) k).toInt ≤ 8) ∧ (∀ k : Nat, 12 ≤ k → k ≤ 29 → (0 : Int) ≤ ((vn 2) k).toInt ∧ ((vn 2) k).toInt ≤ 20) ∧ (∀ k : Nat, 30 ≤ k → k ≤ 35 → (0 : Int) ≤ ((vn 2) k).toInt ∧ ((vn 2) k).toInt ≤ 8) ∧ (∀ k : Nat, 36 ≤ k → k ≤ 47 → (0 : Int) ≤ ((vn 2) k).toInt ∧ ((vn 2) k).toInt ≤ 999)) ∧ ((∀ (j i0 i : Int32), (0 : Int) ≤ j.toInt → j.toInt ≤ 8 → i0.toInt = 12 + 2 * j.toInt → i.toInt = 13 + 2 * j.toInt → ((vn 2) i0.toNatClampNeg).toInt = (1 : Int32).toInt → (1 : Int) ≤ ((vn 2) i.toNatClampNeg).toInt)))) (a : Int32) : (Ff_X7_back a.toInt (vi 24).toInt (vi 25).toInt (vi 12).toInt (vi 13).toInt (vi 14).toInt (vi 15).toInt (vi 16).toInt (fl_nI [(vi 137).toInt, (vi 138).toInt, (vi 139).toInt, (vi 140).toInt, (vi 141).toInt, (vi 142).toInt, (vi 143).toInt, (vi 144).toInt, (vi 145).toInt, (vi 146).toInt, (vi 147).toInt, (vi 148).toInt, (vi 149).toInt, (vi 150).toInt, (vi 151).toInt]) (fl_nF [(fl_A (vf 55)), (fl_A (vf 56)), (fl_A (vf 57)), (fl_A (vf 58)), (fl_A (vf 59)), (fl_A (vf 60))]) (fl_A (vf 1)) (fl_A (vf 2))).1 = (Ff_X8_back a.toInt (vm 12).toInt (vm 13).toInt (fl_A (vn 7)) (fl_A (vn 4))).1 := by
  obtain ⟨hT, hF, hH, hV⟩ := hR
  rcases hM with hM0 | ⟨hM1, hrs, hkm⟩
  · rcases hH with hH | ⟨z9, -⟩
    rotate_left
    · rw [hM0] at z9; exact absurd z9 (by decide)
    obtain ⟨-, h33, -⟩ := hH
    obtain ⟨⟨v54, v56⟩, hV⟩ := hV
    rcases hV with ⟨-, v12, v24, v25, u12, u13⟩ | ⟨z9, -⟩
    rotate_left
    · rw [hM0] at z9; exact absurd z9 (by decide)
    have e33 : (vi 33).toInt = 0 := by rw [h33]; decide
    have e11 : (vm 11).toInt = 0 := by rw [hM0]; decide
    have e25 : (vi 25).toInt = 0 := by rw [v25]; decide
    have e13 : (vm 13).toInt = 0 := by rw [u13]; decide
    have ex : (Ff_X7_back a.toInt (vi 24).toInt (vi 25).toInt (vi 12).toInt (vi 13).toInt (vi 14).toInt (vi 15).toInt (vi 16).toInt (fl_nI [(vi 137).toInt, (vi 138).toInt, (vi 139).toInt, (vi 140).toInt, (vi 141).toInt, (vi 142).toInt, (vi 143).toInt, (vi 144).toInt, (vi 145).toInt, (vi 146).toInt, (vi 147).toInt, (vi 148).toInt, (vi 149).toInt, (vi 150).toInt, (vi 151).toInt]) (fl_nF [(fl_A (vf 55)), (fl_A (vf 56)), (fl_A (vf 57)), (fl_A (vf 58)), (fl_A (vf 59)), (fl_A (vf 60))]) (fl_A (vf 1)) (fl_A (vf 2))).1 = 0 := by
      unfold Ff_X7_back Ff_X1_goBack
      rw [fl_lt_eq rfl, e25, rp_in, rp_in0 (by omega), fl_lt_eq rfl, if_neg (by decide), fl_c9_eq rfl]
      rfl
    have em : (Ff_X8_back a.toInt (vm 12).toInt (vm 13).toInt (fl_A (vn 7)) (fl_A (vn 4))).1 = 0 := by
      unfold Ff_X8_back Ff_X8_good
      rw [fl_c2_eq rfl, fl_lt_eq rfl, e13, rp_in0 (by omega)]
      rfl
    exact ex.trans em.symm
  · obtain ⟨hG, hD, -⟩ := lr_G hH hM1 hrs hkm
    have hf9 : 2 ≤ (vi 33).toInt ∧ (vi 33).toInt ≤ 9 := ⟨hG.1.2.1, hG.1.2.2⟩
    have f9 := hf9.2
    have hV4 := hV.2
    rcases hV4 with ⟨z9, -⟩ | ⟨-, hS, hm, hU, hN, hHi, hIm⟩
    · rw [hM1] at z9; exact absurd z9 (by decide)
    have e11 : (vm 11).toInt = 1 := by rw [hM1]; decide
    have hHi := rs_H_cg (gI1 := fl_nI [(vi 57).toInt, (vi 58).toInt, (vi 59).toInt, (vi 60).toInt, (vi 61).toInt, (vi 62).toInt, (vi 63).toInt, (vi 64).toInt, (vi 65).toInt, (vi 66).toInt, (vi 67).toInt, (vi 68).toInt, (vi 69).toInt, (vi 70).toInt, (vi 71).toInt, (vi 72).toInt, (vi 73).toInt, (vi 74).toInt, (vi 75).toInt, (vi 76).toInt, (vi 77).toInt, (vi 78).toInt, (vi 79).toInt, (vi 80).toInt, (vi 81).toInt, (vi 82).toInt, (vi 83).toInt, (vi 84).toInt, (vi 85).toInt, (vi 86).toInt, (vi 87).toInt, (vi 88).toInt, (vi 89).toInt, (vi 90).toInt, (vi 91).toInt, (vi 92).toInt, (vi 93).toInt, (vi 94).toInt, (vi 95).toInt, (vi 96).toInt, (vi 97).toInt, (vi 98).toInt, (vi 99).toInt, (vi 100).toInt, (vi 101).toInt, (vi 102).toInt, (vi 103).toInt, (vi 104).toInt, (vi 105).toInt, (vi 106).toInt, (vi 107).toInt, (vi 108).toInt, (vi 109).toInt, (vi 110).toInt, (vi 111).toInt, (vi 112).toInt, (vi 113).toInt, (vi 114).toInt, (vi 115).toInt, (vi 116).toInt, (vi 117).toInt, (vi 118).toInt, (vi 119).toInt, (vi 120).toInt, (vi 121).toInt, (vi 122).toInt, (vi 123).toInt, (vi 124).toInt, (vi 125).toInt, (vi 126).toInt, (vi 127).toInt, (vi 128).toInt, (vi 129).toInt, (vi 130).toInt, (vi 131).toInt, (vi 132).toInt, (vi 133).toInt, (vi 134).toInt, (vi 135).toInt, (vi 136).toInt]) (gF1 := fl_nF [(fl_A (vf 23)), (fl_A (vf 24)), (fl_A (vf 25)), (fl_A (vf 26)), (fl_A (vf 27)), (fl_A (vf 28)), (fl_A (vf 29)), (fl_A (vf 30)), (fl_A (vf 31)), (fl_A (vf 32)), (fl_A (vf 33)), (fl_A (vf 34)), (fl_A (vf 35)), (fl_A (vf 36)), (fl_A (vf 37)), (fl_A (vf 38)), (fl_A (vf 39)), (fl_A (vf 40)), (fl_A (vf 41)), (fl_A (vf 42)), (fl_A (vf 43)), (fl_A (vf 44)), (fl_A (vf 45)), (fl_A (vf 46)), (fl_A (vf 47)), (fl_A (vf 48)), (fl_A (vf 49)), (fl_A (vf 50)), (fl_A (vf 51)), (fl_A (vf 52)), (fl_A (vf 53)), (fl_A (vf 54))]) (fun k h9 => lr_g3e vi h9) (fun k h9 => lr_f3e vf h9) hHi
    have hIm := rs_I_cg (gI1 := fl_nI [(vi 137).toInt, (vi 138).toInt, (vi 139).toInt, (vi 140).toInt, (vi 141).toInt, (vi 142).toInt, (vi 143).toInt, (vi 144).toInt, (vi 145).toInt, (vi 146).toInt, (vi 147).toInt, (vi 148).toInt, (vi 149).toInt, (vi 150).toInt, (vi 151).toInt]) (gF1 := fl_nF [(fl_A (vf 55)), (fl_A (vf 56)), (fl_A (vf 57)), (fl_A (vf 58)), (fl_A (vf 59)), (fl_A (vf 60))]) (fun k h9 => lr_g4e vi h9) (fun k h9 => lr_f4e vf h9) hIm
    obtain ⟨R, tr, U1, mi1, tu1, sn1, go1, ca1, pl1, he1, st1, e1, e2, e3, e4, e5⟩ := rs_back f9 hS hm hHi hIm a.toInt
    rw [← hU, ← hN, e1, e2]
/-- minutes pass ahead: here and there -/
theorem rs_ah {n fg sp sa ti pu wc po sd : Int} {kd me wf wt r f t : Nat → Int} (hG : rs_G fg sp sa ti pu kd me r) (hW : rs_W wc po wf wt sd r f t) :
    ∀ (d : Nat) (m1 m2 : Nat) (j mi tu sn go ca y1 y2 y3 : Int) (pl he st : Nat → Int), n - j = (d : Int) → d + 1 ≤ m1 → d + 1 ≤ m2 → rs_S fg sp kd mi tu sn go ca pl he st → mi + (d : Int) ≤ 20000 →
    ∃ tu1 sn1 go1 ca1 z1 z2 z3 pl1 he1 st1, fl_wh (fun t9 : Int × Int × Int × Int × Int × Int × (Nat → Int) × (Nat → Int) => Sf_X7_passAhead_2_1 n fg sp sa ti pu kd me wc po wt wf t9.1 t9.2.1 t9.2.2.1 t9.2.2.2.1 t9.2.2.2.2.1 t9.2.2.2.2.2.1 t9.2.2.2.2.2.2.1 t9.2.2.2.2.2.2.2) (0, 0, 0, 0, 0, (fun _ => 0), (fun _ => 0)) m1 (j, mi, tu, sn, go, ca, pl, he) = (mi + (d : Int), tu1, sn1, go1, ca1, pl1, he1) ∧
      fl_wh (fun t9 : Int × Int × Int × Int × (Nat → Int) => Sf_X8_minutesOn_6_1 n r sd f t t9.1 t9.2.1 t9.2.2.1 t9.2.2.2.1 t9.2.2.2.2) (0, 0, 0, 0, (fun _ => 0), (fun _ => 0), (fun _ => 0)) m2 (j, y1, y2, y3, st) = (sd, z1, z2, z3, f, t, st1) ∧ rs_S fg sp kd (mi + (d : Int)) tu1 sn1 go1 ca1 pl1 he1 st1 := by
  intro d
  induction d with
  | zero =>
    intro m1 m2 j mi tu sn go ca y1 y2 y3 pl he st hd h1 h2 hS hm
    obtain ⟨m1, rfl⟩ : ∃ q, m1 = q + 1 := ⟨m1 - 1, by omega⟩
    obtain ⟨m2, rfl⟩ : ∃ q, m2 = q + 1 := ⟨m2 - 1, by omega⟩
    have e0 : mi + ((0 : Nat) : Int) = mi := by omega
    rw [e0]
    refine ⟨tu, sn, go, ca, y1, y2, y3, pl, he, st, fl_wh_r (step := (fun t9 : Int × Int × Int × Int × Int × Int × (Nat → Int) × (Nat → Int) => Sf_X7_passAhead_2_1 n fg sp sa ti pu kd me wc po wt wf t9.1 t9.2.1 t9.2.2.1 t9.2.2.2.1 t9.2.2.2.2.1 t9.2.2.2.2.2.1 t9.2.2.2.2.2.2.1 t9.2.2.2.2.2.2.2)) (s := (j, mi, tu, sn, go, ca, pl, he)) ?_, fl_wh_r (step := (fun t9 : Int × Int × Int × Int × (Nat → Int) => Sf_X8_minutesOn_6_1 n r sd f t t9.1 t9.2.1 t9.2.2.1 t9.2.2.2.1 t9.2.2.2.2)) (s := (j, y1, y2, y3, st)) ?_, hS⟩
    · show Sf_X7_passAhead_2_1 n fg sp sa ti pu kd me wc po wt wf j mi tu sn go ca pl he = _
      unfold Sf_X7_passAhead_2_1
      rw [if_pos (by omega)]
    · show Sf_X8_minutesOn_6_1 n r sd f t j y1 y2 y3 st = _
      unfold Sf_X8_minutesOn_6_1
      rw [if_pos (by omega)]
  | succ d ih =>
    intro m1 m2 j mi tu sn go ca y1 y2 y3 pl he st hd h1 h2 hS hm
    obtain ⟨m1, rfl⟩ : ∃ q, m1 = q + 1 := ⟨m1 - 1, by omega⟩
    obtain ⟨m2, rfl⟩ : ∃ q, m2 = q + 1 := ⟨m2 - 1, by omega⟩
    obtain ⟨tu1, sn1, go1, ca1, pl1, he1, st1, e1, e2, e3⟩ := rs_pass hG hW hS (by omega)
    have e0 : mi + ((d + 1 : Nat) : Int) = mi + 1 + (d : Int) := by omega
    rw [e0]
    obtain ⟨tu2, sn2, go2, ca2, z1, z2, z3, pl2, he2, st2, q1, q2, q3⟩ := ih m1 m2 (j + 1) (mi + 1) tu1 sn1 go1 ca1 tu _ _ pl1 he1 st1 (by omega) (by omega) (by omega) e3 (by omega)
    refine ⟨tu2, sn2, go2, ca2, z1, z2, z3, pl2, he2, st2, (fl_wh_l (step := (fun t9 : Int × Int × Int × Int × Int × Int × (Nat → Int) × (Nat → Int) => Sf_X7_passAhead_2_1 n fg sp sa ti pu kd me wc po wt wf t9.1 t9.2.1 t9.2.2.1 t9.2.2.2.1 t9.2.2.2.2.1 t9.2.2.2.2.2.1 t9.2.2.2.2.2.2.1 t9.2.2.2.2.2.2.2)) (s := (j, mi, tu, sn, go, ca, pl, he)) ?_).trans q1, (fl_wh_l (step := (fun t9 : Int × Int × Int × Int × (Nat → Int) => Sf_X8_minutesOn_6_1 n r sd f t t9.1 t9.2.1 t9.2.2.1 t9.2.2.2.1 t9.2.2.2.2)) (s := (j, y1, y2, y3, st)) ?_).trans q2, q3⟩
    · show Sf_X7_passAhead_2_1 n fg sp sa ti pu kd me wc po wt wf j mi tu sn go ca pl he = _
      unfold Sf_X7_passAhead_2_1
      rw [if_neg (by omega), e1, fl_c7_eq rfl]
      rfl
    · show Sf_X8_minutesOn_6_1 n r sd f t j y1 y2 y3 st = _
      unfold Sf_X8_minutesOn_6_1
      rw [if_neg (by omega), e2, fl_c4_eq rfl]
      rfl
/-- the look ahead begins: the scenes alike -/
theorem rs_beg {fg sp wc po mi tu sn go ca : Int} {kd wf wt r pl he st : Nat → Int} (hf : fg ≤ 9) (hD : rs_D wc po wf wt r) (hS : rs_S fg sp kd mi tu sn go ca pl he st) (f0 t0 pl0 he0 st0 : Nat → Int) :
    ∃ pl1 he1 st1 f1 t1, Ff_X5_copyFrom mi tu sn go ca pl pl0 he he0 = (mi, tu, sn, go, ca, pl1, he1) ∧ Ff_X8_begin r f0 t0 st st0 = (0, f1, t1, st1) ∧ rs_W wc po wf wt 0 r f1 t1 ∧ rs_S fg sp kd mi tu sn go ca pl1 he1 st1 := by
  obtain ⟨pl1, he1, c1, c2⟩ := rs_cp mi tu sn go ca pl pl0 he he0
  obtain ⟨f1, t1, w1, w2⟩ := rs_told hD f0 t0
  refine ⟨pl1, he1, va_cpy st st0 0 0 23, f1, t1, c1, ?_, w2, rs_S_cg hf c2 (fun k hk => ?_) hS⟩
  · unfold Ff_X8_begin
    rw [w1, fl_c3_eq rfl]
    rfl
  · have q := rs_cpi (f := st) (g := st0) (sp := 0) (dp := 0) hk
    rw [Nat.zero_add] at q
    exact q
/-- n minutes ahead: here and there -/
theorem rs_run {n fg sp sa ti pu wc po mi tu sn go ca : Int} {kd me wf wt r pl he st : Nat → Int} (hG : rs_G fg sp sa ti pu kd me r) (hD : rs_D wc po wf wt r) (hS : rs_S fg sp kd mi tu sn go ca pl he st) (hm : mi ≤ 9999) (h0 : 0 ≤ n) (h9 : n ≤ 300) (y1 y2 y3 : Int) (f0 t0 pl0 he0 st0 : Nat → Int) :
    ∃ tu1 sn1 go1 ca1 z1 z2 z3 pl1 he1 st1 f1 t1, Ff_X7_runAhead n mi tu sn go ca pl pl0 he he0 fg sp sa ti pu kd me wc po wt wf = (mi + n, tu1, sn1, go1, ca1, pl1, he1) ∧ Ff_X8_minutesOn n y1 y2 y3 r f0 t0 st st0 = (0, z1, z2, z3, f1, t1, st1) ∧ rs_S fg sp kd (mi + n) tu1 sn1 go1 ca1 pl1 he1 st1 := by
  obtain ⟨⟨f1, f2, f3⟩, -⟩ := id hG
  obtain ⟨-, m0, -⟩ := id hS
  obtain ⟨pl1, he1, st1, f1', t1', b1, b2, b3, b4⟩ := rs_beg f3 hD hS f0 t0 pl0 he0 st0
  obtain ⟨tu2, sn2, go2, ca2, z1, z2, z3, pl2, he2, st2, q1, q2, q3⟩ := rs_ah (n := n) hG b3 n.toNat 2147483648 2147483648 0 mi tu sn go ca y1 y2 y3 pl1 he1 st1 (by omega) (by omega) (by omega) b4 (by omega)
  have en : mi + (n.toNat : Int) = mi + n := by omega
  rw [en] at q1 q3
  refine ⟨tu2, sn2, go2, ca2, z1, z2, z3, pl2, he2, st2, f1', t1', ?_, ?_, q3⟩
  · unfold Ff_X7_runAhead Ff_X7_passAhead
    rw [b1, fl_c7_eq rfl, q1, fl_c7_eq rfl]
  · unfold Ff_X8_minutesOn
    rw [b2, fl_c4_eq rfl]
    exact q2
theorem rs_tfw (a n mx fg : Int) : Ff_X7_troubleOfFigureWithin a n mx fg = if 0 ≤ a ∧ a ≤ fg - 1 then (if 0 ≤ n ∧ n ≤ mx then 0 else 2) else 1 := by
  unfold Ff_X7_troubleOfFigureWithin
  rw [rs_isf]
  by_cases h : 0 ≤ a ∧ a ≤ fg - 1
  · rw [if_pos h, if_pos h, fl_lt_eq rfl, if_pos rfl, rp_in]
    by_cases h2 : 0 ≤ n ∧ n ≤ mx
    · rw [if_pos h2, rp_in1 h2.1 h2.2]; rfl
    · rw [if_neg h2, rp_in0 h2]; rfl
  · rw [if_neg h, if_neg h]; rfl
theorem rs_aw1 (lo n : Int) : Ff_X8_aheadWhy 1 lo n = if lo ≤ n ∧ n ≤ 300 then 0 else 2 := by
  unfold Ff_X8_aheadWhy
  by_cases h : lo ≤ n ∧ n ≤ 300
  · rw [if_pos h, rp_in1 h.1 h.2]; rfl
  · rw [if_neg h, rp_in0 h]; rfl
theorem rs_aw0 (lo n : Int) : Ff_X8_aheadWhy 0 lo n = 1 := by
  unfold Ff_X8_aheadWhy
  by_cases h : lo ≤ n ∧ n ≤ 300
  · rw [rp_in1 h.1 h.2]; rfl
  · rw [rp_in0 h]; rfl
theorem rs_aw1z (lo n : Int) : Ff0_X8_aheadWhy 1 lo n = if lo ≤ n ∧ n ≤ 300 then 0 else 2 := by
  unfold Ff0_X8_aheadWhy
  by_cases h : lo ≤ n ∧ n ≤ 300
  · rw [if_pos h, rp_in1 h.1 h.2]; rfl
  · rw [if_neg h, rp_in0 h]; rfl
theorem rs_aw0z (lo n : Int) : Ff0_X8_aheadWhy 0 lo n = 1 := by
  unfold Ff0_X8_aheadWhy
  by_cases h : lo ≤ n ∧ n ≤ 300
  · rw [rp_in1 h.1 h.2]; rfl
  · rw [rp_in0 h]; rfl
theorem lr_watch {vi vm : Nat → Int32} {vf vn : Nat → Nat → Int32} (hH : lr_H vi vf vm vn) (hV : lr_V vi vf vm vn) (hMo : vm 11 = 0 ∨ (vm 11 = 1 ∧ ((∀ k : Nat, 0 ≤ k → k ≤ 0 → (2 : Int) ≤ ((vn 2) k).toInt ∧ ((vn 2) k).toInt ≤ 9) ∧ (∀ k : Nat, 1 ≤ k → k ≤ 1 → (1 : Int) ≤ ((vn 2) k).toInt ∧ ((vn 2) k).toInt ≤ 20) ∧ (∀ k : Nat, 2 ≤ k → k ≤ 2 → (0 : Int) ≤ ((vn 2) k).toInt ∧ ((vn 2) k).toInt ≤ 8) ∧ (∀ k : Nat, 3 ≤ k → k ≤ 3 → (0 : Int) ≤ ((vn 2) k).toInt ∧ ((vn 2) k).toInt ≤ 100) ∧ (∀ k : Nat, 4 ≤ k → k ≤ 4 → (0 : Int) ≤ ((vn 2) k).toInt ∧ ((vn 2) k).toInt ≤ 9) ∧ (∀ k : Nat, 5 ≤ k → k ≤ 5 → (0 : Int) ≤ ((vn 2) k).toInt ∧ ((vn 2) k).toInt ≤ 3) ∧ (∀ k : Nat, 6 ≤ k → k ≤ 6 → (0 : Int) ≤ ((vn 2) k).toInt ∧ ((vn 2) k).toInt ≤ 6) ∧ (∀ k : Nat, 7 ≤ k → k ≤ 9 → (0 : Int) ≤ ((vn 2) k).toInt ∧ ((vn 2) k).toInt ≤ 8) ∧ (∀ k : Nat, 12 ≤ k → k ≤ 29 → (0 : Int) ≤ ((vn 2) k).toInt ∧ ((vn 2) k).toInt ≤ 20) ∧ (∀ k : Nat, 30 ≤ k → k ≤ 35 → (0 : Int) ≤ ((vn 2) k).toInt ∧ ((vn 2) k).toInt ≤ 8) ∧ (∀ k : Nat, 36 ≤ k → k ≤ 47 → (0 : Int) ≤ ((vn 2) k).toInt ∧ ((vn 2) k).toInt ≤ 999)) ∧ ((∀ (j i0 i : Int32), (0 : Int) ≤ j.toInt → j.toInt ≤ 8 → i0.toInt = 12 + 2 * j.toInt → i.toInt = 13 + 2 * j.toInt → ((vn 2) i0.toNatClampNeg).toInt = (1 : Int32).toInt → (1 : Int) ≤ ((vn 2) i.toNatClampNeg).toInt)))) (a n : Int) {b : Int} (hb : (vm 11 = 0 ∧ b = (Ff0_X8_watch n (vm 11).toInt).1) ∨ (vm 11 = 1 ∧ b = (Ff_X8_watch a n (vm 11).toInt (vm 14).toInt (fl_A (vn 2)) (fl_A (vn 8)) (fl_A (vn 9)) (fl_A (vn 4))).1)) : (Ff_X7_watch a n (vi 53).toInt (vi 12).toInt (fl_A (vf 20)) (fl_A (vf 19))).1 = b := by
  rcases hb with ⟨z, hb⟩ | ⟨z, hb⟩
  · obtain ⟨e1, e2, e3⟩ := lr_0 hH z
    obtain ⟨v54, v⟩ := hV
    rcases v with ⟨-, v12, v24, v25, u12, u13⟩ | ⟨z0, -⟩
    rotate_left
    · rw [z] at z0; exact absurd z0 (by decide)
    rw [hb, e1, e3]
    unfold Ff_X7_watch Ff0_X8_watch Ff0_X8_isWatcher Ff_X8_good
    rw [rs_isw, if_neg (by omega), rs_aw0z]
    rfl
  · obtain ⟨e1, e2, e3⟩ := lr_1 hH z
    rcases hMo with z0 | ⟨-, hrs, hkm⟩
    · rw [z] at z0; exact absurd z0 (by decide)
    obtain ⟨hG, hD, -⟩ := lr_G hH z hrs hkm
    obtain ⟨v54, v⟩ := hV
    have hD := hD v54.1
    rcases v with ⟨z0, -⟩ | ⟨-, hS, hm, hU, hN, hHi, hIm⟩
    · rw [z] at z0; exact absurd z0 (by decide)
    obtain ⟨⟨s1, s2, s3, s4, s5⟩, m0, ⟨t0, t1⟩, ⟨n0, n1⟩, ⟨g0, g1⟩, hk⟩ := id hS
    obtain ⟨⟨f1, f2, f3⟩, ⟨sp1, sp2, sp3⟩, ⟨sa1, sa2, sa3⟩, ⟨ti1, ti2, ti3⟩, ⟨pu1, pu2, pu3⟩, hkd⟩ := id hG
    rw [hb, e1]
    obtain ⟨w1, w2, w3, w4, w5⟩ := id hD
    by_cases h : 0 ≤ a ∧ a ≤ (vi 53).toInt - 1
    · by_cases hn : 1 ≤ n ∧ n ≤ 300
      · obtain ⟨f9, t9, q1, q2⟩ : ∃ (f9 t9 : Nat → Int), Ff_X8_watchAsTold (fl_A (vn 2)) (fl_A (vn 8)) (fl_A (vn 9)) = (0, f9, t9) ∧ rs_W (vi 53).toInt (vi 54).toInt (fl_A (vf 19)) (fl_A (vf 20)) 0 (fl_A (vn 2)) f9 t9 := rs_told hD _ _
        have ea : fl_iadd (vi 12).toInt n = (vi 12).toInt + n := rp_iadd (by omega) (by omega) (by omega) (by omega) (by omega) (by omega)
        have es : fl_isub ((vi 12).toInt + n) 1 = (vi 12).toInt + n - 1 := rp_isub (by omega) (by omega) (by omega) (by omega) (by omega) (by omega)
        have hp := (rs_W8 q2 (mi := (vi 12).toInt + n - 1) (by omega) (by omega) a.toNat (by omega)).2.2
        rw [Int.toNat_of_nonneg h.1] at hp
        unfold Ff_X7_watch Ff_X8_watch Ff_X8_good
        rw [rs_isw, if_pos h, rp_in, rp_in1 hn.1 hn.2, ea, fl_c2_eq (t := ((0 : Int), (0 : Int))) rfl, rs_iswm, if_pos (by rw [← w1]; exact h), rs_aw1, if_pos hn, q1]
        show Ff_X6_placeOf a (fl_isub ((vi 12).toInt + n) 1) (fl_A (vf 20)) (fl_A (vf 19)) = Ff_X8_watcherAt a (fl_isub (fl_iadd (fl_A (vn 4) 21) n) 1) t9 f9
        rw [← s1, ea, es, rs_at, hp]
      · unfold Ff_X7_watch Ff_X8_watch Ff_X8_good
        rw [rs_isw, if_pos h, rp_in, rp_in0 hn, fl_c2_eq (t := ((0 : Int), (0 : Int))) rfl, rs_iswm, if_pos (by rw [← w1]; exact h), rs_aw1, if_neg hn]
        rfl
    · unfold Ff_X7_watch Ff_X8_watch Ff_X8_good
      rw [rs_isw, if_neg h, fl_c2_eq (t := ((0 : Int), (0 : Int))) rfl, rs_iswm, if_neg (by rw [← w1]; exact h), rs_aw0]
      rfl
theorem rs_ng {g0 fg sp sa ti pu wc po sd : Int} {kd me wf wt r f t : Nat → Int} (hG : rs_G fg sp sa ti pu kd me r) (hW : rs_W wc po wf wt sd r f t) :
    ∀ (d m1 m2 : Nat) (j mi tu sn go ca y1 y2 y3 : Int) (pl he st : Nat → Int), 301 - j = (d : Int) → d + 1 ≤ m1 → d + 1 ≤ m2 → rs_S fg sp kd mi tu sn go ca pl he st → mi + (d : Int) ≤ 20000 → 
    Prod.fst (fl_wh (fun t9 : Int × Int × Int × Int × Int × Int × (Nat → Int) × (Nat → Int) => Sf_X7_minutesTillGone_11_1 300 g0 fg sp sa ti pu kd me wc po wt wf t9.1 t9.2.1 t9.2.2.1 t9.2.2.2.1 t9.2.2.2.2.1 t9.2.2.2.2.2.1 t9.2.2.2.2.2.2.1 t9.2.2.2.2.2.2.2) (0, 0, 0, 0, 0, 0, (fun _ => 0), (fun _ => 0)) m1 (j, mi, tu, sn, go, ca, pl, he)) = Prod.fst (fl_wh (fun t9 : Int × Int × Int × Int × (Nat → Int) => Sf_X8_nextGone_10_1 sd r t f g0 t9.1 t9.2.1 t9.2.2.1 t9.2.2.2.1 t9.2.2.2.2) (0, 0, 0, 0, (fun _ => 0)) m2 (j, y1, y2, y3, st)) := by
  intro d
  induction d with
  | zero =>
    intro m1 m2 j mi tu sn go ca y1 y2 y3 pl he st hd h1 h2 hS hm
    obtain ⟨m1, rfl⟩ : ∃ q, m1 = q + 1 := ⟨m1 - 1, by omega⟩
    obtain ⟨m2, rfl⟩ : ∃ q, m2 = q + 1 := ⟨m2 - 1, by omega⟩
    have c7 : Sf_X7_minutesTillGone_11_1 300 g0 fg sp sa ti pu kd me wc po wt wf j mi tu sn go ca pl he = .inr (-2, mi, tu, sn, go, ca, pl, he) := by
      unfold Sf_X7_minutesTillGone_11_1
      rw [if_pos (by omega)]
    have c8 : Sf_X8_nextGone_10_1 sd r t f g0 j y1 y2 y3 st = .inr (-2, y1, y2, y3, st) := by
      unfold Sf_X8_nextGone_10_1
      rw [if_pos (by omega)]
    refine (congrArg Prod.fst (fl_wh_r (step := (fun t9 : Int × Int × Int × Int × Int × Int × (Nat → Int) × (Nat → Int) => Sf_X7_minutesTillGone_11_1 300 g0 fg sp sa ti pu kd me wc po wt wf t9.1 t9.2.1 t9.2.2.1 t9.2.2.2.1 t9.2.2.2.2.1 t9.2.2.2.2.2.1 t9.2.2.2.2.2.2.1 t9.2.2.2.2.2.2.2)) (s := (j, mi, tu, sn, go, ca, pl, he)) (d := (0, 0, 0, 0, 0, 0, (fun _ => 0), (fun _ => 0))) (n := m1) c7)).trans (Eq.trans ?_ (congrArg Prod.fst (fl_wh_r (step := (fun t9 : Int × Int × Int × Int × (Nat → Int) => Sf_X8_nextGone_10_1 sd r t f g0 t9.1 t9.2.1 t9.2.2.1 t9.2.2.2.1 t9.2.2.2.2)) (s := (j, y1, y2, y3, st)) (d := (0, 0, 0, 0, (fun _ => 0))) (n := m2) c8)).symm)
    rfl
  | succ d ih =>
    intro m1 m2 j mi tu sn go ca y1 y2 y3 pl he st hd h1 h2 hS hm
    obtain ⟨m1, rfl⟩ : ∃ q, m1 = q + 1 := ⟨m1 - 1, by omega⟩
    obtain ⟨m2, rfl⟩ : ∃ q, m2 = q + 1 := ⟨m2 - 1, by omega⟩
    obtain ⟨⟨s1, s2, s3, s4, s5⟩, m0, ⟨t0, t1⟩, ⟨n0, n1⟩, ⟨g0_, g1_⟩, hk⟩ := id hS
    obtain ⟨tu1, sn1, go1, ca1, pl1, he1, st1, e1, e2, e3⟩ := rs_pass hG hW hS (by omega)
    obtain ⟨⟨v1, v2, v3, v4, v5⟩, -, -, -, -, vk⟩ := id e3
    by_cases hq : go1 = g0
    · have c7 : Sf_X7_minutesTillGone_11_1 300 g0 fg sp sa ti pu kd me wc po wt wf j mi tu sn go ca pl he = .inl (j + 1, (mi + 1), tu1, sn1, go1, ca1, pl1, he1) := by
        unfold Sf_X7_minutesTillGone_11_1
        rw [if_neg (by omega), e1, fl_c7_eq rfl, if_pos hq]
        rfl
      have c8 : Sf_X8_nextGone_10_1 sd r t f g0 j y1 y2 y3 st = .inl (j + 1, tu, (if Ff_X7_hasBit go1 tu = 1 then -1 else pl1 tu.toNat), (Ff_X0_partSaid tu (fl_iadd sn 1) kd me), st1) := by
        unfold Sf_X8_nextGone_10_1
        rw [if_neg (by omega), e2, fl_c4_eq rfl, ← v4, fl_lt_eq rfl, if_pos hq]
        rfl
      refine (congrArg Prod.fst (fl_wh_l (step := (fun t9 : Int × Int × Int × Int × Int × Int × (Nat → Int) × (Nat → Int) => Sf_X7_minutesTillGone_11_1 300 g0 fg sp sa ti pu kd me wc po wt wf t9.1 t9.2.1 t9.2.2.1 t9.2.2.2.1 t9.2.2.2.2.1 t9.2.2.2.2.2.1 t9.2.2.2.2.2.2.1 t9.2.2.2.2.2.2.2)) (s := (j, mi, tu, sn, go, ca, pl, he)) (d := (0, 0, 0, 0, 0, 0, (fun _ => 0), (fun _ => 0))) (n := m1) c7)).trans (Eq.trans ?_ (congrArg Prod.fst (fl_wh_l (step := (fun t9 : Int × Int × Int × Int × (Nat → Int) => Sf_X8_nextGone_10_1 sd r t f g0 t9.1 t9.2.1 t9.2.2.1 t9.2.2.2.1 t9.2.2.2.2)) (s := (j, y1, y2, y3, st)) (d := (0, 0, 0, 0, (fun _ => 0))) (n := m2) c8)).symm)
      exact ih m1 m2 (j + 1) (mi + 1) tu1 sn1 go1 ca1 tu _ _ pl1 he1 st1 (by omega) (by omega) (by omega) e3 (by omega)
    · have c7 : Sf_X7_minutesTillGone_11_1 300 g0 fg sp sa ti pu kd me wc po wt wf j mi tu sn go ca pl he = .inr (j, mi + 1, tu1, sn1, go1, ca1, pl1, he1) := by
        unfold Sf_X7_minutesTillGone_11_1
        rw [if_neg (by omega), e1, fl_c7_eq rfl, if_neg hq]
      have c8 : Sf_X8_nextGone_10_1 sd r t f g0 j y1 y2 y3 st = .inr (j, tu, (if Ff_X7_hasBit go1 tu = 1 then -1 else pl1 tu.toNat), (Ff_X0_partSaid tu (fl_iadd sn 1) kd me), st1) := by
        unfold Sf_X8_nextGone_10_1
        rw [if_neg (by omega), e2, fl_c4_eq rfl, ← v4, fl_lt_eq rfl, if_neg hq]
      refine (congrArg Prod.fst (fl_wh_r (step := (fun t9 : Int × Int × Int × Int × Int × Int × (Nat → Int) × (Nat → Int) => Sf_X7_minutesTillGone_11_1 300 g0 fg sp sa ti pu kd me wc po wt wf t9.1 t9.2.1 t9.2.2.1 t9.2.2.2.1 t9.2.2.2.2.1 t9.2.2.2.2.2.1 t9.2.2.2.2.2.2.1 t9.2.2.2.2.2.2.2)) (s := (j, mi, tu, sn, go, ca, pl, he)) (d := (0, 0, 0, 0, 0, 0, (fun _ => 0), (fun _ => 0))) (n := m1) c7)).trans (Eq.trans ?_ (congrArg Prod.fst (fl_wh_r (step := (fun t9 : Int × Int × Int × Int × (Nat → Int) => Sf_X8_nextGone_10_1 sd r t f g0 t9.1 t9.2.1 t9.2.2.1 t9.2.2.2.1 t9.2.2.2.2)) (s := (j, y1, y2, y3, st)) (d := (0, 0, 0, 0, (fun _ => 0))) (n := m2) c8)).symm)
      rfl
theorem lr_stairs {vi vm : Nat → Int32} {vf vn : Nat → Nat → Int32} (hH : lr_H vi vf vm vn) (hV : lr_V vi vf vm vn) (hMo : vm 11 = 0 ∨ (vm 11 = 1 ∧ ((∀ k : Nat, 0 ≤ k → k ≤ 0 → (2 : Int) ≤ ((vn 2) k).toInt ∧ ((vn 2) k).toInt ≤ 9) ∧ (∀ k : Nat, 1 ≤ k → k ≤ 1 → (1 : Int) ≤ ((vn 2) k).toInt ∧ ((vn 2) k).toInt ≤ 20) ∧ (∀ k : Nat, 2 ≤ k → k ≤ 2 → (0 : Int) ≤ ((vn 2) k).toInt ∧ ((vn 2) k).toInt ≤ 8) ∧ (∀ k : Nat, 3 ≤ k → k ≤ 3 → (0 : Int) ≤ ((vn 2) k).toInt ∧ ((vn 2) k).toInt ≤ 100) ∧ (∀ k : Nat, 4 ≤ k → k ≤ 4 → (0 : Int) ≤ ((vn 2) k).toInt ∧ ((vn 2) k).toInt ≤ 9) ∧ (∀ k : Nat, 5 ≤ k → k ≤ 5 → (0 : Int) ≤ ((vn 2) k).toInt ∧ ((vn 2) k).toInt ≤ 3) ∧ (∀ k : Nat, 6 ≤ k → k ≤ 6 → (0 : Int) ≤ ((vn 2) k).toInt ∧ ((vn 2) k).toInt ≤ 6) ∧ (∀ k : Nat, 7 ≤ k → k ≤ 9 → (0 : Int) ≤ ((vn 2) k).toInt ∧ ((vn 2) k).toInt ≤ 8) ∧ (∀ k : Nat, 12 ≤ k → k ≤ 29 → (0 : Int) ≤ ((vn 2) k).toInt ∧ ((vn 2) k).toInt ≤ 20) ∧ (∀ k : Nat, 30 ≤ k → k ≤ 35 → (0 : Int) ≤ ((vn 2) k).toInt ∧ ((vn 2) k).toInt ≤ 8) ∧ (∀ k : Nat, 36 ≤ k → k ≤ 47 → (0 : Int) ≤ ((vn 2) k).toInt ∧ ((vn 2) k).toInt ≤ 999)) ∧ ((∀ (j i0 i : Int32), (0 : Int) ≤ j.toInt → j.toInt ≤ 8 → i0.toInt = 12 + 2 * j.toInt → i.toInt = 13 + 2 * j.toInt → ((vn 2) i0.toNatClampNeg).toInt = (1 : Int32).toInt → (1 : Int) ≤ ((vn 2) i.toNatClampNeg).toInt)))) {b : Int} (hb : (vm 11 = 0 ∧ b = (Ff0_X8_stairs (vm 11).toInt).1) ∨ (vm 11 = 1 ∧ b = (Ff_X8_stairs (vm 11).toInt (vm 15).toInt (vm 16).toInt (vm 17).toInt (fl_A (vn 2)) (fl_A (vn 8)) (fl_A (vn 9)) (fl_A (vn 4)) (fl_A (vn 5))).1)) : (Ff_X7_stairs (vi 33).toInt (vi 34).toInt (vi 35).toInt (vi 38).toInt (vi 39).toInt (vi 17).toInt (vi 18).toInt (vi 19).toInt (vi 20).toInt (vi 21).toInt (vi 12).toInt (vi 13).toInt (vi 14).toInt (vi 15).toInt (vi 16).toInt (fl_A (vf 1)) (fl_A (vf 3)) (fl_A (vf 2)) (fl_A (vf 4)) (fl_A (vf 11)) (fl_A (vf 12)) (vi 53).toInt (vi 54).toInt (fl_A (vf 20)) (fl_A (vf 19))).1 = b := by
  rcases hb with ⟨z, hb⟩ | ⟨z, hb⟩
  · obtain ⟨e1, e2, e3⟩ := lr_0 hH z
    obtain ⟨v54, v⟩ := hV
    rcases v with ⟨-, v12, v24, v25, u12, u13⟩ | ⟨z0, -⟩
    rotate_left
    · rw [z] at z0; exact absurd z0 (by decide)
    rw [hb, e1, e2]
    rfl
  · obtain ⟨e1, e2, e3⟩ := lr_1 hH z
    rcases hMo with z0 | ⟨-, hrs, hkm⟩
    · rw [z] at z0; exact absurd z0 (by decide)
    obtain ⟨hG, hD, -⟩ := lr_G hH z hrs hkm
    obtain ⟨v54, v⟩ := hV
    have hD := hD v54.1
    rcases v with ⟨z0, -⟩ | ⟨-, hS, hm, hU, hN, hHi, hIm⟩
    · rw [z] at z0; exact absurd z0 (by decide)
    obtain ⟨⟨s1, s2, s3, s4, s5⟩, m0, ⟨t0, t1⟩, ⟨n0, n1⟩, ⟨g0, g1⟩, hk⟩ := id hS
    obtain ⟨⟨f1, f2, f3⟩, ⟨sp1, sp2, sp3⟩, ⟨sa1, sa2, sa3⟩, ⟨ti1, ti2, ti3⟩, ⟨pu1, pu2, pu3⟩, hkd⟩ := id hG
    rw [hb, e1]
    have hg : ¬ (vi 33).toInt ≤ 0 := by omega
    obtain ⟨pl7, he7, st7, fr7, to7, b1, b2, b3, b4⟩ : ∃ (pl7 he7 st7 fr7 to7 : Nat → Int), Ff_X5_copyFrom (vi 12).toInt (vi 13).toInt (vi 14).toInt (vi 15).toInt (vi 16).toInt (fl_A (vf 1)) (fl_A (vf 3)) (fl_A (vf 2)) (fl_A (vf 4)) = ((vi 12).toInt, (vi 13).toInt, (vi 14).toInt, (vi 15).toInt, (vi 16).toInt, pl7, he7) ∧ Ff_X8_begin (fl_A (vn 2)) (fl_A (vn 8)) (fl_A (vn 9)) (fl_A (vn 4)) (fl_A (vn 5)) = (0, fr7, to7, st7) ∧ rs_W (vi 53).toInt (vi 54).toInt (fl_A (vf 19)) (fl_A (vf 20)) 0 (fl_A (vn 2)) fr7 to7 ∧ rs_S (vi 33).toInt (vi 34).toInt (fl_A (vf 11)) (vi 12).toInt (vi 13).toInt (vi 14).toInt (vi 15).toInt (vi 16).toInt pl7 he7 st7 := rs_beg f3 hD hS _ _ _ _ _
    obtain ⟨⟨u1, u2, u3, u4, u5⟩, -, -, -, -, uk⟩ := id b4
    have q := rs_ng (g0 := (vi 15).toInt) hG b3 300 729 301 1 (vi 12).toInt (vi 13).toInt (vi 14).toInt (vi 15).toInt (vi 16).toInt (vm 15).toInt (vm 16).toInt (vm 17).toInt pl7 he7 st7 (by omega) (by omega) (by omega) b4 (by omega)
    unfold Ff_X7_stairs Ff_X8_stairs Ff_X8_good Ff_X7_hasGallery
    rw [if_neg hg, b1, b2, fl_c2_eq (t := ((0 : Int), (0 : Int))) rfl, if_neg (by decide), fl_c4_eq rfl]
    unfold Ff_X7_minutesTillGone Ff_X8_nextGone
    rw [← u4]
    exact q
theorem rs_hdl {a n v0 v11 fg sp sa ti pu wc po sd : Int} {kd me wf wt r f t : Nat → Int} (hG : rs_G fg sp sa ti pu kd me r) (hW : rs_W wc po wf wt sd r f t) (ha : 0 ≤ a ∧ a < fg) :
    ∀ (d m1 m2 : Nat) (j mi tu sn go ca y1 y2 y3 : Int) (pl he st : Nat → Int), n - j = (d : Int) → d + 1 ≤ m1 → d + 1 ≤ m2 → rs_S fg sp kd mi tu sn go ca pl he st → mi + (d : Int) ≤ 20000 → 
    (fun z9 : Int × Int × Int × Int × Int × (Nat → Int) × (Nat → Int) => z9.2.2.2.2.2.2 a.toNat) (fl_wh (fun t9 : Int × Int × Int × Int × Int × Int × (Nat → Int) × (Nat → Int) => Sf_X7_passAhead_2_1 n fg sp sa ti pu kd me wc po wt wf t9.1 t9.2.1 t9.2.2.1 t9.2.2.2.1 t9.2.2.2.2.1 t9.2.2.2.2.2.1 t9.2.2.2.2.2.2.1 t9.2.2.2.2.2.2.2) (0, 0, 0, 0, 0, (fun _ => 0), (fun _ => 0)) m1 (j, mi, tu, sn, go, ca, pl, he)) = Prod.fst (fl_wh (fun t9 : Int × Int × Int × Int × (Nat → Int) => Sf_X8_heard_43_1 a n r v0 v11 sd f t t9.1 t9.2.1 t9.2.2.1 t9.2.2.2.1 t9.2.2.2.2) (0, 0, 0, 0, 0, 0, 0, (fun _ => 0), (fun _ => 0), (fun _ => 0)) m2 (j, y1, y2, y3, st)) := by
  intro d
  induction d with
  | zero =>
    intro m1 m2 j mi tu sn go ca y1 y2 y3 pl he st hd h1 h2 hS hm
    obtain ⟨m1, rfl⟩ : ∃ q, m1 = q + 1 := ⟨m1 - 1, by omega⟩
    obtain ⟨m2, rfl⟩ : ∃ q, m2 = q + 1 := ⟨m2 - 1, by omega⟩
    obtain ⟨-, -, -, -, -, hk⟩ := id hS
    have c7 : Sf_X7_passAhead_2_1 n fg sp sa ti pu kd me wc po wt wf j mi tu sn go ca pl he = .inr (mi, tu, sn, go, ca, pl, he) := by
      unfold Sf_X7_passAhead_2_1
      rw [if_pos (by omega)]
    have c8 : Sf_X8_heard_43_1 a n r v0 v11 sd f t j y1 y2 y3 st = .inr (st (9 + a).toNat, v0, v11, sd, y1, y2, y3, f, t, st) := by
      unfold Sf_X8_heard_43_1
      rw [if_pos (by omega)]
      rfl
    refine (congrArg (fun z9 : Int × Int × Int × Int × Int × (Nat → Int) × (Nat → Int) => z9.2.2.2.2.2.2 a.toNat) (fl_wh_r (step := (fun t9 : Int × Int × Int × Int × Int × Int × (Nat → Int) × (Nat → Int) => Sf_X7_passAhead_2_1 n fg sp sa ti pu kd me wc po wt wf t9.1 t9.2.1 t9.2.2.1 t9.2.2.2.1 t9.2.2.2.2.1 t9.2.2.2.2.2.1 t9.2.2.2.2.2.2.1 t9.2.2.2.2.2.2.2)) (s := (j, mi, tu, sn, go, ca, pl, he)) (d := (0, 0, 0, 0, 0, (fun _ => 0), (fun _ => 0))) (n := m1) c7)).trans (Eq.trans ?_ (congrArg Prod.fst (fl_wh_r (step := (fun t9 : Int × Int × Int × Int × (Nat → Int) => Sf_X8_heard_43_1 a n r v0 v11 sd f t t9.1 t9.2.1 t9.2.2.1 t9.2.2.2.1 t9.2.2.2.2)) (s := (j, y1, y2, y3, st)) (d := (0, 0, 0, 0, 0, 0, 0, (fun _ => 0), (fun _ => 0), (fun _ => 0))) (n := m2) c8)).symm)
    show he a.toNat = st (9 + a).toNat
    rw [show (9 + a).toNat = 9 + a.toNat by omega]
    exact (hk a.toNat (by omega)).2.1
  | succ d ih =>
    intro m1 m2 j mi tu sn go ca y1 y2 y3 pl he st hd h1 h2 hS hm
    obtain ⟨m1, rfl⟩ : ∃ q, m1 = q + 1 := ⟨m1 - 1, by omega⟩
    obtain ⟨m2, rfl⟩ : ∃ q, m2 = q + 1 := ⟨m2 - 1, by omega⟩
    obtain ⟨⟨s1, s2, s3, s4, s5⟩, m0, ⟨t0, t1⟩, ⟨n0, n1⟩, ⟨g0_, g1_⟩, hk⟩ := id hS
    obtain ⟨tu1, sn1, go1, ca1, pl1, he1, st1, e1, e2, e3⟩ := rs_pass hG hW hS (by omega)
    obtain ⟨⟨v1, v2, v3, v4, v5⟩, -, -, -, -, vk⟩ := id e3
    have c7 : Sf_X7_passAhead_2_1 n fg sp sa ti pu kd me wc po wt wf j mi tu sn go ca pl he = .inl (j + 1, (mi + 1), tu1, sn1, go1, ca1, pl1, he1) := by
      unfold Sf_X7_passAhead_2_1
      rw [if_neg (by omega), e1, fl_c7_eq rfl]
      rfl
    have c8 : Sf_X8_heard_43_1 a n r v0 v11 sd f t j y1 y2 y3 st = .inl (j + 1, tu, (if Ff_X7_hasBit go1 tu = 1 then -1 else pl1 tu.toNat), (Ff_X0_partSaid tu (fl_iadd sn 1) kd me), st1) := by
      unfold Sf_X8_heard_43_1
      rw [if_neg (by omega), e2, fl_c4_eq rfl]
      rfl
    refine (congrArg (fun z9 : Int × Int × Int × Int × Int × (Nat → Int) × (Nat → Int) => z9.2.2.2.2.2.2 a.toNat) (fl_wh_l (step := (fun t9 : Int × Int × Int × Int × Int × Int × (Nat → Int) × (Nat → Int) => Sf_X7_passAhead_2_1 n fg sp sa ti pu kd me wc po wt wf t9.1 t9.2.1 t9.2.2.1 t9.2.2.2.1 t9.2.2.2.2.1 t9.2.2.2.2.2.1 t9.2.2.2.2.2.2.1 t9.2.2.2.2.2.2.2)) (s := (j, mi, tu, sn, go, ca, pl, he)) (d := (0, 0, 0, 0, 0, (fun _ => 0), (fun _ => 0))) (n := m1) c7)).trans (Eq.trans ?_ (congrArg Prod.fst (fl_wh_l (step := (fun t9 : Int × Int × Int × Int × (Nat → Int) => Sf_X8_heard_43_1 a n r v0 v11 sd f t t9.1 t9.2.1 t9.2.2.1 t9.2.2.2.1 t9.2.2.2.2)) (s := (j, y1, y2, y3, st)) (d := (0, 0, 0, 0, 0, 0, 0, (fun _ => 0), (fun _ => 0), (fun _ => 0))) (n := m2) c8)).symm)
    exact ih m1 m2 (j + 1) (mi + 1) tu1 sn1 go1 ca1 tu _ _ pl1 he1 st1 (by omega) (by omega) (by omega) e3 (by omega)
theorem lr_heard {vi vm : Nat → Int32} {vf vn : Nat → Nat → Int32} (hH : lr_H vi vf vm vn) (hV : lr_V vi vf vm vn) (hMo : vm 11 = 0 ∨ (vm 11 = 1 ∧ ((∀ k : Nat, 0 ≤ k → k ≤ 0 → (2 : Int) ≤ ((vn 2) k).toInt ∧ ((vn 2) k).toInt ≤ 9) ∧ (∀ k : Nat, 1 ≤ k → k ≤ 1 → (1 : Int) ≤ ((vn 2) k).toInt ∧ ((vn 2) k).toInt ≤ 20) ∧ (∀ k : Nat, 2 ≤ k → k ≤ 2 → (0 : Int) ≤ ((vn 2) k).toInt ∧ ((vn 2) k).toInt ≤ 8) ∧ (∀ k : Nat, 3 ≤ k → k ≤ 3 → (0 : Int) ≤ ((vn 2) k).toInt ∧ ((vn 2) k).toInt ≤ 100) ∧ (∀ k : Nat, 4 ≤ k → k ≤ 4 → (0 : Int) ≤ ((vn 2) k).toInt ∧ ((vn 2) k).toInt ≤ 9) ∧ (∀ k : Nat, 5 ≤ k → k ≤ 5 → (0 : Int) ≤ ((vn 2) k).toInt ∧ ((vn 2) k).toInt ≤ 3) ∧ (∀ k : Nat, 6 ≤ k → k ≤ 6 → (0 : Int) ≤ ((vn 2) k).toInt ∧ ((vn 2) k).toInt ≤ 6) ∧ (∀ k : Nat, 7 ≤ k → k ≤ 9 → (0 : Int) ≤ ((vn 2) k).toInt ∧ ((vn 2) k).toInt ≤ 8) ∧ (∀ k : Nat, 12 ≤ k → k ≤ 29 → (0 : Int) ≤ ((vn 2) k).toInt ∧ ((vn 2) k).toInt ≤ 20) ∧ (∀ k : Nat, 30 ≤ k → k ≤ 35 → (0 : Int) ≤ ((vn 2) k).toInt ∧ ((vn 2) k).toInt ≤ 8) ∧ (∀ k : Nat, 36 ≤ k → k ≤ 47 → (0 : Int) ≤ ((vn 2) k).toInt ∧ ((vn 2) k).toInt ≤ 999)) ∧ ((∀ (j i0 i : Int32), (0 : Int) ≤ j.toInt → j.toInt ≤ 8 → i0.toInt = 12 + 2 * j.toInt → i.toInt = 13 + 2 * j.toInt → ((vn 2) i0.toNatClampNeg).toInt = (1 : Int32).toInt → (1 : Int) ≤ ((vn 2) i.toNatClampNeg).toInt)))) (a n : Int) {b : Int} (hb : (vm 11 = 0 ∧ b = (Ff0_X8_heard n (vm 11).toInt).1) ∨ (vm 11 = 1 ∧ b = (Ff_X8_heard a n (vm 11).toInt (vm 14).toInt (vm 15).toInt (vm 16).toInt (vm 17).toInt (fl_A (vn 2)) (fl_A (vn 8)) (fl_A (vn 9)) (fl_A (vn 4)) (fl_A (vn 5))).1)) : (Ff_X7_heard a n (vi 33).toInt (vi 34).toInt (vi 35).toInt (vi 38).toInt (vi 39).toInt (vi 17).toInt (vi 18).toInt (vi 19).toInt (vi 20).toInt (vi 21).toInt (vi 12).toInt (vi 13).toInt (vi 14).toInt (vi 15).toInt (vi 16).toInt (fl_A (vf 1)) (fl_A (vf 3)) (fl_A (vf 2)) (fl_A (vf 4)) (fl_A (vf 11)) (fl_A (vf 12)) (vi 53).toInt (vi 54).toInt (fl_A (vf 20)) (fl_A (vf 19))).1 = b := by
  rcases hb with ⟨z, hb⟩ | ⟨z, hb⟩
  · obtain ⟨e1, e2, e3⟩ := lr_0 hH z
    obtain ⟨v54, v⟩ := hV
    rcases v with ⟨-, v12, v24, v25, u12, u13⟩ | ⟨z0, -⟩
    rotate_left
    · rw [z] at z0; exact absurd z0 (by decide)
    rw [hb, e1, e2]
    unfold Ff_X7_heard Ff0_X8_heard Ff0_X8_isFigure Ff_X8_good
    rw [rs_tfw, if_neg (by omega), rs_aw0z]
    rfl
  · obtain ⟨e1, e2, e3⟩ := lr_1 hH z
    rcases hMo with z0 | ⟨-, hrs, hkm⟩
    · rw [z] at z0; exact absurd z0 (by decide)
    obtain ⟨hG, hD, -⟩ := lr_G hH z hrs hkm
    obtain ⟨v54, v⟩ := hV
    have hD := hD v54.1
    rcases v with ⟨z0, -⟩ | ⟨-, hS, hm, hU, hN, hHi, hIm⟩
    · rw [z] at z0; exact absurd z0 (by decide)
    obtain ⟨⟨s1, s2, s3, s4, s5⟩, m0, ⟨t0, t1⟩, ⟨n0, n1⟩, ⟨g0, g1⟩, hk⟩ := id hS
    obtain ⟨⟨f1, f2, f3⟩, ⟨sp1, sp2, sp3⟩, ⟨sa1, sa2, sa3⟩, ⟨ti1, ti2, ti3⟩, ⟨pu1, pu2, pu3⟩, hkd⟩ := id hG
    rw [hb, e1]
    by_cases h : 0 ≤ a ∧ a ≤ (vi 33).toInt - 1
    · by_cases hn : 0 ≤ n ∧ n ≤ 300
      · have hT : a.toNat < 9 := by omega
        obtain ⟨pl7, he7, st7, fr7, to7, b1, b2, b3, b4⟩ : ∃ (pl7 he7 st7 fr7 to7 : Nat → Int), Ff_X5_copyFrom (vi 12).toInt (vi 13).toInt (vi 14).toInt (vi 15).toInt (vi 16).toInt (fl_A (vf 1)) (fl_A (vf 3)) (fl_A (vf 2)) (fl_A (vf 4)) = ((vi 12).toInt, (vi 13).toInt, (vi 14).toInt, (vi 15).toInt, (vi 16).toInt, pl7, he7) ∧ Ff_X8_begin (fl_A (vn 2)) (fl_A (vn 8)) (fl_A (vn 9)) (fl_A (vn 4)) (fl_A (vn 5)) = (0, fr7, to7, st7) ∧ rs_W (vi 53).toInt (vi 54).toInt (fl_A (vf 19)) (fl_A (vf 20)) 0 (fl_A (vn 2)) fr7 to7 ∧ rs_S (vi 33).toInt (vi 34).toInt (fl_A (vf 11)) (vi 12).toInt (vi 13).toInt (vi 14).toInt (vi 15).toInt (vi 16).toInt pl7 he7 st7 := rs_beg f3 hD hS _ _ _ _ _
        obtain ⟨⟨u1, u2, u3, u4, u5⟩, -, -, -, -, uk⟩ := id b4
        unfold Ff_X7_heard Ff_X8_heard Ff_X8_good
        rw [rs_tfw, if_pos h, if_pos hn, fl_c2_eq (t := ((0 : Int), (0 : Int))) rfl, rs_isfm, if_pos (by rw [← f1]; exact h), rs_aw1, if_pos hn, b1, b2]
        have b5 := rs_S_he f3 b4 (T := a.toNat) hT 0
        have q := rs_hdl (a := a) (n := n) (v0 := 0) (v11 := 0) hG b3 ⟨h.1, by omega⟩ n.toNat 2147483648 301 0 (vi 12).toInt (vi 13).toInt (vi 14).toInt (vi 15).toInt (vi 16).toInt (vm 15).toInt (vm 16).toInt (vm 17).toInt pl7 (fl_up he7 a.toNat 0) (fl_up st7 (9 + a.toNat) 0) (by omega) (by omega) (by omega) b5 (by omega)
        rw [← show (9 + a).toNat = 9 + a.toNat by omega] at q
        exact q
      · unfold Ff_X7_heard Ff_X8_heard Ff_X8_good
        rw [rs_tfw, if_pos h, if_neg hn, fl_c2_eq (t := ((0 : Int), (0 : Int))) rfl, rs_isfm, if_pos (by rw [← f1]; exact h), rs_aw1, if_neg hn]
        rfl
    · unfold Ff_X7_heard Ff_X8_heard Ff_X8_good
      rw [rs_tfw, if_neg h, fl_c2_eq (t := ((0 : Int), (0 : Int))) rfl, rs_isfm, if_neg (by rw [← f1]; exact h), rs_aw0]
      rfl
theorem rs_orn (x y : Int) : (Int32.ofInt (fl_or x y)).toInt = fl_or x y := by
  unfold fl_or
  rw [Int32.ofInt_toInt]
theorem rs_or0 {x : Int} (h : (Int32.ofInt x).toInt = x) : fl_or x 0 = x := by
  unfold fl_or
  rw [show Int32.ofInt 0 = 0 from rfl, Int32.or_zero]
  exact h
theorem rs_spl {a n v0 v11 fg sp sa ti pu wc po sd : Int} {kd me wf wt r f t : Nat → Int} (hG : rs_G fg sp sa ti pu kd me r) (hW : rs_W wc po wf wt sd r f t) :
    ∀ (d m1 m2 : Nat) (j b mi tu sn go ca y1 y2 y3 : Int) (pl he st : Nat → Int), n - j = (d : Int) → d + 1 ≤ m1 → d + 1 ≤ m2 → rs_S fg sp kd mi tu sn go ca pl he st → mi + (d : Int) ≤ 20000 → (Int32.ofInt b).toInt = b →
    Prod.fst (fl_wh (fun t9 : Int × Int × Int × Int × Int × Int × Int × (Nat → Int) × (Nat → Int) => Sf_X7_spoken_37_1 a n fg sp sa ti pu kd me wc po wt wf t9.1 t9.2.1 t9.2.2.1 t9.2.2.2.1 t9.2.2.2.2.1 t9.2.2.2.2.2.1 t9.2.2.2.2.2.2.1 t9.2.2.2.2.2.2.2.1 t9.2.2.2.2.2.2.2.2) (0, 0, 0, 0, 0, 0, 0, (fun _ => 0), (fun _ => 0)) m1 (j, b, mi, tu, sn, go, ca, pl, he)) = Prod.fst (fl_wh (fun t9 : Int × Int × Int × Int × Int × (Nat → Int) => Sf_X8_spoken_36_1 a n r v0 v11 sd f t t9.1 t9.2.1 t9.2.2.1 t9.2.2.2.1 t9.2.2.2.2.1 t9.2.2.2.2.2) (0, 0, 0, 0, 0, 0, 0, (fun _ => 0), (fun _ => 0), (fun _ => 0)) m2 (j, b, y1, y2, y3, st)) := by
  intro d
  induction d with
  | zero =>
    intro m1 m2 j b mi tu sn go ca y1 y2 y3 pl he st hd h1 h2 hS hm hb
    obtain ⟨m1, rfl⟩ : ∃ q, m1 = q + 1 := ⟨m1 - 1, by omega⟩
    obtain ⟨m2, rfl⟩ : ∃ q, m2 = q + 1 := ⟨m2 - 1, by omega⟩
    have c7 : Sf_X7_spoken_37_1 a n fg sp sa ti pu kd me wc po wt wf j b mi tu sn go ca pl he = .inr (b, 0, mi, tu, sn, go, ca, pl, he) := by
      unfold Sf_X7_spoken_37_1
      rw [if_pos (by omega)]
      rfl
    have c8 : Sf_X8_spoken_36_1 a n r v0 v11 sd f t j b y1 y2 y3 st = .inr (b, v0, v11, sd, y1, y2, y3, f, t, st) := by
      unfold Sf_X8_spoken_36_1
      rw [if_pos (by omega)]
    refine (congrArg Prod.fst (fl_wh_r (step := (fun t9 : Int × Int × Int × Int × Int × Int × Int × (Nat → Int) × (Nat → Int) => Sf_X7_spoken_37_1 a n fg sp sa ti pu kd me wc po wt wf t9.1 t9.2.1 t9.2.2.1 t9.2.2.2.1 t9.2.2.2.2.1 t9.2.2.2.2.2.1 t9.2.2.2.2.2.2.1 t9.2.2.2.2.2.2.2.1 t9.2.2.2.2.2.2.2.2)) (s := (j, b, mi, tu, sn, go, ca, pl, he)) (d := (0, 0, 0, 0, 0, 0, 0, (fun _ => 0), (fun _ => 0))) (n := m1) c7)).trans (Eq.trans ?_ (congrArg Prod.fst (fl_wh_r (step := (fun t9 : Int × Int × Int × Int × Int × (Nat → Int) => Sf_X8_spoken_36_1 a n r v0 v11 sd f t t9.1 t9.2.1 t9.2.2.1 t9.2.2.2.1 t9.2.2.2.2.1 t9.2.2.2.2.2)) (s := (j, b, y1, y2, y3, st)) (d := (0, 0, 0, 0, 0, 0, 0, (fun _ => 0), (fun _ => 0), (fun _ => 0))) (n := m2) c8)).symm)
    rfl
  | succ d ih =>
    intro m1 m2 j b mi tu sn go ca y1 y2 y3 pl he st hd h1 h2 hS hm hb
    obtain ⟨m1, rfl⟩ : ∃ q, m1 = q + 1 := ⟨m1 - 1, by omega⟩
    obtain ⟨m2, rfl⟩ : ∃ q, m2 = q + 1 := ⟨m2 - 1, by omega⟩
    obtain ⟨⟨s1, s2, s3, s4, s5⟩, m0, ⟨t0, t1⟩, ⟨n0, n1⟩, ⟨g0_, g1_⟩, hk⟩ := id hS
    obtain ⟨tu1, sn1, go1, ca1, pl1, he1, st1, e1, e2, e3⟩ := rs_pass hG hW hS (by omega)
    obtain ⟨⟨v1, v2, v3, v4, v5⟩, -, -, -, -, vk⟩ := id e3
    by_cases hq : tu = a
    · subst hq
      have c7 : Sf_X7_spoken_37_1 tu n fg sp sa ti pu kd me wc po wt wf j b mi tu sn go ca pl he = .inl (j + 1, (fl_or b (Ff_X0_partSaid tu (fl_iadd sn 1) kd me)), (mi + 1), tu1, sn1, go1, ca1, pl1, he1) := by
        unfold Sf_X7_spoken_37_1
        rw [if_neg (by omega), if_pos rfl, fl_lt_eq rfl, fl_lt_eq rfl, fl_lt_eq rfl]
        unfold Gf_X7_spoken_76_1
        rw [e1, fl_c7_eq rfl]
        rfl
      have c8 : Sf_X8_spoken_36_1 tu n r v0 v11 sd f t j b y1 y2 y3 st = .inl (j + 1, (fl_or b (Ff_X0_partSaid tu (fl_iadd sn 1) kd me)), tu, (if Ff_X7_hasBit go1 tu = 1 then -1 else pl1 tu.toNat), (Ff_X0_partSaid tu (fl_iadd sn 1) kd me), st1) := by
        unfold Sf_X8_spoken_36_1
        rw [if_neg (by omega), e2, fl_c4_eq rfl, if_pos rfl]
        rfl
      refine (congrArg Prod.fst (fl_wh_l (step := (fun t9 : Int × Int × Int × Int × Int × Int × Int × (Nat → Int) × (Nat → Int) => Sf_X7_spoken_37_1 tu n fg sp sa ti pu kd me wc po wt wf t9.1 t9.2.1 t9.2.2.1 t9.2.2.2.1 t9.2.2.2.2.1 t9.2.2.2.2.2.1 t9.2.2.2.2.2.2.1 t9.2.2.2.2.2.2.2.1 t9.2.2.2.2.2.2.2.2)) (s := (j, b, mi, tu, sn, go, ca, pl, he)) (d := (0, 0, 0, 0, 0, 0, 0, (fun _ => 0), (fun _ => 0))) (n := m1) c7)).trans (Eq.trans ?_ (congrArg Prod.fst (fl_wh_l (step := (fun t9 : Int × Int × Int × Int × Int × (Nat → Int) => Sf_X8_spoken_36_1 tu n r v0 v11 sd f t t9.1 t9.2.1 t9.2.2.1 t9.2.2.2.1 t9.2.2.2.2.1 t9.2.2.2.2.2)) (s := (j, b, y1, y2, y3, st)) (d := (0, 0, 0, 0, 0, 0, 0, (fun _ => 0), (fun _ => 0), (fun _ => 0))) (n := m2) c8)).symm)
      exact ih m1 m2 (j + 1) (fl_or b (Ff_X0_partSaid tu (fl_iadd sn 1) kd me)) (mi + 1) tu1 sn1 go1 ca1 tu _ _ pl1 he1 st1 (by omega) (by omega) (by omega) e3 (by omega) (rs_orn b _)
    · have c7 : Sf_X7_spoken_37_1 a n fg sp sa ti pu kd me wc po wt wf j b mi tu sn go ca pl he = .inl (j + 1, b, (mi + 1), tu1, sn1, go1, ca1, pl1, he1) := by
        unfold Sf_X7_spoken_37_1
        rw [if_neg (by omega), if_neg hq]
        unfold Gf_X7_spoken_76_1
        rw [e1, fl_c7_eq rfl]
        rfl
      have c8 : Sf_X8_spoken_36_1 a n r v0 v11 sd f t j b y1 y2 y3 st = .inl (j + 1, b, tu, (if Ff_X7_hasBit go1 tu = 1 then -1 else pl1 tu.toNat), (Ff_X0_partSaid tu (fl_iadd sn 1) kd me), st1) := by
        unfold Sf_X8_spoken_36_1
        rw [if_neg (by omega), e2, fl_c4_eq rfl, if_neg hq]
        unfold Gf_X8_spoken_68_1
        rw [rs_or0 hb]
        rfl
      refine (congrArg Prod.fst (fl_wh_l (step := (fun t9 : Int × Int × Int × Int × Int × Int × Int × (Nat → Int) × (Nat → Int) => Sf_X7_spoken_37_1 a n fg sp sa ti pu kd me wc po wt wf t9.1 t9.2.1 t9.2.2.1 t9.2.2.2.1 t9.2.2.2.2.1 t9.2.2.2.2.2.1 t9.2.2.2.2.2.2.1 t9.2.2.2.2.2.2.2.1 t9.2.2.2.2.2.2.2.2)) (s := (j, b, mi, tu, sn, go, ca, pl, he)) (d := (0, 0, 0, 0, 0, 0, 0, (fun _ => 0), (fun _ => 0))) (n := m1) c7)).trans (Eq.trans ?_ (congrArg Prod.fst (fl_wh_l (step := (fun t9 : Int × Int × Int × Int × Int × (Nat → Int) => Sf_X8_spoken_36_1 a n r v0 v11 sd f t t9.1 t9.2.1 t9.2.2.1 t9.2.2.2.1 t9.2.2.2.2.1 t9.2.2.2.2.2)) (s := (j, b, y1, y2, y3, st)) (d := (0, 0, 0, 0, 0, 0, 0, (fun _ => 0), (fun _ => 0), (fun _ => 0))) (n := m2) c8)).symm)
      exact ih m1 m2 (j + 1) b (mi + 1) tu1 sn1 go1 ca1 tu _ _ pl1 he1 st1 (by omega) (by omega) (by omega) e3 (by omega) hb
theorem lr_spoken {vi vm : Nat → Int32} {vf vn : Nat → Nat → Int32} (hH : lr_H vi vf vm vn) (hV : lr_V vi vf vm vn) (hMo : vm 11 = 0 ∨ (vm 11 = 1 ∧ ((∀ k : Nat, 0 ≤ k → k ≤ 0 → (2 : Int) ≤ ((vn 2) k).toInt ∧ ((vn 2) k).toInt ≤ 9) ∧ (∀ k : Nat, 1 ≤ k → k ≤ 1 → (1 : Int) ≤ ((vn 2) k).toInt ∧ ((vn 2) k).toInt ≤ 20) ∧ (∀ k : Nat, 2 ≤ k → k ≤ 2 → (0 : Int) ≤ ((vn 2) k).toInt ∧ ((vn 2) k).toInt ≤ 8) ∧ (∀ k : Nat, 3 ≤ k → k ≤ 3 → (0 : Int) ≤ ((vn 2) k).toInt ∧ ((vn 2) k).toInt ≤ 100) ∧ (∀ k : Nat, 4 ≤ k → k ≤ 4 → (0 : Int) ≤ ((vn 2) k).toInt ∧ ((vn 2) k).toInt ≤ 9) ∧ (∀ k : Nat, 5 ≤ k → k ≤ 5 → (0 : Int) ≤ ((vn 2) k).toInt ∧ ((vn 2) k).toInt ≤ 3) ∧ (∀ k : Nat, 6 ≤ k → k ≤ 6 → (0 : Int) ≤ ((vn 2) k).toInt ∧ ((vn 2) k).toInt ≤ 6) ∧ (∀ k : Nat, 7 ≤ k → k ≤ 9 → (0 : Int) ≤ ((vn 2) k).toInt ∧ ((vn 2) k).toInt ≤ 8) ∧ (∀ k : Nat, 12 ≤ k → k ≤ 29 → (0 : Int) ≤ ((vn 2) k).toInt ∧ ((vn 2) k).toInt ≤ 20) ∧ (∀ k : Nat, 30 ≤ k → k ≤ 35 → (0 : Int) ≤ ((vn 2) k).toInt ∧ ((vn 2) k).toInt ≤ 8) ∧ (∀ k : Nat, 36 ≤ k → k ≤ 47 → (0 : Int) ≤ ((vn 2) k).toInt ∧ ((vn 2) k).toInt ≤ 999)) ∧ ((∀ (j i0 i : Int32), (0 : Int) ≤ j.toInt → j.toInt ≤ 8 → i0.toInt = 12 + 2 * j.toInt → i.toInt = 13 + 2 * j.toInt → ((vn 2) i0.toNatClampNeg).toInt = (1 : Int32).toInt → (1 : Int) ≤ ((vn 2) i.toNatClampNeg).toInt)))) (a n : Int) {b : Int} (hb : (vm 11 = 0 ∧ b = (Ff0_X8_spoken n (vm 11).toInt).1) ∨ (vm 11 = 1 ∧ b = (Ff_X8_spoken a n (vm 11).toInt (vm 14).toInt (vm 15).toInt (vm 16).toInt (vm 17).toInt (fl_A (vn 2)) (fl_A (vn 8)) (fl_A (vn 9)) (fl_A (vn 4)) (fl_A (vn 5))).1)) : (Ff_X7_spoken a n (vi 33).toInt (vi 34).toInt (vi 35).toInt (vi 38).toInt (vi 39).toInt (vi 17).toInt (vi 18).toInt (vi 19).toInt (vi 20).toInt (vi 21).toInt (vi 12).toInt (vi 13).toInt (vi 14).toInt (vi 15).toInt (vi 16).toInt (fl_A (vf 1)) (fl_A (vf 3)) (fl_A (vf 2)) (fl_A (vf 4)) (fl_A (vf 11)) (fl_A (vf 12)) (vi 53).toInt (vi 54).toInt (fl_A (vf 20)) (fl_A (vf 19))).1 = b := by
  rcases hb with ⟨z, hb⟩ | ⟨z, hb⟩
  · obtain ⟨e1, e2, e3⟩ := lr_0 hH z
    obtain ⟨v54, v⟩ := hV
    rcases v with ⟨-, v12, v24, v25, u12, u13⟩ | ⟨z0, -⟩
    rotate_left
    · rw [z] at z0; exact absurd z0 (by decide)
    rw [hb, e1, e2]
    unfold Ff_X7_spoken Ff0_X8_spoken Ff0_X8_isFigure Ff_X8_good
    rw [rs_tfw, if_neg (by omega), rs_aw0z]
    rfl
  · obtain ⟨e1, e2, e3⟩ := lr_1 hH z
    rcases hMo with z0 | ⟨-, hrs, hkm⟩
    · rw [z] at z0; exact absurd z0 (by decide)
    obtain ⟨hG, hD, -⟩ := lr_G hH z hrs hkm
    obtain ⟨v54, v⟩ := hV
    have hD := hD v54.1
    rcases v with ⟨z0, -⟩ | ⟨-, hS, hm, hU, hN, hHi, hIm⟩
    · rw [z] at z0; exact absurd z0 (by decide)
    obtain ⟨⟨s1, s2, s3, s4, s5⟩, m0, ⟨t0, t1⟩, ⟨n0, n1⟩, ⟨g0, g1⟩, hk⟩ := id hS
    obtain ⟨⟨f1, f2, f3⟩, ⟨sp1, sp2, sp3⟩, ⟨sa1, sa2, sa3⟩, ⟨ti1, ti2, ti3⟩, ⟨pu1, pu2, pu3⟩, hkd⟩ := id hG
    rw [hb, e1]
    by_cases h : 0 ≤ a ∧ a ≤ (vi 33).toInt - 1
    · by_cases hn : 0 ≤ n ∧ n ≤ 300
      · have hT : a.toNat < 9 := by omega
        obtain ⟨pl7, he7, st7, fr7, to7, b1, b2, b3, b4⟩ : ∃ (pl7 he7 st7 fr7 to7 : Nat → Int), Ff_X5_copyFrom (vi 12).toInt (vi 13).toInt (vi 14).toInt (vi 15).toInt (vi 16).toInt (fl_A (vf 1)) (fl_A (vf 3)) (fl_A (vf 2)) (fl_A (vf 4)) = ((vi 12).toInt, (vi 13).toInt, (vi 14).toInt, (vi 15).toInt, (vi 16).toInt, pl7, he7) ∧ Ff_X8_begin (fl_A (vn 2)) (fl_A (vn 8)) (fl_A (vn 9)) (fl_A (vn 4)) (fl_A (vn 5)) = (0, fr7, to7, st7) ∧ rs_W (vi 53).toInt (vi 54).toInt (fl_A (vf 19)) (fl_A (vf 20)) 0 (fl_A (vn 2)) fr7 to7 ∧ rs_S (vi 33).toInt (vi 34).toInt (fl_A (vf 11)) (vi 12).toInt (vi 13).toInt (vi 14).toInt (vi 15).toInt (vi 16).toInt pl7 he7 st7 := rs_beg f3 hD hS _ _ _ _ _
        obtain ⟨⟨u1, u2, u3, u4, u5⟩, -, -, -, -, uk⟩ := id b4
        unfold Ff_X7_spoken Ff_X8_spoken Ff_X8_good
        rw [rs_tfw, if_pos h, if_pos hn, fl_c2_eq (t := ((0 : Int), (0 : Int))) rfl, rs_isfm, if_pos (by rw [← f1]; exact h), rs_aw1, if_pos hn, b1, b2]
        have q := rs_spl (a := a) (n := n) (v0 := 0) (v11 := 0) hG b3 n.toNat 301 301 0 0 (vi 12).toInt (vi 13).toInt (vi 14).toInt (vi 15).toInt (vi 16).toInt (vm 15).toInt (vm 16).toInt (vm 17).toInt pl7 he7 st7 (by omega) (by omega) (by omega) b4 (by omega) (by decide)
        exact q
      · unfold Ff_X7_spoken Ff_X8_spoken Ff_X8_good
        rw [rs_tfw, if_pos h, if_neg hn, fl_c2_eq (t := ((0 : Int), (0 : Int))) rfl, rs_isfm, if_pos (by rw [← f1]; exact h), rs_aw1, if_neg hn]
        rfl
    · unfold Ff_X7_spoken Ff_X8_spoken Ff_X8_good
      rw [rs_tfw, if_neg h, fl_c2_eq (t := ((0 : Int), (0 : Int))) rfl, rs_isfm, if_neg (by rw [← f1]; exact h), rs_aw0]
      rfl
theorem rs_addn (x y : Int) : (Int32.ofInt (fl_iadd x y)).toInt = fl_iadd x y := by
  unfold fl_iadd
  rw [Int32.ofInt_toInt]
theorem rs_add0 {x : Int} (h : (Int32.ofInt x).toInt = x) : fl_iadd x 0 = x := by
  unfold fl_iadd
  rw [show Int32.ofInt 0 = 0 from rfl, Int32.add_zero]
  exact h
theorem rs_nbl {a n v0 v11 fg sp sa ti pu wc po sd : Int} {kd me wf wt r f t : Nat → Int} (hG : rs_G fg sp sa ti pu kd me r) (hW : rs_W wc po wf wt sd r f t) (ha : 0 ≤ a ∧ a < fg ∧ fg ≤ 9) :
    ∀ (d m1 m2 : Nat) (j b mi tu sn go ca y1 y2 y3 : Int) (pl he st : Nat → Int), n - j = (d : Int) → d + 1 ≤ m1 → d + 1 ≤ m2 → rs_S fg sp kd mi tu sn go ca pl he st → mi + (d : Int) ≤ 20000 → (Int32.ofInt b).toInt = b →
    Prod.fst (fl_wh (fun t9 : Int × Int × Int × Int × Int × Int × Int × (Nat → Int) × (Nat → Int) => Sf_X7_nearBy_37_1 a n fg sp sa ti pu wc po wt wf kd me t9.1 t9.2.1 t9.2.2.1 t9.2.2.2.1 t9.2.2.2.2.1 t9.2.2.2.2.2.1 t9.2.2.2.2.2.2.1 t9.2.2.2.2.2.2.2.1 t9.2.2.2.2.2.2.2.2) (0, 0, 0, 0, 0, 0, 0, (fun _ => 0), (fun _ => 0)) m1 (j, b, mi, tu, sn, go, ca, pl, he)) = Prod.fst (fl_wh (fun t9 : Int × Int × Int × Int × Int × (Nat → Int) => Sf_X8_nearBy_36_1 a n r v0 v11 sd f t t9.1 t9.2.1 t9.2.2.1 t9.2.2.2.1 t9.2.2.2.2.1 t9.2.2.2.2.2) (0, 0, 0, 0, 0, 0, 0, (fun _ => 0), (fun _ => 0), (fun _ => 0)) m2 (j, b, y1, y2, y3, st)) := by
  intro d
  induction d with
  | zero =>
    intro m1 m2 j b mi tu sn go ca y1 y2 y3 pl he st hd h1 h2 hS hm hb
    obtain ⟨m1, rfl⟩ : ∃ q, m1 = q + 1 := ⟨m1 - 1, by omega⟩
    obtain ⟨m2, rfl⟩ : ∃ q, m2 = q + 1 := ⟨m2 - 1, by omega⟩
    have c7 : Sf_X7_nearBy_37_1 a n fg sp sa ti pu wc po wt wf kd me j b mi tu sn go ca pl he = .inr (b, 0, mi, tu, sn, go, ca, pl, he) := by
      unfold Sf_X7_nearBy_37_1
      rw [if_pos (by omega)]
      rfl
    have c8 : Sf_X8_nearBy_36_1 a n r v0 v11 sd f t j b y1 y2 y3 st = .inr (b, v0, v11, sd, y1, y2, y3, f, t, st) := by
      unfold Sf_X8_nearBy_36_1
      rw [if_pos (by omega)]
    refine (congrArg Prod.fst (fl_wh_r (step := (fun t9 : Int × Int × Int × Int × Int × Int × Int × (Nat → Int) × (Nat → Int) => Sf_X7_nearBy_37_1 a n fg sp sa ti pu wc po wt wf kd me t9.1 t9.2.1 t9.2.2.1 t9.2.2.2.1 t9.2.2.2.2.1 t9.2.2.2.2.2.1 t9.2.2.2.2.2.2.1 t9.2.2.2.2.2.2.2.1 t9.2.2.2.2.2.2.2.2)) (s := (j, b, mi, tu, sn, go, ca, pl, he)) (d := (0, 0, 0, 0, 0, 0, 0, (fun _ => 0), (fun _ => 0))) (n := m1) c7)).trans (Eq.trans ?_ (congrArg Prod.fst (fl_wh_r (step := (fun t9 : Int × Int × Int × Int × Int × (Nat → Int) => Sf_X8_nearBy_36_1 a n r v0 v11 sd f t t9.1 t9.2.1 t9.2.2.1 t9.2.2.2.1 t9.2.2.2.2.1 t9.2.2.2.2.2)) (s := (j, b, y1, y2, y3, st)) (d := (0, 0, 0, 0, 0, 0, 0, (fun _ => 0), (fun _ => 0), (fun _ => 0))) (n := m2) c8)).symm)
    rfl
  | succ d ih =>
    intro m1 m2 j b mi tu sn go ca y1 y2 y3 pl he st hd h1 h2 hS hm hb
    obtain ⟨m1, rfl⟩ : ∃ q, m1 = q + 1 := ⟨m1 - 1, by omega⟩
    obtain ⟨m2, rfl⟩ : ∃ q, m2 = q + 1 := ⟨m2 - 1, by omega⟩
    obtain ⟨⟨s1, s2, s3, s4, s5⟩, m0, ⟨t0, t1⟩, ⟨n0, n1⟩, ⟨g0_, g1_⟩, hk⟩ := id hS
    obtain ⟨tu1, sn1, go1, ca1, pl1, he1, st1, e1, e2, e3⟩ := rs_pass hG hW hS (by omega)
    obtain ⟨⟨v1, v2, v3, v4, v5⟩, -, -, -, -, vk⟩ := id e3
    have wv := (rs_wat hW (mi := mi) m0 (by omega)).2.2
    obtain ⟨k1, -, ⟨k3, k4⟩, -⟩ := vk a.toNat (by omega)
    rcases rs_hb01 go1 a with hq | hq
    · have hgi : Ff_X5_isGone a go1 = 0 := by
        unfold Ff_X5_isGone
        rw [hq]
        rfl
      have ew := wv (pl1 a.toNat) k3 k4
      rcases rs_hb01 (Ff_X6_placesIn mi wc po wt wf) (pl1 a.toNat) with hw | hw
      · rw [hw] at ew
        have c7 : Sf_X7_nearBy_37_1 a n fg sp sa ti pu wc po wt wf kd me j b mi tu sn go ca pl he = .inl (j + 1, b, (mi + 1), tu1, sn1, go1, ca1, pl1, he1) := by
          unfold Sf_X7_nearBy_37_1
          rw [if_neg (by omega), fl_lt_eq rfl, e1, fl_c7_eq rfl, hgi, fl_lt_eq rfl, if_neg (by decide), fl_lt_eq rfl, hw, fl_lt_eq rfl, if_neg (by decide)]
          rfl
        have c8 : Sf_X8_nearBy_36_1 a n r v0 v11 sd f t j b y1 y2 y3 st = .inl (j + 1, b, tu, (if Ff_X7_hasBit go1 tu = 1 then -1 else pl1 tu.toNat), (Ff_X0_partSaid tu (fl_iadd sn 1) kd me), st1) := by
          unfold Sf_X8_nearBy_36_1
          rw [if_neg (by omega), fl_lt_eq rfl, e2, fl_c4_eq rfl, ← v4, fl_lt_eq rfl, rs_hb, hq, fl_lt_eq rfl, if_neg (by decide), fl_lt_eq rfl, ← k1, ← s1, ew, fl_lt_eq rfl, if_neg (by decide)]
          unfold Gf_X8_nearBy_94_2 Gf_X8_nearBy_95_2
          rw [rs_add0 hb]
          rfl
        refine (congrArg Prod.fst (fl_wh_l (step := (fun t9 : Int × Int × Int × Int × Int × Int × Int × (Nat → Int) × (Nat → Int) => Sf_X7_nearBy_37_1 a n fg sp sa ti pu wc po wt wf kd me t9.1 t9.2.1 t9.2.2.1 t9.2.2.2.1 t9.2.2.2.2.1 t9.2.2.2.2.2.1 t9.2.2.2.2.2.2.1 t9.2.2.2.2.2.2.2.1 t9.2.2.2.2.2.2.2.2)) (s := (j, b, mi, tu, sn, go, ca, pl, he)) (d := (0, 0, 0, 0, 0, 0, 0, (fun _ => 0), (fun _ => 0))) (n := m1) c7)).trans (Eq.trans ?_ (congrArg Prod.fst (fl_wh_l (step := (fun t9 : Int × Int × Int × Int × Int × (Nat → Int) => Sf_X8_nearBy_36_1 a n r v0 v11 sd f t t9.1 t9.2.1 t9.2.2.1 t9.2.2.2.1 t9.2.2.2.2.1 t9.2.2.2.2.2)) (s := (j, b, y1, y2, y3, st)) (d := (0, 0, 0, 0, 0, 0, 0, (fun _ => 0), (fun _ => 0), (fun _ => 0))) (n := m2) c8)).symm)
        exact ih m1 m2 (j + 1) b (mi + 1) tu1 sn1 go1 ca1 tu _ _ pl1 he1 st1 (by omega) (by omega) (by omega) e3 (by omega) hb
      · rw [hw] at ew
        have c7 : Sf_X7_nearBy_37_1 a n fg sp sa ti pu wc po wt wf kd me j b mi tu sn go ca pl he = .inl (j + 1, (fl_iadd b 1), (mi + 1), tu1, sn1, go1, ca1, pl1, he1) := by
          unfold Sf_X7_nearBy_37_1
          rw [if_neg (by omega), fl_lt_eq rfl, e1, fl_c7_eq rfl, hgi, fl_lt_eq rfl, if_neg (by decide), fl_lt_eq rfl, hw, fl_lt_eq rfl, if_pos rfl]
          rfl
        have c8 : Sf_X8_nearBy_36_1 a n r v0 v11 sd f t j b y1 y2 y3 st = .inl (j + 1, (fl_iadd b 1), tu, (if Ff_X7_hasBit go1 tu = 1 then -1 else pl1 tu.toNat), (Ff_X0_partSaid tu (fl_iadd sn 1) kd me), st1) := by
          unfold Sf_X8_nearBy_36_1
          rw [if_neg (by omega), fl_lt_eq rfl, e2, fl_c4_eq rfl, ← v4, fl_lt_eq rfl, rs_hb, hq, fl_lt_eq rfl, if_neg (by decide), fl_lt_eq rfl, ← k1, ← s1, ew, fl_lt_eq rfl, if_pos rfl]
          rfl
        refine (congrArg Prod.fst (fl_wh_l (step := (fun t9 : Int × Int × Int × Int × Int × Int × Int × (Nat → Int) × (Nat → Int) => Sf_X7_nearBy_37_1 a n fg sp sa ti pu wc po wt wf kd me t9.1 t9.2.1 t9.2.2.1 t9.2.2.2.1 t9.2.2.2.2.1 t9.2.2.2.2.2.1 t9.2.2.2.2.2.2.1 t9.2.2.2.2.2.2.2.1 t9.2.2.2.2.2.2.2.2)) (s := (j, b, mi, tu, sn, go, ca, pl, he)) (d := (0, 0, 0, 0, 0, 0, 0, (fun _ => 0), (fun _ => 0))) (n := m1) c7)).trans (Eq.trans ?_ (congrArg Prod.fst (fl_wh_l (step := (fun t9 : Int × Int × Int × Int × Int × (Nat → Int) => Sf_X8_nearBy_36_1 a n r v0 v11 sd f t t9.1 t9.2.1 t9.2.2.1 t9.2.2.2.1 t9.2.2.2.2.1 t9.2.2.2.2.2)) (s := (j, b, y1, y2, y3, st)) (d := (0, 0, 0, 0, 0, 0, 0, (fun _ => 0), (fun _ => 0), (fun _ => 0))) (n := m2) c8)).symm)
        exact ih m1 m2 (j + 1) (fl_iadd b 1) (mi + 1) tu1 sn1 go1 ca1 tu _ _ pl1 he1 st1 (by omega) (by omega) (by omega) e3 (by omega) (rs_addn b 1)
    · have hgi : Ff_X5_isGone a go1 = 1 := by
        unfold Ff_X5_isGone
        rw [hq]
        rfl
      have c7 : Sf_X7_nearBy_37_1 a n fg sp sa ti pu wc po wt wf kd me j b mi tu sn go ca pl he = .inl (j + 1, b, (mi + 1), tu1, sn1, go1, ca1, pl1, he1) := by
        unfold Sf_X7_nearBy_37_1
        rw [if_neg (by omega), fl_lt_eq rfl, e1, fl_c7_eq rfl, hgi, fl_lt_eq rfl, if_pos rfl]
        rfl
      have c8 : Sf_X8_nearBy_36_1 a n r v0 v11 sd f t j b y1 y2 y3 st = .inl (j + 1, b, tu, (if Ff_X7_hasBit go1 tu = 1 then -1 else pl1 tu.toNat), (Ff_X0_partSaid tu (fl_iadd sn 1) kd me), st1) := by
        unfold Sf_X8_nearBy_36_1
        rw [if_neg (by omega), fl_lt_eq rfl, e2, fl_c4_eq rfl, ← v4, fl_lt_eq rfl, rs_hb, hq, fl_lt_eq rfl, if_pos rfl]
        unfold Gf_X8_nearBy_94_1 Gf_X8_nearBy_95_1
        rw [rs_add0 hb]
        rfl
      refine (congrArg Prod.fst (fl_wh_l (step := (fun t9 : Int × Int × Int × Int × Int × Int × Int × (Nat → Int) × (Nat → Int) => Sf_X7_nearBy_37_1 a n fg sp sa ti pu wc po wt wf kd me t9.1 t9.2.1 t9.2.2.1 t9.2.2.2.1 t9.2.2.2.2.1 t9.2.2.2.2.2.1 t9.2.2.2.2.2.2.1 t9.2.2.2.2.2.2.2.1 t9.2.2.2.2.2.2.2.2)) (s := (j, b, mi, tu, sn, go, ca, pl, he)) (d := (0, 0, 0, 0, 0, 0, 0, (fun _ => 0), (fun _ => 0))) (n := m1) c7)).trans (Eq.trans ?_ (congrArg Prod.fst (fl_wh_l (step := (fun t9 : Int × Int × Int × Int × Int × (Nat → Int) => Sf_X8_nearBy_36_1 a n r v0 v11 sd f t t9.1 t9.2.1 t9.2.2.1 t9.2.2.2.1 t9.2.2.2.2.1 t9.2.2.2.2.2)) (s := (j, b, y1, y2, y3, st)) (d := (0, 0, 0, 0, 0, 0, 0, (fun _ => 0), (fun _ => 0), (fun _ => 0))) (n := m2) c8)).symm)
      exact ih m1 m2 (j + 1) b (mi + 1) tu1 sn1 go1 ca1 tu _ _ pl1 he1 st1 (by omega) (by omega) (by omega) e3 (by omega) hb
theorem lr_nearBy {vi vm : Nat → Int32} {vf vn : Nat → Nat → Int32} (hH : lr_H vi vf vm vn) (hV : lr_V vi vf vm vn) (hMo : vm 11 = 0 ∨ (vm 11 = 1 ∧ ((∀ k : Nat, 0 ≤ k → k ≤ 0 → (2 : Int) ≤ ((vn 2) k).toInt ∧ ((vn 2) k).toInt ≤ 9) ∧ (∀ k : Nat, 1 ≤ k → k ≤ 1 → (1 : Int) ≤ ((vn 2) k).toInt ∧ ((vn 2) k).toInt ≤ 20) ∧ (∀ k : Nat, 2 ≤ k → k ≤ 2 → (0 : Int) ≤ ((vn 2) k).toInt ∧ ((vn 2) k).toInt ≤ 8) ∧ (∀ k : Nat, 3 ≤ k → k ≤ 3 → (0 : Int) ≤ ((vn 2) k).toInt ∧ ((vn 2) k).toInt ≤ 100) ∧ (∀ k : Nat, 4 ≤ k → k ≤ 4 → (0 : Int) ≤ ((vn 2) k).toInt ∧ ((vn 2) k).toInt ≤ 9) ∧ (∀ k : Nat, 5 ≤ k → k ≤ 5 → (0 : Int) ≤ ((vn 2) k).toInt ∧ ((vn 2) k).toInt ≤ 3) ∧ (∀ k : Nat, 6 ≤ k → k ≤ 6 → (0 : Int) ≤ ((vn 2) k).toInt ∧ ((vn 2) k).toInt ≤ 6) ∧ (∀ k : Nat, 7 ≤ k → k ≤ 9 → (0 : Int) ≤ ((vn 2) k).toInt ∧ ((vn 2) k).toInt ≤ 8) ∧ (∀ k : Nat, 12 ≤ k → k ≤ 29 → (0 : Int) ≤ ((vn 2) k).toInt ∧ ((vn 2) k).toInt ≤ 20) ∧ (∀ k : Nat, 30 ≤ k → k ≤ 35 → (0 : Int) ≤ ((vn 2) k).toInt ∧ ((vn 2) k).toInt ≤ 8) ∧ (∀ k : Nat, 36 ≤ k → k ≤ 47 → (0 : Int) ≤ ((vn 2) k).toInt ∧ ((vn 2) k).toInt ≤ 999)) ∧ ((∀ (j i0 i : Int32), (0 : Int) ≤ j.toInt → j.toInt ≤ 8 → i0.toInt = 12 + 2 * j.toInt → i.toInt = 13 + 2 * j.toInt → ((vn 2) i0.toNatClampNeg).toInt = (1 : Int32).toInt → (1 : Int) ≤ ((vn 2) i.toNatClampNeg).toInt)))) (a n : Int) {b : Int} (hb : (vm 11 = 0 ∧ b = (Ff0_X8_nearBy n (vm 11).toInt).1) ∨ (vm 11 = 1 ∧ b = (Ff_X8_nearBy a n (vm 11).toInt (vm 14).toInt (vm 15).toInt (vm 16).toInt (vm 17).toInt (fl_A (vn 2)) (fl_A (vn 8)) (fl_A (vn 9)) (fl_A (vn 4)) (fl_A (vn 5))).1)) : (Ff_X7_nearBy a n (vi 33).toInt (vi 34).toInt (vi 35).toInt (vi 38).toInt (vi 39).toInt (vi 17).toInt (vi 18).toInt (vi 19).toInt (vi 20).toInt (vi 21).toInt (vi 12).toInt (vi 13).toInt (vi 14).toInt (vi 15).toInt (vi 16).toInt (fl_A (vf 1)) (fl_A (vf 3)) (fl_A (vf 2)) (fl_A (vf 4)) (vi 53).toInt (vi 54).toInt (fl_A (vf 20)) (fl_A (vf 19)) (fl_A (vf 11)) (fl_A (vf 12))).1 = b := by
  rcases hb with ⟨z, hb⟩ | ⟨z, hb⟩
  · obtain ⟨e1, e2, e3⟩ := lr_0 hH z
    obtain ⟨v54, v⟩ := hV
    rcases v with ⟨-, v12, v24, v25, u12, u13⟩ | ⟨z0, -⟩
    rotate_left
    · rw [z] at z0; exact absurd z0 (by decide)
    rw [hb, e1, e2]
    unfold Ff_X7_nearBy Ff0_X8_nearBy Ff0_X8_isFigure Ff_X8_good
    rw [rs_tfw, if_neg (by omega), rs_aw0z]
    rfl
  · obtain ⟨e1, e2, e3⟩ := lr_1 hH z
    rcases hMo with z0 | ⟨-, hrs, hkm⟩
    · rw [z] at z0; exact absurd z0 (by decide)
    obtain ⟨hG, hD, -⟩ := lr_G hH z hrs hkm
    obtain ⟨v54, v⟩ := hV
    have hD := hD v54.1
    rcases v with ⟨z0, -⟩ | ⟨-, hS, hm, hU, hN, hHi, hIm⟩
    · rw [z] at z0; exact absurd z0 (by decide)
    obtain ⟨⟨s1, s2, s3, s4, s5⟩, m0, ⟨t0, t1⟩, ⟨n0, n1⟩, ⟨g0, g1⟩, hk⟩ := id hS
    obtain ⟨⟨f1, f2, f3⟩, ⟨sp1, sp2, sp3⟩, ⟨sa1, sa2, sa3⟩, ⟨ti1, ti2, ti3⟩, ⟨pu1, pu2, pu3⟩, hkd⟩ := id hG
    rw [hb, e1]
    by_cases h : 0 ≤ a ∧ a ≤ (vi 33).toInt - 1
    · by_cases hn : 0 ≤ n ∧ n ≤ 300
      · have hT : a.toNat < 9 := by omega
        obtain ⟨pl7, he7, st7, fr7, to7, b1, b2, b3, b4⟩ : ∃ (pl7 he7 st7 fr7 to7 : Nat → Int), Ff_X5_copyFrom (vi 12).toInt (vi 13).toInt (vi 14).toInt (vi 15).toInt (vi 16).toInt (fl_A (vf 1)) (fl_A (vf 3)) (fl_A (vf 2)) (fl_A (vf 4)) = ((vi 12).toInt, (vi 13).toInt, (vi 14).toInt, (vi 15).toInt, (vi 16).toInt, pl7, he7) ∧ Ff_X8_begin (fl_A (vn 2)) (fl_A (vn 8)) (fl_A (vn 9)) (fl_A (vn 4)) (fl_A (vn 5)) = (0, fr7, to7, st7) ∧ rs_W (vi 53).toInt (vi 54).toInt (fl_A (vf 19)) (fl_A (vf 20)) 0 (fl_A (vn 2)) fr7 to7 ∧ rs_S (vi 33).toInt (vi 34).toInt (fl_A (vf 11)) (vi 12).toInt (vi 13).toInt (vi 14).toInt (vi 15).toInt (vi 16).toInt pl7 he7 st7 := rs_beg f3 hD hS _ _ _ _ _
        obtain ⟨⟨u1, u2, u3, u4, u5⟩, -, -, -, -, uk⟩ := id b4
        unfold Ff_X7_nearBy Ff_X8_nearBy Ff_X8_good
        rw [rs_tfw, if_pos h, if_pos hn, fl_c2_eq (t := ((0 : Int), (0 : Int))) rfl, rs_isfm, if_pos (by rw [← f1]; exact h), rs_aw1, if_pos hn, b1, b2]
        have q := rs_nbl (a := a) (n := n) (v0 := 0) (v11 := 0) hG b3 ⟨h.1, by omega, f3⟩ n.toNat 301 301 0 0 (vi 12).toInt (vi 13).toInt (vi 14).toInt (vi 15).toInt (vi 16).toInt (vm 15).toInt (vm 16).toInt (vm 17).toInt pl7 he7 st7 (by omega) (by omega) (by omega) b4 (by omega) (by decide)
        exact q
      · unfold Ff_X7_nearBy Ff_X8_nearBy Ff_X8_good
        rw [rs_tfw, if_pos h, if_neg hn, fl_c2_eq (t := ((0 : Int), (0 : Int))) rfl, rs_isfm, if_pos (by rw [← f1]; exact h), rs_aw1, if_neg hn]
        rfl
    · unfold Ff_X7_nearBy Ff_X8_nearBy Ff_X8_good
      rw [rs_tfw, if_neg h, fl_c2_eq (t := ((0 : Int), (0 : Int))) rfl, rs_isfm, if_neg (by rw [← f1]; exact h), rs_aw0]
      rfl
theorem lr_place {vi vm : Nat → Int32} {vf vn : Nat → Nat → Int32} (hH : lr_H vi vf vm vn) (hV : lr_V vi vf vm vn) (hMo : vm 11 = 0 ∨ (vm 11 = 1 ∧ ((∀ k : Nat, 0 ≤ k → k ≤ 0 → (2 : Int) ≤ ((vn 2) k).toInt ∧ ((vn 2) k).toInt ≤ 9) ∧ (∀ k : Nat, 1 ≤ k → k ≤ 1 → (1 : Int) ≤ ((vn 2) k).toInt ∧ ((vn 2) k).toInt ≤ 20) ∧ (∀ k : Nat, 2 ≤ k → k ≤ 2 → (0 : Int) ≤ ((vn 2) k).toInt ∧ ((vn 2) k).toInt ≤ 8) ∧ (∀ k : Nat, 3 ≤ k → k ≤ 3 → (0 : Int) ≤ ((vn 2) k).toInt ∧ ((vn 2) k).toInt ≤ 100) ∧ (∀ k : Nat, 4 ≤ k → k ≤ 4 → (0 : Int) ≤ ((vn 2) k).toInt ∧ ((vn 2) k).toInt ≤ 9) ∧ (∀ k : Nat, 5 ≤ k → k ≤ 5 → (0 : Int) ≤ ((vn 2) k).toInt ∧ ((vn 2) k).toInt ≤ 3) ∧ (∀ k : Nat, 6 ≤ k → k ≤ 6 → (0 : Int) ≤ ((vn 2) k).toInt ∧ ((vn 2) k).toInt ≤ 6) ∧ (∀ k : Nat, 7 ≤ k → k ≤ 9 → (0 : Int) ≤ ((vn 2) k).toInt ∧ ((vn 2) k).toInt ≤ 8) ∧ (∀ k : Nat, 12 ≤ k → k ≤ 29 → (0 : Int) ≤ ((vn 2) k).toInt ∧ ((vn 2) k).toInt ≤ 20) ∧ (∀ k : Nat, 30 ≤ k → k ≤ 35 → (0 : Int) ≤ ((vn 2) k).toInt ∧ ((vn 2) k).toInt ≤ 8) ∧ (∀ k : Nat, 36 ≤ k → k ≤ 47 → (0 : Int) ≤ ((vn 2) k).toInt ∧ ((vn 2) k).toInt ≤ 999)) ∧ ((∀ (j i0 i : Int32), (0 : Int) ≤ j.toInt → j.toInt ≤ 8 → i0.toInt = 12 + 2 * j.toInt → i.toInt = 13 + 2 * j.toInt → ((vn 2) i0.toNatClampNeg).toInt = (1 : Int32).toInt → (1 : Int) ≤ ((vn 2) i.toNatClampNeg).toInt)))) (a n : Int) {b : Int} (hb : (vm 11 = 0 ∧ b = (Ff0_X8_place n (vm 11).toInt).1) ∨ (vm 11 = 1 ∧ b = (Ff_X8_place a n (vm 11).toInt (vm 14).toInt (vm 15).toInt (vm 16).toInt (vm 17).toInt (fl_A (vn 2)) (fl_A (vn 8)) (fl_A (vn 9)) (fl_A (vn 4)) (fl_A (vn 5))).1)) : (Ff_X7_place a n (vi 33).toInt (vi 34).toInt (vi 35).toInt (vi 38).toInt (vi 39).toInt (vi 17).toInt (vi 18).toInt (vi 19).toInt (vi 20).toInt (vi 21).toInt (vi 12).toInt (vi 13).toInt (vi 14).toInt (vi 15).toInt (vi 16).toInt (fl_A (vf 1)) (fl_A (vf 3)) (fl_A (vf 2)) (fl_A (vf 4)) (fl_A (vf 11)) (fl_A (vf 12)) (vi 53).toInt (vi 54).toInt (fl_A (vf 20)) (fl_A (vf 19))).1 = b := by
  rcases hb with ⟨z, hb⟩ | ⟨z, hb⟩
  · obtain ⟨e1, e2, e3⟩ := lr_0 hH z
    obtain ⟨v54, v⟩ := hV
    rcases v with ⟨-, v12, v24, v25, u12, u13⟩ | ⟨z0, -⟩
    rotate_left
    · rw [z] at z0; exact absurd z0 (by decide)
    rw [hb, e1, e2]
    unfold Ff_X7_place Ff0_X8_place Ff0_X8_isFigure Ff_X8_good
    rw [rs_tfw, if_neg (by omega), rs_aw0z]
    rfl
  · obtain ⟨e1, e2, e3⟩ := lr_1 hH z
    rcases hMo with z0 | ⟨-, hrs, hkm⟩
    · rw [z] at z0; exact absurd z0 (by decide)
    obtain ⟨hG, hD, -⟩ := lr_G hH z hrs hkm
    obtain ⟨v54, v⟩ := hV
    have hD := hD v54.1
    rcases v with ⟨z0, -⟩ | ⟨-, hS, hm, hU, hN, hHi, hIm⟩
    · rw [z] at z0; exact absurd z0 (by decide)
    obtain ⟨⟨s1, s2, s3, s4, s5⟩, m0, ⟨t0, t1⟩, ⟨n0, n1⟩, ⟨g0, g1⟩, hk⟩ := id hS
    obtain ⟨⟨f1, f2, f3⟩, ⟨sp1, sp2, sp3⟩, ⟨sa1, sa2, sa3⟩, ⟨ti1, ti2, ti3⟩, ⟨pu1, pu2, pu3⟩, hkd⟩ := id hG
    rw [hb, e1]
    by_cases h : 0 ≤ a ∧ a ≤ (vi 33).toInt - 1
    · by_cases hn : 0 ≤ n ∧ n ≤ 300
      · obtain ⟨tu7, sn7, go7, ca7, z1, z2, z3, pl7, he7, st7, fr7, to7, q1, q2, q3⟩ : ∃ (tu7 sn7 go7 ca7 z1 z2 z3 : Int) (pl7 he7 st7 fr7 to7 : Nat → Int), Ff_X7_runAhead n (vi 12).toInt (vi 13).toInt (vi 14).toInt (vi 15).toInt (vi 16).toInt (fl_A (vf 1)) (fl_A (vf 3)) (fl_A (vf 2)) (fl_A (vf 4)) (vi 33).toInt (vi 34).toInt (vi 35).toInt (vi 38).toInt (vi 39).toInt (fl_A (vf 11)) (fl_A (vf 12)) (vi 53).toInt (vi 54).toInt (fl_A (vf 20)) (fl_A (vf 19)) = ((vi 12).toInt + n, tu7, sn7, go7, ca7, pl7, he7) ∧ Ff_X8_minutesOn n (vm 15).toInt (vm 16).toInt (vm 17).toInt (fl_A (vn 2)) (fl_A (vn 8)) (fl_A (vn 9)) (fl_A (vn 4)) (fl_A (vn 5)) = (0, z1, z2, z3, fr7, to7, st7) ∧ rs_S (vi 33).toInt (vi 34).toInt (fl_A (vf 11)) ((vi 12).toInt + n) tu7 sn7 go7 ca7 pl7 he7 st7 := rs_run hG hD hS hm hn.1 hn.2 _ _ _ _ _ _ _ _
        obtain ⟨⟨u1, u2, u3, u4, u5⟩, -, -, -, -, uk⟩ := id q3
        unfold Ff_X7_place Ff_X8_place Ff_X8_good
        rw [rs_tfw, if_pos h, if_pos hn, fl_c2_eq (t := ((0 : Int), (0 : Int))) rfl, rs_isfm, if_pos (by rw [← f1]; exact h), rs_aw1, if_pos hn, q1, q2]
        show pl7 a.toNat = st7 a.toNat
        exact (uk a.toNat (by omega)).1
      · unfold Ff_X7_place Ff_X8_place Ff_X8_good
        rw [rs_tfw, if_pos h, if_neg hn, fl_c2_eq (t := ((0 : Int), (0 : Int))) rfl, rs_isfm, if_pos (by rw [← f1]; exact h), rs_aw1, if_neg hn]
        rfl
    · unfold Ff_X7_place Ff_X8_place Ff_X8_good
      rw [rs_tfw, if_neg h, fl_c2_eq (t := ((0 : Int), (0 : Int))) rfl, rs_isfm, if_neg (by rw [← f1]; exact h), rs_aw0]
      rfl
theorem lr_gone {vi vm : Nat → Int32} {vf vn : Nat → Nat → Int32} (hH : lr_H vi vf vm vn) (hV : lr_V vi vf vm vn) (hMo : vm 11 = 0 ∨ (vm 11 = 1 ∧ ((∀ k : Nat, 0 ≤ k → k ≤ 0 → (2 : Int) ≤ ((vn 2) k).toInt ∧ ((vn 2) k).toInt ≤ 9) ∧ (∀ k : Nat, 1 ≤ k → k ≤ 1 → (1 : Int) ≤ ((vn 2) k).toInt ∧ ((vn 2) k).toInt ≤ 20) ∧ (∀ k : Nat, 2 ≤ k → k ≤ 2 → (0 : Int) ≤ ((vn 2) k).toInt ∧ ((vn 2) k).toInt ≤ 8) ∧ (∀ k : Nat, 3 ≤ k → k ≤ 3 → (0 : Int) ≤ ((vn 2) k).toInt ∧ ((vn 2) k).toInt ≤ 100) ∧ (∀ k : Nat, 4 ≤ k → k ≤ 4 → (0 : Int) ≤ ((vn 2) k).toInt ∧ ((vn 2) k).toInt ≤ 9) ∧ (∀ k : Nat, 5 ≤ k → k ≤ 5 → (0 : Int) ≤ ((vn 2) k).toInt ∧ ((vn 2) k).toInt ≤ 3) ∧ (∀ k : Nat, 6 ≤ k → k ≤ 6 → (0 : Int) ≤ ((vn 2) k).toInt ∧ ((vn 2) k).toInt ≤ 6) ∧ (∀ k : Nat, 7 ≤ k → k ≤ 9 → (0 : Int) ≤ ((vn 2) k).toInt ∧ ((vn 2) k).toInt ≤ 8) ∧ (∀ k : Nat, 12 ≤ k → k ≤ 29 → (0 : Int) ≤ ((vn 2) k).toInt ∧ ((vn 2) k).toInt ≤ 20) ∧ (∀ k : Nat, 30 ≤ k → k ≤ 35 → (0 : Int) ≤ ((vn 2) k).toInt ∧ ((vn 2) k).toInt ≤ 8) ∧ (∀ k : Nat, 36 ≤ k → k ≤ 47 → (0 : Int) ≤ ((vn 2) k).toInt ∧ ((vn 2) k).toInt ≤ 999)) ∧ ((∀ (j i0 i : Int32), (0 : Int) ≤ j.toInt → j.toInt ≤ 8 → i0.toInt = 12 + 2 * j.toInt → i.toInt = 13 + 2 * j.toInt → ((vn 2) i0.toNatClampNeg).toInt = (1 : Int32).toInt → (1 : Int) ≤ ((vn 2) i.toNatClampNeg).toInt)))) (n : Int) {b : Int} (hb : (vm 11 = 0 ∧ b = (Ff0_X8_gone n (vm 11).toInt).1) ∨ (vm 11 = 1 ∧ b = (Ff_X8_gone n (vm 11).toInt (vm 14).toInt (vm 15).toInt (vm 16).toInt (vm 17).toInt (fl_A (vn 2)) (fl_A (vn 8)) (fl_A (vn 9)) (fl_A (vn 4)) (fl_A (vn 5))).1)) : (Ff_X7_gone n (vi 33).toInt (vi 34).toInt (vi 35).toInt (vi 38).toInt (vi 39).toInt (vi 17).toInt (vi 18).toInt (vi 19).toInt (vi 20).toInt (vi 21).toInt (vi 12).toInt (vi 13).toInt (vi 14).toInt (vi 15).toInt (vi 16).toInt (fl_A (vf 1)) (fl_A (vf 3)) (fl_A (vf 2)) (fl_A (vf 4)) (fl_A (vf 11)) (fl_A (vf 12)) (vi 53).toInt (vi 54).toInt (fl_A (vf 20)) (fl_A (vf 19))).1 = b := by
  rcases hb with ⟨z, hb⟩ | ⟨z, hb⟩
  · obtain ⟨e1, e2, e3⟩ := lr_0 hH z
    obtain ⟨v54, v⟩ := hV
    rcases v with ⟨-, v12, v24, v25, u12, u13⟩ | ⟨z0, -⟩
    rotate_left
    · rw [z] at z0; exact absurd z0 (by decide)
    rw [hb, e1, e2]
    unfold Ff_X7_gone Ff0_X8_gone Ff_X8_good
    rw [rs_tn, if_pos (by decide), rs_aw0z]
    rfl
  · obtain ⟨e1, e2, e3⟩ := lr_1 hH z
    rcases hMo with z0 | ⟨-, hrs, hkm⟩
    · rw [z] at z0; exact absurd z0 (by decide)
    obtain ⟨hG, hD, -⟩ := lr_G hH z hrs hkm
    obtain ⟨v54, v⟩ := hV
    have hD := hD v54.1
    rcases v with ⟨z0, -⟩ | ⟨-, hS, hm, hU, hN, hHi, hIm⟩
    · rw [z] at z0; exact absurd z0 (by decide)
    obtain ⟨⟨s1, s2, s3, s4, s5⟩, m0, ⟨t0, t1⟩, ⟨n0, n1⟩, ⟨g0, g1⟩, hk⟩ := id hS
    obtain ⟨⟨f1, f2, f3⟩, ⟨sp1, sp2, sp3⟩, ⟨sa1, sa2, sa3⟩, ⟨ti1, ti2, ti3⟩, ⟨pu1, pu2, pu3⟩, hkd⟩ := id hG
    rw [hb, e1]
    have hg : ¬ (vi 33).toInt ≤ 0 := by omega
    by_cases hn : 0 ≤ n ∧ n ≤ 300
    · obtain ⟨tu7, sn7, go7, ca7, z1, z2, z3, pl7, he7, st7, fr7, to7, q1, q2, q3⟩ : ∃ (tu7 sn7 go7 ca7 z1 z2 z3 : Int) (pl7 he7 st7 fr7 to7 : Nat → Int), Ff_X7_runAhead n (vi 12).toInt (vi 13).toInt (vi 14).toInt (vi 15).toInt (vi 16).toInt (fl_A (vf 1)) (fl_A (vf 3)) (fl_A (vf 2)) (fl_A (vf 4)) (vi 33).toInt (vi 34).toInt (vi 35).toInt (vi 38).toInt (vi 39).toInt (fl_A (vf 11)) (fl_A (vf 12)) (vi 53).toInt (vi 54).toInt (fl_A (vf 20)) (fl_A (vf 19)) = ((vi 12).toInt + n, tu7, sn7, go7, ca7, pl7, he7) ∧ Ff_X8_minutesOn n (vm 15).toInt (vm 16).toInt (vm 17).toInt (fl_A (vn 2)) (fl_A (vn 8)) (fl_A (vn 9)) (fl_A (vn 4)) (fl_A (vn 5)) = (0, z1, z2, z3, fr7, to7, st7) ∧ rs_S (vi 33).toInt (vi 34).toInt (fl_A (vf 11)) ((vi 12).toInt + n) tu7 sn7 go7 ca7 pl7 he7 st7 := rs_run hG hD hS hm hn.1 hn.2 _ _ _ _ _ _ _ _
      obtain ⟨⟨u1, u2, u3, u4, u5⟩, -, -, -, -, uk⟩ := id q3
      unfold Ff_X7_gone Ff_X8_gone Ff_X8_good
      rw [rs_tn, if_neg hg, if_pos hn, fl_c2_eq (t := ((0 : Int), (0 : Int))) rfl, rs_aw1, if_pos hn, q1, q2]
      show go7 = st7 18
      exact u4
    · unfold Ff_X7_gone Ff_X8_gone Ff_X8_good
      rw [rs_tn, if_neg hg, if_neg hn, fl_c2_eq (t := ((0 : Int), (0 : Int))) rfl, rs_aw1, if_neg hn]
      rfl
theorem lr_catches {vi vm : Nat → Int32} {vf vn : Nat → Nat → Int32} (hH : lr_H vi vf vm vn) (hV : lr_V vi vf vm vn) (hMo : vm 11 = 0 ∨ (vm 11 = 1 ∧ ((∀ k : Nat, 0 ≤ k → k ≤ 0 → (2 : Int) ≤ ((vn 2) k).toInt ∧ ((vn 2) k).toInt ≤ 9) ∧ (∀ k : Nat, 1 ≤ k → k ≤ 1 → (1 : Int) ≤ ((vn 2) k).toInt ∧ ((vn 2) k).toInt ≤ 20) ∧ (∀ k : Nat, 2 ≤ k → k ≤ 2 → (0 : Int) ≤ ((vn 2) k).toInt ∧ ((vn 2) k).toInt ≤ 8) ∧ (∀ k : Nat, 3 ≤ k → k ≤ 3 → (0 : Int) ≤ ((vn 2) k).toInt ∧ ((vn 2) k).toInt ≤ 100) ∧ (∀ k : Nat, 4 ≤ k → k ≤ 4 → (0 : Int) ≤ ((vn 2) k).toInt ∧ ((vn 2) k).toInt ≤ 9) ∧ (∀ k : Nat, 5 ≤ k → k ≤ 5 → (0 : Int) ≤ ((vn 2) k).toInt ∧ ((vn 2) k).toInt ≤ 3) ∧ (∀ k : Nat, 6 ≤ k → k ≤ 6 → (0 : Int) ≤ ((vn 2) k).toInt ∧ ((vn 2) k).toInt ≤ 6) ∧ (∀ k : Nat, 7 ≤ k → k ≤ 9 → (0 : Int) ≤ ((vn 2) k).toInt ∧ ((vn 2) k).toInt ≤ 8) ∧ (∀ k : Nat, 12 ≤ k → k ≤ 29 → (0 : Int) ≤ ((vn 2) k).toInt ∧ ((vn 2) k).toInt ≤ 20) ∧ (∀ k : Nat, 30 ≤ k → k ≤ 35 → (0 : Int) ≤ ((vn 2) k).toInt ∧ ((vn 2) k).toInt ≤ 8) ∧ (∀ k : Nat, 36 ≤ k → k ≤ 47 → (0 : Int) ≤ ((vn 2) k).toInt ∧ ((vn 2) k).toInt ≤ 999)) ∧ ((∀ (j i0 i : Int32), (0 : Int) ≤ j.toInt → j.toInt ≤ 8 → i0.toInt = 12 + 2 * j.toInt → i.toInt = 13 + 2 * j.toInt → ((vn 2) i0.toNatClampNeg).toInt = (1 : Int32).toInt → (1 : Int) ≤ ((vn 2) i.toNatClampNeg).toInt)))) (n : Int) {b : Int} (hb : (vm 11 = 0 ∧ b = (Ff0_X8_catches n (vm 11).toInt).1) ∨ (vm 11 = 1 ∧ b = (Ff_X8_catches n (vm 11).toInt (vm 14).toInt (vm 15).toInt (vm 16).toInt (vm 17).toInt (fl_A (vn 2)) (fl_A (vn 8)) (fl_A (vn 9)) (fl_A (vn 4)) (fl_A (vn 5))).1)) : (Ff_X7_catches n (vi 33).toInt (vi 34).toInt (vi 35).toInt (vi 38).toInt (vi 39).toInt (vi 17).toInt (vi 18).toInt (vi 19).toInt (vi 20).toInt (vi 21).toInt (vi 12).toInt (vi 13).toInt (vi 14).toInt (vi 15).toInt (vi 16).toInt (fl_A (vf 1)) (fl_A (vf 3)) (fl_A (vf 2)) (fl_A (vf 4)) (fl_A (vf 11)) (fl_A (vf 12)) (vi 53).toInt (vi 54).toInt (fl_A (vf 20)) (fl_A (vf 19))).1 = b := by
  rcases hb with ⟨z, hb⟩ | ⟨z, hb⟩
  · obtain ⟨e1, e2, e3⟩ := lr_0 hH z
    obtain ⟨v54, v⟩ := hV
    rcases v with ⟨-, v12, v24, v25, u12, u13⟩ | ⟨z0, -⟩
    rotate_left
    · rw [z] at z0; exact absurd z0 (by decide)
    rw [hb, e1, e2]
    unfold Ff_X7_catches Ff0_X8_catches Ff_X8_good
    rw [rs_tn, if_pos (by decide), rs_aw0z]
    rfl
  · obtain ⟨e1, e2, e3⟩ := lr_1 hH z
    rcases hMo with z0 | ⟨-, hrs, hkm⟩
    · rw [z] at z0; exact absurd z0 (by decide)
    obtain ⟨hG, hD, -⟩ := lr_G hH z hrs hkm
    obtain ⟨v54, v⟩ := hV
    have hD := hD v54.1
    rcases v with ⟨z0, -⟩ | ⟨-, hS, hm, hU, hN, hHi, hIm⟩
    · rw [z] at z0; exact absurd z0 (by decide)
    obtain ⟨⟨s1, s2, s3, s4, s5⟩, m0, ⟨t0, t1⟩, ⟨n0, n1⟩, ⟨g0, g1⟩, hk⟩ := id hS
    obtain ⟨⟨f1, f2, f3⟩, ⟨sp1, sp2, sp3⟩, ⟨sa1, sa2, sa3⟩, ⟨ti1, ti2, ti3⟩, ⟨pu1, pu2, pu3⟩, hkd⟩ := id hG
    rw [hb, e1]
    have hg : ¬ (vi 33).toInt ≤ 0 := by omega
    by_cases hn : 0 ≤ n ∧ n ≤ 300
    · obtain ⟨tu7, sn7, go7, ca7, z1, z2, z3, pl7, he7, st7, fr7, to7, q1, q2, q3⟩ : ∃ (tu7 sn7 go7 ca7 z1 z2 z3 : Int) (pl7 he7 st7 fr7 to7 : Nat → Int), Ff_X7_runAhead n (vi 12).toInt (vi 13).toInt (vi 14).toInt (vi 15).toInt (vi 16).toInt (fl_A (vf 1)) (fl_A (vf 3)) (fl_A (vf 2)) (fl_A (vf 4)) (vi 33).toInt (vi 34).toInt (vi 35).toInt (vi 38).toInt (vi 39).toInt (fl_A (vf 11)) (fl_A (vf 12)) (vi 53).toInt (vi 54).toInt (fl_A (vf 20)) (fl_A (vf 19)) = ((vi 12).toInt + n, tu7, sn7, go7, ca7, pl7, he7) ∧ Ff_X8_minutesOn n (vm 15).toInt (vm 16).toInt (vm 17).toInt (fl_A (vn 2)) (fl_A (vn 8)) (fl_A (vn 9)) (fl_A (vn 4)) (fl_A (vn 5)) = (0, z1, z2, z3, fr7, to7, st7) ∧ rs_S (vi 33).toInt (vi 34).toInt (fl_A (vf 11)) ((vi 12).toInt + n) tu7 sn7 go7 ca7 pl7 he7 st7 := rs_run hG hD hS hm hn.1 hn.2 _ _ _ _ _ _ _ _
      obtain ⟨⟨u1, u2, u3, u4, u5⟩, -, -, -, -, uk⟩ := id q3
      unfold Ff_X7_catches Ff_X8_catches Ff_X8_good
      rw [rs_tn, if_neg hg, if_pos hn, fl_c2_eq (t := ((0 : Int), (0 : Int))) rfl, rs_aw1, if_pos hn, q1, q2]
      show fl_isub ca7 (vi 16).toInt = fl_isub (st7 22) (fl_A (vn 4) 22)
      rw [u5, s5]
    · unfold Ff_X7_catches Ff_X8_catches Ff_X8_good
      rw [rs_tn, if_neg hg, if_neg hn, fl_c2_eq (t := ((0 : Int), (0 : Int))) rfl, rs_aw1, if_neg hn]
      rfl
theorem rs_btw0 : ∀ x y : Fin 9, Ff_X8_between (x.val : Int) (y.val : Int) = fl_abs (fl_isub (x.val : Int) (y.val : Int)) := by decide +kernel
theorem rs_btw {x y : Int} (x0 : 0 ≤ x ∧ x ≤ 8) (y0 : 0 ≤ y ∧ y ≤ 8) : Ff_X8_between x y = fl_abs (fl_isub x y) := by
  obtain ⟨a, ha⟩ : ∃ n : Fin 9, (n.val : Int) = x := ⟨⟨x.toNat, by omega⟩, Int.toNat_of_nonneg x0.1⟩
  obtain ⟨b, hb⟩ : ∃ n : Fin 9, (n.val : Int) = y := ⟨⟨y.toNat, by omega⟩, Int.toNat_of_nonneg y0.1⟩
  have q := rs_btw0 a b
  rw [ha, hb] at q
  exact q
/-- the farthest: here and there -/
theorem rs_frl {fg x0 x1 x2 x3 x4 v0 v11 y0 y1 y2 y3 : Int} {pl he r fr to st : Nat → Int} (hr : fg = r 0) (h9 : fg ≤ 9) (hp : ∀ k : Nat, (k : Int) < fg → pl k = st k ∧ 0 ≤ pl k ∧ pl k ≤ 8) :
    ∀ (d m1 m2 : Nat) (j c : Int), fg - j = (d : Int) → 0 ≤ j → 0 ≤ c ∧ c < fg → d + 1 ≤ m1 → d + 1 ≤ m2 →
    Prod.fst (fl_wh (fun t9 : Int × Int => Sf_X7_farthest_30_1 fg x0 x1 x2 x3 x4 pl he t9.1 t9.2) (0, 0, 0, 0, 0, 0, 0, (fun _ => 0), (fun _ => 0)) m1 (j, c)) = Prod.fst (fl_wh (fun t9 : Int × Int => Sf_X8_farthest_35_1 r v0 v11 y0 y1 y2 y3 fr to st t9.1 t9.2) (0, 0, 0, 0, 0, 0, 0, (fun _ => 0), (fun _ => 0), (fun _ => 0)) m2 (j, c)) := by
  intro d
  induction d with
  | zero =>
    intro m1 m2 j c hd hj hc h1 h2
    obtain ⟨m1, rfl⟩ : ∃ q, m1 = q + 1 := ⟨m1 - 1, by omega⟩
    obtain ⟨m2, rfl⟩ : ∃ q, m2 = q + 1 := ⟨m2 - 1, by omega⟩
    have c7 : Sf_X7_farthest_30_1 fg x0 x1 x2 x3 x4 pl he j c = .inr (c, 0, x0, x1, x2, x3, x4, pl, he) := by
      unfold Sf_X7_farthest_30_1
      rw [if_pos (by omega)]
      rfl
    have c8 : Sf_X8_farthest_35_1 r v0 v11 y0 y1 y2 y3 fr to st j c = .inr (c, v0, v11, y0, y1, y2, y3, fr, to, st) := by
      unfold Sf_X8_farthest_35_1
      rw [fl_lt_eq rfl, ← hr, if_pos (by omega)]
    exact (congrArg Prod.fst (fl_wh_r (step := fun t9 : Int × Int => Sf_X7_farthest_30_1 fg x0 x1 x2 x3 x4 pl he t9.1 t9.2) (s := (j, c)) (n := m1) c7)).trans (congrArg Prod.fst (fl_wh_r (step := fun t9 : Int × Int => Sf_X8_farthest_35_1 r v0 v11 y0 y1 y2 y3 fr to st t9.1 t9.2) (s := (j, c)) (n := m2) c8)).symm
  | succ d ih =>
    intro m1 m2 j c hd hj hc h1 h2
    obtain ⟨m1, rfl⟩ : ∃ q, m1 = q + 1 := ⟨m1 - 1, by omega⟩
    obtain ⟨m2, rfl⟩ : ∃ q, m2 = q + 1 := ⟨m2 - 1, by omega⟩
    obtain ⟨k1, k2⟩ := hp j.toNat (by omega)
    obtain ⟨l1, l2⟩ := hp c.toNat (by omega)
    have b1 : Ff_X8_between (st j.toNat) j = fl_abs (fl_isub (pl j.toNat) j) := by rw [← k1]; exact rs_btw k2 ⟨hj, by omega⟩
    have b2 : Ff_X8_between (st c.toNat) c = fl_abs (fl_isub (pl c.toNat) c) := by rw [← l1]; exact rs_btw l2 ⟨hc.1, by omega⟩
    by_cases hB : fl_abs (fl_isub (pl j.toNat) j) ≤ fl_abs (fl_isub (pl c.toNat) c)
    · have c7 : Sf_X7_farthest_30_1 fg x0 x1 x2 x3 x4 pl he j c = .inl (j + 1, c) := by
        unfold Sf_X7_farthest_30_1
        rw [if_neg (by omega), fl_lt_eq rfl, fl_lt_eq rfl, fl_lt_eq rfl, fl_lt_eq rfl, fl_lt_eq rfl, fl_lt_eq rfl, if_pos hB]
        rfl
      have c8 : Sf_X8_farthest_35_1 r v0 v11 y0 y1 y2 y3 fr to st j c = .inl (j + 1, c) := by
        unfold Sf_X8_farthest_35_1
        rw [fl_lt_eq rfl, ← hr, if_neg (by omega), fl_lt_eq rfl, fl_lt_eq rfl, fl_lt_eq rfl, fl_lt_eq rfl, b1, b2, if_pos hB]
        rfl
      exact (congrArg Prod.fst (fl_wh_l (step := fun t9 : Int × Int => Sf_X7_farthest_30_1 fg x0 x1 x2 x3 x4 pl he t9.1 t9.2) (s := (j, c)) (n := m1) c7)).trans ((ih m1 m2 (j + 1) c (by omega) (by omega) hc (by omega) (by omega)).trans (congrArg Prod.fst (fl_wh_l (step := fun t9 : Int × Int => Sf_X8_farthest_35_1 r v0 v11 y0 y1 y2 y3 fr to st t9.1 t9.2) (s := (j, c)) (n := m2) c8)).symm)
    · have c7 : Sf_X7_farthest_30_1 fg x0 x1 x2 x3 x4 pl he j c = .inl (j + 1, j) := by
        unfold Sf_X7_farthest_30_1
        rw [if_neg (by omega), fl_lt_eq rfl, fl_lt_eq rfl, fl_lt_eq rfl, fl_lt_eq rfl, fl_lt_eq rfl, fl_lt_eq rfl, if_neg hB]
        rfl
      have c8 : Sf_X8_farthest_35_1 r v0 v11 y0 y1 y2 y3 fr to st j c = .inl (j + 1, j) := by
        unfold Sf_X8_farthest_35_1
        rw [fl_lt_eq rfl, ← hr, if_neg (by omega), fl_lt_eq rfl, fl_lt_eq rfl, fl_lt_eq rfl, fl_lt_eq rfl, b1, b2, if_neg hB]
        rfl
      exact (congrArg Prod.fst (fl_wh_l (step := fun t9 : Int × Int => Sf_X7_farthest_30_1 fg x0 x1 x2 x3 x4 pl he t9.1 t9.2) (s := (j, c)) (n := m1) c7)).trans ((ih m1 m2 (j + 1) j (by omega) (by omega) ⟨hj, by omega⟩ (by omega) (by omega)).trans (congrArg Prod.fst (fl_wh_l (step := fun t9 : Int × Int => Sf_X8_farthest_35_1 r v0 v11 y0 y1 y2 y3 fr to st t9.1 t9.2) (s := (j, c)) (n := m2) c8)).symm)
theorem lr_farthest {vi vm : Nat → Int32} {vf vn : Nat → Nat → Int32} (hH : lr_H vi vf vm vn) (hV : lr_V vi vf vm vn) (hMo : vm 11 = 0 ∨ (vm 11 = 1 ∧ ((∀ k : Nat, 0 ≤ k → k ≤ 0 → (2 : Int) ≤ ((vn 2) k).toInt ∧ ((vn 2) k).toInt ≤ 9) ∧ (∀ k : Nat, 1 ≤ k → k ≤ 1 → (1 : Int) ≤ ((vn 2) k).toInt ∧ ((vn 2) k).toInt ≤ 20) ∧ (∀ k : Nat, 2 ≤ k → k ≤ 2 → (0 : Int) ≤ ((vn 2) k).toInt ∧ ((vn 2) k).toInt ≤ 8) ∧ (∀ k : Nat, 3 ≤ k → k ≤ 3 → (0 : Int) ≤ ((vn 2) k).toInt ∧ ((vn 2) k).toInt ≤ 100) ∧ (∀ k : Nat, 4 ≤ k → k ≤ 4 → (0 : Int) ≤ ((vn 2) k).toInt ∧ ((vn 2) k).toInt ≤ 9) ∧ (∀ k : Nat, 5 ≤ k → k ≤ 5 → (0 : Int) ≤ ((vn 2) k).toInt ∧ ((vn 2) k).toInt ≤ 3) ∧ (∀ k : Nat, 6 ≤ k → k ≤ 6 → (0 : Int) ≤ ((vn 2) k).toInt ∧ ((vn 2) k).toInt ≤ 6) ∧ (∀ k : Nat, 7 ≤ k → k ≤ 9 → (0 : Int) ≤ ((vn 2) k).toInt ∧ ((vn 2) k).toInt ≤ 8) ∧ (∀ k : Nat, 12 ≤ k → k ≤ 29 → (0 : Int) ≤ ((vn 2) k).toInt ∧ ((vn 2) k).toInt ≤ 20) ∧ (∀ k : Nat, 30 ≤ k → k ≤ 35 → (0 : Int) ≤ ((vn 2) k).toInt ∧ ((vn 2) k).toInt ≤ 8) ∧ (∀ k : Nat, 36 ≤ k → k ≤ 47 → (0 : Int) ≤ ((vn 2) k).toInt ∧ ((vn 2) k).toInt ≤ 999)) ∧ ((∀ (j i0 i : Int32), (0 : Int) ≤ j.toInt → j.toInt ≤ 8 → i0.toInt = 12 + 2 * j.toInt → i.toInt = 13 + 2 * j.toInt → ((vn 2) i0.toNatClampNeg).toInt = (1 : Int32).toInt → (1 : Int) ≤ ((vn 2) i.toNatClampNeg).toInt)))) (n : Int) {b : Int} (hb : (vm 11 = 0 ∧ b = (Ff0_X8_farthest n (vm 11).toInt).1) ∨ (vm 11 = 1 ∧ b = (Ff_X8_farthest n (vm 11).toInt (vm 14).toInt (vm 15).toInt (vm 16).toInt (vm 17).toInt (fl_A (vn 2)) (fl_A (vn 8)) (fl_A (vn 9)) (fl_A (vn 4)) (fl_A (vn 5))).1)) : (Ff_X7_farthest n (vi 33).toInt (vi 34).toInt (vi 35).toInt (vi 38).toInt (vi 39).toInt (vi 17).toInt (vi 18).toInt (vi 19).toInt (vi 20).toInt (vi 21).toInt (vi 12).toInt (vi 13).toInt (vi 14).toInt (vi 15).toInt (vi 16).toInt (fl_A (vf 1)) (fl_A (vf 3)) (fl_A (vf 2)) (fl_A (vf 4)) (fl_A (vf 11)) (fl_A (vf 12)) (vi 53).toInt (vi 54).toInt (fl_A (vf 20)) (fl_A (vf 19))).1 = b := by
  rcases hb with ⟨z, hb⟩ | ⟨z, hb⟩
  · obtain ⟨e1, e2, e3⟩ := lr_0 hH z
    obtain ⟨v54, v⟩ := hV
    rcases v with ⟨-, v12, v24, v25, u12, u13⟩ | ⟨z0, -⟩
    rotate_left
    · rw [z] at z0; exact absurd z0 (by decide)
    rw [hb, e1, e2]
    unfold Ff_X7_farthest Ff0_X8_farthest Ff_X8_good
    rw [rs_tn, if_pos (by decide), rs_aw0z]
    rfl
  · obtain ⟨e1, e2, e3⟩ := lr_1 hH z
    rcases hMo with z0 | ⟨-, hrs, hkm⟩
    · rw [z] at z0; exact absurd z0 (by decide)
    obtain ⟨hG, hD, -⟩ := lr_G hH z hrs hkm
    obtain ⟨v54, v⟩ := hV
    have hD := hD v54.1
    rcases v with ⟨z0, -⟩ | ⟨-, hS, hm, hU, hN, hHi, hIm⟩
    · rw [z] at z0; exact absurd z0 (by decide)
    obtain ⟨⟨s1, s2, s3, s4, s5⟩, m0, ⟨t0, t1⟩, ⟨n0, n1⟩, ⟨g0, g1⟩, hk⟩ := id hS
    obtain ⟨⟨f1, f2, f3⟩, ⟨sp1, sp2, sp3⟩, ⟨sa1, sa2, sa3⟩, ⟨ti1, ti2, ti3⟩, ⟨pu1, pu2, pu3⟩, hkd⟩ := id hG
    rw [hb, e1]
    have hg : ¬ (vi 33).toInt ≤ 0 := by omega
    by_cases hn : 0 ≤ n ∧ n ≤ 300
    · obtain ⟨tu7, sn7, go7, ca7, z1, z2, z3, pl7, he7, st7, fr7, to7, q1, q2, q3⟩ : ∃ (tu7 sn7 go7 ca7 z1 z2 z3 : Int) (pl7 he7 st7 fr7 to7 : Nat → Int), Ff_X7_runAhead n (vi 12).toInt (vi 13).toInt (vi 14).toInt (vi 15).toInt (vi 16).toInt (fl_A (vf 1)) (fl_A (vf 3)) (fl_A (vf 2)) (fl_A (vf 4)) (vi 33).toInt (vi 34).toInt (vi 35).toInt (vi 38).toInt (vi 39).toInt (fl_A (vf 11)) (fl_A (vf 12)) (vi 53).toInt (vi 54).toInt (fl_A (vf 20)) (fl_A (vf 19)) = ((vi 12).toInt + n, tu7, sn7, go7, ca7, pl7, he7) ∧ Ff_X8_minutesOn n (vm 15).toInt (vm 16).toInt (vm 17).toInt (fl_A (vn 2)) (fl_A (vn 8)) (fl_A (vn 9)) (fl_A (vn 4)) (fl_A (vn 5)) = (0, z1, z2, z3, fr7, to7, st7) ∧ rs_S (vi 33).toInt (vi 34).toInt (fl_A (vf 11)) ((vi 12).toInt + n) tu7 sn7 go7 ca7 pl7 he7 st7 := rs_run hG hD hS hm hn.1 hn.2 _ _ _ _ _ _ _ _
      obtain ⟨⟨u1, u2, u3, u4, u5⟩, -, -, -, -, uk⟩ := id q3
      unfold Ff_X7_farthest Ff_X8_farthest Ff_X8_good
      rw [rs_tn, if_neg hg, if_pos hn, fl_c2_eq (t := ((0 : Int), (0 : Int))) rfl, rs_aw1, if_pos hn, q1, q2]
      exact rs_frl f1 f3 (fun k hk9 => ⟨(uk k hk9).1, (uk k hk9).2.2.1⟩) ((vi 33).toInt - 1).toNat 9 9 1 0 (by omega) (by omega) ⟨by omega, by omega⟩ (by omega) (by omega)
    · unfold Ff_X7_farthest Ff_X8_farthest Ff_X8_good
      rw [rs_tn, if_neg hg, if_neg hn, fl_c2_eq (t := ((0 : Int), (0 : Int))) rfl, rs_aw1, if_neg hn]
      rfl
end RELP
