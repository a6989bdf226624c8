section P094032_rel
section RELA
theorem lr_put {tp : Int32} {vi vi1 vm vm1 : Nat → Int32} {vf vf1 vn vn1 : Nat → Nat → Int32} (hR : lr_R tp vi vf vm vn) (hM : vm 11 = 0 ∨ (vm 11 = 1 ∧ ((∀ k : Nat, 0 ≤ k → k ≤ 0 → (2 : Int) ≤ ((vn 2) k).toInt ∧ ((vn 2) k).toInt ≤ 9) ∧ (∀ k : Nat, 1 ≤ k → k ≤ 1 → (1 : Int) ≤ ((vn 2) k).toInt ∧ ((vn 2) k).toInt ≤ 20) ∧ (∀ k : Nat, 2 ≤ k → k ≤ 2 → (0 : Int) ≤ ((vn 2) k).toInt ∧ ((vn 2) k).toInt ≤ 8) ∧ (∀ k : Nat, 3 ≤ k → k ≤ 3 → (0 : Int) ≤ ((vn 2) k).toInt ∧ ((vn 2) k).toInt ≤ 100) ∧ (∀ k : Nat, 4 ≤ k → k ≤ 4 → (0 : Int) ≤ ((vn 2) k).toInt ∧ ((vn 2) k).toInt ≤ 9) ∧ (∀ k : Nat, 5 ≤ k → k ≤ 5 → (0 : Int) ≤ ((vn 2) k).toInt ∧ ((vn 2) k).toInt ≤ 3) ∧ (∀ k : Nat, 6 ≤ k → k ≤ 6 → (0 : Int) ≤ ((vn 2) k).toInt ∧ ((vn 2) k).toInt ≤ 6) ∧ (∀ k : Nat, 7 ≤ k → k ≤ 9 → (0 : Int) ≤ ((vn 2) k).toInt ∧ ((vn 2) k).toInt ≤ 8) ∧ (∀ k : Nat, 12 ≤ k → k ≤ 29 → (0 : Int) ≤ ((vn 2) k).toInt ∧ ((vn 2) k).toInt ≤ 20) ∧ (∀ k : Nat, 30 ≤ k → k ≤ 35 → (0 : Int) ≤ ((vn 2) k).toInt ∧ ((vn 2) k).toInt ≤ 8) ∧ (∀ k : Nat, 36 ≤ k → k ≤ 47 → (0 : Int) ≤ ((vn 2) k).toInt ∧ ((vn 2) k).toInt ≤ 999)) ∧ ((∀ (j i0 i : Int32), (0 : Int) ≤ j.toInt → j.toInt ≤ 8 → i0.toInt = 12 + 2 * j.toInt → i.toInt = 13 + 2 * j.toInt → ((vn 2) i0.toNatClampNeg).toInt = (1 : Int32).toInt → (1 : Int) ≤ ((vn 2) i.toNatClampNeg).toInt)))) (a : Int32) (kx1 : (∀ k9 : Nat, k9 ∉ ([0, 24, 26, 57, 58, 59, 60, 61, 62, 63, 64, 65, 66, 67, 68, 69, 70, 71, 72, 73, 74, 75, 76, 77, 78, 79, 80, 81, 82, 83, 84, 85, 86, 87, 88, 89, 90, 91, 92, 93, 94, 95, 96, 97, 98, 99, 100, 101, 102, 103, 104, 105, 106, 107, 108, 109, 110, 111, 112, 113, 114, 115, 116, 117, 118, 119, 120, 121, 122, 123, 124, 125, 126, 127, 128, 129, 130, 131, 132, 133, 134, 135, 136] : List Nat) → vi1 k9 = vi k9)) (kx2 : (∀ k9 : Nat, k9 ∉ ([1, 23, 24, 25, 26, 27, 28, 29, 30, 31, 32, 33, 34, 35, 36, 37, 38, 39, 40, 41, 42, 43, 44, 45, 46, 47, 48, 49, 50, 51, 52, 53, 54] : List Nat) → vf1 k9 = vf k9)) (km1 : (∀ k9 : Nat, k9 ∉ ([0, 9, 12] : List Nat) → vm1 k9 = vm k9)) (km2 : (∀ k9 : Nat, k9 ∉ ([4, 6] : List Nat) → vn1 k9 = vn k9)) (gx : (Ff_X7_put a.toInt (vi 33).toInt (vi 12).toInt (vi 13).toInt (vi 14).toInt (vi 15).toInt (vi 16).toInt (fl_A (vf 1)) (vi 24).toInt (vi 26).toInt (fl_nI [(vi 57).toInt, (vi 58).toInt, (vi 59).toInt, (vi 60).toInt, (vi 61).toInt, (vi 62).toInt, (vi 63).toInt, (vi 64).toInt, (vi 65).toInt, (vi 66).toInt, (vi 67).toInt, (vi 68).toInt, (vi 69).toInt, (vi 70).toInt, (vi 71).toInt, (vi 72).toInt, (vi 73).toInt, (vi 74).toInt, (vi 75).toInt, (vi 76).toInt, (vi 77).toInt, (vi 78).toInt, (vi 79).toInt, (vi 80).toInt, (vi 81).toInt, (vi 82).toInt, (vi 83).toInt, (vi 84).toInt, (vi 85).toInt, (vi 86).toInt, (vi 87).toInt, (vi 88).toInt, (vi 89).toInt, (vi 90).toInt, (vi 91).toInt, (vi 92).toInt, (vi 93).toInt, (vi 94).toInt, (vi 95).toInt, (vi 96).toInt, (vi 97).toInt, (vi 98).toInt, (vi 99).toInt, (vi 100).toInt, (vi 101).toInt, (vi 102).toInt, (vi 103).toInt, (vi 104).toInt, (vi 105).toInt, (vi 106).toInt, (vi 107).toInt, (vi 108).toInt, (vi 109).toInt, (vi 110).toInt, (vi 111).toInt, (vi 112).toInt, (vi 113).toInt, (vi 114).toInt, (vi 115).toInt, (vi 116).toInt, (vi 117).toInt, (vi 118).toInt, (vi 119).toInt, (vi 120).toInt, (vi 121).toInt, (vi 122).toInt, (vi 123).toInt, (vi 124).toInt, (vi 125).toInt, (vi 126).toInt, (vi 127).toInt, (vi 128).toInt, (vi 129).toInt, (vi 130).toInt, (vi 131).toInt, (vi 132).toInt, (vi 133).toInt, (vi 134).toInt, (vi 135).toInt, (vi 136).toInt]) (fl_nF [(fl_A (vf 23)), (fl_A (vf 24)), (fl_A (vf 25)), (fl_A (vf 26)), (fl_A (vf 27)), (fl_A (vf 28)), (fl_A (vf 29)), (fl_A (vf 30)), (fl_A (vf 31)), (fl_A (vf 32)), (fl_A (vf 33)), (fl_A (vf 34)), (fl_A (vf 35)), (fl_A (vf 36)), (fl_A (vf 37)), (fl_A (vf 38)), (fl_A (vf 39)), (fl_A (vf 40)), (fl_A (vf 41)), (fl_A (vf 42)), (fl_A (vf 43)), (fl_A (vf 44)), (fl_A (vf 45)), (fl_A (vf 46)), (fl_A (vf 47)), (fl_A (vf 48)), (fl_A (vf 49)), (fl_A (vf 50)), (fl_A (vf 51)), (fl_A (vf 52)), (fl_A (vf 53)), (fl_A (vf 54))]) (fl_A (vf 2))).2 = ((vi1 0).toInt, (fl_A (vf1 1)), (vi1 24).toInt, (vi1 26).toInt, (fl_nI [(vi1 57).toInt, (vi1 58).toInt, (vi1 59).toInt, (vi1 60).toInt, (vi1 61).toInt, (vi1 62).toInt, (vi1 63).toInt, (vi1 64).toInt, (vi1 65).toInt, (vi1 66).toInt, (vi1 67).toInt, (vi1 68).toInt, (vi1 69).toInt, (vi1 70).toInt, (vi1 71).toInt, (vi1 72).toInt, (vi1 73).toInt, (vi1 74).toInt, (vi1 75).toInt, (vi1 76).toInt, (vi1 77).toInt, (vi1 78).toInt, (vi1 79).toInt, (vi1 80).toInt, (vi1 81).toInt, (vi1 82).toInt, (vi1 83).toInt, (vi1 84).toInt, (vi1 85).toInt, (vi1 86).toInt, (vi1 87).toInt, (vi1 88).toInt, (vi1 89).toInt, (vi1 90).toInt, (vi1 91).toInt, (vi1 92).toInt, (vi1 93).toInt, (vi1 94).toInt, (vi1 95).toInt, (vi1 96).toInt, (vi1 97).toInt, (vi1 98).toInt, (vi1 99).toInt, (vi1 100).toInt, (vi1 101).toInt, (vi1 102).toInt, (vi1 103).toInt, (vi1 104).toInt, (vi1 105).toInt, (vi1 106).toInt, (vi1 107).toInt, (vi1 108).toInt, (vi1 109).toInt, (vi1 110).toInt, (vi1 111).toInt, (vi1 112).toInt, (vi1 113).toInt, (vi1 114).toInt, (vi1 115).toInt, (vi1 116).toInt, (vi1 117).toInt, (vi1 118).toInt, (vi1 119).toInt, (vi1 120).toInt, (vi1 121).toInt, (vi1 122).toInt, (vi1 123).toInt, (vi1 124).toInt, (vi1 125).toInt, (vi1 126).toInt, (vi1 127).toInt, (vi1 128).toInt, (vi1 129).toInt, (vi1 130).toInt, (vi1 131).toInt, (vi1 132).toInt, (vi1 133).toInt, (vi1 134).toInt, (vi1 135).toInt, (vi1 136).toInt]), (fl_nF [(fl_A (vf1 23)), (fl_A (vf1 24)), (fl_A (vf1 25)), (fl_A (vf1 26)), (fl_A (vf1 27)), (fl_A (vf1 28)), (fl_A (vf1 29)), (fl_A (vf1 30)), (fl_A (vf1 31)), (fl_A (vf1 32)), (fl_A (vf1 33)), (fl_A (vf1 34)), (fl_A (vf1 35)), (fl_A (vf1 36)), (fl_A (vf1 37)), (fl_A (vf1 38)), (fl_A (vf1 39)), (fl_A (vf1 40)), (fl_A (vf1 41)), (fl_A (vf1 42)), (fl_A (vf1 43)), (fl_A (vf1 44)), (fl_A (vf1 45)), (fl_A (vf1 46)), (fl_A (vf1 47)), (fl_A (vf1 48)), (fl_A (vf1 49)), (fl_A (vf1 50)), (fl_A (vf1 51)), (fl_A (vf1 52)), (fl_A (vf1 53)), (fl_A (vf1 54))]))) (gm : ((vm 11 = 0 ∧ (∀ k9 : Nat, k9 ∉ ([0, 9] : List Nat) → vm1 k9 = vm k9) ∧ (∀ k9 : Nat, k9 ∉ ([] : List Nat) → vn1 k9 = vn k9)) ∨ (vm 11 = 1 ∧ (Ff_X8_put a.toInt (vm 11).toInt (vm 12).toInt (fl_A (vn 2)) (fl_A (vn 4)) (fl_A (vn 6))).2 = ((vm1 0).toInt, (vm1 9).toInt, (vm1 12).toInt, (fl_A (vn1 4)), (fl_A (vn1 6)))))) : lr_Q vi1 vf1 vm1 vn1 := by
  obtain ⟨hT, hF, hH, hV⟩ := hR
  rcases hM with hM0 | ⟨hM1, hrs, hkm⟩
  · rcases hH with hH | ⟨z9, -⟩
    rotate_left
    · rw [hM0] at z9; exact absurd z9 (by decide)
    have hH9 : lr_H vi vf vm vn := Or.inl hH
    obtain ⟨-, h33, -⟩ := hH
    obtain ⟨⟨v54, v56⟩, hV⟩ := hV
    rcases hV with ⟨-, v12, v24, v25, u12, u13⟩ | ⟨z9, -⟩
    rotate_left
    · rw [hM0] at z9; exact absurd z9 (by decide)
    have e33 : (vi 33).toInt = 0 := by rw [h33]; decide
    have ex : Ff_X7_put a.toInt (vi 33).toInt (vi 12).toInt (vi 13).toInt (vi 14).toInt (vi 15).toInt (vi 16).toInt (fl_A (vf 1)) (vi 24).toInt (vi 26).toInt (fl_nI [(vi 57).toInt, (vi 58).toInt, (vi 59).toInt, (vi 60).toInt, (vi 61).toInt, (vi 62).toInt, (vi 63).toInt, (vi 64).toInt, (vi 65).toInt, (vi 66).toInt, (vi 67).toInt, (vi 68).toInt, (vi 69).toInt, (vi 70).toInt, (vi 71).toInt, (vi 72).toInt, (vi 73).toInt, (vi 74).toInt, (vi 75).toInt, (vi 76).toInt, (vi 77).toInt, (vi 78).toInt, (vi 79).toInt, (vi 80).toInt, (vi 81).toInt, (vi 82).toInt, (vi 83).toInt, (vi 84).toInt, (vi 85).toInt, (vi 86).toInt, (vi 87).toInt, (vi 88).toInt, (vi 89).toInt, (vi 90).toInt, (vi 91).toInt, (vi 92).toInt, (vi 93).toInt, (vi 94).toInt, (vi 95).toInt, (vi 96).toInt, (vi 97).toInt, (vi 98).toInt, (vi 99).toInt, (vi 100).toInt, (vi 101).toInt, (vi 102).toInt, (vi 103).toInt, (vi 104).toInt, (vi 105).toInt, (vi 106).toInt, (vi 107).toInt, (vi 108).toInt, (vi 109).toInt, (vi 110).toInt, (vi 111).toInt, (vi 112).toInt, (vi 113).toInt, (vi 114).toInt, (vi 115).toInt, (vi 116).toInt, (vi 117).toInt, (vi 118).toInt, (vi 119).toInt, (vi 120).toInt, (vi 121).toInt, (vi 122).toInt, (vi 123).toInt, (vi 124).toInt, (vi 125).toInt, (vi 126).toInt, (vi 127).toInt, (vi 128).toInt, (vi 129).toInt, (vi 130).toInt, (vi 131).toInt, (vi 132).toInt, (vi 133).toInt, (vi 134).toInt, (vi 135).toInt, (vi 136).toInt]) (fl_nF [(fl_A (vf 23)), (fl_A (vf 24)), (fl_A (vf 25)), (fl_A (vf 26)), (fl_A (vf 27)), (fl_A (vf 28)), (fl_A (vf 29)), (fl_A (vf 30)), (fl_A (vf 31)), (fl_A (vf 32)), (fl_A (vf 33)), (fl_A (vf 34)), (fl_A (vf 35)), (fl_A (vf 36)), (fl_A (vf 37)), (fl_A (vf 38)), (fl_A (vf 39)), (fl_A (vf 40)), (fl_A (vf 41)), (fl_A (vf 42)), (fl_A (vf 43)), (fl_A (vf 44)), (fl_A (vf 45)), (fl_A (vf 46)), (fl_A (vf 47)), (fl_A (vf 48)), (fl_A (vf 49)), (fl_A (vf 50)), (fl_A (vf 51)), (fl_A (vf 52)), (fl_A (vf 53)), (fl_A (vf 54))]) (fl_A (vf 2)) = ((-1), 1, (fl_A (vf 1)), (vi 24).toInt, (vi 26).toInt, (fl_nI [(vi 57).toInt, (vi 58).toInt, (vi 59).toInt, (vi 60).toInt, (vi 61).toInt, (vi 62).toInt, (vi 63).toInt, (vi 64).toInt, (vi 65).toInt, (vi 66).toInt, (vi 67).toInt, (vi 68).toInt, (vi 69).toInt, (vi 70).toInt, (vi 71).toInt, (vi 72).toInt, (vi 73).toInt, (vi 74).toInt, (vi 75).toInt, (vi 76).toInt, (vi 77).toInt, (vi 78).toInt, (vi 79).toInt, (vi 80).toInt, (vi 81).toInt, (vi 82).toInt, (vi 83).toInt, (vi 84).toInt, (vi 85).toInt, (vi 86).toInt, (vi 87).toInt, (vi 88).toInt, (vi 89).toInt, (vi 90).toInt, (vi 91).toInt, (vi 92).toInt, (vi 93).toInt, (vi 94).toInt, (vi 95).toInt, (vi 96).toInt, (vi 97).toInt, (vi 98).toInt, (vi 99).toInt, (vi 100).toInt, (vi 101).toInt, (vi 102).toInt, (vi 103).toInt, (vi 104).toInt, (vi 105).toInt, (vi 106).toInt, (vi 107).toInt, (vi 108).toInt, (vi 109).toInt, (vi 110).toInt, (vi 111).toInt, (vi 112).toInt, (vi 113).toInt, (vi 114).toInt, (vi 115).toInt, (vi 116).toInt, (vi 117).toInt, (vi 118).toInt, (vi 119).toInt, (vi 120).toInt, (vi 121).toInt, (vi 122).toInt, (vi 123).toInt, (vi 124).toInt, (vi 125).toInt, (vi 126).toInt, (vi 127).toInt, (vi 128).toInt, (vi 129).toInt, (vi 130).toInt, (vi 131).toInt, (vi 132).toInt, (vi 133).toInt, (vi 134).toInt, (vi 135).toInt, (vi 136).toInt]), (fl_nF [(fl_A (vf 23)), (fl_A (vf 24)), (fl_A (vf 25)), (fl_A (vf 26)), (fl_A (vf 27)), (fl_A (vf 28)), (fl_A (vf 29)), (fl_A (vf 30)), (fl_A (vf 31)), (fl_A (vf 32)), (fl_A (vf 33)), (fl_A (vf 34)), (fl_A (vf 35)), (fl_A (vf 36)), (fl_A (vf 37)), (fl_A (vf 38)), (fl_A (vf 39)), (fl_A (vf 40)), (fl_A (vf 41)), (fl_A (vf 42)), (fl_A (vf 43)), (fl_A (vf 44)), (fl_A (vf 45)), (fl_A (vf 46)), (fl_A (vf 47)), (fl_A (vf 48)), (fl_A (vf 49)), (fl_A (vf 50)), (fl_A (vf 51)), (fl_A (vf 52)), (fl_A (vf 53)), (fl_A (vf 54))])) := by
      unfold Ff_X7_put
      rw [e33, rs_isf, if_neg (by omega)]
      rfl
    rw [ex] at gx
    have p_U : (vi 24).toInt = (vi1 24).toInt := congrArg (fun z9 => z9.2.2.1) gx
    rcases gm with ⟨-, k01, k02⟩ | ⟨z9, -⟩
    rotate_left
    · rw [hM0] at z9; exact absurd z9 (by decide)
    refine ⟨by rw [kx1 1 (by decide), k01 7 (by decide)]; exact hF, lr_H_keep (kx1 33 (by decide)) (kx1 34 (by decide)) (kx1 35 (by decide)) (kx1 36 (by decide)) (kx1 37 (by decide)) (kx1 38 (by decide)) (kx1 39 (by decide)) (kx1 40 (by decide)) (kx1 41 (by decide)) (kx1 42 (by decide)) (kx1 53 (by decide)) (kx2 11 (by decide)) (kx2 12 (by decide)) (kx2 13 (by decide)) (kx2 14 (by decide)) (kx2 19 (by decide)) (kx2 20 (by decide)) (k01 11 (by decide)) (by rw [k02 2 (by decide)]) hH9, ⟨by rw [kx1 54 (by decide)]; exact v54, by rw [kx1 56 (by decide)]; exact v56⟩, Or.inl ⟨by rw [k01 11 (by decide)]; exact hM0, by rw [kx1 12 (by decide)]; exact v12, by rw [← Int32.toInt_inj, ← p_U, v24], by rw [kx1 25 (by decide)]; exact v25, by rw [k01 12 (by decide)]; exact u12, by rw [k01 13 (by decide)]; exact u13⟩⟩
  · obtain ⟨hG, hD, -⟩ := lr_G hH hM1 hrs hkm
    have hf9 : 2 ≤ (vi 33).toInt ∧ (vi 33).toInt ≤ 9 := ⟨hG.1.2.1, hG.1.2.2⟩
    have f9 := hf9.2
    have hV4 := hV.2
    rcases hV4 with ⟨z9, -⟩ | ⟨-, hS, hm, hU, hN, hHi, hIm⟩
    · rw [hM1] at z9; exact absurd z9 (by decide)
    have e11 : (vm 11).toInt = 1 := by rw [hM1]; decide
    have hHi := rs_H_cg (gI1 := fl_nI [(vi 57).toInt, (vi 58).toInt, (vi 59).toInt, (vi 60).toInt, (vi 61).toInt, (vi 62).toInt, (vi 63).toInt, (vi 64).toInt, (vi 65).toInt, (vi 66).toInt, (vi 67).toInt, (vi 68).toInt, (vi 69).toInt, (vi 70).toInt, (vi 71).toInt, (vi 72).toInt, (vi 73).toInt, (vi 74).toInt, (vi 75).toInt, (vi 76).toInt, (vi 77).toInt, (vi 78).toInt, (vi 79).toInt, (vi 80).toInt, (vi 81).toInt, (vi 82).toInt, (vi 83).toInt, (vi 84).toInt, (vi 85).toInt, (vi 86).toInt, (vi 87).toInt, (vi 88).toInt, (vi 89).toInt, (vi 90).toInt, (vi 91).toInt, (vi 92).toInt, (vi 93).toInt, (vi 94).toInt, (vi 95).toInt, (vi 96).toInt, (vi 97).toInt, (vi 98).toInt, (vi 99).toInt, (vi 100).toInt, (vi 101).toInt, (vi 102).toInt, (vi 103).toInt, (vi 104).toInt, (vi 105).toInt, (vi 106).toInt, (vi 107).toInt, (vi 108).toInt, (vi 109).toInt, (vi 110).toInt, (vi 111).toInt, (vi 112).toInt, (vi 113).toInt, (vi 114).toInt, (vi 115).toInt, (vi 116).toInt, (vi 117).toInt, (vi 118).toInt, (vi 119).toInt, (vi 120).toInt, (vi 121).toInt, (vi 122).toInt, (vi 123).toInt, (vi 124).toInt, (vi 125).toInt, (vi 126).toInt, (vi 127).toInt, (vi 128).toInt, (vi 129).toInt, (vi 130).toInt, (vi 131).toInt, (vi 132).toInt, (vi 133).toInt, (vi 134).toInt, (vi 135).toInt, (vi 136).toInt]) (gF1 := fl_nF [(fl_A (vf 23)), (fl_A (vf 24)), (fl_A (vf 25)), (fl_A (vf 26)), (fl_A (vf 27)), (fl_A (vf 28)), (fl_A (vf 29)), (fl_A (vf 30)), (fl_A (vf 31)), (fl_A (vf 32)), (fl_A (vf 33)), (fl_A (vf 34)), (fl_A (vf 35)), (fl_A (vf 36)), (fl_A (vf 37)), (fl_A (vf 38)), (fl_A (vf 39)), (fl_A (vf 40)), (fl_A (vf 41)), (fl_A (vf 42)), (fl_A (vf 43)), (fl_A (vf 44)), (fl_A (vf 45)), (fl_A (vf 46)), (fl_A (vf 47)), (fl_A (vf 48)), (fl_A (vf 49)), (fl_A (vf 50)), (fl_A (vf 51)), (fl_A (vf 52)), (fl_A (vf 53)), (fl_A (vf 54))]) (fun k h9 => lr_g3e vi h9) (fun k h9 => lr_f3e vf h9) hHi
    have hIm := rs_I_cg (gI1 := fl_nI [(vi 137).toInt, (vi 138).toInt, (vi 139).toInt, (vi 140).toInt, (vi 141).toInt, (vi 142).toInt, (vi 143).toInt, (vi 144).toInt, (vi 145).toInt, (vi 146).toInt, (vi 147).toInt, (vi 148).toInt, (vi 149).toInt, (vi 150).toInt, (vi 151).toInt]) (gF1 := fl_nF [(fl_A (vf 55)), (fl_A (vf 56)), (fl_A (vf 57)), (fl_A (vf 58)), (fl_A (vf 59)), (fl_A (vf 60))]) (fun k h9 => lr_g4e vi h9) (fun k h9 => lr_f4e vf h9) hIm
    obtain ⟨R, tr, U1, L1, gI1, pl1, gF1, st1, und1, e1, e2, e3, e5⟩ := rs_put hG hS hm hHi a.toInt
    rcases gm with ⟨z9, -⟩ | ⟨-, gm⟩
    · rw [hM1] at z9; exact absurd z9 (by decide)
    rw [e11, ← hU] at gm
    rw [e1] at gx
    rw [e2] at gm
    have p_pl : pl1 = (fl_A (vf1 1)) := congrArg (fun z9 => z9.2.1) gx
    have p_U : U1 = (vi1 24).toInt := congrArg (fun z9 => z9.2.2.1) gx
    have p_L : L1 = (vi1 26).toInt := congrArg (fun z9 => z9.2.2.2.1) gx
    have p_gI : gI1 = (fl_nI [(vi1 57).toInt, (vi1 58).toInt, (vi1 59).toInt, (vi1 60).toInt, (vi1 61).toInt, (vi1 62).toInt, (vi1 63).toInt, (vi1 64).toInt, (vi1 65).toInt, (vi1 66).toInt, (vi1 67).toInt, (vi1 68).toInt, (vi1 69).toInt, (vi1 70).toInt, (vi1 71).toInt, (vi1 72).toInt, (vi1 73).toInt, (vi1 74).toInt, (vi1 75).toInt, (vi1 76).toInt, (vi1 77).toInt, (vi1 78).toInt, (vi1 79).toInt, (vi1 80).toInt, (vi1 81).toInt, (vi1 82).toInt, (vi1 83).toInt, (vi1 84).toInt, (vi1 85).toInt, (vi1 86).toInt, (vi1 87).toInt, (vi1 88).toInt, (vi1 89).toInt, (vi1 90).toInt, (vi1 91).toInt, (vi1 92).toInt, (vi1 93).toInt, (vi1 94).toInt, (vi1 95).toInt, (vi1 96).toInt, (vi1 97).toInt, (vi1 98).toInt, (vi1 99).toInt, (vi1 100).toInt, (vi1 101).toInt, (vi1 102).toInt, (vi1 103).toInt, (vi1 104).toInt, (vi1 105).toInt, (vi1 106).toInt, (vi1 107).toInt, (vi1 108).toInt, (vi1 109).toInt, (vi1 110).toInt, (vi1 111).toInt, (vi1 112).toInt, (vi1 113).toInt, (vi1 114).toInt, (vi1 115).toInt, (vi1 116).toInt, (vi1 117).toInt, (vi1 118).toInt, (vi1 119).toInt, (vi1 120).toInt, (vi1 121).toInt, (vi1 122).toInt, (vi1 123).toInt, (vi1 124).toInt, (vi1 125).toInt, (vi1 126).toInt, (vi1 127).toInt, (vi1 128).toInt, (vi1 129).toInt, (vi1 130).toInt, (vi1 131).toInt, (vi1 132).toInt, (vi1 133).toInt, (vi1 134).toInt, (vi1 135).toInt, (vi1 136).toInt]) := congrArg (fun z9 => z9.2.2.2.2.1) gx
    have p_gF : gF1 = (fl_nF [(fl_A (vf1 23)), (fl_A (vf1 24)), (fl_A (vf1 25)), (fl_A (vf1 26)), (fl_A (vf1 27)), (fl_A (vf1 28)), (fl_A (vf1 29)), (fl_A (vf1 30)), (fl_A (vf1 31)), (fl_A (vf1 32)), (fl_A (vf1 33)), (fl_A (vf1 34)), (fl_A (vf1 35)), (fl_A (vf1 36)), (fl_A (vf1 37)), (fl_A (vf1 38)), (fl_A (vf1 39)), (fl_A (vf1 40)), (fl_A (vf1 41)), (fl_A (vf1 42)), (fl_A (vf1 43)), (fl_A (vf1 44)), (fl_A (vf1 45)), (fl_A (vf1 46)), (fl_A (vf1 47)), (fl_A (vf1 48)), (fl_A (vf1 49)), (fl_A (vf1 50)), (fl_A (vf1 51)), (fl_A (vf1 52)), (fl_A (vf1 53)), (fl_A (vf1 54))]) := congrArg (fun z9 => z9.2.2.2.2.2) gx
    have r_U : U1 = (vm1 12).toInt := congrArg (fun z9 => z9.2.2.1) gm
    have r_st : st1 = (fl_A (vn1 4)) := congrArg (fun z9 => z9.2.2.2.1) gm
    have r_und : und1 = (fl_A (vn1 6)) := congrArg (fun z9 => z9.2.2.2.2) gm
    have w1 : rs_S (vi1 33).toInt (vi1 34).toInt (fl_A (vf1 11)) (vi1 12).toInt (vi1 13).toInt (vi1 14).toInt (vi1 15).toInt (vi1 16).toInt (fl_A (vf1 1)) (fl_A (vf1 2)) (fl_A (vn1 4)) := by
      rw [kx1 33 (by decide), kx1 34 (by decide), kx2 11 (by decide), kx1 12 (by decide), kx1 13 (by decide), kx1 14 (by decide), kx1 15 (by decide), kx1 16 (by decide), ← p_pl, kx2 2 (by decide), ← r_st]
      exact e3
    have w2 : (vi1 12).toInt ≤ 9999 := by
      rw [kx1 12 (by decide)]
      exact hm
    have w3 : (vi1 24).toInt = (vm1 12).toInt := by
      rw [← p_U, ← r_U]
    have w4 : (vi1 25).toInt = (vm1 13).toInt := by
      rw [kx1 25 (by decide), km1 13 (by decide)]
      exact hN
    have w5 : rs_H (vi1 33).toInt (vi1 34).toInt (fl_A (vf1 11)) (vi1 24).toInt (vi1 26).toInt (lr_g3 vi1) (lr_f3 vf1) (fl_A (vn1 6)) := by
      rw [kx1 33 (by decide), kx1 34 (by decide), kx2 11 (by decide), ← p_U, ← p_L, ← r_und]
      exact rs_H_cg (fun k h9 => by rw [p_gI]; exact (lr_g3e vi1 h9).symm) (fun k h9 => by rw [p_gF]; exact (lr_f3e vf1 h9).symm) e5
    have w6 : rs_I (vi1 33).toInt (vi1 34).toInt (fl_A (vf1 11)) (vi1 25).toInt (lr_g4 vi1) (lr_f4 vf1) (fl_A (vn1 7)) := by
      rw [kx1 33 (by decide), kx1 34 (by decide), kx2 11 (by decide), kx1 25 (by decide), km2 7 (by decide)]
      exact rs_I_cg (fun k h9 => by rw [lr_g4e vi h9]; show (vi1 (137 + k)).toInt = (vi (137 + k)).toInt; rw [kx1 (137 + k) (kp_out (a := 137) (b := 152) (by decide) (by omega) (by omega))]) (fun k h9 => by rw [lr_f4e vf h9]; show fl_A (vf1 (55 + k)) = fl_A (vf (55 + k)); rw [kx2 (55 + k) (kp_out (a := 55) (b := 61) (by decide) (by omega) (by omega))]) hIm
    exact ⟨by rw [kx1 1 (by decide), km1 7 (by decide)]; exact hF, lr_H_keep (kx1 33 (by decide)) (kx1 34 (by decide)) (kx1 35 (by decide)) (kx1 36 (by decide)) (kx1 37 (by decide)) (kx1 38 (by decide)) (kx1 39 (by decide)) (kx1 40 (by decide)) (kx1 41 (by decide)) (kx1 42 (by decide)) (kx1 53 (by decide)) (kx2 11 (by decide)) (kx2 12 (by decide)) (kx2 13 (by decide)) (kx2 14 (by decide)) (kx2 19 (by decide)) (kx2 20 (by decide)) (km1 11 (by decide)) (by rw [km2 2 (by decide)]) hH, ⟨by rw [kx1 54 (by decide)]; exact hV.1.1, by rw [kx1 56 (by decide)]; exact hV.1.2⟩, Or.inr ⟨by rw [km1 11 (by decide)]; exact hM1, w1, w2, w3, w4, w5, w6⟩⟩

theorem lr_wind {tp : Int32} {vi vi1 vm vm1 : Nat → Int32} {vf vf1 vn vn1 : Nat → Nat → Int32} (hR : lr_R tp vi vf vm vn) (hM : vm 11 = 0 ∨ (vm 11 = 1 ∧ ((∀ k : Nat, 0 ≤ k → k ≤ 0 → (2 : Int) ≤ ((vn 2) k).toInt ∧ ((vn 2) k).toInt ≤ 9) ∧ (∀ k : Nat, 1 ≤ k → k ≤ 1 → (1 : Int) ≤ ((vn 2) k).toInt ∧ ((vn 2) k).toInt ≤ 20) ∧ (∀ k : Nat, 2 ≤ k → k ≤ 2 → (0 : Int) ≤ ((vn 2) k).toInt ∧ ((vn 2) k).toInt ≤ 8) ∧ (∀ k : Nat, 3 ≤ k → k ≤ 3 → (0 : Int) ≤ ((vn 2) k).toInt ∧ ((vn 2) k).toInt ≤ 100) ∧ (∀ k : Nat, 4 ≤ k → k ≤ 4 → (0 : Int) ≤ ((vn 2) k).toInt ∧ ((vn 2) k).toInt ≤ 9) ∧ (∀ k : Nat, 5 ≤ k → k ≤ 5 → (0 : Int) ≤ ((vn 2) k).toInt ∧ ((vn 2) k).toInt ≤ 3) ∧ (∀ k : Nat, 6 ≤ k → k ≤ 6 → (0 : Int) ≤ ((vn 2) k).toInt ∧ ((vn 2) k).toInt ≤ 6) ∧ (∀ k : Nat, 7 ≤ k → k ≤ 9 → (0 : Int) ≤ ((vn 2) k).toInt ∧ ((vn 2) k).toInt ≤ 8) ∧ (∀ k : Nat, 12 ≤ k → k ≤ 29 → (0 : Int) ≤ ((vn 2) k).toInt ∧ ((vn 2) k).toInt ≤ 20) ∧ (∀ k : Nat, 30 ≤ k → k ≤ 35 → (0 : Int) ≤ ((vn 2) k).toInt ∧ ((vn 2) k).toInt ≤ 8) ∧ (∀ k : Nat, 36 ≤ k → k ≤ 47 → (0 : Int) ≤ ((vn 2) k).toInt ∧ ((vn 2) k).toInt ≤ 999)) ∧ ((∀ (j i0 i : Int32), (0 : Int) ≤ j.toInt → j.toInt ≤ 8 → i0.toInt = 12 + 2 * j.toInt → i.toInt = 13 + 2 * j.toInt → ((vn 2) i0.toNatClampNeg).toInt = (1 : Int32).toInt → (1 : Int) ≤ ((vn 2) i.toNatClampNeg).toInt)))) (a : Int32) (kx1 : (∀ k9 : Nat, k9 ∉ ([0, 13, 14, 24, 26, 57, 58, 59, 60, 61, 62, 63, 64, 65, 66, 67, 68, 69, 70, 71, 72, 73, 74, 75, 76, 77, 78, 79, 80, 81, 82, 83, 84, 85, 86, 87, 88, 89, 90, 91, 92, 93, 94, 95, 96, 97, 98, 99, 100, 101, 102, 103, 104, 105, 106, 107, 108, 109, 110, 111, 112, 113, 114, 115, 116, 117, 118, 119, 120, 121, 122, 123, 124, 125, 126, 127, 128, 129, 130, 131, 132, 133, 134, 135, 136] : List Nat) → vi1 k9 = vi k9)) (kx2 : (∀ k9 : Nat, k9 ∉ ([23, 24, 25, 26, 27, 28, 29, 30, 31, 32, 33, 34, 35, 36, 37, 38, 39, 40, 41, 42, 43, 44, 45, 46, 47, 48, 49, 50, 51, 52, 53, 54] : List Nat) → vf1 k9 = vf k9)) (km1 : (∀ k9 : Nat, k9 ∉ ([0, 9, 12] : List Nat) → vm1 k9 = vm k9)) (km2 : (∀ k9 : Nat, k9 ∉ ([4, 6] : List Nat) → vn1 k9 = vn k9)) (gx : (Ff_X7_wind a.toInt (vi 33).toInt (vi 12).toInt (vi 13).toInt (vi 14).toInt (vi 15).toInt (vi 16).toInt (vi 24).toInt (vi 26).toInt (fl_nI [(vi 57).toInt, (vi 58).toInt, (vi 59).toInt, (vi 60).toInt, (vi 61).toInt, (vi 62).toInt, (vi 63).toInt, (vi 64).toInt, (vi 65).toInt, (vi 66).toInt, (vi 67).toInt, (vi 68).toInt, (vi 69).toInt, (vi 70).toInt, (vi 71).toInt, (vi 72).toInt, (vi 73).toInt, (vi 74).toInt, (vi 75).toInt, (vi 76).toInt, (vi 77).toInt, (vi 78).toInt, (vi 79).toInt, (vi 80).toInt, (vi 81).toInt, (vi 82).toInt, (vi 83).toInt, (vi 84).toInt, (vi 85).toInt, (vi 86).toInt, (vi 87).toInt, (vi 88).toInt, (vi 89).toInt, (vi 90).toInt, (vi 91).toInt, (vi 92).toInt, (vi 93).toInt, (vi 94).toInt, (vi 95).toInt, (vi 96).toInt, (vi 97).toInt, (vi 98).toInt, (vi 99).toInt, (vi 100).toInt, (vi 101).toInt, (vi 102).toInt, (vi 103).toInt, (vi 104).toInt, (vi 105).toInt, (vi 106).toInt, (vi 107).toInt, (vi 108).toInt, (vi 109).toInt, (vi 110).toInt, (vi 111).toInt, (vi 112).toInt, (vi 113).toInt, (vi 114).toInt, (vi 115).toInt, (vi 116).toInt, (vi 117).toInt, (vi 118).toInt, (vi 119).toInt, (vi 120).toInt, (vi 121).toInt, (vi 122).toInt, (vi 123).toInt, (vi 124).toInt, (vi 125).toInt, (vi 126).toInt, (vi 127).toInt, (vi 128).toInt, (vi 129).toInt, (vi 130).toInt, (vi 131).toInt, (vi 132).toInt, (vi 133).toInt, (vi 134).toInt, (vi 135).toInt, (vi 136).toInt]) (fl_A (vf 1)) (fl_nF [(fl_A (vf 23)), (fl_A (vf 24)), (fl_A (vf 25)), (fl_A (vf 26)), (fl_A (vf 27)), (fl_A (vf 28)), (fl_A (vf 29)), (fl_A (vf 30)), (fl_A (vf 31)), (fl_A (vf 32)), (fl_A (vf 33)), (fl_A (vf 34)), (fl_A (vf 35)), (fl_A (vf 36)), (fl_A (vf 37)), (fl_A (vf 38)), (fl_A (vf 39)), (fl_A (vf 40)), (fl_A (vf 41)), (fl_A (vf 42)), (fl_A (vf 43)), (fl_A (vf 44)), (fl_A (vf 45)), (fl_A (vf 46)), (fl_A (vf 47)), (fl_A (vf 48)), (fl_A (vf 49)), (fl_A (vf 50)), (fl_A (vf 51)), (fl_A (vf 52)), (fl_A (vf 53)), (fl_A (vf 54))]) (fl_A (vf 2))).2 = ((vi1 0).toInt, (vi1 13).toInt, (vi1 14).toInt, (vi1 24).toInt, (vi1 26).toInt, (fl_nI [(vi1 57).toInt, (vi1 58).toInt, (vi1 59).toInt, (vi1 60).toInt, (vi1 61).toInt, (vi1 62).toInt, (vi1 63).toInt, (vi1 64).toInt, (vi1 65).toInt, (vi1 66).toInt, (vi1 67).toInt, (vi1 68).toInt, (vi1 69).toInt, (vi1 70).toInt, (vi1 71).toInt, (vi1 72).toInt, (vi1 73).toInt, (vi1 74).toInt, (vi1 75).toInt, (vi1 76).toInt, (vi1 77).toInt, (vi1 78).toInt, (vi1 79).toInt, (vi1 80).toInt, (vi1 81).toInt, (vi1 82).toInt, (vi1 83).toInt, (vi1 84).toInt, (vi1 85).toInt, (vi1 86).toInt, (vi1 87).toInt, (vi1 88).toInt, (vi1 89).toInt, (vi1 90).toInt, (vi1 91).toInt, (vi1 92).toInt, (vi1 93).toInt, (vi1 94).toInt, (vi1 95).toInt, (vi1 96).toInt, (vi1 97).toInt, (vi1 98).toInt, (vi1 99).toInt, (vi1 100).toInt, (vi1 101).toInt, (vi1 102).toInt, (vi1 103).toInt, (vi1 104).toInt, (vi1 105).toInt, (vi1 106).toInt, (vi1 107).toInt, (vi1 108).toInt, (vi1 109).toInt, (vi1 110).toInt, (vi1 111).toInt, (vi1 112).toInt, (vi1 113).toInt, (vi1 114).toInt, (vi1 115).toInt, (vi1 116).toInt, (vi1 117).toInt, (vi1 118).toInt, (vi1 119).toInt, (vi1 120).toInt, (vi1 121).toInt, (vi1 122).toInt, (vi1 123).toInt, (vi1 124).toInt, (vi1 125).toInt, (vi1 126).toInt, (vi1 127).toInt, (vi1 128).toInt, (vi1 129).toInt, (vi1 130).toInt, (vi1 131).toInt, (vi1 132).toInt, (vi1 133).toInt, (vi1 134).toInt, (vi1 135).toInt, (vi1 136).toInt]), (fl_nF [(fl_A (vf1 23)), (fl_A (vf1 24)), (fl_A (vf1 25)), (fl_A (vf1 26)), (fl_A (vf1 27)), (fl_A (vf1 28)), (fl_A (vf1 29)), (fl_A (vf1 30)), (fl_A (vf1 31)), (fl_A (vf1 32)), (fl_A (vf1 33)), (fl_A (vf1 34)), (fl_A (vf1 35)), (fl_A (vf1 36)), (fl_A (vf1 37)), (fl_A (vf1 38)), (fl_A (vf1 39)), (fl_A (vf1 40)), (fl_A (vf1 41)), (fl_A (vf1 42)), (fl_A (vf1 43)), (fl_A (vf1 44)), (fl_A (vf1 45)), (fl_A (vf1 46)), (fl_A (vf1 47)), (fl_A (vf1 48)), (fl_A (vf1 49)), (fl_A (vf1 50)), (fl_A (vf1 51)), (fl_A (vf1 52)), (fl_A (vf1 53)), (fl_A (vf1 54))]))) (gm : ((vm 11 = 0 ∧ (∀ k9 : Nat, k9 ∉ ([0, 9] : List Nat) → vm1 k9 = vm k9) ∧ (∀ k9 : Nat, k9 ∉ ([] : List Nat) → vn1 k9 = vn k9)) ∨ (vm 11 = 1 ∧ (Ff_X8_wind a.toInt (vm 11).toInt (vm 12).toInt (fl_A (vn 2)) (fl_A (vn 4)) (fl_A (vn 6))).2 = ((vm1 0).toInt, (vm1 9).toInt, (vm1 12).toInt, (fl_A (vn1 4)), (fl_A (vn1 6)))))) : lr_Q vi1 vf1 vm1 vn1 := by
  obtain ⟨hT, hF, hH, hV⟩ := hR
  rcases hM with hM0 | ⟨hM1, hrs, hkm⟩
  · rcases hH with hH | ⟨z9, -⟩
    rotate_left
    · rw [hM0] at z9; exact absurd z9 (by decide)
    have hH9 : lr_H vi vf vm vn := Or.inl hH
    obtain ⟨-, h33, -⟩ := hH
    obtain ⟨⟨v54, v56⟩, hV⟩ := hV
    rcases hV with ⟨-, v12, v24, v25, u12, u13⟩ | ⟨z9, -⟩
    rotate_left
    · rw [hM0] at z9; exact absurd z9 (by decide)
    have e33 : (vi 33).toInt = 0 := by rw [h33]; decide
    have ex : Ff_X7_wind a.toInt (vi 33).toInt (vi 12).toInt (vi 13).toInt (vi 14).toInt (vi 15).toInt (vi 16).toInt (vi 24).toInt (vi 26).toInt (fl_nI [(vi 57).toInt, (vi 58).toInt, (vi 59).toInt, (vi 60).toInt, (vi 61).toInt, (vi 62).toInt, (vi 63).toInt, (vi 64).toInt, (vi 65).toInt, (vi 66).toInt, (vi 67).toInt, (vi 68).toInt, (vi 69).toInt, (vi 70).toInt, (vi 71).toInt, (vi 72).toInt, (vi 73).toInt, (vi 74).toInt, (vi 75).toInt, (vi 76).toInt, (vi 77).toInt, (vi 78).toInt, (vi 79).toInt, (vi 80).toInt, (vi 81).toInt, (vi 82).toInt, (vi 83).toInt, (vi 84).toInt, (vi 85).toInt, (vi 86).toInt, (vi 87).toInt, (vi 88).toInt, (vi 89).toInt, (vi 90).toInt, (vi 91).toInt, (vi 92).toInt, (vi 93).toInt, (vi 94).toInt, (vi 95).toInt, (vi 96).toInt, (vi 97).toInt, (vi 98).toInt, (vi 99).toInt, (vi 100).toInt, (vi 101).toInt, (vi 102).toInt, (vi 103).toInt, (vi 104).toInt, (vi 105).toInt, (vi 106).toInt, (vi 107).toInt, (vi 108).toInt, (vi 109).toInt, (vi 110).toInt, (vi 111).toInt, (vi 112).toInt, (vi 113).toInt, (vi 114).toInt, (vi 115).toInt, (vi 116).toInt, (vi 117).toInt, (vi 118).toInt, (vi 119).toInt, (vi 120).toInt, (vi 121).toInt, (vi 122).toInt, (vi 123).toInt, (vi 124).toInt, (vi 125).toInt, (vi 126).toInt, (vi 127).toInt, (vi 128).toInt, (vi 129).toInt, (vi 130).toInt, (vi 131).toInt, (vi 132).toInt, (vi 133).toInt, (vi 134).toInt, (vi 135).toInt, (vi 136).toInt]) (fl_A (vf 1)) (fl_nF [(fl_A (vf 23)), (fl_A (vf 24)), (fl_A (vf 25)), (fl_A (vf 26)), (fl_A (vf 27)), (fl_A (vf 28)), (fl_A (vf 29)), (fl_A (vf 30)), (fl_A (vf 31)), (fl_A (vf 32)), (fl_A (vf 33)), (fl_A (vf 34)), (fl_A (vf 35)), (fl_A (vf 36)), (fl_A (vf 37)), (fl_A (vf 38)), (fl_A (vf 39)), (fl_A (vf 40)), (fl_A (vf 41)), (fl_A (vf 42)), (fl_A (vf 43)), (fl_A (vf 44)), (fl_A (vf 45)), (fl_A (vf 46)), (fl_A (vf 47)), (fl_A (vf 48)), (fl_A (vf 49)), (fl_A (vf 50)), (fl_A (vf 51)), (fl_A (vf 52)), (fl_A (vf 53)), (fl_A (vf 54))]) (fl_A (vf 2)) = ((-1), 1, (vi 13).toInt, (vi 14).toInt, (vi 24).toInt, (vi 26).toInt, (fl_nI [(vi 57).toInt, (vi 58).toInt, (vi 59).toInt, (vi 60).toInt, (vi 61).toInt, (vi 62).toInt, (vi 63).toInt, (vi 64).toInt, (vi 65).toInt, (vi 66).toInt, (vi 67).toInt, (vi 68).toInt, (vi 69).toInt, (vi 70).toInt, (vi 71).toInt, (vi 72).toInt, (vi 73).toInt, (vi 74).toInt, (vi 75).toInt, (vi 76).toInt, (vi 77).toInt, (vi 78).toInt, (vi 79).toInt, (vi 80).toInt, (vi 81).toInt, (vi 82).toInt, (vi 83).toInt, (vi 84).toInt, (vi 85).toInt, (vi 86).toInt, (vi 87).toInt, (vi 88).toInt, (vi 89).toInt, (vi 90).toInt, (vi 91).toInt, (vi 92).toInt, (vi 93).toInt, (vi 94).toInt, (vi 95).toInt, (vi 96).toInt, (vi 97).toInt, (vi 98).toInt, (vi 99).toInt, (vi 100).toInt, (vi 101).toInt, (vi 102).toInt, (vi 103).toInt, (vi 104).toInt, (vi 105).toInt, (vi 106).toInt, (vi 107).toInt, (vi 108).toInt, (vi 109).toInt, (vi 110).toInt, (vi 111).toInt, (vi 112).toInt, (vi 113).toInt, (vi 114).toInt, (vi 115).toInt, (vi 116).toInt, (vi 117).toInt, (vi 118).toInt, (vi 119).toInt, (vi 120).toInt, (vi 121).toInt, (vi 122).toInt, (vi 123).toInt, (vi 124).toInt, (vi 125).toInt, (vi 126).toInt, (vi 127).toInt, (vi 128).toInt, (vi 129).toInt, (vi 130).toInt, (vi 131).toInt, (vi 132).toInt, (vi 133).toInt, (vi 134).toInt, (vi 135).toInt, (vi 136).toInt]), (fl_nF [(fl_A (vf 23)), (fl_A (vf 24)), (fl_A (vf 25)), (fl_A (vf 26)), (fl_A (vf 27)), (fl_A (vf 28)), (fl_A (vf 29)), (fl_A (vf 30)), (fl_A (vf 31)), (fl_A (vf 32)), (fl_A (vf 33)), (fl_A (vf 34)), (fl_A (vf 35)), (fl_A (vf 36)), (fl_A (vf 37)), (fl_A (vf 38)), (fl_A (vf 39)), (fl_A (vf 40)), (fl_A (vf 41)), (fl_A (vf 42)), (fl_A (vf 43)), (fl_A (vf 44)), (fl_A (vf 45)), (fl_A (vf 46)), (fl_A (vf 47)), (fl_A (vf 48)), (fl_A (vf 49)), (fl_A (vf 50)), (fl_A (vf 51)), (fl_A (vf 52)), (fl_A (vf 53)), (fl_A (vf 54))])) := by
      unfold Ff_X7_wind
      rw [e33, rs_isf, if_neg (by omega)]
      rfl
    rw [ex] at gx
    have p_U : (vi 24).toInt = (vi1 24).toInt := congrArg (fun z9 => z9.2.2.2.1) gx
    rcases gm with ⟨-, k01, k02⟩ | ⟨z9, -⟩
    rotate_left
    · rw [hM0] at z9; exact absurd z9 (by decide)
    refine ⟨by rw [kx1 1 (by decide), k01 7 (by decide)]; exact hF, lr_H_keep (kx1 33 (by decide)) (kx1 34 (by decide)) (kx1 35 (by decide)) (kx1 36 (by decide)) (kx1 37 (by decide)) (kx1 38 (by decide)) (kx1 39 (by decide)) (kx1 40 (by decide)) (kx1 41 (by decide)) (kx1 42 (by decide)) (kx1 53 (by decide)) (kx2 11 (by decide)) (kx2 12 (by decide)) (kx2 13 (by decide)) (kx2 14 (by decide)) (kx2 19 (by decide)) (kx2 20 (by decide)) (k01 11 (by decide)) (by rw [k02 2 (by decide)]) hH9, ⟨by rw [kx1 54 (by decide)]; exact v54, by rw [kx1 56 (by decide)]; exact v56⟩, Or.inl ⟨by rw [k01 11 (by decide)]; exact hM0, by rw [kx1 12 (by decide)]; exact v12, by rw [← Int32.toInt_inj, ← p_U, v24], by rw [kx1 25 (by decide)]; exact v25, by rw [k01 12 (by decide)]; exact u12, by rw [k01 13 (by decide)]; exact u13⟩⟩
  · obtain ⟨hG, hD, -⟩ := lr_G hH hM1 hrs hkm
    have hf9 : 2 ≤ (vi 33).toInt ∧ (vi 33).toInt ≤ 9 := ⟨hG.1.2.1, hG.1.2.2⟩
    have f9 := hf9.2
    have hV4 := hV.2
    rcases hV4 with ⟨z9, -⟩ | ⟨-, hS, hm, hU, hN, hHi, hIm⟩
    · rw [hM1] at z9; exact absurd z9 (by decide)
    have e11 : (vm 11).toInt = 1 := by rw [hM1]; decide
    have hHi := rs_H_cg (gI1 := fl_nI [(vi 57).toInt, (vi 58).toInt, (vi 59).toInt, (vi 60).toInt, (vi 61).toInt, (vi 62).toInt, (vi 63).toInt, (vi 64).toInt, (vi 65).toInt, (vi 66).toInt, (vi 67).toInt, (vi 68).toInt, (vi 69).toInt, (vi 70).toInt, (vi 71).toInt, (vi 72).toInt, (vi 73).toInt, (vi 74).toInt, (vi 75).toInt, (vi 76).toInt, (vi 77).toInt, (vi 78).toInt, (vi 79).toInt, (vi 80).toInt, (vi 81).toInt, (vi 82).toInt, (vi 83).toInt, (vi 84).toInt, (vi 85).toInt, (vi 86).toInt, (vi 87).toInt, (vi 88).toInt, (vi 89).toInt, (vi 90).toInt, (vi 91).toInt, (vi 92).toInt, (vi 93).toInt, (vi 94).toInt, (vi 95).toInt, (vi 96).toInt, (vi 97).toInt, (vi 98).toInt, (vi 99).toInt, (vi 100).toInt, (vi 101).toInt, (vi 102).toInt, (vi 103).toInt, (vi 104).toInt, (vi 105).toInt, (vi 106).toInt, (vi 107).toInt, (vi 108).toInt, (vi 109).toInt, (vi 110).toInt, (vi 111).toInt, (vi 112).toInt, (vi 113).toInt, (vi 114).toInt, (vi 115).toInt, (vi 116).toInt, (vi 117).toInt, (vi 118).toInt, (vi 119).toInt, (vi 120).toInt, (vi 121).toInt, (vi 122).toInt, (vi 123).toInt, (vi 124).toInt, (vi 125).toInt, (vi 126).toInt, (vi 127).toInt, (vi 128).toInt, (vi 129).toInt, (vi 130).toInt, (vi 131).toInt, (vi 132).toInt, (vi 133).toInt, (vi 134).toInt, (vi 135).toInt, (vi 136).toInt]) (gF1 := fl_nF [(fl_A (vf 23)), (fl_A (vf 24)), (fl_A (vf 25)), (fl_A (vf 26)), (fl_A (vf 27)), (fl_A (vf 28)), (fl_A (vf 29)), (fl_A (vf 30)), (fl_A (vf 31)), (fl_A (vf 32)), (fl_A (vf 33)), (fl_A (vf 34)), (fl_A (vf 35)), (fl_A (vf 36)), (fl_A (vf 37)), (fl_A (vf 38)), (fl_A (vf 39)), (fl_A (vf 40)), (fl_A (vf 41)), (fl_A (vf 42)), (fl_A (vf 43)), (fl_A (vf 44)), (fl_A (vf 45)), (fl_A (vf 46)), (fl_A (vf 47)), (fl_A (vf 48)), (fl_A (vf 49)), (fl_A (vf 50)), (fl_A (vf 51)), (fl_A (vf 52)), (fl_A (vf 53)), (fl_A (vf 54))]) (fun k h9 => lr_g3e vi h9) (fun k h9 => lr_f3e vf h9) hHi
    have hIm := rs_I_cg (gI1 := fl_nI [(vi 137).toInt, (vi 138).toInt, (vi 139).toInt, (vi 140).toInt, (vi 141).toInt, (vi 142).toInt, (vi 143).toInt, (vi 144).toInt, (vi 145).toInt, (vi 146).toInt, (vi 147).toInt, (vi 148).toInt, (vi 149).toInt, (vi 150).toInt, (vi 151).toInt]) (gF1 := fl_nF [(fl_A (vf 55)), (fl_A (vf 56)), (fl_A (vf 57)), (fl_A (vf 58)), (fl_A (vf 59)), (fl_A (vf 60))]) (fun k h9 => lr_g4e vi h9) (fun k h9 => lr_f4e vf h9) hIm
    obtain ⟨R, tr, tu1, sn1, U1, L1, gI1, gF1, st1, und1, e1, e2, e3, e5⟩ := rs_wind hG hS hm hHi a.toInt
    rcases gm with ⟨z9, -⟩ | ⟨-, gm⟩
    · rw [hM1] at z9; exact absurd z9 (by decide)
    rw [e11, ← hU] at gm
    rw [e1] at gx
    rw [e2] at gm
    have p_tu : tu1 = (vi1 13).toInt := congrArg (fun z9 => z9.2.1) gx
    have p_sn : sn1 = (vi1 14).toInt := congrArg (fun z9 => z9.2.2.1) gx
    have p_U : U1 = (vi1 24).toInt := congrArg (fun z9 => z9.2.2.2.1) gx
    have p_L : L1 = (vi1 26).toInt := congrArg (fun z9 => z9.2.2.2.2.1) gx
    have p_gI : gI1 = (fl_nI [(vi1 57).toInt, (vi1 58).toInt, (vi1 59).toInt, (vi1 60).toInt, (vi1 61).toInt, (vi1 62).toInt, (vi1 63).toInt, (vi1 64).toInt, (vi1 65).toInt, (vi1 66).toInt, (vi1 67).toInt, (vi1 68).toInt, (vi1 69).toInt, (vi1 70).toInt, (vi1 71).toInt, (vi1 72).toInt, (vi1 73).toInt, (vi1 74).toInt, (vi1 75).toInt, (vi1 76).toInt, (vi1 77).toInt, (vi1 78).toInt, (vi1 79).toInt, (vi1 80).toInt, (vi1 81).toInt, (vi1 82).toInt, (vi1 83).toInt, (vi1 84).toInt, (vi1 85).toInt, (vi1 86).toInt, (vi1 87).toInt, (vi1 88).toInt, (vi1 89).toInt, (vi1 90).toInt, (vi1 91).toInt, (vi1 92).toInt, (vi1 93).toInt, (vi1 94).toInt, (vi1 95).toInt, (vi1 96).toInt, (vi1 97).toInt, (vi1 98).toInt, (vi1 99).toInt, (vi1 100).toInt, (vi1 101).toInt, (vi1 102).toInt, (vi1 103).toInt, (vi1 104).toInt, (vi1 105).toInt, (vi1 106).toInt, (vi1 107).toInt, (vi1 108).toInt, (vi1 109).toInt, (vi1 110).toInt, (vi1 111).toInt, (vi1 112).toInt, (vi1 113).toInt, (vi1 114).toInt, (vi1 115).toInt, (vi1 116).toInt, (vi1 117).toInt, (vi1 118).toInt, (vi1 119).toInt, (vi1 120).toInt, (vi1 121).toInt, (vi1 122).toInt, (vi1 123).toInt, (vi1 124).toInt, (vi1 125).toInt, (vi1 126).toInt, (vi1 127).toInt, (vi1 128).toInt, (vi1 129).toInt, (vi1 130).toInt, (vi1 131).toInt, (vi1 132).toInt, (vi1 133).toInt, (vi1 134).toInt, (vi1 135).toInt, (vi1 136).toInt]) := congrArg (fun z9 => z9.2.2.2.2.2.1) gx
    have p_gF : gF1 = (fl_nF [(fl_A (vf1 23)), (fl_A (vf1 24)), (fl_A (vf1 25)), (fl_A (vf1 26)), (fl_A (vf1 27)), (fl_A (vf1 28)), (fl_A (vf1 29)), (fl_A (vf1 30)), (fl_A (vf1 31)), (fl_A (vf1 32)), (fl_A (vf1 33)), (fl_A (vf1 34)), (fl_A (vf1 35)), (fl_A (vf1 36)), (fl_A (vf1 37)), (fl_A (vf1 38)), (fl_A (vf1 39)), (fl_A (vf1 40)), (fl_A (vf1 41)), (fl_A (vf1 42)), (fl_A (vf1 43)), (fl_A (vf1 44)), (fl_A (vf1 45)), (fl_A (vf1 46)), (fl_A (vf1 47)), (fl_A (vf1 48)), (fl_A (vf1 49)), (fl_A (vf1 50)), (fl_A (vf1 51)), (fl_A (vf1 52)), (fl_A (vf1 53)), (fl_A (vf1 54))]) := congrArg (fun z9 => z9.2.2.2.2.2.2) gx
    have r_U : U1 = (vm1 12).toInt := congrArg (fun z9 => z9.2.2.1) gm
    have r_st : st1 = (fl_A (vn1 4)) := congrArg (fun z9 => z9.2.2.2.1) gm
    have r_und : und1 = (fl_A (vn1 6)) := congrArg (fun z9 => z9.2.2.2.2) gm
    have w1 : rs_S (vi1 33).toInt (vi1 34).toInt (fl_A (vf1 11)) (vi1 12).toInt (vi1 13).toInt (vi1 14).toInt (vi1 15).toInt (vi1 16).toInt (fl_A (vf1 1)) (fl_A (vf1 2)) (fl_A (vn1 4)) := by
      rw [kx1 33 (by decide), kx1 34 (by decide), kx2 11 (by decide), kx1 12 (by decide), ← p_tu, ← p_sn, kx1 15 (by decide), kx1 16 (by decide), kx2 1 (by decide), kx2 2 (by decide), ← r_st]
      exact e3
    have w2 : (vi1 12).toInt ≤ 9999 := by
      rw [kx1 12 (by decide)]
      exact hm
    have w3 : (vi1 24).toInt = (vm1 12).toInt := by
      rw [← p_U, ← r_U]
    have w4 : (vi1 25).toInt = (vm1 13).toInt := by
      rw [kx1 25 (by decide), km1 13 (by decide)]
      exact hN
    have w5 : rs_H (vi1 33).toInt (vi1 34).toInt (fl_A (vf1 11)) (vi1 24).toInt (vi1 26).toInt (lr_g3 vi1) (lr_f3 vf1) (fl_A (vn1 6)) := by
      rw [kx1 33 (by decide), kx1 34 (by decide), kx2 11 (by decide), ← p_U, ← p_L, ← r_und]
      exact rs_H_cg (fun k h9 => by rw [p_gI]; exact (lr_g3e vi1 h9).symm) (fun k h9 => by rw [p_gF]; exact (lr_f3e vf1 h9).symm) e5
    have w6 : rs_I (vi1 33).toInt (vi1 34).toInt (fl_A (vf1 11)) (vi1 25).toInt (lr_g4 vi1) (lr_f4 vf1) (fl_A (vn1 7)) := by
      rw [kx1 33 (by decide), kx1 34 (by decide), kx2 11 (by decide), kx1 25 (by decide), km2 7 (by decide)]
      exact rs_I_cg (fun k h9 => by rw [lr_g4e vi h9]; show (vi1 (137 + k)).toInt = (vi (137 + k)).toInt; rw [kx1 (137 + k) (kp_out (a := 137) (b := 152) (by decide) (by omega) (by omega))]) (fun k h9 => by rw [lr_f4e vf h9]; show fl_A (vf1 (55 + k)) = fl_A (vf (55 + k)); rw [kx2 (55 + k) (kp_out (a := 55) (b := 61) (by decide) (by omega) (by omega))]) hIm
    exact ⟨by rw [kx1 1 (by decide), km1 7 (by decide)]; exact hF, lr_H_keep (kx1 33 (by decide)) (kx1 34 (by decide)) (kx1 35 (by decide)) (kx1 36 (by decide)) (kx1 37 (by decide)) (kx1 38 (by decide)) (kx1 39 (by decide)) (kx1 40 (by decide)) (kx1 41 (by decide)) (kx1 42 (by decide)) (kx1 53 (by decide)) (kx2 11 (by decide)) (kx2 12 (by decide)) (kx2 13 (by decide)) (kx2 14 (by decide)) (kx2 19 (by decide)) (kx2 20 (by decide)) (km1 11 (by decide)) (by rw [km2 2 (by decide)]) hH, ⟨by rw [kx1 54 (by decide)]; exact hV.1.1, by rw [kx1 56 (by decide)]; exact hV.1.2⟩, Or.inr ⟨by rw [km1 11 (by decide)]; exact hM1, w1, w2, w3, w4, w5, w6⟩⟩

theorem lr_go {tp : Int32} {vi vi1 vm vm1 : Nat → Int32} {vf vf1 vn vn1 : Nat → Nat → Int32} (hR : lr_R tp vi vf vm vn) (hM : vm 11 = 0 ∨ (vm 11 = 1 ∧ ((∀ k : Nat, 0 ≤ k → k ≤ 0 → (2 : Int) ≤ ((vn 2) k).toInt ∧ ((vn 2) k).toInt ≤ 9) ∧ (∀ k : Nat, 1 ≤ k → k ≤ 1 → (1 : Int) ≤ ((vn 2) k).toInt ∧ ((vn 2) k).toInt ≤ 20) ∧ (∀ k : Nat, 2 ≤ k → k ≤ 2 → (0 : Int) ≤ ((vn 2) k).toInt ∧ ((vn 2) k).toInt ≤ 8) ∧ (∀ k : Nat, 3 ≤ k → k ≤ 3 → (0 : Int) ≤ ((vn 2) k).toInt ∧ ((vn 2) k).toInt ≤ 100) ∧ (∀ k : Nat, 4 ≤ k → k ≤ 4 → (0 : Int) ≤ ((vn 2) k).toInt ∧ ((vn 2) k).toInt ≤ 9) ∧ (∀ k : Nat, 5 ≤ k → k ≤ 5 → (0 : Int) ≤ ((vn 2) k).toInt ∧ ((vn 2) k).toInt ≤ 3) ∧ (∀ k : Nat, 6 ≤ k → k ≤ 6 → (0 : Int) ≤ ((vn 2) k).toInt ∧ ((vn 2) k).toInt ≤ 6) ∧ (∀ k : Nat, 7 ≤ k → k ≤ 9 → (0 : Int) ≤ ((vn 2) k).toInt ∧ ((vn 2) k).toInt ≤ 8) ∧ (∀ k : Nat, 12 ≤ k → k ≤ 29 → (0 : Int) ≤ ((vn 2) k).toInt ∧ ((vn 2) k).toInt ≤ 20) ∧ (∀ k : Nat, 30 ≤ k → k ≤ 35 → (0 : Int) ≤ ((vn 2) k).toInt ∧ ((vn 2) k).toInt ≤ 8) ∧ (∀ k : Nat, 36 ≤ k → k ≤ 47 → (0 : Int) ≤ ((vn 2) k).toInt ∧ ((vn 2) k).toInt ≤ 999)) ∧ ((∀ (j i0 i : Int32), (0 : Int) ≤ j.toInt → j.toInt ≤ 8 → i0.toInt = 12 + 2 * j.toInt → i.toInt = 13 + 2 * j.toInt → ((vn 2) i0.toNatClampNeg).toInt = (1 : Int32).toInt → (1 : Int) ≤ ((vn 2) i.toNatClampNeg).toInt)))) (a : Int32) (kx1 : (∀ k9 : Nat, k9 ∉ ([0, 12, 13, 14, 15, 16, 24, 26, 57, 58, 59, 60, 61, 62, 63, 64, 65, 66, 67, 68, 69, 70, 71, 72, 73, 74, 75, 76, 77, 78, 79, 80, 81, 82, 83, 84, 85, 86, 87, 88, 89, 90, 91, 92, 93, 94, 95, 96, 97, 98, 99, 100, 101, 102, 103, 104, 105, 106, 107, 108, 109, 110, 111, 112, 113, 114, 115, 116, 117, 118, 119, 120, 121, 122, 123, 124, 125, 126, 127, 128, 129, 130, 131, 132, 133, 134, 135, 136] : List Nat) → vi1 k9 = vi k9)) (kx2 : (∀ k9 : Nat, k9 ∉ ([1, 2, 23, 24, 25, 26, 27, 28, 29, 30, 31, 32, 33, 34, 35, 36, 37, 38, 39, 40, 41, 42, 43, 44, 45, 46, 47, 48, 49, 50, 51, 52, 53, 54] : List Nat) → vf1 k9 = vf k9)) (km1 : (∀ k9 : Nat, k9 ∉ ([0, 9, 12, 14, 15, 16, 17] : List Nat) → vm1 k9 = vm k9)) (km2 : (∀ k9 : Nat, k9 ∉ ([4, 6, 8, 9] : List Nat) → vn1 k9 = vn k9)) (gx : (Ff_X7_go a.toInt (vi 33).toInt (vi 34).toInt (vi 35).toInt (vi 38).toInt (vi 39).toInt (vi 12).toInt (vi 13).toInt (vi 14).toInt (vi 15).toInt (vi 16).toInt (vi 24).toInt (vi 26).toInt (fl_nI [(vi 57).toInt, (vi 58).toInt, (vi 59).toInt, (vi 60).toInt, (vi 61).toInt, (vi 62).toInt, (vi 63).toInt, (vi 64).toInt, (vi 65).toInt, (vi 66).toInt, (vi 67).toInt, (vi 68).toInt, (vi 69).toInt, (vi 70).toInt, (vi 71).toInt, (vi 72).toInt, (vi 73).toInt, (vi 74).toInt, (vi 75).toInt, (vi 76).toInt, (vi 77).toInt, (vi 78).toInt, (vi 79).toInt, (vi 80).toInt, (vi 81).toInt, (vi 82).toInt, (vi 83).toInt, (vi 84).toInt, (vi 85).toInt, (vi 86).toInt, (vi 87).toInt, (vi 88).toInt, (vi 89).toInt, (vi 90).toInt, (vi 91).toInt, (vi 92).toInt, (vi 93).toInt, (vi 94).toInt, (vi 95).toInt, (vi 96).toInt, (vi 97).toInt, (vi 98).toInt, (vi 99).toInt, (vi 100).toInt, (vi 101).toInt, (vi 102).toInt, (vi 103).toInt, (vi 104).toInt, (vi 105).toInt, (vi 106).toInt, (vi 107).toInt, (vi 108).toInt, (vi 109).toInt, (vi 110).toInt, (vi 111).toInt, (vi 112).toInt, (vi 113).toInt, (vi 114).toInt, (vi 115).toInt, (vi 116).toInt, (vi 117).toInt, (vi 118).toInt, (vi 119).toInt, (vi 120).toInt, (vi 121).toInt, (vi 122).toInt, (vi 123).toInt, (vi 124).toInt, (vi 125).toInt, (vi 126).toInt, (vi 127).toInt, (vi 128).toInt, (vi 129).toInt, (vi 130).toInt, (vi 131).toInt, (vi 132).toInt, (vi 133).toInt, (vi 134).toInt, (vi 135).toInt, (vi 136).toInt]) (fl_A (vf 1)) (fl_nF [(fl_A (vf 23)), (fl_A (vf 24)), (fl_A (vf 25)), (fl_A (vf 26)), (fl_A (vf 27)), (fl_A (vf 28)), (fl_A (vf 29)), (fl_A (vf 30)), (fl_A (vf 31)), (fl_A (vf 32)), (fl_A (vf 33)), (fl_A (vf 34)), (fl_A (vf 35)), (fl_A (vf 36)), (fl_A (vf 37)), (fl_A (vf 38)), (fl_A (vf 39)), (fl_A (vf 40)), (fl_A (vf 41)), (fl_A (vf 42)), (fl_A (vf 43)), (fl_A (vf 44)), (fl_A (vf 45)), (fl_A (vf 46)), (fl_A (vf 47)), (fl_A (vf 48)), (fl_A (vf 49)), (fl_A (vf 50)), (fl_A (vf 51)), (fl_A (vf 52)), (fl_A (vf 53)), (fl_A (vf 54))]) (fl_A (vf 2)) (fl_A (vf 11)) (fl_A (vf 12)) (vi 53).toInt (vi 54).toInt (fl_A (vf 20)) (fl_A (vf 19))).2 = ((vi1 0).toInt, (vi1 12).toInt, (vi1 13).toInt, (vi1 14).toInt, (vi1 15).toInt, (vi1 16).toInt, (vi1 24).toInt, (vi1 26).toInt, (fl_nI [(vi1 57).toInt, (vi1 58).toInt, (vi1 59).toInt, (vi1 60).toInt, (vi1 61).toInt, (vi1 62).toInt, (vi1 63).toInt, (vi1 64).toInt, (vi1 65).toInt, (vi1 66).toInt, (vi1 67).toInt, (vi1 68).toInt, (vi1 69).toInt, (vi1 70).toInt, (vi1 71).toInt, (vi1 72).toInt, (vi1 73).toInt, (vi1 74).toInt, (vi1 75).toInt, (vi1 76).toInt, (vi1 77).toInt, (vi1 78).toInt, (vi1 79).toInt, (vi1 80).toInt, (vi1 81).toInt, (vi1 82).toInt, (vi1 83).toInt, (vi1 84).toInt, (vi1 85).toInt, (vi1 86).toInt, (vi1 87).toInt, (vi1 88).toInt, (vi1 89).toInt, (vi1 90).toInt, (vi1 91).toInt, (vi1 92).toInt, (vi1 93).toInt, (vi1 94).toInt, (vi1 95).toInt, (vi1 96).toInt, (vi1 97).toInt, (vi1 98).toInt, (vi1 99).toInt, (vi1 100).toInt, (vi1 101).toInt, (vi1 102).toInt, (vi1 103).toInt, (vi1 104).toInt, (vi1 105).toInt, (vi1 106).toInt, (vi1 107).toInt, (vi1 108).toInt, (vi1 109).toInt, (vi1 110).toInt, (vi1 111).toInt, (vi1 112).toInt, (vi1 113).toInt, (vi1 114).toInt, (vi1 115).toInt, (vi1 116).toInt, (vi1 117).toInt, (vi1 118).toInt, (vi1 119).toInt, (vi1 120).toInt, (vi1 121).toInt, (vi1 122).toInt, (vi1 123).toInt, (vi1 124).toInt, (vi1 125).toInt, (vi1 126).toInt, (vi1 127).toInt, (vi1 128).toInt, (vi1 129).toInt, (vi1 130).toInt, (vi1 131).toInt, (vi1 132).toInt, (vi1 133).toInt, (vi1 134).toInt, (vi1 135).toInt, (vi1 136).toInt]), (fl_A (vf1 1)), (fl_nF [(fl_A (vf1 23)), (fl_A (vf1 24)), (fl_A (vf1 25)), (fl_A (vf1 26)), (fl_A (vf1 27)), (fl_A (vf1 28)), (fl_A (vf1 29)), (fl_A (vf1 30)), (fl_A (vf1 31)), (fl_A (vf1 32)), (fl_A (vf1 33)), (fl_A (vf1 34)), (fl_A (vf1 35)), (fl_A (vf1 36)), (fl_A (vf1 37)), (fl_A (vf1 38)), (fl_A (vf1 39)), (fl_A (vf1 40)), (fl_A (vf1 41)), (fl_A (vf1 42)), (fl_A (vf1 43)), (fl_A (vf1 44)), (fl_A (vf1 45)), (fl_A (vf1 46)), (fl_A (vf1 47)), (fl_A (vf1 48)), (fl_A (vf1 49)), (fl_A (vf1 50)), (fl_A (vf1 51)), (fl_A (vf1 52)), (fl_A (vf1 53)), (fl_A (vf1 54))]), (fl_A (vf1 2)))) (gm : ((vm 11 = 0 ∧ (∀ k9 : Nat, k9 ∉ ([0, 9] : List Nat) → vm1 k9 = vm k9) ∧ (∀ k9 : Nat, k9 ∉ ([] : List Nat) → vn1 k9 = vn k9)) ∨ (vm 11 = 1 ∧ (Ff_X8_go a.toInt (vm 11).toInt (vm 12).toInt (vm 14).toInt (vm 15).toInt (vm 16).toInt (vm 17).toInt (fl_A (vn 4)) (fl_A (vn 6)) (fl_A (vn 2)) (fl_A (vn 8)) (fl_A (vn 9))).2 = ((vm1 0).toInt, (vm1 9).toInt, (vm1 12).toInt, (vm1 14).toInt, (vm1 15).toInt, (vm1 16).toInt, (vm1 17).toInt, (fl_A (vn1 4)), (fl_A (vn1 6)), (fl_A (vn1 8)), (fl_A (vn1 9)))))) : lr_Q vi1 vf1 vm1 vn1 := by
  obtain ⟨hT, hF, hH, hV⟩ := hR
  rcases hM with hM0 | ⟨hM1, hrs, hkm⟩
  · rcases hH with hH | ⟨z9, -⟩
    rotate_left
    · rw [hM0] at z9; exact absurd z9 (by decide)
    have hH9 : lr_H vi vf vm vn := Or.inl hH
    obtain ⟨-, h33, -⟩ := hH
    obtain ⟨⟨v54, v56⟩, hV⟩ := hV
    rcases hV with ⟨-, v12, v24, v25, u12, u13⟩ | ⟨z9, -⟩
    rotate_left
    · rw [hM0] at z9; exact absurd z9 (by decide)
    have e33 : (vi 33).toInt = 0 := by rw [h33]; decide
    have ex : Ff_X7_go a.toInt (vi 33).toInt (vi 34).toInt (vi 35).toInt (vi 38).toInt (vi 39).toInt (vi 12).toInt (vi 13).toInt (vi 14).toInt (vi 15).toInt (vi 16).toInt (vi 24).toInt (vi 26).toInt (fl_nI [(vi 57).toInt, (vi 58).toInt, (vi 59).toInt, (vi 60).toInt, (vi 61).toInt, (vi 62).toInt, (vi 63).toInt, (vi 64).toInt, (vi 65).toInt, (vi 66).toInt, (vi 67).toInt, (vi 68).toInt, (vi 69).toInt, (vi 70).toInt, (vi 71).toInt, (vi 72).toInt, (vi 73).toInt, (vi 74).toInt, (vi 75).toInt, (vi 76).toInt, (vi 77).toInt, (vi 78).toInt, (vi 79).toInt, (vi 80).toInt, (vi 81).toInt, (vi 82).toInt, (vi 83).toInt, (vi 84).toInt, (vi 85).toInt, (vi 86).toInt, (vi 87).toInt, (vi 88).toInt, (vi 89).toInt, (vi 90).toInt, (vi 91).toInt, (vi 92).toInt, (vi 93).toInt, (vi 94).toInt, (vi 95).toInt, (vi 96).toInt, (vi 97).toInt, (vi 98).toInt, (vi 99).toInt, (vi 100).toInt, (vi 101).toInt, (vi 102).toInt, (vi 103).toInt, (vi 104).toInt, (vi 105).toInt, (vi 106).toInt, (vi 107).toInt, (vi 108).toInt, (vi 109).toInt, (vi 110).toInt, (vi 111).toInt, (vi 112).toInt, (vi 113).toInt, (vi 114).toInt, (vi 115).toInt, (vi 116).toInt, (vi 117).toInt, (vi 118).toInt, (vi 119).toInt, (vi 120).toInt, (vi 121).toInt, (vi 122).toInt, (vi 123).toInt, (vi 124).toInt, (vi 125).toInt, (vi 126).toInt, (vi 127).toInt, (vi 128).toInt, (vi 129).toInt, (vi 130).toInt, (vi 131).toInt, (vi 132).toInt, (vi 133).toInt, (vi 134).toInt, (vi 135).toInt, (vi 136).toInt]) (fl_A (vf 1)) (fl_nF [(fl_A (vf 23)), (fl_A (vf 24)), (fl_A (vf 25)), (fl_A (vf 26)), (fl_A (vf 27)), (fl_A (vf 28)), (fl_A (vf 29)), (fl_A (vf 30)), (fl_A (vf 31)), (fl_A (vf 32)), (fl_A (vf 33)), (fl_A (vf 34)), (fl_A (vf 35)), (fl_A (vf 36)), (fl_A (vf 37)), (fl_A (vf 38)), (fl_A (vf 39)), (fl_A (vf 40)), (fl_A (vf 41)), (fl_A (vf 42)), (fl_A (vf 43)), (fl_A (vf 44)), (fl_A (vf 45)), (fl_A (vf 46)), (fl_A (vf 47)), (fl_A (vf 48)), (fl_A (vf 49)), (fl_A (vf 50)), (fl_A (vf 51)), (fl_A (vf 52)), (fl_A (vf 53)), (fl_A (vf 54))]) (fl_A (vf 2)) (fl_A (vf 11)) (fl_A (vf 12)) (vi 53).toInt (vi 54).toInt (fl_A (vf 20)) (fl_A (vf 19)) = ((-1), 1, (vi 12).toInt, (vi 13).toInt, (vi 14).toInt, (vi 15).toInt, (vi 16).toInt, (vi 24).toInt, (vi 26).toInt, (fl_nI [(vi 57).toInt, (vi 58).toInt, (vi 59).toInt, (vi 60).toInt, (vi 61).toInt, (vi 62).toInt, (vi 63).toInt, (vi 64).toInt, (vi 65).toInt, (vi 66).toInt, (vi 67).toInt, (vi 68).toInt, (vi 69).toInt, (vi 70).toInt, (vi 71).toInt, (vi 72).toInt, (vi 73).toInt, (vi 74).toInt, (vi 75).toInt, (vi 76).toInt, (vi 77).toInt, (vi 78).toInt, (vi 79).toInt, (vi 80).toInt, (vi 81).toInt, (vi 82).toInt, (vi 83).toInt, (vi 84).toInt, (vi 85).toInt, (vi 86).toInt, (vi 87).toInt, (vi 88).toInt, (vi 89).toInt, (vi 90).toInt, (vi 91).toInt, (vi 92).toInt, (vi 93).toInt, (vi 94).toInt, (vi 95).toInt, (vi 96).toInt, (vi 97).toInt, (vi 98).toInt, (vi 99).toInt, (vi 100).toInt, (vi 101).toInt, (vi 102).toInt, (vi 103).toInt, (vi 104).toInt, (vi 105).toInt, (vi 106).toInt, (vi 107).toInt, (vi 108).toInt, (vi 109).toInt, (vi 110).toInt, (vi 111).toInt, (vi 112).toInt, (vi 113).toInt, (vi 114).toInt, (vi 115).toInt, (vi 116).toInt, (vi 117).toInt, (vi 118).toInt, (vi 119).toInt, (vi 120).toInt, (vi 121).toInt, (vi 122).toInt, (vi 123).toInt, (vi 124).toInt, (vi 125).toInt, (vi 126).toInt, (vi 127).toInt, (vi 128).toInt, (vi 129).toInt, (vi 130).toInt, (vi 131).toInt, (vi 132).toInt, (vi 133).toInt, (vi 134).toInt, (vi 135).toInt, (vi 136).toInt]), (fl_A (vf 1)), (fl_nF [(fl_A (vf 23)), (fl_A (vf 24)), (fl_A (vf 25)), (fl_A (vf 26)), (fl_A (vf 27)), (fl_A (vf 28)), (fl_A (vf 29)), (fl_A (vf 30)), (fl_A (vf 31)), (fl_A (vf 32)), (fl_A (vf 33)), (fl_A (vf 34)), (fl_A (vf 35)), (fl_A (vf 36)), (fl_A (vf 37)), (fl_A (vf 38)), (fl_A (vf 39)), (fl_A (vf 40)), (fl_A (vf 41)), (fl_A (vf 42)), (fl_A (vf 43)), (fl_A (vf 44)), (fl_A (vf 45)), (fl_A (vf 46)), (fl_A (vf 47)), (fl_A (vf 48)), (fl_A (vf 49)), (fl_A (vf 50)), (fl_A (vf 51)), (fl_A (vf 52)), (fl_A (vf 53)), (fl_A (vf 54))]), (fl_A (vf 2))) := by
      unfold Ff_X7_go
      rw [e33, rs_tn, if_pos (by decide)]
      rfl
    rw [ex] at gx
    have p_mi : (vi 12).toInt = (vi1 12).toInt := congrArg (fun z9 => z9.2.1) gx
    have p_U : (vi 24).toInt = (vi1 24).toInt := congrArg (fun z9 => z9.2.2.2.2.2.2.1) gx
    rcases gm with ⟨-, k01, k02⟩ | ⟨z9, -⟩
    rotate_left
    · rw [hM0] at z9; exact absurd z9 (by decide)
    refine ⟨by rw [kx1 1 (by decide), k01 7 (by decide)]; exact hF, lr_H_keep (kx1 33 (by decide)) (kx1 34 (by decide)) (kx1 35 (by decide)) (kx1 36 (by decide)) (kx1 37 (by decide)) (kx1 38 (by decide)) (kx1 39 (by decide)) (kx1 40 (by decide)) (kx1 41 (by decide)) (kx1 42 (by decide)) (kx1 53 (by decide)) (kx2 11 (by decide)) (kx2 12 (by decide)) (kx2 13 (by decide)) (kx2 14 (by decide)) (kx2 19 (by decide)) (kx2 20 (by decide)) (k01 11 (by decide)) (by rw [k02 2 (by decide)]) hH9, ⟨by rw [kx1 54 (by decide)]; exact v54, by rw [kx1 56 (by decide)]; exact v56⟩, Or.inl ⟨by rw [k01 11 (by decide)]; exact hM0, by rw [← Int32.toInt_inj, ← p_mi, v12], by rw [← Int32.toInt_inj, ← p_U, v24], by rw [kx1 25 (by decide)]; exact v25, by rw [k01 12 (by decide)]; exact u12, by rw [k01 13 (by decide)]; exact u13⟩⟩
  · obtain ⟨hG, hD, -⟩ := lr_G hH hM1 hrs hkm
    have hf9 : 2 ≤ (vi 33).toInt ∧ (vi 33).toInt ≤ 9 := ⟨hG.1.2.1, hG.1.2.2⟩
    have f9 := hf9.2
    have hV4 := hV.2
    rcases hV4 with ⟨z9, -⟩ | ⟨-, hS, hm, hU, hN, hHi, hIm⟩
    · rw [hM1] at z9; exact absurd z9 (by decide)
    have e11 : (vm 11).toInt = 1 := by rw [hM1]; decide
    have hHi := rs_H_cg (gI1 := fl_nI [(vi 57).toInt, (vi 58).toInt, (vi 59).toInt, (vi 60).toInt, (vi 61).toInt, (vi 62).toInt, (vi 63).toInt, (vi 64).toInt, (vi 65).toInt, (vi 66).toInt, (vi 67).toInt, (vi 68).toInt, (vi 69).toInt, (vi 70).toInt, (vi 71).toInt, (vi 72).toInt, (vi 73).toInt, (vi 74).toInt, (vi 75).toInt, (vi 76).toInt, (vi 77).toInt, (vi 78).toInt, (vi 79).toInt, (vi 80).toInt, (vi 81).toInt, (vi 82).toInt, (vi 83).toInt, (vi 84).toInt, (vi 85).toInt, (vi 86).toInt, (vi 87).toInt, (vi 88).toInt, (vi 89).toInt, (vi 90).toInt, (vi 91).toInt, (vi 92).toInt, (vi 93).toInt, (vi 94).toInt, (vi 95).toInt, (vi 96).toInt, (vi 97).toInt, (vi 98).toInt, (vi 99).toInt, (vi 100).toInt, (vi 101).toInt, (vi 102).toInt, (vi 103).toInt, (vi 104).toInt, (vi 105).toInt, (vi 106).toInt, (vi 107).toInt, (vi 108).toInt, (vi 109).toInt, (vi 110).toInt, (vi 111).toInt, (vi 112).toInt, (vi 113).toInt, (vi 114).toInt, (vi 115).toInt, (vi 116).toInt, (vi 117).toInt, (vi 118).toInt, (vi 119).toInt, (vi 120).toInt, (vi 121).toInt, (vi 122).toInt, (vi 123).toInt, (vi 124).toInt, (vi 125).toInt, (vi 126).toInt, (vi 127).toInt, (vi 128).toInt, (vi 129).toInt, (vi 130).toInt, (vi 131).toInt, (vi 132).toInt, (vi 133).toInt, (vi 134).toInt, (vi 135).toInt, (vi 136).toInt]) (gF1 := fl_nF [(fl_A (vf 23)), (fl_A (vf 24)), (fl_A (vf 25)), (fl_A (vf 26)), (fl_A (vf 27)), (fl_A (vf 28)), (fl_A (vf 29)), (fl_A (vf 30)), (fl_A (vf 31)), (fl_A (vf 32)), (fl_A (vf 33)), (fl_A (vf 34)), (fl_A (vf 35)), (fl_A (vf 36)), (fl_A (vf 37)), (fl_A (vf 38)), (fl_A (vf 39)), (fl_A (vf 40)), (fl_A (vf 41)), (fl_A (vf 42)), (fl_A (vf 43)), (fl_A (vf 44)), (fl_A (vf 45)), (fl_A (vf 46)), (fl_A (vf 47)), (fl_A (vf 48)), (fl_A (vf 49)), (fl_A (vf 50)), (fl_A (vf 51)), (fl_A (vf 52)), (fl_A (vf 53)), (fl_A (vf 54))]) (fun k h9 => lr_g3e vi h9) (fun k h9 => lr_f3e vf h9) hHi
    have hIm := rs_I_cg (gI1 := fl_nI [(vi 137).toInt, (vi 138).toInt, (vi 139).toInt, (vi 140).toInt, (vi 141).toInt, (vi 142).toInt, (vi 143).toInt, (vi 144).toInt, (vi 145).toInt, (vi 146).toInt, (vi 147).toInt, (vi 148).toInt, (vi 149).toInt, (vi 150).toInt, (vi 151).toInt]) (gF1 := fl_nF [(fl_A (vf 55)), (fl_A (vf 56)), (fl_A (vf 57)), (fl_A (vf 58)), (fl_A (vf 59)), (fl_A (vf 60))]) (fun k h9 => lr_g4e vi h9) (fun k h9 => lr_f4e vf h9) hIm
    obtain ⟨R, tr, mi1, tu1, sn1, go1, ca1, U1, L1, z5, z6, z7, z8, gI1, pl1, gF1, he1, st1, und1, ff1, tt1, e1, e2, e3, e4, e5⟩ := rs_go hG (hD hV.1.1) hS hm hHi a.toInt (vm 14).toInt (vm 15).toInt (vm 16).toInt (vm 17).toInt (fl_A (vn 8)) (fl_A (vn 9))
    rcases gm with ⟨z9, -⟩ | ⟨-, gm⟩
    · rw [hM1] at z9; exact absurd z9 (by decide)
    rw [e11, ← hU] at gm
    rw [e1] at gx
    rw [e2] at gm
    have p_mi : mi1 = (vi1 12).toInt := congrArg (fun z9 => z9.2.1) gx
    have p_tu : tu1 = (vi1 13).toInt := congrArg (fun z9 => z9.2.2.1) gx
    have p_sn : sn1 = (vi1 14).toInt := congrArg (fun z9 => z9.2.2.2.1) gx
    have p_go : go1 = (vi1 15).toInt := congrArg (fun z9 => z9.2.2.2.2.1) gx
    have p_ca : ca1 = (vi1 16).toInt := congrArg (fun z9 => z9.2.2.2.2.2.1) gx
    have p_U : U1 = (vi1 24).toInt := congrArg (fun z9 => z9.2.2.2.2.2.2.1) gx
    have p_L : L1 = (vi1 26).toInt := congrArg (fun z9 => z9.2.2.2.2.2.2.2.1) gx
    have p_gI : gI1 = (fl_nI [(vi1 57).toInt, (vi1 58).toInt, (vi1 59).toInt, (vi1 60).toInt, (vi1 61).toInt, (vi1 62).toInt, (vi1 63).toInt, (vi1 64).toInt, (vi1 65).toInt, (vi1 66).toInt, (vi1 67).toInt, (vi1 68).toInt, (vi1 69).toInt, (vi1 70).toInt, (vi1 71).toInt, (vi1 72).toInt, (vi1 73).toInt, (vi1 74).toInt, (vi1 75).toInt, (vi1 76).toInt, (vi1 77).toInt, (vi1 78).toInt, (vi1 79).toInt, (vi1 80).toInt, (vi1 81).toInt, (vi1 82).toInt, (vi1 83).toInt, (vi1 84).toInt, (vi1 85).toInt, (vi1 86).toInt, (vi1 87).toInt, (vi1 88).toInt, (vi1 89).toInt, (vi1 90).toInt, (vi1 91).toInt, (vi1 92).toInt, (vi1 93).toInt, (vi1 94).toInt, (vi1 95).toInt, (vi1 96).toInt, (vi1 97).toInt, (vi1 98).toInt, (vi1 99).toInt, (vi1 100).toInt, (vi1 101).toInt, (vi1 102).toInt, (vi1 103).toInt, (vi1 104).toInt, (vi1 105).toInt, (vi1 106).toInt, (vi1 107).toInt, (vi1 108).toInt, (vi1 109).toInt, (vi1 110).toInt, (vi1 111).toInt, (vi1 112).toInt, (vi1 113).toInt, (vi1 114).toInt, (vi1 115).toInt, (vi1 116).toInt, (vi1 117).toInt, (vi1 118).toInt, (vi1 119).toInt, (vi1 120).toInt, (vi1 121).toInt, (vi1 122).toInt, (vi1 123).toInt, (vi1 124).toInt, (vi1 125).toInt, (vi1 126).toInt, (vi1 127).toInt, (vi1 128).toInt, (vi1 129).toInt, (vi1 130).toInt, (vi1 131).toInt, (vi1 132).toInt, (vi1 133).toInt, (vi1 134).toInt, (vi1 135).toInt, (vi1 136).toInt]) := congrArg (fun z9 => z9.2.2.2.2.2.2.2.2.1) gx
    have p_pl : pl1 = (fl_A (vf1 1)) := congrArg (fun z9 => z9.2.2.2.2.2.2.2.2.2.1) gx
    have p_gF : gF1 = (fl_nF [(fl_A (vf1 23)), (fl_A (vf1 24)), (fl_A (vf1 25)), (fl_A (vf1 26)), (fl_A (vf1 27)), (fl_A (vf1 28)), (fl_A (vf1 29)), (fl_A (vf1 30)), (fl_A (vf1 31)), (fl_A (vf1 32)), (fl_A (vf1 33)), (fl_A (vf1 34)), (fl_A (vf1 35)), (fl_A (vf1 36)), (fl_A (vf1 37)), (fl_A (vf1 38)), (fl_A (vf1 39)), (fl_A (vf1 40)), (fl_A (vf1 41)), (fl_A (vf1 42)), (fl_A (vf1 43)), (fl_A (vf1 44)), (fl_A (vf1 45)), (fl_A (vf1 46)), (fl_A (vf1 47)), (fl_A (vf1 48)), (fl_A (vf1 49)), (fl_A (vf1 50)), (fl_A (vf1 51)), (fl_A (vf1 52)), (fl_A (vf1 53)), (fl_A (vf1 54))]) := congrArg (fun z9 => z9.2.2.2.2.2.2.2.2.2.2.1) gx
    have p_he : he1 = (fl_A (vf1 2)) := congrArg (fun z9 => z9.2.2.2.2.2.2.2.2.2.2.2) gx
    have r_U : U1 = (vm1 12).toInt := congrArg (fun z9 => z9.2.2.1) gm
    have r_st : st1 = (fl_A (vn1 4)) := congrArg (fun z9 => z9.2.2.2.2.2.2.2.1) gm
    have r_und : und1 = (fl_A (vn1 6)) := congrArg (fun z9 => z9.2.2.2.2.2.2.2.2.1) gm
    have w1 : rs_S (vi1 33).toInt (vi1 34).toInt (fl_A (vf1 11)) (vi1 12).toInt (vi1 13).toInt (vi1 14).toInt (vi1 15).toInt (vi1 16).toInt (fl_A (vf1 1)) (fl_A (vf1 2)) (fl_A (vn1 4)) := by
      rw [kx1 33 (by decide), kx1 34 (by decide), kx2 11 (by decide), ← p_mi, ← p_tu, ← p_sn, ← p_go, ← p_ca, ← p_pl, ← p_he, ← r_st]
      exact e3
    have w2 : (vi1 12).toInt ≤ 9999 := by
      rw [← p_mi]
      exact e4
    have w3 : (vi1 24).toInt = (vm1 12).toInt := by
      rw [← p_U, ← r_U]
    have w4 : (vi1 25).toInt = (vm1 13).toInt := by
      rw [kx1 25 (by decide), km1 13 (by decide)]
      exact hN
    have w5 : rs_H (vi1 33).toInt (vi1 34).toInt (fl_A (vf1 11)) (vi1 24).toInt (vi1 26).toInt (lr_g3 vi1) (lr_f3 vf1) (fl_A (vn1 6)) := by
      rw [kx1 33 (by decide), kx1 34 (by decide), kx2 11 (by decide), ← p_U, ← p_L, ← r_und]
      exact rs_H_cg (fun k h9 => by rw [p_gI]; exact (lr_g3e vi1 h9).symm) (fun k h9 => by rw [p_gF]; exact (lr_f3e vf1 h9).symm) e5
    have w6 : rs_I (vi1 33).toInt (vi1 34).toInt (fl_A (vf1 11)) (vi1 25).toInt (lr_g4 vi1) (lr_f4 vf1) (fl_A (vn1 7)) := by
      rw [kx1 33 (by decide), kx1 34 (by decide), kx2 11 (by decide), kx1 25 (by decide), km2 7 (by decide)]
      exact rs_I_cg (fun k h9 => by rw [lr_g4e vi h9]; show (vi1 (137 + k)).toInt = (vi (137 + k)).toInt; rw [kx1 (137 + k) (kp_out (a := 137) (b := 152) (by decide) (by omega) (by omega))]) (fun k h9 => by rw [lr_f4e vf h9]; show fl_A (vf1 (55 + k)) = fl_A (vf (55 + k)); rw [kx2 (55 + k) (kp_out (a := 55) (b := 61) (by decide) (by omega) (by omega))]) hIm
    exact ⟨by rw [kx1 1 (by decide), km1 7 (by decide)]; exact hF, lr_H_keep (kx1 33 (by decide)) (kx1 34 (by decide)) (kx1 35 (by decide)) (kx1 36 (by decide)) (kx1 37 (by decide)) (kx1 38 (by decide)) (kx1 39 (by decide)) (kx1 40 (by decide)) (kx1 41 (by decide)) (kx1 42 (by decide)) (kx1 53 (by decide)) (kx2 11 (by decide)) (kx2 12 (by decide)) (kx2 13 (by decide)) (kx2 14 (by decide)) (kx2 19 (by decide)) (kx2 20 (by decide)) (km1 11 (by decide)) (by rw [km2 2 (by decide)]) hH, ⟨by rw [kx1 54 (by decide)]; exact hV.1.1, by rw [kx1 56 (by decide)]; exact hV.1.2⟩, Or.inr ⟨by rw [km1 11 (by decide)]; exact hM1, w1, w2, w3, w4, w5, w6⟩⟩

theorem lr_undo {tp : Int32} {vi vi1 vm vm1 : Nat → Int32} {vf vf1 vn vn1 : Nat → Nat → Int32} (hR : lr_R tp vi vf vm vn) (hM : vm 11 = 0 ∨ (vm 11 = 1 ∧ ((∀ k : Nat, 0 ≤ k → k ≤ 0 → (2 : Int) ≤ ((vn 2) k).toInt ∧ ((vn 2) k).toInt ≤ 9) ∧ (∀ k : Nat, 1 ≤ k → k ≤ 1 → (1 : Int) ≤ ((vn 2) k).toInt ∧ ((vn 2) k).toInt ≤ 20) ∧ (∀ k : Nat, 2 ≤ k → k ≤ 2 → (0 : Int) ≤ ((vn 2) k).toInt ∧ ((vn 2) k).toInt ≤ 8) ∧ (∀ k : Nat, 3 ≤ k → k ≤ 3 → (0 : Int) ≤ ((vn 2) k).toInt ∧ ((vn 2) k).toInt ≤ 100) ∧ (∀ k : Nat, 4 ≤ k → k ≤ 4 → (0 : Int) ≤ ((vn 2) k).toInt ∧ ((vn 2) k).toInt ≤ 9) ∧ (∀ k : Nat, 5 ≤ k → k ≤ 5 → (0 : Int) ≤ ((vn 2) k).toInt ∧ ((vn 2) k).toInt ≤ 3) ∧ (∀ k : Nat, 6 ≤ k → k ≤ 6 → (0 : Int) ≤ ((vn 2) k).toInt ∧ ((vn 2) k).toInt ≤ 6) ∧ (∀ k : Nat, 7 ≤ k → k ≤ 9 → (0 : Int) ≤ ((vn 2) k).toInt ∧ ((vn 2) k).toInt ≤ 8) ∧ (∀ k : Nat, 12 ≤ k → k ≤ 29 → (0 : Int) ≤ ((vn 2) k).toInt ∧ ((vn 2) k).toInt ≤ 20) ∧ (∀ k : Nat, 30 ≤ k → k ≤ 35 → (0 : Int) ≤ ((vn 2) k).toInt ∧ ((vn 2) k).toInt ≤ 8) ∧ (∀ k : Nat, 36 ≤ k → k ≤ 47 → (0 : Int) ≤ ((vn 2) k).toInt ∧ ((vn 2) k).toInt ≤ 999)) ∧ ((∀ (j i0 i : Int32), (0 : Int) ≤ j.toInt → j.toInt ≤ 8 → i0.toInt = 12 + 2 * j.toInt → i.toInt = 13 + 2 * j.toInt → ((vn 2) i0.toNatClampNeg).toInt = (1 : Int32).toInt → (1 : Int) ≤ ((vn 2) i.toNatClampNeg).toInt)))) (kx1 : (∀ k9 : Nat, k9 ∉ ([0, 12, 13, 14, 15, 16, 24, 26] : List Nat) → vi1 k9 = vi k9)) (kx2 : (∀ k9 : Nat, k9 ∉ ([1, 2] : List Nat) → vf1 k9 = vf k9)) (km1 : (∀ k9 : Nat, k9 ∉ ([0, 9, 12] : List Nat) → vm1 k9 = vm k9)) (km2 : (∀ k9 : Nat, k9 ∉ ([4] : List Nat) → vn1 k9 = vn k9)) (gx : (Ff_X7_undo (vi 24).toInt (vi 26).toInt (vi 12).toInt (vi 13).toInt (vi 14).toInt (vi 15).toInt (vi 16).toInt (fl_nI [(vi 57).toInt, (vi 58).toInt, (vi 59).toInt, (vi 60).toInt, (vi 61).toInt, (vi 62).toInt, (vi 63).toInt, (vi 64).toInt, (vi 65).toInt, (vi 66).toInt, (vi 67).toInt, (vi 68).toInt, (vi 69).toInt, (vi 70).toInt, (vi 71).toInt, (vi 72).toInt, (vi 73).toInt, (vi 74).toInt, (vi 75).toInt, (vi 76).toInt, (vi 77).toInt, (vi 78).toInt, (vi 79).toInt, (vi 80).toInt, (vi 81).toInt, (vi 82).toInt, (vi 83).toInt, (vi 84).toInt, (vi 85).toInt, (vi 86).toInt, (vi 87).toInt, (vi 88).toInt, (vi 89).toInt, (vi 90).toInt, (vi 91).toInt, (vi 92).toInt, (vi 93).toInt, (vi 94).toInt, (vi 95).toInt, (vi 96).toInt, (vi 97).toInt, (vi 98).toInt, (vi 99).toInt, (vi 100).toInt, (vi 101).toInt, (vi 102).toInt, (vi 103).toInt, (vi 104).toInt, (vi 105).toInt, (vi 106).toInt, (vi 107).toInt, (vi 108).toInt, (vi 109).toInt, (vi 110).toInt, (vi 111).toInt, (vi 112).toInt, (vi 113).toInt, (vi 114).toInt, (vi 115).toInt, (vi 116).toInt, (vi 117).toInt, (vi 118).toInt, (vi 119).toInt, (vi 120).toInt, (vi 121).toInt, (vi 122).toInt, (vi 123).toInt, (vi 124).toInt, (vi 125).toInt, (vi 126).toInt, (vi 127).toInt, (vi 128).toInt, (vi 129).toInt, (vi 130).toInt, (vi 131).toInt, (vi 132).toInt, (vi 133).toInt, (vi 134).toInt, (vi 135).toInt, (vi 136).toInt]) (fl_nF [(fl_A (vf 23)), (fl_A (vf 24)), (fl_A (vf 25)), (fl_A (vf 26)), (fl_A (vf 27)), (fl_A (vf 28)), (fl_A (vf 29)), (fl_A (vf 30)), (fl_A (vf 31)), (fl_A (vf 32)), (fl_A (vf 33)), (fl_A (vf 34)), (fl_A (vf 35)), (fl_A (vf 36)), (fl_A (vf 37)), (fl_A (vf 38)), (fl_A (vf 39)), (fl_A (vf 40)), (fl_A (vf 41)), (fl_A (vf 42)), (fl_A (vf 43)), (fl_A (vf 44)), (fl_A (vf 45)), (fl_A (vf 46)), (fl_A (vf 47)), (fl_A (vf 48)), (fl_A (vf 49)), (fl_A (vf 50)), (fl_A (vf 51)), (fl_A (vf 52)), (fl_A (vf 53)), (fl_A (vf 54))]) (fl_A (vf 1)) (fl_A (vf 2))).2 = ((vi1 0).toInt, (vi1 24).toInt, (vi1 26).toInt, (vi1 12).toInt, (vi1 13).toInt, (vi1 14).toInt, (vi1 15).toInt, (vi1 16).toInt, (fl_A (vf1 1)), (fl_A (vf1 2)))) (gm : (Ff_X8_undo (vm 12).toInt (fl_A (vn 6)) (fl_A (vn 4))).2 = ((vm1 0).toInt, (vm1 9).toInt, (vm1 12).toInt, (fl_A (vn1 4)))) : lr_Q vi1 vf1 vm1 vn1 := by
  obtain ⟨hT, hF, hH, hV⟩ := hR
  rcases hM with hM0 | ⟨hM1, hrs, hkm⟩
  · rcases hH with hH | ⟨z9, -⟩
    rotate_left
    · rw [hM0] at z9; exact absurd z9 (by decide)
    have hH9 : lr_H vi vf vm vn := Or.inl hH
    obtain ⟨-, h33, -⟩ := hH
    obtain ⟨⟨v54, v56⟩, hV⟩ := hV
    rcases hV with ⟨-, v12, v24, v25, u12, u13⟩ | ⟨z9, -⟩
    rotate_left
    · rw [hM0] at z9; exact absurd z9 (by decide)
    have e33 : (vi 33).toInt = 0 := by rw [h33]; decide
    have e24 : (vi 24).toInt = 0 := by rw [v24]; decide
    have e12 : (vm 12).toInt = 0 := by rw [u12]; decide
    have ex : Ff_X7_undo (vi 24).toInt (vi 26).toInt (vi 12).toInt (vi 13).toInt (vi 14).toInt (vi 15).toInt (vi 16).toInt (fl_nI [(vi 57).toInt, (vi 58).toInt, (vi 59).toInt, (vi 60).toInt, (vi 61).toInt, (vi 62).toInt, (vi 63).toInt, (vi 64).toInt, (vi 65).toInt, (vi 66).toInt, (vi 67).toInt, (vi 68).toInt, (vi 69).toInt, (vi 70).toInt, (vi 71).toInt, (vi 72).toInt, (vi 73).toInt, (vi 74).toInt, (vi 75).toInt, (vi 76).toInt, (vi 77).toInt, (vi 78).toInt, (vi 79).toInt, (vi 80).toInt, (vi 81).toInt, (vi 82).toInt, (vi 83).toInt, (vi 84).toInt, (vi 85).toInt, (vi 86).toInt, (vi 87).toInt, (vi 88).toInt, (vi 89).toInt, (vi 90).toInt, (vi 91).toInt, (vi 92).toInt, (vi 93).toInt, (vi 94).toInt, (vi 95).toInt, (vi 96).toInt, (vi 97).toInt, (vi 98).toInt, (vi 99).toInt, (vi 100).toInt, (vi 101).toInt, (vi 102).toInt, (vi 103).toInt, (vi 104).toInt, (vi 105).toInt, (vi 106).toInt, (vi 107).toInt, (vi 108).toInt, (vi 109).toInt, (vi 110).toInt, (vi 111).toInt, (vi 112).toInt, (vi 113).toInt, (vi 114).toInt, (vi 115).toInt, (vi 116).toInt, (vi 117).toInt, (vi 118).toInt, (vi 119).toInt, (vi 120).toInt, (vi 121).toInt, (vi 122).toInt, (vi 123).toInt, (vi 124).toInt, (vi 125).toInt, (vi 126).toInt, (vi 127).toInt, (vi 128).toInt, (vi 129).toInt, (vi 130).toInt, (vi 131).toInt, (vi 132).toInt, (vi 133).toInt, (vi 134).toInt, (vi 135).toInt, (vi 136).toInt]) (fl_nF [(fl_A (vf 23)), (fl_A (vf 24)), (fl_A (vf 25)), (fl_A (vf 26)), (fl_A (vf 27)), (fl_A (vf 28)), (fl_A (vf 29)), (fl_A (vf 30)), (fl_A (vf 31)), (fl_A (vf 32)), (fl_A (vf 33)), (fl_A (vf 34)), (fl_A (vf 35)), (fl_A (vf 36)), (fl_A (vf 37)), (fl_A (vf 38)), (fl_A (vf 39)), (fl_A (vf 40)), (fl_A (vf 41)), (fl_A (vf 42)), (fl_A (vf 43)), (fl_A (vf 44)), (fl_A (vf 45)), (fl_A (vf 46)), (fl_A (vf 47)), (fl_A (vf 48)), (fl_A (vf 49)), (fl_A (vf 50)), (fl_A (vf 51)), (fl_A (vf 52)), (fl_A (vf 53)), (fl_A (vf 54))]) (fl_A (vf 1)) (fl_A (vf 2)) = (0, 6, (vi 24).toInt, (vi 26).toInt, (vi 12).toInt, (vi 13).toInt, (vi 14).toInt, (vi 15).toInt, (vi 16).toInt, (fl_A (vf 1)), (fl_A (vf 2))) := by
      unfold Ff_X7_undo Ff_X1_takeLatest
      rw [if_pos e24, fl_c10_eq rfl]
      rfl
    rw [ex] at gx
    have p_U : (vi 24).toInt = (vi1 24).toInt := congrArg (fun z9 => z9.2.1) gx
    have p_mi : (vi 12).toInt = (vi1 12).toInt := congrArg (fun z9 => z9.2.2.2.1) gx
    have em : Ff_X8_undo (vm 12).toInt (fl_A (vn 6)) (fl_A (vn 4)) = (0, 0, 6, (vm 12).toInt, (fl_A (vn 4))) := by
      unfold Ff_X8_undo Ff_X8_good
      rw [fl_c2_eq rfl, if_pos e12]
      rfl
    rw [em] at gm
    have p_Um : (vm 12).toInt = (vm1 12).toInt := congrArg (fun z9 => z9.2.2.1) gm
    refine ⟨by rw [kx1 1 (by decide), km1 7 (by decide)]; exact hF, lr_H_keep (kx1 33 (by decide)) (kx1 34 (by decide)) (kx1 35 (by decide)) (kx1 36 (by decide)) (kx1 37 (by decide)) (kx1 38 (by decide)) (kx1 39 (by decide)) (kx1 40 (by decide)) (kx1 41 (by decide)) (kx1 42 (by decide)) (kx1 53 (by decide)) (kx2 11 (by decide)) (kx2 12 (by decide)) (kx2 13 (by decide)) (kx2 14 (by decide)) (kx2 19 (by decide)) (kx2 20 (by decide)) (km1 11 (by decide)) (by rw [km2 2 (by decide)]) hH9, ⟨by rw [kx1 54 (by decide)]; exact v54, by rw [kx1 56 (by decide)]; exact v56⟩, Or.inl ⟨by rw [km1 11 (by decide)]; exact hM0, by rw [← Int32.toInt_inj, ← p_mi, v12], by rw [← Int32.toInt_inj, ← p_U, v24], by rw [kx1 25 (by decide)]; exact v25, by rw [← Int32.toInt_inj, ← p_Um, u12], by rw [km1 13 (by decide)]; exact u13⟩⟩
  · obtain ⟨hG, hD, -⟩ := lr_G hH hM1 hrs hkm
    have hf9 : 2 ≤ (vi 33).toInt ∧ (vi 33).toInt ≤ 9 := ⟨hG.1.2.1, hG.1.2.2⟩
    have f9 := hf9.2
    have hV4 := hV.2
    rcases hV4 with ⟨z9, -⟩ | ⟨-, hS, hm, hU, hN, hHi, hIm⟩
    · rw [hM1] at z9; exact absurd z9 (by decide)
    have e11 : (vm 11).toInt = 1 := by rw [hM1]; decide
    have hHi := rs_H_cg (gI1 := fl_nI [(vi 57).toInt, (vi 58).toInt, (vi 59).toInt, (vi 60).toInt, (vi 61).toInt, (vi 62).toInt, (vi 63).toInt, (vi 64).toInt, (vi 65).toInt, (vi 66).toInt, (vi 67).toInt, (vi 68).toInt, (vi 69).toInt, (vi 70).toInt, (vi 71).toInt, (vi 72).toInt, (vi 73).toInt, (vi 74).toInt, (vi 75).toInt, (vi 76).toInt, (vi 77).toInt, (vi 78).toInt, (vi 79).toInt, (vi 80).toInt, (vi 81).toInt, (vi 82).toInt, (vi 83).toInt, (vi 84).toInt, (vi 85).toInt, (vi 86).toInt, (vi 87).toInt, (vi 88).toInt, (vi 89).toInt, (vi 90).toInt, (vi 91).toInt, (vi 92).toInt, (vi 93).toInt, (vi 94).toInt, (vi 95).toInt, (vi 96).toInt, (vi 97).toInt, (vi 98).toInt, (vi 99).toInt, (vi 100).toInt, (vi 101).toInt, (vi 102).toInt, (vi 103).toInt, (vi 104).toInt, (vi 105).toInt, (vi 106).toInt, (vi 107).toInt, (vi 108).toInt, (vi 109).toInt, (vi 110).toInt, (vi 111).toInt, (vi 112).toInt, (vi 113).toInt, (vi 114).toInt, (vi 115).toInt, (vi 116).toInt, (vi 117).toInt, (vi 118).toInt, (vi 119).toInt, (vi 120).toInt, (vi 121).toInt, (vi 122).toInt, (vi 123).toInt, (vi 124).toInt, (vi 125).toInt, (vi 126).toInt, (vi 127).toInt, (vi 128).toInt, (vi 129).toInt, (vi 130).toInt, (vi 131).toInt, (vi 132).toInt, (vi 133).toInt, (vi 134).toInt, (vi 135).toInt, (vi 136).toInt]) (gF1 := fl_nF [(fl_A (vf 23)), (fl_A (vf 24)), (fl_A (vf 25)), (fl_A (vf 26)), (fl_A (vf 27)), (fl_A (vf 28)), (fl_A (vf 29)), (fl_A (vf 30)), (fl_A (vf 31)), (fl_A (vf 32)), (fl_A (vf 33)), (fl_A (vf 34)), (fl_A (vf 35)), (fl_A (vf 36)), (fl_A (vf 37)), (fl_A (vf 38)), (fl_A (vf 39)), (fl_A (vf 40)), (fl_A (vf 41)), (fl_A (vf 42)), (fl_A (vf 43)), (fl_A (vf 44)), (fl_A (vf 45)), (fl_A (vf 46)), (fl_A (vf 47)), (fl_A (vf 48)), (fl_A (vf 49)), (fl_A (vf 50)), (fl_A (vf 51)), (fl_A (vf 52)), (fl_A (vf 53)), (fl_A (vf 54))]) (fun k h9 => lr_g3e vi h9) (fun k h9 => lr_f3e vf h9) hHi
    have hIm := rs_I_cg (gI1 := fl_nI [(vi 137).toInt, (vi 138).toInt, (vi 139).toInt, (vi 140).toInt, (vi 141).toInt, (vi 142).toInt, (vi 143).toInt, (vi 144).toInt, (vi 145).toInt, (vi 146).toInt, (vi 147).toInt, (vi 148).toInt, (vi 149).toInt, (vi 150).toInt, (vi 151).toInt]) (gF1 := fl_nF [(fl_A (vf 55)), (fl_A (vf 56)), (fl_A (vf 57)), (fl_A (vf 58)), (fl_A (vf 59)), (fl_A (vf 60))]) (fun k h9 => lr_g4e vi h9) (fun k h9 => lr_f4e vf h9) hIm
    obtain ⟨R, tr, U1, L1, mi1, tu1, sn1, go1, ca1, pl1, he1, st1, e1, e2, e3, e4, e5⟩ := rs_undo f9 hS hm hHi
    rw [← hU] at gm
    rw [e1] at gx
    rw [e2] at gm
    have p_U : U1 = (vi1 24).toInt := congrArg (fun z9 => z9.2.1) gx
    have p_L : L1 = (vi1 26).toInt := congrArg (fun z9 => z9.2.2.1) gx
    have p_mi : mi1 = (vi1 12).toInt := congrArg (fun z9 => z9.2.2.2.1) gx
    have p_tu : tu1 = (vi1 13).toInt := congrArg (fun z9 => z9.2.2.2.2.1) gx
    have p_sn : sn1 = (vi1 14).toInt := congrArg (fun z9 => z9.2.2.2.2.2.1) gx
    have p_go : go1 = (vi1 15).toInt := congrArg (fun z9 => z9.2.2.2.2.2.2.1) gx
    have p_ca : ca1 = (vi1 16).toInt := congrArg (fun z9 => z9.2.2.2.2.2.2.2.1) gx
    have p_pl : pl1 = (fl_A (vf1 1)) := congrArg (fun z9 => z9.2.2.2.2.2.2.2.2.1) gx
    have p_he : he1 = (fl_A (vf1 2)) := congrArg (fun z9 => z9.2.2.2.2.2.2.2.2.2) gx
    have r_U : U1 = (vm1 12).toInt := congrArg (fun z9 => z9.2.2.1) gm
    have r_st : st1 = (fl_A (vn1 4)) := congrArg (fun z9 => z9.2.2.2) gm
    have w1 : rs_S (vi1 33).toInt (vi1 34).toInt (fl_A (vf1 11)) (vi1 12).toInt (vi1 13).toInt (vi1 14).toInt (vi1 15).toInt (vi1 16).toInt (fl_A (vf1 1)) (fl_A (vf1 2)) (fl_A (vn1 4)) := by
      rw [kx1 33 (by decide), kx1 34 (by decide), kx2 11 (by decide), ← p_mi, ← p_tu, ← p_sn, ← p_go, ← p_ca, ← p_pl, ← p_he, ← r_st]
      exact e3
    have w2 : (vi1 12).toInt ≤ 9999 := by
      rw [← p_mi]
      exact e4
    have w3 : (vi1 24).toInt = (vm1 12).toInt := by
      rw [← p_U, ← r_U]
    have w4 : (vi1 25).toInt = (vm1 13).toInt := by
      rw [kx1 25 (by decide), km1 13 (by decide)]
      exact hN
    have w5 : rs_H (vi1 33).toInt (vi1 34).toInt (fl_A (vf1 11)) (vi1 24).toInt (vi1 26).toInt (lr_g3 vi1) (lr_f3 vf1) (fl_A (vn1 6)) := by
      rw [kx1 33 (by decide), kx1 34 (by decide), kx2 11 (by decide), ← p_U, ← p_L, km2 6 (by decide)]
      exact rs_H_cg (fun k h9 => by rw [lr_g3e vi h9]; show (vi1 (57 + k)).toInt = (vi (57 + k)).toInt; rw [kx1 (57 + k) (kp_out (a := 57) (b := 137) (by decide) (by omega) (by omega))]) (fun k h9 => by rw [lr_f3e vf h9]; show fl_A (vf1 (23 + k)) = fl_A (vf (23 + k)); rw [kx2 (23 + k) (kp_out (a := 23) (b := 55) (by decide) (by omega) (by omega))]) e5
    have w6 : rs_I (vi1 33).toInt (vi1 34).toInt (fl_A (vf1 11)) (vi1 25).toInt (lr_g4 vi1) (lr_f4 vf1) (fl_A (vn1 7)) := by
      rw [kx1 33 (by decide), kx1 34 (by decide), kx2 11 (by decide), kx1 25 (by decide), km2 7 (by decide)]
      exact rs_I_cg (fun k h9 => by rw [lr_g4e vi h9]; show (vi1 (137 + k)).toInt = (vi (137 + k)).toInt; rw [kx1 (137 + k) (kp_out (a := 137) (b := 152) (by decide) (by omega) (by omega))]) (fun k h9 => by rw [lr_f4e vf h9]; show fl_A (vf1 (55 + k)) = fl_A (vf (55 + k)); rw [kx2 (55 + k) (kp_out (a := 55) (b := 61) (by decide) (by omega) (by omega))]) hIm
    exact ⟨by rw [kx1 1 (by decide), km1 7 (by decide)]; exact hF, lr_H_keep (kx1 33 (by decide)) (kx1 34 (by decide)) (kx1 35 (by decide)) (kx1 36 (by decide)) (kx1 37 (by decide)) (kx1 38 (by decide)) (kx1 39 (by decide)) (kx1 40 (by decide)) (kx1 41 (by decide)) (kx1 42 (by decide)) (kx1 53 (by decide)) (kx2 11 (by decide)) (kx2 12 (by decide)) (kx2 13 (by decide)) (kx2 14 (by decide)) (kx2 19 (by decide)) (kx2 20 (by decide)) (km1 11 (by decide)) (by rw [km2 2 (by decide)]) hH, ⟨by rw [kx1 54 (by decide)]; exact hV.1.1, by rw [kx1 56 (by decide)]; exact hV.1.2⟩, Or.inr ⟨by rw [km1 11 (by decide)]; exact hM1, w1, w2, w3, w4, w5, w6⟩⟩

theorem lr_image {tp : Int32} {vi vi1 vm vm1 : Nat → Int32} {vf vf1 vn vn1 : Nat → Nat → Int32} (hR : lr_R tp vi vf vm vn) (hM : vm 11 = 0 ∨ (vm 11 = 1 ∧ ((∀ k : Nat, 0 ≤ k → k ≤ 0 → (2 : Int) ≤ ((vn 2) k).toInt ∧ ((vn 2) k).toInt ≤ 9) ∧ (∀ k : Nat, 1 ≤ k → k ≤ 1 → (1 : Int) ≤ ((vn 2) k).toInt ∧ ((vn 2) k).toInt ≤ 20) ∧ (∀ k : Nat, 2 ≤ k → k ≤ 2 → (0 : Int) ≤ ((vn 2) k).toInt ∧ ((vn 2) k).toInt ≤ 8) ∧ (∀ k : Nat, 3 ≤ k → k ≤ 3 → (0 : Int) ≤ ((vn 2) k).toInt ∧ ((vn 2) k).toInt ≤ 100) ∧ (∀ k : Nat, 4 ≤ k → k ≤ 4 → (0 : Int) ≤ ((vn 2) k).toInt ∧ ((vn 2) k).toInt ≤ 9) ∧ (∀ k : Nat, 5 ≤ k → k ≤ 5 → (0 : Int) ≤ ((vn 2) k).toInt ∧ ((vn 2) k).toInt ≤ 3) ∧ (∀ k : Nat, 6 ≤ k → k ≤ 6 → (0 : Int) ≤ ((vn 2) k).toInt ∧ ((vn 2) k).toInt ≤ 6) ∧ (∀ k : Nat, 7 ≤ k → k ≤ 9 → (0 : Int) ≤ ((vn 2) k).toInt ∧ ((vn 2) k).toInt ≤ 8) ∧ (∀ k : Nat, 12 ≤ k → k ≤ 29 → (0 : Int) ≤ ((vn 2) k).toInt ∧ ((vn 2) k).toInt ≤ 20) ∧ (∀ k : Nat, 30 ≤ k → k ≤ 35 → (0 : Int) ≤ ((vn 2) k).toInt ∧ ((vn 2) k).toInt ≤ 8) ∧ (∀ k : Nat, 36 ≤ k → k ≤ 47 → (0 : Int) ≤ ((vn 2) k).toInt ∧ ((vn 2) k).toInt ≤ 999)) ∧ ((∀ (j i0 i : Int32), (0 : Int) ≤ j.toInt → j.toInt ≤ 8 → i0.toInt = 12 + 2 * j.toInt → i.toInt = 13 + 2 * j.toInt → ((vn 2) i0.toNatClampNeg).toInt = (1 : Int32).toInt → (1 : Int) ≤ ((vn 2) i.toNatClampNeg).toInt)))) (kx1 : (∀ k9 : Nat, k9 ∉ ([0, 25, 137, 138, 139, 140, 141, 142, 143, 144, 145, 146, 147, 148, 149, 150, 151] : List Nat) → vi1 k9 = vi k9)) (kx2 : (∀ k9 : Nat, k9 ∉ ([55, 56, 57, 58, 59, 60] : List Nat) → vf1 k9 = vf k9)) (km1 : (∀ k9 : Nat, k9 ∉ ([0, 9, 13] : List Nat) → vm1 k9 = vm k9)) (km2 : (∀ k9 : Nat, k9 ∉ ([7] : List Nat) → vn1 k9 = vn k9)) (gx : (Ff_X7_image (vi 33).toInt (vi 25).toInt (fl_nI [(vi 137).toInt, (vi 138).toInt, (vi 139).toInt, (vi 140).toInt, (vi 141).toInt, (vi 142).toInt, (vi 143).toInt, (vi 144).toInt, (vi 145).toInt, (vi 146).toInt, (vi 147).toInt, (vi 148).toInt, (vi 149).toInt, (vi 150).toInt, (vi 151).toInt]) (vi 12).toInt (vi 13).toInt (vi 14).toInt (vi 15).toInt (vi 16).toInt (fl_A (vf 1)) (fl_nF [(fl_A (vf 55)), (fl_A (vf 56)), (fl_A (vf 57)), (fl_A (vf 58)), (fl_A (vf 59)), (fl_A (vf 60))]) (fl_A (vf 2))).2 = ((vi1 0).toInt, (vi1 25).toInt, (fl_nI [(vi1 137).toInt, (vi1 138).toInt, (vi1 139).toInt, (vi1 140).toInt, (vi1 141).toInt, (vi1 142).toInt, (vi1 143).toInt, (vi1 144).toInt, (vi1 145).toInt, (vi1 146).toInt, (vi1 147).toInt, (vi1 148).toInt, (vi1 149).toInt, (vi1 150).toInt, (vi1 151).toInt]), (fl_nF [(fl_A (vf1 55)), (fl_A (vf1 56)), (fl_A (vf1 57)), (fl_A (vf1 58)), (fl_A (vf1 59)), (fl_A (vf1 60))]))) (gm : ((vm 11 = 0 ∧ (∀ k9 : Nat, k9 ∉ ([0, 9] : List Nat) → vm1 k9 = vm k9) ∧ (∀ k9 : Nat, k9 ∉ ([] : List Nat) → vn1 k9 = vn k9)) ∨ (vm 11 = 1 ∧ (Ff_X8_image (vm 11).toInt (vm 13).toInt (fl_A (vn 4)) (fl_A (vn 7))).2 = ((vm1 0).toInt, (vm1 9).toInt, (vm1 13).toInt, (fl_A (vn1 7)))))) : lr_Q vi1 vf1 vm1 vn1 := by
  obtain ⟨hT, hF, hH, hV⟩ := hR
  rcases hM with hM0 | ⟨hM1, hrs, hkm⟩
  · rcases hH with hH | ⟨z9, -⟩
    rotate_left
    · rw [hM0] at z9; exact absurd z9 (by decide)
    have hH9 : lr_H vi vf vm vn := Or.inl hH
    obtain ⟨-, h33, -⟩ := hH
    obtain ⟨⟨v54, v56⟩, hV⟩ := hV
    rcases hV with ⟨-, v12, v24, v25, u12, u13⟩ | ⟨z9, -⟩
    rotate_left
    · rw [hM0] at z9; exact absurd z9 (by decide)
    have e33 : (vi 33).toInt = 0 := by rw [h33]; decide
    have ex : Ff_X7_image (vi 33).toInt (vi 25).toInt (fl_nI [(vi 137).toInt, (vi 138).toInt, (vi 139).toInt, (vi 140).toInt, (vi 141).toInt, (vi 142).toInt, (vi 143).toInt, (vi 144).toInt, (vi 145).toInt, (vi 146).toInt, (vi 147).toInt, (vi 148).toInt, (vi 149).toInt, (vi 150).toInt, (vi 151).toInt]) (vi 12).toInt (vi 13).toInt (vi 14).toInt (vi 15).toInt (vi 16).toInt (fl_A (vf 1)) (fl_nF [(fl_A (vf 55)), (fl_A (vf 56)), (fl_A (vf 57)), (fl_A (vf 58)), (fl_A (vf 59)), (fl_A (vf 60))]) (fl_A (vf 2)) = ((-1), 1, (vi 25).toInt, (fl_nI [(vi 137).toInt, (vi 138).toInt, (vi 139).toInt, (vi 140).toInt, (vi 141).toInt, (vi 142).toInt, (vi 143).toInt, (vi 144).toInt, (vi 145).toInt, (vi 146).toInt, (vi 147).toInt, (vi 148).toInt, (vi 149).toInt, (vi 150).toInt, (vi 151).toInt]), (fl_nF [(fl_A (vf 55)), (fl_A (vf 56)), (fl_A (vf 57)), (fl_A (vf 58)), (fl_A (vf 59)), (fl_A (vf 60))])) := by
      unfold Ff_X7_image Ff_X7_hasGallery
      rw [e33, if_pos (by decide)]
      rfl
    rw [ex] at gx
    have p_N : (vi 25).toInt = (vi1 25).toInt := congrArg (fun z9 => z9.2.1) gx
    rcases gm with ⟨-, k01, k02⟩ | ⟨z9, -⟩
    rotate_left
    · rw [hM0] at z9; exact absurd z9 (by decide)
    refine ⟨by rw [kx1 1 (by decide), k01 7 (by decide)]; exact hF, lr_H_keep (kx1 33 (by decide)) (kx1 34 (by decide)) (kx1 35 (by decide)) (kx1 36 (by decide)) (kx1 37 (by decide)) (kx1 38 (by decide)) (kx1 39 (by decide)) (kx1 40 (by decide)) (kx1 41 (by decide)) (kx1 42 (by decide)) (kx1 53 (by decide)) (kx2 11 (by decide)) (kx2 12 (by decide)) (kx2 13 (by decide)) (kx2 14 (by decide)) (kx2 19 (by decide)) (kx2 20 (by decide)) (k01 11 (by decide)) (by rw [k02 2 (by decide)]) hH9, ⟨by rw [kx1 54 (by decide)]; exact v54, by rw [kx1 56 (by decide)]; exact v56⟩, Or.inl ⟨by rw [k01 11 (by decide)]; exact hM0, by rw [kx1 12 (by decide)]; exact v12, by rw [kx1 24 (by decide)]; exact v24, by rw [← Int32.toInt_inj, ← p_N, v25], by rw [k01 12 (by decide)]; exact u12, by rw [k01 13 (by decide)]; exact u13⟩⟩
  · obtain ⟨hG, hD, -⟩ := lr_G hH hM1 hrs hkm
    have hf9 : 2 ≤ (vi 33).toInt ∧ (vi 33).toInt ≤ 9 := ⟨hG.1.2.1, hG.1.2.2⟩
    have f9 := hf9.2
    have hV4 := hV.2
    rcases hV4 with ⟨z9, -⟩ | ⟨-, hS, hm, hU, hN, hHi, hIm⟩
    · rw [hM1] at z9; exact absurd z9 (by decide)
    have e11 : (vm 11).toInt = 1 := by rw [hM1]; decide
    have hHi := rs_H_cg (gI1 := fl_nI [(vi 57).toInt, (vi 58).toInt, (vi 59).toInt, (vi 60).toInt, (vi 61).toInt, (vi 62).toInt, (vi 63).toInt, (vi 64).toInt, (vi 65).toInt, (vi 66).toInt, (vi 67).toInt, (vi 68).toInt, (vi 69).toInt, (vi 70).toInt, (vi 71).toInt, (vi 72).toInt, (vi 73).toInt, (vi 74).toInt, (vi 75).toInt, (vi 76).toInt, (vi 77).toInt, (vi 78).toInt, (vi 79).toInt, (vi 80).toInt, (vi 81).toInt, (vi 82).toInt, (vi 83).toInt, (vi 84).toInt, (vi 85).toInt, (vi 86).toInt, (vi 87).toInt, (vi 88).toInt, (vi 89).toInt, (vi 90).toInt, (vi 91).toInt, (vi 92).toInt, (vi 93).toInt, (vi 94).toInt, (vi 95).toInt, (vi 96).toInt, (vi 97).toInt, (vi 98).toInt, (vi 99).toInt, (vi 100).toInt, (vi 101).toInt, (vi 102).toInt, (vi 103).toInt, (vi 104).toInt, (vi 105).toInt, (vi 106).toInt, (vi 107).toInt, (vi 108).toInt, (vi 109).toInt, (vi 110).toInt, (vi 111).toInt, (vi 112).toInt, (vi 113).toInt, (vi 114).toInt, (vi 115).toInt, (vi 116).toInt, (vi 117).toInt, (vi 118).toInt, (vi 119).toInt, (vi 120).toInt, (vi 121).toInt, (vi 122).toInt, (vi 123).toInt, (vi 124).toInt, (vi 125).toInt, (vi 126).toInt, (vi 127).toInt, (vi 128).toInt, (vi 129).toInt, (vi 130).toInt, (vi 131).toInt, (vi 132).toInt, (vi 133).toInt, (vi 134).toInt, (vi 135).toInt, (vi 136).toInt]) (gF1 := fl_nF [(fl_A (vf 23)), (fl_A (vf 24)), (fl_A (vf 25)), (fl_A (vf 26)), (fl_A (vf 27)), (fl_A (vf 28)), (fl_A (vf 29)), (fl_A (vf 30)), (fl_A (vf 31)), (fl_A (vf 32)), (fl_A (vf 33)), (fl_A (vf 34)), (fl_A (vf 35)), (fl_A (vf 36)), (fl_A (vf 37)), (fl_A (vf 38)), (fl_A (vf 39)), (fl_A (vf 40)), (fl_A (vf 41)), (fl_A (vf 42)), (fl_A (vf 43)), (fl_A (vf 44)), (fl_A (vf 45)), (fl_A (vf 46)), (fl_A (vf 47)), (fl_A (vf 48)), (fl_A (vf 49)), (fl_A (vf 50)), (fl_A (vf 51)), (fl_A (vf 52)), (fl_A (vf 53)), (fl_A (vf 54))]) (fun k h9 => lr_g3e vi h9) (fun k h9 => lr_f3e vf h9) hHi
    have hIm := rs_I_cg (gI1 := fl_nI [(vi 137).toInt, (vi 138).toInt, (vi 139).toInt, (vi 140).toInt, (vi 141).toInt, (vi 142).toInt, (vi 143).toInt, (vi 144).toInt, (vi 145).toInt, (vi 146).toInt, (vi 147).toInt, (vi 148).toInt, (vi 149).toInt, (vi 150).toInt, (vi 151).toInt]) (gF1 := fl_nF [(fl_A (vf 55)), (fl_A (vf 56)), (fl_A (vf 57)), (fl_A (vf 58)), (fl_A (vf 59)), (fl_A (vf 60))]) (fun k h9 => lr_g4e vi h9) (fun k h9 => lr_f4e vf h9) hIm
    obtain ⟨R, tr, N1, iI1, iF1, kp1, e1, e2, e6⟩ := rs_image f9 (by omega) hS hm hIm
    rcases gm with ⟨z9, -⟩ | ⟨-, gm⟩
    · rw [hM1] at z9; exact absurd z9 (by decide)
    rw [e11, ← hN] at gm
    rw [e1] at gx
    rw [e2] at gm
    have p_N : N1 = (vi1 25).toInt := congrArg (fun z9 => z9.2.1) gx
    have p_iI : iI1 = (fl_nI [(vi1 137).toInt, (vi1 138).toInt, (vi1 139).toInt, (vi1 140).toInt, (vi1 141).toInt, (vi1 142).toInt, (vi1 143).toInt, (vi1 144).toInt, (vi1 145).toInt, (vi1 146).toInt, (vi1 147).toInt, (vi1 148).toInt, (vi1 149).toInt, (vi1 150).toInt, (vi1 151).toInt]) := congrArg (fun z9 => z9.2.2.1) gx
    have p_iF : iF1 = (fl_nF [(fl_A (vf1 55)), (fl_A (vf1 56)), (fl_A (vf1 57)), (fl_A (vf1 58)), (fl_A (vf1 59)), (fl_A (vf1 60))]) := congrArg (fun z9 => z9.2.2.2) gx
    have r_N : N1 = (vm1 13).toInt := congrArg (fun z9 => z9.2.2.1) gm
    have r_kp : kp1 = (fl_A (vn1 7)) := congrArg (fun z9 => z9.2.2.2) gm
    have w1 : rs_S (vi1 33).toInt (vi1 34).toInt (fl_A (vf1 11)) (vi1 12).toInt (vi1 13).toInt (vi1 14).toInt (vi1 15).toInt (vi1 16).toInt (fl_A (vf1 1)) (fl_A (vf1 2)) (fl_A (vn1 4)) := by
      rw [kx1 33 (by decide), kx1 34 (by decide), kx2 11 (by decide), kx1 12 (by decide), kx1 13 (by decide), kx1 14 (by decide), kx1 15 (by decide), kx1 16 (by decide), kx2 1 (by decide), kx2 2 (by decide), km2 4 (by decide)]
      exact hS
    have w2 : (vi1 12).toInt ≤ 9999 := by
      rw [kx1 12 (by decide)]
      exact hm
    have w3 : (vi1 24).toInt = (vm1 12).toInt := by
      rw [kx1 24 (by decide), km1 12 (by decide)]
      exact hU
    have w4 : (vi1 25).toInt = (vm1 13).toInt := by
      rw [← p_N, ← r_N]
    have w5 : rs_H (vi1 33).toInt (vi1 34).toInt (fl_A (vf1 11)) (vi1 24).toInt (vi1 26).toInt (lr_g3 vi1) (lr_f3 vf1) (fl_A (vn1 6)) := by
      rw [kx1 33 (by decide), kx1 34 (by decide), kx2 11 (by decide), kx1 24 (by decide), kx1 26 (by decide), km2 6 (by decide)]
      exact rs_H_cg (fun k h9 => by rw [lr_g3e vi h9]; show (vi1 (57 + k)).toInt = (vi (57 + k)).toInt; rw [kx1 (57 + k) (kp_out (a := 57) (b := 137) (by decide) (by omega) (by omega))]) (fun k h9 => by rw [lr_f3e vf h9]; show fl_A (vf1 (23 + k)) = fl_A (vf (23 + k)); rw [kx2 (23 + k) (kp_out (a := 23) (b := 55) (by decide) (by omega) (by omega))]) hHi
    have w6 : rs_I (vi1 33).toInt (vi1 34).toInt (fl_A (vf1 11)) (vi1 25).toInt (lr_g4 vi1) (lr_f4 vf1) (fl_A (vn1 7)) := by
      rw [kx1 33 (by decide), kx1 34 (by decide), kx2 11 (by decide), ← p_N, ← r_kp]
      exact rs_I_cg (fun k h9 => by rw [p_iI]; exact (lr_g4e vi1 h9).symm) (fun k h9 => by rw [p_iF]; exact (lr_f4e vf1 h9).symm) e6
    exact ⟨by rw [kx1 1 (by decide), km1 7 (by decide)]; exact hF, lr_H_keep (kx1 33 (by decide)) (kx1 34 (by decide)) (kx1 35 (by decide)) (kx1 36 (by decide)) (kx1 37 (by decide)) (kx1 38 (by decide)) (kx1 39 (by decide)) (kx1 40 (by decide)) (kx1 41 (by decide)) (kx1 42 (by decide)) (kx1 53 (by decide)) (kx2 11 (by decide)) (kx2 12 (by decide)) (kx2 13 (by decide)) (kx2 14 (by decide)) (kx2 19 (by decide)) (kx2 20 (by decide)) (km1 11 (by decide)) (by rw [km2 2 (by decide)]) hH, ⟨by rw [kx1 54 (by decide)]; exact hV.1.1, by rw [kx1 56 (by decide)]; exact hV.1.2⟩, Or.inr ⟨by rw [km1 11 (by decide)]; exact hM1, w1, w2, w3, w4, w5, w6⟩⟩

theorem lr_back {tp : Int32} {vi vi1 vm vm1 : Nat → Int32} {vf vf1 vn vn1 : Nat → Nat → Int32} (hR : lr_R tp vi vf vm vn) (hM : vm 11 = 0 ∨ (vm 11 = 1 ∧ ((∀ k : Nat, 0 ≤ k → k ≤ 0 → (2 : Int) ≤ ((vn 2) k).toInt ∧ ((vn 2) k).toInt ≤ 9) ∧ (∀ k : Nat, 1 ≤ k → k ≤ 1 → (1 : Int) ≤ ((vn 2) k).toInt ∧ ((vn 2) k).toInt ≤ 20) ∧ (∀ k : Nat, 2 ≤ k → k ≤ 2 → (0 : Int) ≤ ((vn 2) k).toInt ∧ ((vn 2) k).toInt ≤ 8) ∧ (∀ k : Nat, 3 ≤ k → k ≤ 3 → (0 : Int) ≤ ((vn 2) k).toInt ∧ ((vn 2) k).toInt ≤ 100) ∧ (∀ k : Nat, 4 ≤ k → k ≤ 4 → (0 : Int) ≤ ((vn 2) k).toInt ∧ ((vn 2) k).toInt ≤ 9) ∧ (∀ k : Nat, 5 ≤ k → k ≤ 5 → (0 : Int) ≤ ((vn 2) k).toInt ∧ ((vn 2) k).toInt ≤ 3) ∧ (∀ k : Nat, 6 ≤ k → k ≤ 6 → (0 : Int) ≤ ((vn 2) k).toInt ∧ ((vn 2) k).toInt ≤ 6) ∧ (∀ k : Nat, 7 ≤ k → k ≤ 9 → (0 : Int) ≤ ((vn 2) k).toInt ∧ ((vn 2) k).toInt ≤ 8) ∧ (∀ k : Nat, 12 ≤ k → k ≤ 29 → (0 : Int) ≤ ((vn 2) k).toInt ∧ ((vn 2) k).toInt ≤ 20) ∧ (∀ k : Nat, 30 ≤ k → k ≤ 35 → (0 : Int) ≤ ((vn 2) k).toInt ∧ ((vn 2) k).toInt ≤ 8) ∧ (∀ k : Nat, 36 ≤ k → k ≤ 47 → (0 : Int) ≤ ((vn 2) k).toInt ∧ ((vn 2) k).toInt ≤ 999)) ∧ ((∀ (j i0 i : Int32), (0 : Int) ≤ j.toInt → j.toInt ≤ 8 → i0.toInt = 12 + 2 * j.toInt → i.toInt = 13 + 2 * j.toInt → ((vn 2) i0.toNatClampNeg).toInt = (1 : Int32).toInt → (1 : Int) ≤ ((vn 2) i.toNatClampNeg).toInt)))) (a : Int32) (kx1 : (∀ k9 : Nat, k9 ∉ ([0, 12, 13, 14, 15, 16, 24] : List Nat) → vi1 k9 = vi k9)) (kx2 : (∀ k9 : Nat, k9 ∉ ([1, 2] : List Nat) → vf1 k9 = vf k9)) (km1 : (∀ k9 : Nat, k9 ∉ ([0, 9, 12] : List Nat) → vm1 k9 = vm k9)) (km2 : (∀ k9 : Nat, k9 ∉ ([4] : List Nat) → vn1 k9 = vn k9)) (gx : (Ff_X7_back a.toInt (vi 24).toInt (vi 25).toInt (vi 12).toInt (vi 13).toInt (vi 14).toInt (vi 15).toInt (vi 16).toInt (fl_nI [(vi 137).toInt, (vi 138).toInt, (vi 139).toInt, (vi 140).toInt, (vi 141).toInt, (vi 142).toInt, (vi 143).toInt, (vi 144).toInt, (vi 145).toInt, (vi 146).toInt, (vi 147).toInt, (vi 148).toInt, (vi 149).toInt, (vi 150).toInt, (vi 151).toInt]) (fl_nF [(fl_A (vf 55)), (fl_A (vf 56)), (fl_A (vf 57)), (fl_A (vf 58)), (fl_A (vf 59)), (fl_A (vf 60))]) (fl_A (vf 1)) (fl_A (vf 2))).2 = ((vi1 0).toInt, (vi1 24).toInt, (vi1 12).toInt, (vi1 13).toInt, (vi1 14).toInt, (vi1 15).toInt, (vi1 16).toInt, (fl_A (vf1 1)), (fl_A (vf1 2)))) (gm : (Ff_X8_back a.toInt (vm 12).toInt (vm 13).toInt (fl_A (vn 7)) (fl_A (vn 4))).2 = ((vm1 0).toInt, (vm1 9).toInt, (vm1 12).toInt, (fl_A (vn1 4)))) : lr_Q vi1 vf1 vm1 vn1 := by
  obtain ⟨hT, hF, hH, hV⟩ := hR
  rcases hM with hM0 | ⟨hM1, hrs, hkm⟩
  · rcases hH with hH | ⟨z9, -⟩
    rotate_left
    · rw [hM0] at z9; exact absurd z9 (by decide)
    have hH9 : lr_H vi vf vm vn := Or.inl hH
    obtain ⟨-, h33, -⟩ := hH
    obtain ⟨⟨v54, v56⟩, hV⟩ := hV
    rcases hV with ⟨-, v12, v24, v25, u12, u13⟩ | ⟨z9, -⟩
    rotate_left
    · rw [hM0] at z9; exact absurd z9 (by decide)
    have e33 : (vi 33).toInt = 0 := by rw [h33]; decide
    have e25 : (vi 25).toInt = 0 := by rw [v25]; decide
    have e13 : (vm 13).toInt = 0 := by rw [u13]; decide
    have ex : Ff_X7_back a.toInt (vi 24).toInt (vi 25).toInt (vi 12).toInt (vi 13).toInt (vi 14).toInt (vi 15).toInt (vi 16).toInt (fl_nI [(vi 137).toInt, (vi 138).toInt, (vi 139).toInt, (vi 140).toInt, (vi 141).toInt, (vi 142).toInt, (vi 143).toInt, (vi 144).toInt, (vi 145).toInt, (vi 146).toInt, (vi 147).toInt, (vi 148).toInt, (vi 149).toInt, (vi 150).toInt, (vi 151).toInt]) (fl_nF [(fl_A (vf 55)), (fl_A (vf 56)), (fl_A (vf 57)), (fl_A (vf 58)), (fl_A (vf 59)), (fl_A (vf 60))]) (fl_A (vf 1)) (fl_A (vf 2)) = (0, 1, (vi 24).toInt, (vi 12).toInt, (vi 13).toInt, (vi 14).toInt, (vi 15).toInt, (vi 16).toInt, (fl_A (vf 1)), (fl_A (vf 2))) := by
      unfold Ff_X7_back Ff_X1_goBack
      rw [fl_lt_eq rfl, e25, rp_in, rp_in0 (by omega), fl_lt_eq rfl, if_neg (by decide), fl_c9_eq rfl]
      rfl
    rw [ex] at gx
    have p_U : (vi 24).toInt = (vi1 24).toInt := congrArg (fun z9 => z9.2.1) gx
    have p_mi : (vi 12).toInt = (vi1 12).toInt := congrArg (fun z9 => z9.2.2.1) gx
    have em : Ff_X8_back a.toInt (vm 12).toInt (vm 13).toInt (fl_A (vn 7)) (fl_A (vn 4)) = (0, 0, 1, (vm 12).toInt, (fl_A (vn 4))) := by
      unfold Ff_X8_back Ff_X8_good
      rw [fl_c2_eq rfl, fl_lt_eq rfl, e13, rp_in0 (by omega)]
      rfl
    rw [em] at gm
    have p_Um : (vm 12).toInt = (vm1 12).toInt := congrArg (fun z9 => z9.2.2.1) gm
    refine ⟨by rw [kx1 1 (by decide), km1 7 (by decide)]; exact hF, lr_H_keep (kx1 33 (by decide)) (kx1 34 (by decide)) (kx1 35 (by decide)) (kx1 36 (by decide)) (kx1 37 (by decide)) (kx1 38 (by decide)) (kx1 39 (by decide)) (kx1 40 (by decide)) (kx1 41 (by decide)) (kx1 42 (by decide)) (kx1 53 (by decide)) (kx2 11 (by decide)) (kx2 12 (by decide)) (kx2 13 (by decide)) (kx2 14 (by decide)) (kx2 19 (by decide)) (kx2 20 (by decide)) (km1 11 (by decide)) (by rw [km2 2 (by decide)]) hH9, ⟨by rw [kx1 54 (by decide)]; exact v54, by rw [kx1 56 (by decide)]; exact v56⟩, Or.inl ⟨by rw [km1 11 (by decide)]; exact hM0, by rw [← Int32.toInt_inj, ← p_mi, v12], by rw [← Int32.toInt_inj, ← p_U, v24], by rw [kx1 25 (by decide)]; exact v25, by rw [← Int32.toInt_inj, ← p_Um, u12], by rw [km1 13 (by decide)]; exact u13⟩⟩
  · obtain ⟨hG, hD, -⟩ := lr_G hH hM1 hrs hkm
    have hf9 : 2 ≤ (vi 33).toInt ∧ (vi 33).toInt ≤ 9 := ⟨hG.1.2.1, hG.1.2.2⟩
    have f9 := hf9.2
    have hV4 := hV.2
    rcases hV4 with ⟨z9, -⟩ | ⟨-, hS, hm, hU, hN, hHi, hIm⟩
    · rw [hM1] at z9; exact absurd z9 (by decide)
    have e11 : (vm 11).toInt = 1 := by rw [hM1]; decide
    have hHi := rs_H_cg (gI1 := fl_nI [(vi 57).toInt, (vi 58).toInt, (vi 59).toInt, (vi 60).toInt, (vi 61).toInt, (vi 62).toInt, (vi 63).toInt, (vi 64).toInt, (vi 65).toInt, (vi 66).toInt, (vi 67).toInt, (vi 68).toInt, (vi 69).toInt, (vi 70).toInt, (vi 71).toInt, (vi 72).toInt, (vi 73).toInt, (vi 74).toInt, (vi 75).toInt, (vi 76).toInt, (vi 77).toInt, (vi 78).toInt, (vi 79).toInt, (vi 80).toInt, (vi 81).toInt, (vi 82).toInt, (vi 83).toInt, (vi 84).toInt, (vi 85).toInt, (vi 86).toInt, (vi 87).toInt, (vi 88).toInt, (vi 89).toInt, (vi 90).toInt, (vi 91).toInt, (vi 92).toInt, (vi 93).toInt, (vi 94).toInt, (vi 95).toInt, (vi 96).toInt, (vi 97).toInt, (vi 98).toInt, (vi 99).toInt, (vi 100).toInt, (vi 101).toInt, (vi 102).toInt, (vi 103).toInt, (vi 104).toInt, (vi 105).toInt, (vi 106).toInt, (vi 107).toInt, (vi 108).toInt, (vi 109).toInt, (vi 110).toInt, (vi 111).toInt, (vi 112).toInt, (vi 113).toInt, (vi 114).toInt, (vi 115).toInt, (vi 116).toInt, (vi 117).toInt, (vi 118).toInt, (vi 119).toInt, (vi 120).toInt, (vi 121).toInt, (vi 122).toInt, (vi 123).toInt, (vi 124).toInt, (vi 125).toInt, (vi 126).toInt, (vi 127).toInt, (vi 128).toInt, (vi 129).toInt, (vi 130).toInt, (vi 131).toInt, (vi 132).toInt, (vi 133).toInt, (vi 134).toInt, (vi 135).toInt, (vi 136).toInt]) (gF1 := fl_nF [(fl_A (vf 23)), (fl_A (vf 24)), (fl_A (vf 25)), (fl_A (vf 26)), (fl_A (vf 27)), (fl_A (vf 28)), (fl_A (vf 29)), (fl_A (vf 30)), (fl_A (vf 31)), (fl_A (vf 32)), (fl_A (vf 33)), (fl_A (vf 34)), (fl_A (vf 35)), (fl_A (vf 36)), (fl_A (vf 37)), (fl_A (vf 38)), (fl_A (vf 39)), (fl_A (vf 40)), (fl_A (vf 41)), (fl_A (vf 42)), (fl_A (vf 43)), (fl_A (vf 44)), (fl_A (vf 45)), (fl_A (vf 46)), (fl_A (vf 47)), (fl_A (vf 48)), (fl_A (vf 49)), (fl_A (vf 50)), (fl_A (vf 51)), (fl_A (vf 52)), (fl_A (vf 53)), (fl_A (vf 54))]) (fun k h9 => lr_g3e vi h9) (fun k h9 => lr_f3e vf h9) hHi
    have hIm := rs_I_cg (gI1 := fl_nI [(vi 137).toInt, (vi 138).toInt, (vi 139).toInt, (vi 140).toInt, (vi 141).toInt, (vi 142).toInt, (vi 143).toInt, (vi 144).toInt, (vi 145).toInt, (vi 146).toInt, (vi 147).toInt, (vi 148).toInt, (vi 149).toInt, (vi 150).toInt, (vi 151).toInt]) (gF1 := fl_nF [(fl_A (vf 55)), (fl_A (vf 56)), (fl_A (vf 57)), (fl_A (vf 58)), (fl_A (vf 59)), (fl_A (vf 60))]) (fun k h9 => lr_g4e vi h9) (fun k h9 => lr_f4e vf h9) hIm
    obtain ⟨R, tr, U1, mi1, tu1, sn1, go1, ca1, pl1, he1, st1, e1, e2, e3, e4, e5⟩ := rs_back f9 hS hm hHi hIm a.toInt
    rw [← hU, ← hN] at gm
    rw [e1] at gx
    rw [e2] at gm
    have p_U : U1 = (vi1 24).toInt := congrArg (fun z9 => z9.2.1) gx
    have p_mi : mi1 = (vi1 12).toInt := congrArg (fun z9 => z9.2.2.1) gx
    have p_tu : tu1 = (vi1 13).toInt := congrArg (fun z9 => z9.2.2.2.1) gx
    have p_sn : sn1 = (vi1 14).toInt := congrArg (fun z9 => z9.2.2.2.2.1) gx
    have p_go : go1 = (vi1 15).toInt := congrArg (fun z9 => z9.2.2.2.2.2.1) gx
    have p_ca : ca1 = (vi1 16).toInt := congrArg (fun z9 => z9.2.2.2.2.2.2.1) gx
    have p_pl : pl1 = (fl_A (vf1 1)) := congrArg (fun z9 => z9.2.2.2.2.2.2.2.1) gx
    have p_he : he1 = (fl_A (vf1 2)) := congrArg (fun z9 => z9.2.2.2.2.2.2.2.2) gx
    have r_U : U1 = (vm1 12).toInt := congrArg (fun z9 => z9.2.2.1) gm
    have r_st : st1 = (fl_A (vn1 4)) := congrArg (fun z9 => z9.2.2.2) gm
    have w1 : rs_S (vi1 33).toInt (vi1 34).toInt (fl_A (vf1 11)) (vi1 12).toInt (vi1 13).toInt (vi1 14).toInt (vi1 15).toInt (vi1 16).toInt (fl_A (vf1 1)) (fl_A (vf1 2)) (fl_A (vn1 4)) := by
      rw [kx1 33 (by decide), kx1 34 (by decide), kx2 11 (by decide), ← p_mi, ← p_tu, ← p_sn, ← p_go, ← p_ca, ← p_pl, ← p_he, ← r_st]
      exact e3
    have w2 : (vi1 12).toInt ≤ 9999 := by
      rw [← p_mi]
      exact e4
    have w3 : (vi1 24).toInt = (vm1 12).toInt := by
      rw [← p_U, ← r_U]
    have w4 : (vi1 25).toInt = (vm1 13).toInt := by
      rw [kx1 25 (by decide), km1 13 (by decide)]
      exact hN
    have w5 : rs_H (vi1 33).toInt (vi1 34).toInt (fl_A (vf1 11)) (vi1 24).toInt (vi1 26).toInt (lr_g3 vi1) (lr_f3 vf1) (fl_A (vn1 6)) := by
      rw [kx1 33 (by decide), kx1 34 (by decide), kx2 11 (by decide), ← p_U, kx1 26 (by decide), km2 6 (by decide)]
      exact rs_H_cg (fun k h9 => by rw [lr_g3e vi h9]; show (vi1 (57 + k)).toInt = (vi (57 + k)).toInt; rw [kx1 (57 + k) (kp_out (a := 57) (b := 137) (by decide) (by omega) (by omega))]) (fun k h9 => by rw [lr_f3e vf h9]; show fl_A (vf1 (23 + k)) = fl_A (vf (23 + k)); rw [kx2 (23 + k) (kp_out (a := 23) (b := 55) (by decide) (by omega) (by omega))]) e5
    have w6 : rs_I (vi1 33).toInt (vi1 34).toInt (fl_A (vf1 11)) (vi1 25).toInt (lr_g4 vi1) (lr_f4 vf1) (fl_A (vn1 7)) := by
      rw [kx1 33 (by decide), kx1 34 (by decide), kx2 11 (by decide), kx1 25 (by decide), km2 7 (by decide)]
      exact rs_I_cg (fun k h9 => by rw [lr_g4e vi h9]; show (vi1 (137 + k)).toInt = (vi (137 + k)).toInt; rw [kx1 (137 + k) (kp_out (a := 137) (b := 152) (by decide) (by omega) (by omega))]) (fun k h9 => by rw [lr_f4e vf h9]; show fl_A (vf1 (55 + k)) = fl_A (vf (55 + k)); rw [kx2 (55 + k) (kp_out (a := 55) (b := 61) (by decide) (by omega) (by omega))]) hIm
    exact ⟨by rw [kx1 1 (by decide), km1 7 (by decide)]; exact hF, lr_H_keep (kx1 33 (by decide)) (kx1 34 (by decide)) (kx1 35 (by decide)) (kx1 36 (by decide)) (kx1 37 (by decide)) (kx1 38 (by decide)) (kx1 39 (by decide)) (kx1 40 (by decide)) (kx1 41 (by decide)) (kx1 42 (by decide)) (kx1 53 (by decide)) (kx2 11 (by decide)) (kx2 12 (by decide)) (kx2 13 (by decide)) (kx2 14 (by decide)) (kx2 19 (by decide)) (kx2 20 (by decide)) (km1 11 (by decide)) (by rw [km2 2 (by decide)]) hH, ⟨by rw [kx1 54 (by decide)]; exact hV.1.1, by rw [kx1 56 (by decide)]; exact hV.1.2⟩, Or.inr ⟨by rw [km1 11 (by decide)]; exact hM1, w1, w2, w3, w4, w5, w6⟩⟩
end RELA
end P094032_rel
section P094034_rel
section RELP
section RT
/-- the n-th turn from one of x on, by N -/
def rt_T (N : Int → Int) (x : Int) : Nat → Int
  | 0 => x
  | n + 1 => N (rt_T N x n)
theorem rt_mem {N : Int → Int} {x fg : Int} (hN : ∀ y, 0 ≤ N y ∧ N y < fg) (hx : 0 ≤ x ∧ x < fg) : ∀ n, 0 ≤ rt_T N x n ∧ rt_T N x n < fg
  | 0 => hx
  | _ + 1 => hN _
theorem rt_add (N : Int → Int) (x : Int) (n : Nat) : ∀ m, rt_T N x (n + m) = rt_T N (rt_T N x n) m
  | 0 => rfl
  | m + 1 => congrArg N (rt_add N x n m)
theorem rt_eq {N : Int → Int} {x : Int} {a b : Nat} (h : rt_T N x a = rt_T N x b) (d : Nat) : rt_T N x (a + d) = rt_T N x (b + d) := by
  rw [rt_add, rt_add, h]
theorem rt_pig : ∀ (m n : Nat) (f : Nat → Int), (∀ k, k < n → 0 ≤ f k ∧ f k < (m : Int)) → (∀ i j, i < n → j < n → f i = f j → i = j) → n ≤ m := by
  intro m
  induction m with
  | zero =>
    intro n f h1 _
    by_cases h : n = 0
    · omega
    · have h2 := h1 0 (by omega); omega
  | succ m ih =>
    intro n f h1 h2
    by_cases hk : ∃ k, k < n ∧ f k = (m : Int)
    · obtain ⟨k, hk, ek⟩ := hk
      have q : n - 1 ≤ m := ih (n - 1) (fun i => if i = k then f (n - 1) else f i) (fun i hi => by
        by_cases e : i = k
        · rw [if_pos e]
          have q1 := h1 (n - 1) (by omega)
          have q2 : f (n - 1) ≠ (m : Int) := fun q3 => by
            have q4 := h2 (n - 1) k (by omega) hk (q3.trans ek.symm)
            omega
          omega
        · rw [if_neg e]
          have q1 := h1 i (by omega)
          have q2 : f i ≠ (m : Int) := fun q3 => e (h2 i k (by omega) hk (q3.trans ek.symm))
          omega) (fun i j hi hj => by
        by_cases e1 : i = k
        · rw [if_pos e1]
          by_cases e2 : j = k
          · intro _; omega
          · rw [if_neg e2]; intro q1
            have q2 := h2 (n - 1) j (by omega) (by omega) q1
            omega
        · rw [if_neg e1]
          by_cases e2 : j = k
          · rw [if_pos e2]; intro q1
            have q2 := h2 i (n - 1) (by omega) (by omega) q1
            omega
          · rw [if_neg e2]; intro q1
            exact h2 i j (by omega) (by omega) q1)
      omega
    · have q := ih n f (fun i hi => by
        have q1 := h1 i hi
        have q2 : f i ≠ (m : Int) := fun q3 => hk ⟨i, hi, q3⟩
        omega) h2
      omega
/-- from the s-th on they come again, g of them -/
def rt_C (N : Int → Int) (x : Int) (s g : Nat) : Prop := 1 ≤ g ∧ (∀ i j, i < s + g → j < s + g → rt_T N x i = rt_T N x j → i = j) ∧ rt_T N x (s + g) = rt_T N x s
theorem rt_per {N : Int → Int} {x : Int} {s g : Nat} (h : rt_C N x s g) (j : Nat) : ∀ q : Nat, rt_T N x (s + j + g * q) = rt_T N x (s + j)
  | 0 => rfl
  | q + 1 => by
    have e : s + j + g * (q + 1) = (s + g) + (j + g * q) := by rw [Nat.mul_add, Nat.mul_one]; omega
    rw [e, rt_eq h.2.2 (j + g * q), ← Nat.add_assoc]
    exact rt_per h j q
theorem rt_mod {N : Int → Int} {x : Int} {s g : Nat} (h : rt_C N x s g) {n : Nat} (hn : s ≤ n) : rt_T N x n = rt_T N x (s + (n - s) % g) := by
  have e : n = s + (n - s) % g + g * ((n - s) / g) := by
    have := Nat.mod_add_div (n - s) g
    omega
  have q := rt_per h ((n - s) % g) ((n - s) / g)
  rw [← e] at q
  exact q
/-- each turn is one of the first s + g -/
theorem rt_old {N : Int → Int} {x : Int} {s g : Nat} (h : rt_C N x s g) (n : Nat) : ∃ k, k < s + g ∧ rt_T N x k = rt_T N x n := by
  by_cases hn : s ≤ n
  · refine ⟨s + (n - s) % g, ?_, (rt_mod h hn).symm⟩
    have := Nat.mod_lt (n - s) h.1
    omega
  · exact ⟨n, by have := h.1; omega, rfl⟩
/-- the place found in a row -/
def rt_fd (row : Nat → Int) (f : Int) : Nat → Nat → Int → Int
  | 0, _, st => st
  | d + 1, j, st => rt_fd row f d (j + 1) (if row j = f then (j : Int) else st)
theorem rt_fd0 {row : Nat → Int} {f : Int} : ∀ (d j : Nat) (st : Int), (∀ k, j ≤ k → k < j + d → row k ≠ f) → rt_fd row f d j st = st
  | 0, _, _, _ => rfl
  | d + 1, j, st, h => by
    show rt_fd row f d (j + 1) (if row j = f then (j : Int) else st) = st
    rw [if_neg (h j (Nat.le_refl _) (by omega))]
    exact rt_fd0 d (j + 1) st (fun k h1 h2 => h k (by omega) (by omega))
theorem rt_fd1 {row : Nat → Int} {f : Int} {s : Nat} (hs : row s = f) : ∀ (d j : Nat) (st : Int), j ≤ s → s < j + d → (∀ k, j ≤ k → k < j + d → k ≠ s → row k ≠ f) → rt_fd row f d j st = (s : Int)
  | 0, _, _, _, _, _ => by omega
  | d + 1, j, st, h1, h2, h => by
    show rt_fd row f d (j + 1) (if row j = f then (j : Int) else st) = (s : Int)
    by_cases e : j = s
    · subst e
      rw [if_pos hs]
      exact rt_fd0 d (j + 1) (j : Int) (fun k q1 q2 => h k (by omega) (by omega) (by omega))
    · rw [if_neg (h j (Nat.le_refl _) (by omega) e)]
      exact rt_fd1 hs d (j + 1) st (by omega) (by omega) (fun k q1 q2 q3 => h k (by omega) (by omega) q3)
/-- goRound's inner loop -/
theorem rt_in (r row : Nat → Int) (f : Int) (n : Nat) : ∀ (d m j : Nat) (st : Int), j + d = n → d + 1 ≤ m →
    fl_wh (fun t9 : Int × Int => Sf_X8_goRound_24_1 r f (n : Int) row t9.1 t9.2) (Sum.inr (0, 0, (fun _ => 0))) m ((j : Int), st) =
      (if rt_fd row f d j st < 0 then Sum.inl (Ff_X8_nextOf f r, (n : Int) + 1, rt_fd row f d j st, fl_up row n f) else Sum.inr (rt_fd row f d j st, (n : Int) - rt_fd row f d j st, row)) := by
  intro d
  induction d with
  | zero =>
    intro m j st hj hm
    obtain ⟨m, rfl⟩ : ∃ q, m = q + 1 := ⟨m - 1, by omega⟩
    refine fl_wh_r (step := (fun t9 : Int × Int => Sf_X8_goRound_24_1 r f (n : Int) row t9.1 t9.2)) (s := ((j : Int), st)) ?_
    show Sf_X8_goRound_24_1 r f (n : Int) row (j : Int) st = _
    unfold Sf_X8_goRound_24_1
    rw [if_pos (by omega)]
    show Sum.inr (if st < 0 then _ else _) = Sum.inr (if st < 0 then _ else _)
    by_cases h : st < 0
    · rw [if_pos h, if_pos h]
      rfl
    · rw [if_neg h, if_neg h, if_pos (by omega)]
      rfl
  | succ d ih =>
    intro m j st hj hm
    obtain ⟨m, rfl⟩ : ∃ q, m = q + 1 := ⟨m - 1, by omega⟩
    have q := ih m (j + 1) (if row j = f then (j : Int) else st) (by omega) (by omega)
    refine (fl_wh_l (step := (fun t9 : Int × Int => Sf_X8_goRound_24_1 r f (n : Int) row t9.1 t9.2)) (s := ((j : Int), st)) (s' := (((j + 1 : Nat) : Int), if row j = f then (j : Int) else st)) ?_).trans q
    show Sf_X8_goRound_24_1 r f (n : Int) row (j : Int) st = _
    unfold Sf_X8_goRound_24_1
    rw [if_neg (by omega)]
    show (if row j = f then _ else _) = _
    by_cases h : row j = f
    · rw [if_pos h, if_pos h]
      rfl
    · rw [if_neg h, if_neg h]
      rfl
/-- goRound's outer loop -/
theorem rt_out {r : Nat → Int} {N : Int → Int} {x fg : Int} (hf : fg ≤ 9) (hN : ∀ y, 0 ≤ N y ∧ N y < fg) (hr : ∀ y, Ff_X8_nextOf y r = N y) (hx : 0 ≤ x ∧ x < fg) : ∀ (d m n : Nat) (row : Nat → Int), (n : Int) + (d : Int) = fg → d + 2 ≤ m → (∀ k, k < n → row k = rt_T N x k) → (∀ i j, i < n → j < n → rt_T N x i = rt_T N x j → i = j) →
    ∃ (s g : Nat) (row1 : Nat → Int), fl_wh (fun t9 : Int × Int × Int × (Nat → Int) => Sf_X8_goRound_15_1 r t9.1 t9.2.1 t9.2.2.1 t9.2.2.2) (0, 0, (fun _ => 0)) m (rt_T N x n, (n : Int), (-1), row) = ((s : Int), (g : Int), row1) ∧ rt_C N x s g ∧ ((s + g : Nat) : Int) ≤ fg ∧ ∀ k, k < s + g → row1 k = rt_T N x k := by
  intro d
  induction d with
  | zero =>
    intro m n row hd hm h1 h2
    obtain ⟨m, rfl⟩ : ∃ q, m = q + 1 := ⟨m - 1, by omega⟩
    have hs : ∃ s, s < n ∧ rt_T N x s = rt_T N x n := by
      by_cases h : ∃ s, s < n ∧ rt_T N x s = rt_T N x n
      · exact h
      · have q := rt_pig n (n + 1) (rt_T N x) (fun k _ => by have := rt_mem hN hx k; omega) (fun i j hi hj e => by
          by_cases e1 : i = n
          · by_cases e2 : j = n
            · omega
            · exact absurd ⟨j, by omega, by rw [← e, e1]⟩ h
          · by_cases e2 : j = n
            · exact absurd ⟨i, by omega, by rw [e, e2]⟩ h
            · exact h2 i j (by omega) (by omega) e)
        omega
    obtain ⟨s, hs1, hs2⟩ := hs
    refine ⟨s, n - s, row, ?_, ⟨by omega, fun i j hi hj e => h2 i j (by omega) (by omega) e, by rw [show s + (n - s) = n from by omega]; exact hs2.symm⟩, by omega, fun k hk => h1 k (by omega)⟩
    refine fl_wh_r (step := (fun t9 : Int × Int × Int × (Nat → Int) => Sf_X8_goRound_15_1 r t9.1 t9.2.1 t9.2.2.1 t9.2.2.2)) (s := (rt_T N x n, (n : Int), (-1), row)) ?_
    show Sf_X8_goRound_15_1 r (rt_T N x n) (n : Int) (-1) row = _
    unfold Sf_X8_goRound_15_1
    rw [if_neg (by decide)]
    have q := rt_in r row (rt_T N x n) n n 10 0 (-1) (by omega) (by omega)
    have q1 := rt_fd1 (row := row) (f := rt_T N x n) (s := s) ((h1 s hs1).trans hs2) n 0 (-1) (by omega) (by omega) (fun k _ q2 q3 q4 => q3 (h2 k s (by omega) hs1 (by rw [← h1 k (by omega), q4, hs2])))
    rw [q1, if_neg (by omega)] at q
    refine q.trans ?_
    show Sum.inr ((s : Int), (n : Int) - (s : Int), row) = Sum.inr ((s : Int), ((n - s : Nat) : Int), row)
    rw [show ((n - s : Nat) : Int) = (n : Int) - (s : Int) from by omega]
  | succ d ih =>
    intro m n row hd hm h1 h2
    obtain ⟨m, rfl⟩ : ∃ q, m = q + 1 := ⟨m - 1, by omega⟩
    have q := rt_in r row (rt_T N x n) n n 10 0 (-1) (by omega) (by omega)
    by_cases hs : ∃ s, s < n ∧ rt_T N x s = rt_T N x n
    · obtain ⟨s, hs1, hs2⟩ := hs
      refine ⟨s, n - s, row, ?_, ⟨by omega, fun i j hi hj e => h2 i j (by omega) (by omega) e, by rw [show s + (n - s) = n from by omega]; exact hs2.symm⟩, by omega, fun k hk => h1 k (by omega)⟩
      refine fl_wh_r (step := (fun t9 : Int × Int × Int × (Nat → Int) => Sf_X8_goRound_15_1 r t9.1 t9.2.1 t9.2.2.1 t9.2.2.2)) (s := (rt_T N x n, (n : Int), (-1), row)) ?_
      show Sf_X8_goRound_15_1 r (rt_T N x n) (n : Int) (-1) row = _
      unfold Sf_X8_goRound_15_1
      rw [if_neg (by decide)]
      have q1 := rt_fd1 (row := row) (f := rt_T N x n) (s := s) ((h1 s hs1).trans hs2) n 0 (-1) (by omega) (by omega) (fun k _ q2 q3 q4 => q3 (h2 k s (by omega) hs1 (by rw [← h1 k (by omega), q4, hs2])))
      rw [q1, if_neg (by omega)] at q
      refine q.trans ?_
      show Sum.inr ((s : Int), (n : Int) - (s : Int), row) = Sum.inr ((s : Int), ((n - s : Nat) : Int), row)
      rw [show ((n - s : Nat) : Int) = (n : Int) - (s : Int) from by omega]
    · have q1 := rt_fd0 (row := row) (f := rt_T N x n) n 0 (-1) (fun k _ q2 q3 => hs ⟨k, by omega, by rw [← h1 k (by omega), q3]⟩)
      rw [q1, if_pos (by decide)] at q
      obtain ⟨s, g, row1, e1, e2, e3, e4⟩ := ih m (n + 1) (fl_up row n (rt_T N x n)) (by omega) (by omega) (fun k hk => by
        unfold fl_up
        by_cases e : k = n
        · rw [if_pos e, e]
        · rw [if_neg e]; exact h1 k (by omega)) (fun i j hi hj e => by
        by_cases e1 : i = n
        · by_cases e2 : j = n
          · omega
          · exact absurd ⟨j, by omega, by rw [← e, e1]⟩ hs
        · by_cases e2 : j = n
          · exact absurd ⟨i, by omega, by rw [e, e2]⟩ hs
          · exact h2 i j (by omega) (by omega) e)
      refine ⟨s, g, row1, (fl_wh_l (step := (fun t9 : Int × Int × Int × (Nat → Int) => Sf_X8_goRound_15_1 r t9.1 t9.2.1 t9.2.2.1 t9.2.2.2)) (s := (rt_T N x n, (n : Int), (-1), row)) (s' := (rt_T N x (n + 1), ((n + 1 : Nat) : Int), (-1), fl_up row n (rt_T N x n))) ?_).trans e1, e2, e3, e4⟩
      show Sf_X8_goRound_15_1 r (rt_T N x n) (n : Int) (-1) row = _
      unfold Sf_X8_goRound_15_1
      rw [if_neg (by decide)]
      refine q.trans ?_
      rw [hr]
      rfl
theorem rt_go {r st row : Nat → Int} {N : Int → Int} {x fg : Int} (h2 : 2 ≤ fg) (hf : fg ≤ 9) (hN : ∀ y, 0 ≤ N y ∧ N y < fg) (hr : ∀ y, Ff_X8_nextOf y r = N y) (hx : 0 ≤ x ∧ x < fg) (h19 : x = st 19) :
    ∃ (s g : Nat) (row1 : Nat → Int), Ff_X8_goRound st row r = ((s : Int), (g : Int), row1) ∧ rt_C N x s g ∧ ((s + g : Nat) : Int) ≤ fg ∧ ∀ k, k < s + g → row1 k = rt_T N x k := by
  obtain ⟨s, g, row1, e1, e⟩ := rt_out hf hN hr hx fg.toNat 13 0 row (by omega) (by omega) (fun k hk => absurd hk (by omega)) (fun i j hi => absurd hi (by omega))
  refine ⟨s, g, row1, ?_, e⟩
  unfold Ff_X8_goRound
  rw [← h19]
  exact e1
end RT
section RT2
end RT2
section RT3
/-- bits of those in a row from j on -/
def rt_bits (F : Nat → Int) : Nat → Nat → Int → Int
  | 0, _, b => b
  | d + 1, j, b => rt_bits F d (j + 1) (fl_or b (fl_shl 1 (F j)))
theorem rt_bits_add (F : Nat → Int) : ∀ (d e j : Nat) (b : Int), rt_bits F (d + e) j b = rt_bits F e (j + d) (rt_bits F d j b)
  | 0, e, j, b => by rw [Nat.zero_add]; rfl
  | d + 1, e, j, b => by
    rw [show d + 1 + e = (d + e) + 1 from by omega]
    show rt_bits F (d + e) (j + 1) _ = rt_bits F e (j + (d + 1)) (rt_bits F d (j + 1) _)
    rw [rt_bits_add F d e (j + 1), show j + 1 + d = j + (d + 1) from by omega]
theorem rt_bitsc {F G : Nat → Int} : ∀ (d j : Nat) (b : Int), (∀ k, j ≤ k → k < j + d → F k = G k) → rt_bits F d j b = rt_bits G d j b
  | 0, _, _, _ => rfl
  | d + 1, j, b, h => by
    show rt_bits F d (j + 1) (fl_or b (fl_shl 1 (F j))) = rt_bits G d (j + 1) (fl_or b (fl_shl 1 (G j)))
    rw [h j (Nat.le_refl _) (by omega)]
    exact rt_bitsc d (j + 1) _ (fun k h1 h2 => h k (by omega) (by omega))
set_option maxRecDepth 20000 in
theorem rt_zid : ∀ tb : Fin 512, ∀ f : Fin 9, (tb.val >>> f.val) % 2 = 1 → tb.val ||| (1 <<< f.val) = tb.val := by decide +kernel
theorem rt_hit {b x : Int} (h0 : 0 ≤ b) (h1 : b ≤ 511) (hx : 0 ≤ x ∧ x ≤ 8) (h : Ff_X7_hasBit b x = 1) : fl_or b (fl_shl 1 x) = b := by
  obtain ⟨n, rfl⟩ : ∃ n : Nat, b = (n : Int) := ⟨b.toNat, by omega⟩
  obtain ⟨f, rfl⟩ : ∃ f : Nat, x = (f : Int) := ⟨x.toNat, by omega⟩
  have q1 := rp_z1 ⟨n, by omega⟩ ⟨f, by omega⟩
  have q2 := rp_z2 ⟨n, by omega⟩ ⟨f, by omega⟩
  have q3 := rt_zid ⟨n, by omega⟩ ⟨f, by omega⟩
  have e1 : Ff_X7_hasBit (n : Int) (f : Int) = if (n >>> f) % 2 = 1 then 1 else 0 := q1
  rw [e1] at h
  have q4 : n ||| (1 <<< f) = n := q3 (rp_zi.mp h)
  exact (show fl_or (n : Int) (fl_shl 1 (f : Int)) = ((n ||| (1 <<< f) : Nat) : Int) from q2).trans (by rw [q4])
/-- bits of a row: within 511, and each of the row is there -/
theorem rt_bits_in {F : Nat → Int} (hF : ∀ k, 0 ≤ F k ∧ F k ≤ 8) : ∀ (d j : Nat) (b : Int), 0 ≤ b → b ≤ 511 → (0 ≤ rt_bits F d j b ∧ rt_bits F d j b ≤ 511) ∧ (∀ x, 0 ≤ x ∧ x ≤ 8 → Ff_X7_hasBit b x = 1 → Ff_X7_hasBit (rt_bits F d j b) x = 1) ∧ ∀ k, j ≤ k → k < j + d → Ff_X7_hasBit (rt_bits F d j b) (F k) = 1
  | 0, j, b, h0, h1 => ⟨⟨h0, h1⟩, fun _ _ h => h, fun k q1 q2 => absurd q2 (by omega)⟩
  | d + 1, j, b, h0, h1 => by
    obtain ⟨n, rfl⟩ : ∃ n : Nat, b = (n : Int) := ⟨b.toNat, by omega⟩
    obtain ⟨f, ef⟩ : ∃ f : Nat, F j = (f : Int) := ⟨(F j).toNat, by have := hF j; omega⟩
    have hf := hF j
    have q := rp_bits ⟨n, by omega⟩ ⟨f, by omega⟩
    obtain ⟨⟨q1, q2⟩, -, q3⟩ := q
    have e : rt_bits F (d + 1) j (n : Int) = rt_bits F d (j + 1) (fl_or (n : Int) (fl_shl 1 (f : Int))) := by
      show rt_bits F d (j + 1) (fl_or (n : Int) (fl_shl 1 (F j))) = _
      rw [ef]
    obtain ⟨r1, r2, r3⟩ := rt_bits_in hF d (j + 1) (fl_or (n : Int) (fl_shl 1 (f : Int))) q1 q2
    rw [e]
    refine ⟨r1, fun x hx h => ?_, fun k k1 k2 => ?_⟩
    · refine r2 x hx ?_
      obtain ⟨y, rfl⟩ : ∃ y : Nat, x = (y : Int) := ⟨x.toNat, by omega⟩
      exact (q3 ⟨y, by omega⟩).mpr (Or.inl h)
    · by_cases ek : k = j
      · rw [ek, ef]
        exact r2 (f : Int) (by omega) ((q3 ⟨f, by omega⟩).mpr (Or.inr rfl))
      · exact r3 k (by omega) (by omega)
theorem rt_bits_stay {F : Nat → Int} (hF : ∀ k, 0 ≤ F k ∧ F k ≤ 8) {b : Int} (h0 : 0 ≤ b) (h1 : b ≤ 511) : ∀ (e j : Nat), (∀ k, j ≤ k → k < j + e → Ff_X7_hasBit b (F k) = 1) → rt_bits F e j b = b
  | 0, _, _ => rfl
  | e + 1, j, h => by
    show rt_bits F e (j + 1) (fl_or b (fl_shl 1 (F j))) = b
    rw [rt_hit h0 h1 (hF j) (h j (Nat.le_refl _) (by omega))]
    exact rt_bits_stay hF h0 h1 e (j + 1) (fun k q1 q2 => h k (by omega) (by omega))
theorem rt_bitso {N : Int → Int} {x : Int} {s g : Nat} (h : rt_C N x s g) (hT : ∀ k, 0 ≤ rt_T N x k ∧ rt_T N x k ≤ 8) {D : Nat} (hD : s + g ≤ D) : rt_bits (rt_T N x) D 0 0 = rt_bits (rt_T N x) (s + g) 0 0 := by
  obtain ⟨e, rfl⟩ : ∃ e, D = (s + g) + e := ⟨D - (s + g), by omega⟩
  obtain ⟨⟨r0, r1⟩, -, r3⟩ := rt_bits_in hT (s + g) 0 0 (by decide) (by decide)
  rw [rt_bits_add]
  refine rt_bits_stay hT r0 r1 e _ (fun k q1 q2 => ?_)
  obtain ⟨k', p1, p2⟩ := rt_old h k
  have := r3 k' (by omega) (by omega)
  rw [p2] at this
  exact this
/-- called's loop: here -/
theorem rt_cac {F : Nat} {ti pu tu : Int} : ∀ (d m j : Nat) (b : Int), j + d = F → d + 1 ≤ m →
    (fl_wh (fun t9 : Int × Int × Int => Sf_X7_called_25_1 (F : Int) ti pu t9.1 t9.2.1 t9.2.2) (0, 0) m ((j : Int), rt_T (fun y => Ff_X0_next y (F : Int) ti pu) tu j, b)).1 = rt_bits (rt_T (fun y => Ff_X0_next y (F : Int) ti pu) tu) d j b := by
  intro d
  induction d with
  | zero =>
    intro m j b hj hm
    obtain ⟨m, rfl⟩ : ∃ q, m = q + 1 := ⟨m - 1, by omega⟩
    have c : Sf_X7_called_25_1 (F : Int) ti pu (j : Int) (rt_T (fun y => Ff_X0_next y (F : Int) ti pu) tu j) b = .inr (b, 0) := by
      unfold Sf_X7_called_25_1
      rw [if_pos (by omega)]
      rfl
    exact congrArg Prod.fst (fl_wh_r (step := (fun t9 : Int × Int × Int => Sf_X7_called_25_1 (F : Int) ti pu t9.1 t9.2.1 t9.2.2)) (s := ((j : Int), rt_T (fun y => Ff_X0_next y (F : Int) ti pu) tu j, b)) (d := (0, 0)) (n := m) c)
  | succ d ih =>
    intro m j b hj hm
    obtain ⟨m, rfl⟩ : ∃ q, m = q + 1 := ⟨m - 1, by omega⟩
    have c : Sf_X7_called_25_1 (F : Int) ti pu (j : Int) (rt_T (fun y => Ff_X0_next y (F : Int) ti pu) tu j) b = .inl (((j + 1 : Nat) : Int), rt_T (fun y => Ff_X0_next y (F : Int) ti pu) tu (j + 1), fl_or b (fl_shl 1 (rt_T (fun y => Ff_X0_next y (F : Int) ti pu) tu j))) := by
      unfold Sf_X7_called_25_1
      rw [if_neg (by omega)]
      rfl
    exact (congrArg Prod.fst (fl_wh_l (step := (fun t9 : Int × Int × Int => Sf_X7_called_25_1 (F : Int) ti pu t9.1 t9.2.1 t9.2.2)) (s := ((j : Int), rt_T (fun y => Ff_X0_next y (F : Int) ti pu) tu j, b)) (d := (0, 0)) (n := m) c)).trans (ih m (j + 1) _ (by omega) (by omega))
/-- called's loop: there -/
theorem rt_cam {s g : Nat} {row : Nat → Int} {v0 v11 : Int} : ∀ (d m j : Nat) (b : Int), j + d = s + g → d + 1 ≤ m →
    (fl_wh (fun t9 : Int × Int => Sf_X8_called_25_1 v0 v11 (s : Int) (g : Int) row t9.1 t9.2) (0, 0, 0, 0, 0, (fun _ => 0)) m ((j : Int), b)).1 = rt_bits row d j b := by
  intro d
  induction d with
  | zero =>
    intro m j b hj hm
    obtain ⟨m, rfl⟩ : ∃ q, m = q + 1 := ⟨m - 1, by omega⟩
    have c : Sf_X8_called_25_1 v0 v11 (s : Int) (g : Int) row (j : Int) b = .inr (b, v0, v11, (s : Int), (g : Int), row) := by
      unfold Sf_X8_called_25_1
      rw [fl_lt_eq rfl, if_pos (by omega)]
    exact congrArg Prod.fst (fl_wh_r (step := (fun t9 : Int × Int => Sf_X8_called_25_1 v0 v11 (s : Int) (g : Int) row t9.1 t9.2)) (s := ((j : Int), b)) (d := (0, 0, 0, 0, 0, (fun _ => 0))) (n := m) c)
  | succ d ih =>
    intro m j b hj hm
    obtain ⟨m, rfl⟩ : ∃ q, m = q + 1 := ⟨m - 1, by omega⟩
    have c : Sf_X8_called_25_1 v0 v11 (s : Int) (g : Int) row (j : Int) b = .inl (((j + 1 : Nat) : Int), fl_or b (fl_shl 1 (row j))) := by
      unfold Sf_X8_called_25_1
      rw [fl_lt_eq rfl, if_neg (by omega)]
      rfl
    exact (congrArg Prod.fst (fl_wh_l (step := (fun t9 : Int × Int => Sf_X8_called_25_1 v0 v11 (s : Int) (g : Int) row t9.1 t9.2)) (s := ((j : Int), b)) (d := (0, 0, 0, 0, 0, (fun _ => 0))) (n := m) c)).trans (ih m (j + 1) _ (by omega) (by omega))
end RT3
section RT4
end RT4
section RT5
section WITH
variable {fg ti pu tu : Int} {r st : Nat → Int}
theorem rt_0_called (ti pu tu : Int) : (Ff_X7_called 0 ti pu tu).1 = (Ff0_X8_called 0).1 := rfl
theorem rt_a_called (h2 : 2 ≤ fg) (h9 : fg ≤ 9) (hN : ∀ y, 0 ≤ Ff_X0_next y fg ti pu ∧ Ff_X0_next y fg ti pu < fg) (hr : ∀ y, Ff_X8_nextOf y r = Ff_X0_next y fg ti pu) (ht : 0 ≤ tu ∧ tu < fg) (h19 : tu = st 19) (row : Nat → Int) : (Ff_X7_called fg ti pu tu).1 = (Ff_X8_called 1 st row r).1 := by
  obtain ⟨s, g, row1, q1, q2, q3, q4⟩ := rt_go (row := row) h2 h9 hN hr ht h19
  obtain ⟨F, rfl⟩ : ∃ F : Nat, fg = (F : Int) := ⟨fg.toNat, by omega⟩
  unfold Ff_X7_called Ff_X7_hasGallery Ff_X8_called Ff_X8_good
  rw [if_neg (show ¬ (F : Int) ≤ 0 by omega), fl_lt_eq rfl, if_pos rfl, fl_c2_eq (t := ((0 : Int), (0 : Int))) rfl, if_neg (by decide), q1, fl_c3_eq rfl]
  refine (rt_cac F 10 0 0 (by omega) (by omega)).trans ?_
  refine Eq.trans ?_ (rt_cam (s + g) 10 0 0 (by omega) (by omega)).symm
  rw [rt_bitso q2 (fun k => by have := rt_mem hN ht k; omega) (by omega)]
  exact rt_bitsc (s + g) 0 0 (fun k _ hk => (q4 k (by omega)).symm)
end WITH
end RT5
theorem lr_0 {vi vm : Nat → Int32} {vf vn : Nat → Nat → Int32} (h : lr_H vi vf vm vn) (z : vm 11 = 0) : (vm 11).toInt = 0 ∧ (vi 33).toInt = 0 ∧ (vi 53).toInt = 0 := by
  rcases h with ⟨h1, h2, -, -, -, -, -, -, -, -, h3⟩ | ⟨h1, h2, -⟩
  · exact ⟨by rw [h1]; decide, by rw [h2]; decide, by rw [h3]; decide⟩
  · rw [z] at h1; exact absurd h1 (by decide)
theorem lr_1 {vi vm : Nat → Int32} {vf vn : Nat → Nat → Int32} (h : lr_H vi vf vm vn) (z : vm 11 = 1) : (vm 11).toInt = 1 ∧ 2 ≤ (vi 33).toInt ∧ (vi 33).toInt ≤ 9 := by
  rcases h with ⟨h1, h2, -⟩ | ⟨h1, h2, -⟩
  · rw [z] at h1; exact absurd h1 (by decide)
  · exact ⟨by rw [z]; decide, h2.1, h2.2.1⟩
theorem lr_called {vi vm : Nat → Int32} {vf vn : Nat → Nat → Int32} (hH : lr_H vi vf vm vn) (hV : lr_V vi vf vm vn) (hMo : vm 11 = 0 ∨ (vm 11 = 1 ∧ ((∀ k : Nat, 0 ≤ k → k ≤ 0 → (2 : Int) ≤ ((vn 2) k).toInt ∧ ((vn 2) k).toInt ≤ 9) ∧ (∀ k : Nat, 1 ≤ k → k ≤ 1 → (1 : Int) ≤ ((vn 2) k).toInt ∧ ((vn 2) k).toInt ≤ 20) ∧ (∀ k : Nat, 2 ≤ k → k ≤ 2 → (0 : Int) ≤ ((vn 2) k).toInt ∧ ((vn 2) k).toInt ≤ 8) ∧ (∀ k : Nat, 3 ≤ k → k ≤ 3 → (0 : Int) ≤ ((vn 2) k).toInt ∧ ((vn 2) k).toInt ≤ 100) ∧ (∀ k : Nat, 4 ≤ k → k ≤ 4 → (0 : Int) ≤ ((vn 2) k).toInt ∧ ((vn 2) k).toInt ≤ 9) ∧ (∀ k : Nat, 5 ≤ k → k ≤ 5 → (0 : Int) ≤ ((vn 2) k).toInt ∧ ((vn 2) k).toInt ≤ 3) ∧ (∀ k : Nat, 6 ≤ k → k ≤ 6 → (0 : Int) ≤ ((vn 2) k).toInt ∧ ((vn 2) k).toInt ≤ 6) ∧ (∀ k : Nat, 7 ≤ k → k ≤ 9 → (0 : Int) ≤ ((vn 2) k).toInt ∧ ((vn 2) k).toInt ≤ 8) ∧ (∀ k : Nat, 12 ≤ k → k ≤ 29 → (0 : Int) ≤ ((vn 2) k).toInt ∧ ((vn 2) k).toInt ≤ 20) ∧ (∀ k : Nat, 30 ≤ k → k ≤ 35 → (0 : Int) ≤ ((vn 2) k).toInt ∧ ((vn 2) k).toInt ≤ 8) ∧ (∀ k : Nat, 36 ≤ k → k ≤ 47 → (0 : Int) ≤ ((vn 2) k).toInt ∧ ((vn 2) k).toInt ≤ 999)) ∧ ((∀ (j i0 i : Int32), (0 : Int) ≤ j.toInt → j.toInt ≤ 8 → i0.toInt = 12 + 2 * j.toInt → i.toInt = 13 + 2 * j.toInt → ((vn 2) i0.toNatClampNeg).toInt = (1 : Int32).toInt → (1 : Int) ≤ ((vn 2) i.toNatClampNeg).toInt)))) {b : Int} (hb : (vm 11 = 0 ∧ b = (Ff0_X8_called (vm 11).toInt).1) ∨ (vm 11 = 1 ∧ b = (Ff_X8_called (vm 11).toInt (fl_A (vn 4)) (fl_A (vn 10)) (fl_A (vn 2))).1)) : (Ff_X7_called (vi 33).toInt (vi 38).toInt (vi 39).toInt (vi 13).toInt).1 = b := by
  rcases hb with ⟨z, hb⟩ | ⟨z, hb⟩
  · obtain ⟨e1, e2, e3⟩ := lr_0 hH z
    obtain ⟨v54, v⟩ := hV
    rcases v with ⟨-, v12, v24, v25, u12, u13⟩ | ⟨z0, -⟩
    rotate_left
    · rw [z] at z0; exact absurd z0 (by decide)
    rw [hb, e1, e2]
    exact rt_0_called _ _ _
  · obtain ⟨e1, e2, e3⟩ := lr_1 hH z
    rcases hMo with z0 | ⟨-, hrs, hkm⟩
    · rw [z] at z0; exact absurd z0 (by decide)
    obtain ⟨hG, hD, -⟩ := lr_G hH z hrs hkm
    obtain ⟨v54, v⟩ := hV
    have hD := hD v54.1
    rcases v with ⟨z0, -⟩ | ⟨-, hS, hm, hU, hN, hHi, hIm⟩
    · rw [z] at z0; exact absurd z0 (by decide)
    obtain ⟨⟨s1, s2, s3, s4, s5⟩, m0, ⟨t0, t1⟩, ⟨n0, n1⟩, ⟨g0, g1⟩, hk⟩ := id hS
    obtain ⟨⟨f1, f2, f3⟩, ⟨sp1, sp2, sp3⟩, ⟨sa1, sa2, sa3⟩, ⟨ti1, ti2, ti3⟩, ⟨pu1, pu2, pu3⟩, hkd⟩ := id hG
    rw [hb, e1]
    exact rt_a_called f2 f3 (fun y => (rs_next hG y).2) (fun y => (rs_next hG y).1) ⟨t0, t1⟩ s2 _
end RELP
end P094034_rel
section P100_safe
set_option maxHeartbeats 4000000 in
set_option maxRecDepth 100000 in
theorem c_X7_within (l : Launch) (dC : Nat → ClassId) (dI : Nat → Nat → Nat) (sz : Nat) (a1 : Int32) (a2 : Int32) (a3 : Int32)  : zm l yX7_within wsX7_within ({ frames := 0, cells := 0, slots := 0, locals := 0 }) [.int a1, .int a2, .int a3] dC dI sz [] [] (fun A _ => True) (fun A => va_Qi (fun (r : Int32) (_ : Unit) => (r = 1 ∧ a2.toInt ≤ a1.toInt ∧ a1.toInt ≤ a3.toInt) ∨ (r = 0 ∧ (a1.toInt < a2.toInt ∨ a3.toInt < a1.toInt))) (fun (_ : Unit) (t : State) => ax_B dC dI A [] [] t) A) := by
  refine zh (cc := cX7_within) (maxL := 3) (ret := (some .boolean)) zn_RX7 rfl (Nat.le_of_ble_eq_true rfl) (fun p e s m below meth c A ls hx hb hml hr hts (hown : s.vm.findClass RX7 = some m.cls) hlocks hA hS hP hK hD hE (hl : lv_has ls 3 [(0, .int a1), (1, .int a2), (2, .int a3)]) => ?_)
  refine lv_iload_n hx hb dX7_within_0 rfl (lv_at hl 0 rfl) ?_
  refine lv_iload_n hx hb dX7_within_1 rfl (lv_at hl 1 rfl) ?_
  refine lv_icmp_lt (tgt := 14) hx hb dX7_within_2 (by decide) (fun c2 => ?_) (fun c2 => ?_)
  · have gc2 := ai_lt c2
    have u2t_a1 : a1.toInt ≤ (2147483646 : Int) := ai_lthi gc2 (ai_max a2)
    have l2t_a2 : (-2147483647 : Int) ≤ a2.toInt := ai_ltlo gc2 (ai_min a1)
    refine lv_iconst (v := 0) hx hb dX7_within_14 zk_iconst_0 ?_
    exact W.zret (v := 0) hx hb hr rfl (fun t ht hW => ⟨⟨0, (), rfl, (Or.inr ⟨rfl, Or.inl gc2⟩), by rw [ht]; exact hP, va_K.moved hW.alike hK, hD⟩, hS.F ht⟩) hS.2.2 dX7_within_15
  · have gc2 := ai_nlt c2
    refine lv_iload_n hx hb dX7_within_5 rfl (lv_at hl 0 rfl) ?_
    refine lv_iload_n hx hb dX7_within_6 rfl (lv_at hl 2 rfl) ?_
    refine lv_icmp_gt (tgt := 14) hx hb dX7_within_7 (by decide) (fun c7 => ?_) (fun c7 => ?_)
    · have gc7 := ai_lt c7
      have u7t_a3 : a3.toInt ≤ (2147483646 : Int) := ai_lthi gc7 (ai_max a1)
      have l7t_a1 : (-2147483647 : Int) ≤ a1.toInt := ai_ltlo gc7 (ai_min a3)
      refine lv_iconst (v := 0) hx hb dX7_within_14 zk_iconst_0 ?_
      exact W.zret (v := 0) hx hb hr rfl (fun t ht hW => ⟨⟨0, (), rfl, (Or.inr ⟨rfl, Or.inr gc7⟩), by rw [ht]; exact hP, va_K.moved hW.alike hK, hD⟩, hS.F ht⟩) hS.2.2 dX7_within_15
    · have gc7 := ai_nlt c7
      refine lv_iconst (v := 1) hx hb dX7_within_10 zk_iconst_1 ?_
      refine lv_goto (tgt := 15) hx hb dX7_within_11 (by decide) ?_
      exact W.zret (v := 1) hx hb hr rfl (fun t ht hW => ⟨⟨1, (), rfl, (Or.inl ⟨rfl, gc2, gc7⟩), by rw [ht]; exact hP, va_K.moved hW.alike hK, hD⟩, hS.F ht⟩) hS.2.2 dX7_within_15

set_option maxHeartbeats 4000000 in
set_option maxRecDepth 100000 in
theorem c_X7_hasBit (l : Launch) (dC : Nat → ClassId) (dI : Nat → Nat → Nat) (sz : Nat) (a1 : Int32) (a2 : Int32)  : zm l yX7_hasBit wsX7_hasBit ({ frames := 0, cells := 0, slots := 0, locals := 0 }) [.int a1, .int a2] dC dI sz [] [] (fun A _ => True) (fun A => va_Qi (fun (r : Int32) (_ : Unit) => (r = 1) ∨ (r = 0)) (fun (_ : Unit) (t : State) => ax_B dC dI A [] [] t) A) := by
  refine zh (cc := cX7_hasBit) (maxL := 2) (ret := (some .boolean)) zn_RX7 rfl (Nat.le_of_ble_eq_true rfl) (fun p e s m below meth c A ls hx hb hml hr hts (hown : s.vm.findClass RX7 = some m.cls) hlocks hA hS hP hK hD hE (hl : lv_has ls 2 [(0, .int a1), (1, .int a2)]) => ?_)
  refine lv_iload_n hx hb dX7_hasBit_0 rfl (lv_at hl 0 rfl) ?_
  refine lv_iload_n hx hb dX7_hasBit_1 rfl (lv_at hl 1 rfl) ?_
  refine lv_ishr hx hb dX7_hasBit_2 ?_
  refine lv_topi (fun x2 ex2 => ?_)
  refine lv_iconst (v := 1) hx hb dX7_hasBit_3 zk_iconst_1 ?_
  refine lv_iand hx hb dX7_hasBit_4 ?_
  refine lv_topi (fun x4 ex4 => ?_)
  refine lv_iconst (v := 1) hx hb dX7_hasBit_5 zk_iconst_1 ?_
  refine lv_icmp_ne (tgt := 13) hx hb dX7_hasBit_6 (by decide) (fun c6 => ?_) (fun c6 => ?_)
  · have gc6 := ai_ne c6
    refine lv_iconst (v := 0) hx hb dX7_hasBit_13 zk_iconst_0 ?_
    exact W.zret (v := 0) hx hb hr rfl (fun t ht hW => ⟨⟨0, (), rfl, (Or.inr (rfl)), by rw [ht]; exact hP, va_K.moved hW.alike hK, hD⟩, hS.F ht⟩) hS.2.2 dX7_hasBit_14
  · have gc6 := ai_eq c6
    have u6f_x4 : x4.toInt ≤ (1 : Int) := Int.le_trans (Int.le_of_eq gc6) zq0
    have l6f_x4 : (1 : Int) ≤ x4.toInt := Int.le_trans zq1 (Int.le_of_eq gc6.symm)
    refine lv_iconst (v := 1) hx hb dX7_hasBit_9 zk_iconst_1 ?_
    refine lv_goto (tgt := 14) hx hb dX7_hasBit_10 (by decide) ?_
    exact W.zret (v := 1) hx hb hr rfl (fun t ht hW => ⟨⟨1, (), rfl, (Or.inl (rfl)), by rw [ht]; exact hP, va_K.moved hW.alike hK, hD⟩, hS.F ht⟩) hS.2.2 dX7_hasBit_14

set_option maxHeartbeats 4000000 in
set_option maxRecDepth 100000 in
theorem c_X5_startTurn (l : Launch) (dC : Nat → ClassId) (dI : Nat → Nat → Nat) (sz : Nat) (a0 : Nat) (a1 : Int32) (a0g_0 a0g_3 a0g_4 a0g_5 a0g_6 : Value) (a0_1 : Int32) (a0_2 : Int32) (ba1_l : (0 : Int) ≤ a1.toInt) (ba1_u : a1.toInt ≤ (8 : Int)) (ba0_1_l : (0 : Int) ≤ a0_1.toInt) (ba0_1_u : a0_1.toInt ≤ (8 : Int)) : zm l yX5_startTurn wsX5_startTurn ({ frames := 0, cells := 0, slots := 0, locals := 0 }) [.ref a0, .int a1] dC dI sz [(a0, .inr (5, [a0g_0, .int a0_1, .int a0_2, a0g_3, a0g_4, a0g_5, a0g_6]))] [] (fun A _ => True) (fun A => va_Qv (fun (_ : Unit) => True) (fun (_ : Unit) (t : State) => ∃ na0_1 : Int32, ∃ na0_2 : Int32, ((0 : Int) ≤ na0_1.toInt ∧ na0_1.toInt ≤ 8) ∧ ax_B dC dI A [(a0, .inr (5, [a0g_0, .int na0_1, .int na0_2, a0g_3, a0g_4, a0g_5, a0g_6]))] [] t) A) := by
  refine zh (cc := cX5_startTurn) (maxL := 2) (ret := none) zn_RX5 rfl (Nat.le_of_ble_eq_true rfl) (fun p e s m below meth c A ls hx hb hml hr hts (hown : s.vm.findClass RX5 = some m.cls) hlocks hA hS hP hK hD hE (hl : lv_has ls 2 [(0, .ref a0), (1, .int a1)]) => ?_)
  refine lv_aload_n hx hb dX5_startTurn_0 rfl (lv_at hl 0 rfl) ?_
  refine lv_iload_n hx hb dX5_startTurn_1 rfl (lv_at hl 1 rfl) ?_
  refine va_put (D := (dC, dI)) (ci := 5) (v := .int a1) (ty := .int) (C := RX5) (T := TX5) (N := 7) hx hb hts zi_X5_startTurn_5 tyX5 tyX5_ok nmX5 hown hK hP hD hS 0 rfl rfl 1 (by decide) (hts (.fieldLink RX5 32 "WaxTurns$Scene" "turn" "I") (List.mem_cons_of_mem _ (List.mem_append_left _ (List.mem_of_getElem? (i := 0) rfl)))) (fun _ h9 => h9) rfl (tyX5_ok 1 (by decide)) rfl rfl (Nat.le_of_ble_eq_true rfl) dX5_startTurn_2 (fun H locs hP hD hS => ?_)
  refine zs_0 (y := (a0, .inr (5, [a0g_0, .int a1, .int a0_2, a0g_3, a0g_4, a0g_5, a0g_6]))) hP hD rfl (fun hP hD => ?_)
  refine lv_aload_n hx hb dX5_startTurn_5 rfl (lv_at hl 0 rfl) ?_
  refine lv_iconst (v := 0) hx hb dX5_startTurn_6 zk_iconst_0 ?_
  refine va_put (D := (dC, dI)) (ci := 5) (v := .int 0) (ty := .int) (C := RX5) (T := TX5) (N := 7) hx hb hts zi_X5_startTurn_5 tyX5 tyX5_ok nmX5 hown hK hP hD hS 0 rfl rfl 2 (by decide) (hts (.fieldLink RX5 35 "WaxTurns$Scene" "spent" "I") (List.mem_cons_of_mem _ (List.mem_append_left _ (List.mem_of_getElem? (i := 1) rfl)))) (fun _ h9 => h9) rfl (tyX5_ok 2 (by decide)) rfl rfl (Nat.le_of_ble_eq_true rfl) dX5_startTurn_7 (fun H locs hP hD hS => ?_)
  refine zs_0 (y := (a0, .inr (5, [a0g_0, .int a1, .int 0, a0g_3, a0g_4, a0g_5, a0g_6]))) hP hD rfl (fun hP hD => ?_)
  exact W.vret hx hb hr (fun t ht hW => ⟨⟨(), rfl, trivial, a1, 0, ⟨ba1_l, ba1_u⟩, by rw [ht]; exact hP, va_K.moved hW.alike hK, hD⟩, hS.F ht⟩) hS.2.2 dX5_startTurn_10

set_option maxHeartbeats 4000000 in
set_option maxRecDepth 100000 in
theorem c_X5_isGone (l : Launch) (dC : Nat → ClassId) (dI : Nat → Nat → Nat) (sz : Nat) (a0 : Nat) (a1 : Int32) (a0g_0 a0g_1 a0g_2 a0g_4 a0g_5 a0g_6 : Value) (a0_3 : Int32)  : zm l yX5_isGone wsX5_isGone ({ frames := 1, cells := 0, slots := 0, locals := 21 }) [.ref a0, .int a1] dC dI sz [(a0, .inr (5, [a0g_0, a0g_1, a0g_2, .int a0_3, a0g_4, a0g_5, a0g_6]))] [] (fun A U => va_Nw (.methodLinkNest RX5 38 yX7_hasBit RX7) U) (fun A => va_Qi (fun (r : Int32) (_ : Unit) => (r = 1) ∨ (r = 0)) (fun (_ : Unit) (t : State) => ax_B dC dI A [(a0, .inr (5, [a0g_0, a0g_1, a0g_2, .int a0_3, a0g_4, a0g_5, a0g_6]))] [] t) A) := by
  refine zh (cc := cX5_isGone) (maxL := 2) (ret := (some .boolean)) zn_RX5 rfl (Nat.le_of_ble_eq_true rfl) (fun p e s m below meth c A ls hx hb hml hr hts (hown : s.vm.findClass RX5 = some m.cls) hlocks hA hS hP hK hD hE (hl : lv_has ls 2 [(0, .ref a0), (1, .int a1)]) => ?_)
  have hE0 := hE
  refine lv_aload_n hx hb dX5_isGone_0 rfl (lv_at hl 0 rfl) ?_
  refine va_get (D := (dC, dI)) (ci := 5) (v := .int a0_3) (C := RX5) (T := TX5) (N := 7) hx hb hts zi_X5_isGone_5 hown hK hP 0 rfl rfl 3 (by decide) (hts (.fieldLink RX5 22 "WaxTurns$Scene" "goneBits" "I") (List.mem_cons_of_mem _ (List.mem_append_left _ (List.mem_of_getElem? (i := 0) rfl)))) (fun _ h9 => h9) rfl dX5_isGone_1 ?_
  refine lv_iload_n hx hb dX5_isGone_4 rfl (lv_at hl 1 rfl) ?_
  refine va_calli (va_runSN (As := [.int a0_3, .int a1]) (rest := []) ⟨hx, hb, hml, hown, hts⟩ (c_X7_hasBit l dC dI s.heap.size a0_3 a1 ) ⟨va_cnB 2 hts gX5_isGone_X7_hasBit_n38 rfl rfl rfl hE0 (hts (.initialized RX7) (List.mem_cons_of_mem _ (List.mem_append_left _ (List.mem_of_getElem? (i := 2) rfl)))) zd_X7_hasBit.2 ⟨Nat.le_of_ble_eq_true rfl, Nat.le_of_ble_eq_true rfl⟩, (hts (.static yX7_hasBit) (List.mem_cons_of_mem _ (List.mem_append_left _ (List.mem_of_getElem? (i := 1) rfl)))), trivial⟩ ⟨ax_blind (fun _ _ _ _ _ => trivial), ax_pre (zp_P0 hP) (zp_K hK) (zp_D0 hD) (fun _ _ => trivial)⟩ rfl rfl hl.1 rfl (lv_room (Nat.le_of_ble_eq_true rfl)) dX5_isGone_5 ⟨Nat.le_of_ble_eq_true rfl, Nat.le_of_ble_eq_true rfl⟩) hS (fun q _ h => zp_F0 hD hS hA q h) (zp_F0 hD hS hA) (fun r5 u t H locs ht hvm hw hB hz1 hk1 hS1 => zo0 hB ht hP hD hk1 (zp_F0 hD hS hA) hS1 (fun hP hK1 hD hS => ?_))
  rcases hw with hw | hw
  · subst hw
    exact W.zret (v := 1) hx hb hr rfl (fun t ht hW => ⟨⟨1, (), rfl, (Or.inl (rfl)), by rw [ht]; exact hP, va_K.moved hW.alike hK, hD⟩, hS.F ht⟩) hS.2.2 dX5_isGone_8
  · subst hw
    exact W.zret (v := 0) hx hb hr rfl (fun t ht hW => ⟨⟨0, (), rfl, (Or.inr (rfl)), by rw [ht]; exact hP, va_K.moved hW.alike hK, hD⟩, hS.F ht⟩) hS.2.2 dX5_isGone_8

set_option maxHeartbeats 4000000 in
set_option maxRecDepth 100000 in
theorem c_X5_copyFrom (l : Launch) (dC : Nat → ClassId) (dI : Nat → Nat → Nat) (sz : Nat) (a0 : Nat) (a1 : Nat) (a0_0 : Int32) (a0_1 : Int32) (a0_2 : Int32) (a0_3 : Int32) (a0_4 : Int32) (a0_5 : Nat) (a0_6 : Nat) (a1_0 : Int32) (a1_1 : Int32) (a1_2 : Int32) (a1_3 : Int32) (a1_4 : Int32) (a1_5 : Nat) (a1_6 : Nat) (ka1_5 : ClassId) (fa1_5 : Nat → Int32) (ka0_5 : ClassId) (fa0_5 : Nat → Int32) (ka1_6 : ClassId) (fa1_6 : Nat → Int32) (ka0_6 : ClassId) (fa0_6 : Nat → Int32) (ba0_1_l : (0 : Int) ≤ a0_1.toInt) (ba0_1_u : a0_1.toInt ≤ (8 : Int)) (ba1_1_l : (0 : Int) ≤ a1_1.toInt) (ba1_1_u : a1_1.toInt ≤ (8 : Int)) : zm l yX5_copyFrom wsX5_copyFrom ({ frames := 0, cells := 0, slots := 0, locals := 0 }) [.ref a0, .ref a1] dC dI sz [(a0, .inr (5, [.int a0_0, .int a0_1, .int a0_2, .int a0_3, .int a0_4, .ref a0_5, .ref a0_6])), (a1, .inr (5, [.int a1_0, .int a1_1, .int a1_2, .int a1_3, .int a1_4, .ref a1_5, .ref a1_6])), (a1_5, .inl (ka1_5, 9, .inl (fa1_5))), (a0_5, .inl (ka0_5, 9, .inl (fa0_5))), (a1_6, .inl (ka1_6, 9, .inl (fa1_6))), (a0_6, .inl (ka0_6, 9, .inl (fa0_6)))] [(ka1_5, .int), (ka0_5, .int), (ka1_6, .int), (ka0_6, .int)] (fun A _ => True) (fun A => va_Qv (fun (_ : Unit) => True) (fun (_ : Unit) (t : State) => ∃ na0_0 : Int32, ∃ na0_1 : Int32, ∃ na0_2 : Int32, ∃ na0_3 : Int32, ∃ na0_4 : Int32, ∃ nfa0_5 : Nat → Int32, ∃ nfa0_6 : Nat → Int32, ((0 : Int) ≤ na0_1.toInt ∧ na0_1.toInt ≤ 8) ∧ ax_B dC dI A [(a0, .inr (5, [.int na0_0, .int na0_1, .int na0_2, .int na0_3, .int na0_4, .ref a0_5, .ref a0_6])), (a1, .inr (5, [.int a1_0, .int a1_1, .int a1_2, .int a1_3, .int a1_4, .ref a1_5, .ref a1_6])), (a1_5, .inl (ka1_5, 9, .inl (fa1_5))), (a0_5, .inl (ka0_5, 9, .inl (nfa0_5))), (a1_6, .inl (ka1_6, 9, .inl (fa1_6))), (a0_6, .inl (ka0_6, 9, .inl (nfa0_6)))] [(ka1_5, .int), (ka0_5, .int), (ka1_6, .int), (ka0_6, .int)] t) A) := by
  refine zh (cc := cX5_copyFrom) (maxL := 3) (ret := none) zn_RX5 rfl (Nat.le_of_ble_eq_true rfl) (fun p e s m below meth c A ls hx hb hml hr hts (hown : s.vm.findClass RX5 = some m.cls) hlocks hA hS hP hK hD hE (hl : lv_has ls 3 [(0, .ref a0), (1, .ref a1)]) => ?_)
  refine ai_open (fun K hK0 => ?_)
  refine (hK0 _ _ _).mpr ?_
  refine lv_aload_n hx hb dX5_copyFrom_0 rfl (lv_at hl 0 rfl) ?_
  refine lv_aload_n hx hb dX5_copyFrom_1 rfl (lv_at hl 1 rfl) ?_
  refine va_get (D := (dC, dI)) (ci := 5) (v := .int a1_0) (C := RX5) (T := TX5) (N := 7) hx hb hts zi_X5_copyFrom_5 hown hK hP 1 rfl rfl 0 (by decide) (hts (.fieldLink RX5 18 "WaxTurns$Scene" "minute" "I") (List.mem_cons_of_mem _ (List.mem_append_left _ (List.mem_of_getElem? (i := 0) rfl)))) (fun _ h9 => h9) rfl dX5_copyFrom_2 ?_
  refine va_put (D := (dC, dI)) (ci := 5) (v := .int a1_0) (ty := .int) (C := RX5) (T := TX5) (N := 7) hx hb hts zi_X5_copyFrom_5 tyX5 tyX5_ok nmX5 hown hK hP hD hS 0 rfl rfl 0 (by decide) (hts (.fieldLink RX5 18 "WaxTurns$Scene" "minute" "I") (List.mem_cons_of_mem _ (List.mem_append_left _ (List.mem_of_getElem? (i := 0) rfl)))) (fun _ h9 => h9) rfl (tyX5_ok 0 (by decide)) rfl rfl (Nat.le_of_ble_eq_true rfl) dX5_copyFrom_5 (fun H locs hP hD hS => ?_)
  refine zs_0 (y := (a0, .inr (5, [.int a1_0, .int a0_1, .int a0_2, .int a0_3, .int a0_4, .ref a0_5, .ref a0_6]))) hP hD rfl (fun hP hD => ?_)
  refine lv_aload_n hx hb dX5_copyFrom_8 rfl (lv_at hl 0 rfl) ?_
  refine lv_aload_n hx hb dX5_copyFrom_9 rfl (lv_at hl 1 rfl) ?_
  refine va_get (D := (dC, dI)) (ci := 5) (v := .int a1_1) (C := RX5) (T := TX5) (N := 7) hx hb hts zi_X5_copyFrom_5 hown hK hP 1 rfl rfl 1 (by decide) (hts (.fieldLink RX5 32 "WaxTurns$Scene" "turn" "I") (List.mem_cons_of_mem _ (List.mem_append_left _ (List.mem_of_getElem? (i := 1) rfl)))) (fun _ h9 => h9) rfl dX5_copyFrom_10 ?_
  refine va_put (D := (dC, dI)) (ci := 5) (v := .int a1_1) (ty := .int) (C := RX5) (T := TX5) (N := 7) hx hb hts zi_X5_copyFrom_5 tyX5 tyX5_ok nmX5 hown hK hP hD hS 0 rfl rfl 1 (by decide) (hts (.fieldLink RX5 32 "WaxTurns$Scene" "turn" "I") (List.mem_cons_of_mem _ (List.mem_append_left _ (List.mem_of_getElem? (i := 1) rfl)))) (fun _ h9 => h9) rfl (tyX5_ok 1 (by decide)) rfl rfl (Nat.le_of_ble_eq_true rfl) dX5_copyFrom_13 (fun H locs hP hD hS => ?_)
  refine zs_0 (y := (a0, .inr (5, [.int a1_0, .int a1_1, .int a0_2, .int a0_3, .int a0_4, .ref a0_5, .ref a0_6]))) hP hD rfl (fun hP hD => ?_)
  refine lv_aload_n hx hb dX5_copyFrom_16 rfl (lv_at hl 0 rfl) ?_
  refine lv_aload_n hx hb dX5_copyFrom_17 rfl (lv_at hl 1 rfl) ?_
  refine va_get (D := (dC, dI)) (ci := 5) (v := .int a1_2) (C := RX5) (T := TX5) (N := 7) hx hb hts zi_X5_copyFrom_5 hown hK hP 1 rfl rfl 2 (by decide) (hts (.fieldLink RX5 35 "WaxTurns$Scene" "spent" "I") (List.mem_cons_of_mem _ (List.mem_append_left _ (List.mem_of_getElem? (i := 2) rfl)))) (fun _ h9 => h9) rfl dX5_copyFrom_18 ?_
  refine va_put (D := (dC, dI)) (ci := 5) (v := .int a1_2) (ty := .int) (C := RX5) (T := TX5) (N := 7) hx hb hts zi_X5_copyFrom_5 tyX5 tyX5_ok nmX5 hown hK hP hD hS 0 rfl rfl 2 (by decide) (hts (.fieldLink RX5 35 "WaxTurns$Scene" "spent" "I") (List.mem_cons_of_mem _ (List.mem_append_left _ (List.mem_of_getElem? (i := 2) rfl)))) (fun _ h9 => h9) rfl (tyX5_ok 2 (by decide)) rfl rfl (Nat.le_of_ble_eq_true rfl) dX5_copyFrom_21 (fun H locs hP hD hS => ?_)
  refine zs_0 (y := (a0, .inr (5, [.int a1_0, .int a1_1, .int a1_2, .int a0_3, .int a0_4, .ref a0_5, .ref a0_6]))) hP hD rfl (fun hP hD => ?_)
  refine lv_aload_n hx hb dX5_copyFrom_24 rfl (lv_at hl 0 rfl) ?_
  refine lv_aload_n hx hb dX5_copyFrom_25 rfl (lv_at hl 1 rfl) ?_
  refine va_get (D := (dC, dI)) (ci := 5) (v := .int a1_3) (C := RX5) (T := TX5) (N := 7) hx hb hts zi_X5_copyFrom_5 hown hK hP 1 rfl rfl 3 (by decide) (hts (.fieldLink RX5 22 "WaxTurns$Scene" "goneBits" "I") (List.mem_cons_of_mem _ (List.mem_append_left _ (List.mem_of_getElem? (i := 3) rfl)))) (fun _ h9 => h9) rfl dX5_copyFrom_26 ?_
  refine va_put (D := (dC, dI)) (ci := 5) (v := .int a1_3) (ty := .int) (C := RX5) (T := TX5) (N := 7) hx hb hts zi_X5_copyFrom_5 tyX5 tyX5_ok nmX5 hown hK hP hD hS 0 rfl rfl 3 (by decide) (hts (.fieldLink RX5 22 "WaxTurns$Scene" "goneBits" "I") (List.mem_cons_of_mem _ (List.mem_append_left _ (List.mem_of_getElem? (i := 3) rfl)))) (fun _ h9 => h9) rfl (tyX5_ok 3 (by decide)) rfl rfl (Nat.le_of_ble_eq_true rfl) dX5_copyFrom_29 (fun H locs hP hD hS => ?_)
  refine zs_0 (y := (a0, .inr (5, [.int a1_0, .int a1_1, .int a1_2, .int a1_3, .int a0_4, .ref a0_5, .ref a0_6]))) hP hD rfl (fun hP hD => ?_)
  refine lv_aload_n hx hb dX5_copyFrom_32 rfl (lv_at hl 0 rfl) ?_
  refine lv_aload_n hx hb dX5_copyFrom_33 rfl (lv_at hl 1 rfl) ?_
  refine va_get (D := (dC, dI)) (ci := 5) (v := .int a1_4) (C := RX5) (T := TX5) (N := 7) hx hb hts zi_X5_copyFrom_5 hown hK hP 1 rfl rfl 4 (by decide) (hts (.fieldLink RX5 25 "WaxTurns$Scene" "catchCount" "I") (List.mem_cons_of_mem _ (List.mem_append_left _ (List.mem_of_getElem? (i := 4) rfl)))) (fun _ h9 => h9) rfl dX5_copyFrom_34 ?_
  refine va_put (D := (dC, dI)) (ci := 5) (v := .int a1_4) (ty := .int) (C := RX5) (T := TX5) (N := 7) hx hb hts zi_X5_copyFrom_5 tyX5 tyX5_ok nmX5 hown hK hP hD hS 0 rfl rfl 4 (by decide) (hts (.fieldLink RX5 25 "WaxTurns$Scene" "catchCount" "I") (List.mem_cons_of_mem _ (List.mem_append_left _ (List.mem_of_getElem? (i := 4) rfl)))) (fun _ h9 => h9) rfl (tyX5_ok 4 (by decide)) rfl rfl (Nat.le_of_ble_eq_true rfl) dX5_copyFrom_37 (fun H locs hP hD hS => ?_)
  refine zs_0 (y := (a0, .inr (5, [.int a1_0, .int a1_1, .int a1_2, .int a1_3, .int a1_4, .ref a0_5, .ref a0_6]))) hP hD rfl (fun hP hD => ?_)
  refine lv_iconst (v := 0) hx hb dX5_copyFrom_40 zk_iconst_0 ?_
  refine lv_istore_n (lv' := [(2, .int 0), (0, .ref a0), (1, .ref a1)]) hx hb dX5_copyFrom_41 rfl hl (by decide) rfl (fun ls hl => ?_)
  have J42 : ∀ (n : Nat) (j42l2 : Int32) (j42a0_5_a : Nat → Int32) (j42a0_6_a : Nat → Int32) (H : Heap) (locs : List Loc) (ls : Array Slot), (10 : Int) - j42l2.toInt ≤ (n : Int) → (0 : Int) ≤ j42l2.toInt → j42l2.toInt ≤ (9 : Int) → va_P (dC, dI) vwCl [(a0, .inr (5, [.int a1_0, .int a1_1, .int a1_2, .int a1_3, .int a1_4, .ref a0_5, .ref a0_6])), (a1, .inr (5, [.int a1_0, .int a1_1, .int a1_2, .int a1_3, .int a1_4, .ref a1_5, .ref a1_6])), (a1_5, .inl (ka1_5, 9, .inl (fa1_5))), (a0_5, .inl (ka0_5, 9, .inl (j42a0_5_a))), (a1_6, .inl (ka1_6, 9, .inl (fa1_6))), (a0_6, .inl (ka0_6, 9, .inl (j42a0_6_a)))] H → va_D A [(a0, .inr (5, [.int a1_0, .int a1_1, .int a1_2, .int a1_3, .int a1_4, .ref a0_5, .ref a0_6])), (a1, .inr (5, [.int a1_0, .int a1_1, .int a1_2, .int a1_3, .int a1_4, .ref a1_5, .ref a1_6])), (a1_5, .inl (ka1_5, 9, .inl (fa1_5))), (a0_5, .inl (ka0_5, 9, .inl (j42a0_5_a))), (a1_6, .inl (ka1_6, 9, .inl (fa1_6))), (a0_6, .inl (ka0_6, 9, .inl (j42a0_6_a)))] → va_S A s.heap H locs → lv_has ls 3 [(0, .ref a0), (1, .ref a1), (2, .int j42l2)] → K H locs (F0 m 42 ls []) := by
    intro n
    induction n with
    | zero =>
      intro j42l2 j42a0_5_a j42a0_6_a H locs ls hm bj42l2_l bj42l2_u hP hD hS hl
      have h8 := ai_min j42l2
      have h9 := ai_max j42l2
      exact absurd hm (by omega)
    | succ n ih42 =>
      intro j42l2 j42a0_5_a j42a0_6_a H locs ls hm bj42l2_l bj42l2_u hP hD hS hl
      refine (hK0 _ _ _).mpr ?_
      have hm42 := hm
      refine lv_iload_n hx hb dX5_copyFrom_42 rfl (lv_at hl 2 rfl) ?_
      refine lv_bipush (v := 9) hx hb dX5_copyFrom_43 zk_bipush_9 ?_
      refine lv_icmp_ge (tgt := 78) hx hb dX5_copyFrom_45 (by decide) (fun c45 => ?_) (fun c45 => ?_)
      · have gc45 := ai_le c45
        have l45t_j42l2 : (9 : Int) ≤ j42l2.toInt := Int.le_trans zq2 gc45
        exact W.vret hx hb hr (fun t ht hW => ⟨⟨(), rfl, trivial, a1_0, a1_1, a1_2, a1_3, a1_4, j42a0_5_a, j42a0_6_a, ⟨ba1_1_l, ba1_1_u⟩, by rw [ht]; exact hP, va_K.moved hW.alike hK, hD⟩, hS.F ht⟩) hS.2.2 dX5_copyFrom_78
      · have gc45 := ai_nle c45
        have u45f_j42l2 : j42l2.toInt ≤ (8 : Int) := ai_lthi gc45 zq3
        refine lv_aload_n hx hb dX5_copyFrom_48 rfl (lv_at hl 0 rfl) ?_
        refine va_get (D := (dC, dI)) (ci := 5) (v := .ref a0_5) (C := RX5) (T := TX5) (N := 7) hx hb hts zi_X5_copyFrom_5 hown hK hP 0 rfl rfl 5 (by decide) (hts (.fieldLink RX5 9 "WaxTurns$Scene" "places" "[I") (List.mem_cons_of_mem _ (List.mem_append_left _ (List.mem_of_getElem? (i := 5) rfl)))) (fun _ h9 => h9) rfl dX5_copyFrom_49 ?_
        refine lv_iload_n hx hb dX5_copyFrom_52 rfl (lv_at hl 2 rfl) ?_
        refine lv_aload_n hx hb dX5_copyFrom_53 rfl (lv_at hl 1 rfl) ?_
        refine va_get (D := (dC, dI)) (ci := 5) (v := .ref a1_5) (C := RX5) (T := TX5) (N := 7) hx hb hts zi_X5_copyFrom_5 hown hK hP 1 rfl rfl 5 (by decide) (hts (.fieldLink RX5 9 "WaxTurns$Scene" "places" "[I") (List.mem_cons_of_mem _ (List.mem_append_left _ (List.mem_of_getElem? (i := 5) rfl)))) (fun _ h9 => h9) rfl dX5_copyFrom_54 ?_
        refine lv_iload_n hx hb dX5_copyFrom_57 rfl (lv_at hl 2 rfl) ?_
        refine va_iald hx hb hK hP 2 0 rfl rfl (ai_in bj42l2_l u45f_j42l2 (by decide) (by decide)) dX5_copyFrom_58 ?_
        refine lv_topi (fun x58 ex58 => ?_)
        refine va_iast hx hb hK hP hD hS 3 1 rfl rfl (ai_in bj42l2_l u45f_j42l2 (by decide) (by decide)) dX5_copyFrom_59 (fun H locs hP hD hS => ?_)
        obtain ⟨f59, hP, hD⟩ : ∃ f59 : Nat → Int32, va_P (dC, dI) vwCl [(a0, .inr (5, [.int a1_0, .int a1_1, .int a1_2, .int a1_3, .int a1_4, .ref a0_5, .ref a0_6])), (a1, .inr (5, [.int a1_0, .int a1_1, .int a1_2, .int a1_3, .int a1_4, .ref a1_5, .ref a1_6])), (a1_5, .inl (ka1_5, 9, .inl (fa1_5))), (a0_5, .inl (ka0_5, 9, .inl (f59))), (a1_6, .inl (ka1_6, 9, .inl (fa1_6))), (a0_6, .inl (ka0_6, 9, .inl (j42a0_6_a)))] H ∧ va_D A [(a0, .inr (5, [.int a1_0, .int a1_1, .int a1_2, .int a1_3, .int a1_4, .ref a0_5, .ref a0_6])), (a1, .inr (5, [.int a1_0, .int a1_1, .int a1_2, .int a1_3, .int a1_4, .ref a1_5, .ref a1_6])), (a1_5, .inl (ka1_5, 9, .inl (fa1_5))), (a0_5, .inl (ka0_5, 9, .inl (f59))), (a1_6, .inl (ka1_6, 9, .inl (fa1_6))), (a0_6, .inl (ka0_6, 9, .inl (j42a0_6_a)))] := ⟨_, hP, hD⟩
        refine lv_aload_n hx hb dX5_copyFrom_60 rfl (lv_at hl 0 rfl) ?_
        refine va_get (D := (dC, dI)) (ci := 5) (v := .ref a0_6) (C := RX5) (T := TX5) (N := 7) hx hb hts zi_X5_copyFrom_5 hown hK hP 0 rfl rfl 6 (by decide) (hts (.fieldLink RX5 15 "WaxTurns$Scene" "heardBits" "[I") (List.mem_cons_of_mem _ (List.mem_append_left _ (List.mem_of_getElem? (i := 6) rfl)))) (fun _ h9 => h9) rfl dX5_copyFrom_61 ?_
        refine lv_iload_n hx hb dX5_copyFrom_64 rfl (lv_at hl 2 rfl) ?_
        refine lv_aload_n hx hb dX5_copyFrom_65 rfl (lv_at hl 1 rfl) ?_
        refine va_get (D := (dC, dI)) (ci := 5) (v := .ref a1_6) (C := RX5) (T := TX5) (N := 7) hx hb hts zi_X5_copyFrom_5 hown hK hP 1 rfl rfl 6 (by decide) (hts (.fieldLink RX5 15 "WaxTurns$Scene" "heardBits" "[I") (List.mem_cons_of_mem _ (List.mem_append_left _ (List.mem_of_getElem? (i := 6) rfl)))) (fun _ h9 => h9) rfl dX5_copyFrom_66 ?_
        refine lv_iload_n hx hb dX5_copyFrom_69 rfl (lv_at hl 2 rfl) ?_
        refine va_iald hx hb hK hP 4 2 rfl rfl (ai_in bj42l2_l u45f_j42l2 (by decide) (by decide)) dX5_copyFrom_70 ?_
        refine lv_topi (fun x70 ex70 => ?_)
        refine va_iast hx hb hK hP hD hS 5 3 rfl rfl (ai_in bj42l2_l u45f_j42l2 (by decide) (by decide)) dX5_copyFrom_71 (fun H locs hP hD hS => ?_)
        obtain ⟨f71, hP, hD⟩ : ∃ f71 : Nat → Int32, va_P (dC, dI) vwCl [(a0, .inr (5, [.int a1_0, .int a1_1, .int a1_2, .int a1_3, .int a1_4, .ref a0_5, .ref a0_6])), (a1, .inr (5, [.int a1_0, .int a1_1, .int a1_2, .int a1_3, .int a1_4, .ref a1_5, .ref a1_6])), (a1_5, .inl (ka1_5, 9, .inl (fa1_5))), (a0_5, .inl (ka0_5, 9, .inl (f59))), (a1_6, .inl (ka1_6, 9, .inl (fa1_6))), (a0_6, .inl (ka0_6, 9, .inl (f71)))] H ∧ va_D A [(a0, .inr (5, [.int a1_0, .int a1_1, .int a1_2, .int a1_3, .int a1_4, .ref a0_5, .ref a0_6])), (a1, .inr (5, [.int a1_0, .int a1_1, .int a1_2, .int a1_3, .int a1_4, .ref a1_5, .ref a1_6])), (a1_5, .inl (ka1_5, 9, .inl (fa1_5))), (a0_5, .inl (ka0_5, 9, .inl (f59))), (a1_6, .inl (ka1_6, 9, .inl (fa1_6))), (a0_6, .inl (ka0_6, 9, .inl (f71)))] := ⟨_, hP, hD⟩
        obtain ⟨x72, ex72⟩ : ∃ y : Int32, y = j42l2 + Int32.ofInt 1 := ⟨_, rfl⟩
        have qx72 : x72.toInt = j42l2.toInt + 1 := ai_inc ex72 (by decide) (by decide) u45f_j42l2 (by decide)
        have bx72 : (1 : Int) ≤ x72.toInt ∧ x72.toInt ≤ 9 := ⟨by rw [qx72]; exact Int.add_le_add bj42l2_l (Int.le_refl _), by rw [qx72]; exact Int.add_le_add u45f_j42l2 (Int.le_refl _)⟩
        refine lv_iinc (v := x72) (lv' := [(2, .int x72), (0, .ref a0), (1, .ref a1)]) hx hb dX5_copyFrom_72 hl (k := 2) rfl ex72.symm (by decide) rfl (fun ls hl => ?_)
        refine lv_goto (tgt := 42) hx hb dX5_copyFrom_75 (by decide) ?_
        exact (hK0 _ _ _).mp (ih42 x72 f59 f71 _ _ _ (by have h0 := qx72; omega) (Int.le_trans zq4 bx72.1) bx72.2 hP hD hS (lv_sub hl [1, 2, 0] rfl))
  exact (hK0 _ _ _).mp (J42 10 0 fa0_5 fa0_6 _ _ _ (by have h1 : (0 : Int) ≤ (0 : Int32).toInt := zq5; have h2 : (0 : Int32).toInt ≤ (0 : Int) := zq6; omega) zq5 (Int.le_trans zq6 zq7) hP hD hS (lv_sub hl [1, 2, 0] rfl))

set_option maxHeartbeats 4000000 in
set_option maxRecDepth 100000 in
theorem c_X6_copyFrom (l : Launch) (dC : Nat → ClassId) (dI : Nat → Nat → Nat) (sz : Nat) (a0 : Nat) (a1 : Nat) (a0_0 : Int32) (a0_1 : Int32) (a0_2 : Nat) (a0_3 : Nat) (a1_0 : Int32) (a1_1 : Int32) (a1_2 : Nat) (a1_3 : Nat) (ka1_2 : ClassId) (fa1_2 : Nat → Int32) (ka0_2 : ClassId) (fa0_2 : Nat → Int32) (ka1_3 : ClassId) (fa1_3 : Nat → Int32) (ka0_3 : ClassId) (fa0_3 : Nat → Int32) (ba0_0_l : (0 : Int) ≤ a0_0.toInt) (ba0_0_u : a0_0.toInt ≤ (3 : Int)) (ba1_0_l : (0 : Int) ≤ a1_0.toInt) (ba1_0_u : a1_0.toInt ≤ (3 : Int)) (bfa1_2 : (∀ k, (0 : Int) ≤ (fa1_2 k).toInt ∧ (fa1_2 k).toInt ≤ 80)) (bfa0_2 : (∀ k, (0 : Int) ≤ (fa0_2 k).toInt ∧ (fa0_2 k).toInt ≤ 80)) (bfa1_3 : (∀ k, (0 : Int) ≤ (fa1_3 k).toInt ∧ (fa1_3 k).toInt ≤ 80)) (bfa0_3 : (∀ k, (0 : Int) ≤ (fa0_3 k).toInt ∧ (fa0_3 k).toInt ≤ 80)) : zm l yX6_copyFrom wsX6_copyFrom ({ frames := 0, cells := 0, slots := 0, locals := 0 }) [.ref a0, .ref a1] dC dI sz [(a0, .inr (6, [.int a0_0, .int a0_1, .ref a0_2, .ref a0_3])), (a1, .inr (6, [.int a1_0, .int a1_1, .ref a1_2, .ref a1_3])), (a1_2, .inl (ka1_2, 3, .inl (fa1_2))), (a0_2, .inl (ka0_2, 3, .inl (fa0_2))), (a1_3, .inl (ka1_3, 3, .inl (fa1_3))), (a0_3, .inl (ka0_3, 3, .inl (fa0_3)))] [(ka1_2, .int), (ka0_2, .int), (ka1_3, .int), (ka0_3, .int)] (fun A _ => True) (fun A => va_Qv (fun (_ : Unit) => True) (fun (_ : Unit) (t : State) => ∃ na0_0 : Int32, ∃ na0_1 : Int32, ∃ nfa0_2 : Nat → Int32, ∃ nfa0_3 : Nat → Int32, ((0 : Int) ≤ na0_0.toInt ∧ na0_0.toInt ≤ 3) ∧ (∀ k, (0 : Int) ≤ (nfa0_2 k).toInt ∧ (nfa0_2 k).toInt ≤ 80) ∧ (∀ k, (0 : Int) ≤ (nfa0_3 k).toInt ∧ (nfa0_3 k).toInt ≤ 80) ∧ ax_B dC dI A [(a0, .inr (6, [.int na0_0, .int na0_1, .ref a0_2, .ref a0_3])), (a1, .inr (6, [.int a1_0, .int a1_1, .ref a1_2, .ref a1_3])), (a1_2, .inl (ka1_2, 3, .inl (fa1_2))), (a0_2, .inl (ka0_2, 3, .inl (nfa0_2))), (a1_3, .inl (ka1_3, 3, .inl (fa1_3))), (a0_3, .inl (ka0_3, 3, .inl (nfa0_3)))] [(ka1_2, .int), (ka0_2, .int), (ka1_3, .int), (ka0_3, .int)] t) A) := by
  refine zh (cc := cX6_copyFrom) (maxL := 3) (ret := none) zn_RX6 rfl (Nat.le_of_ble_eq_true rfl) (fun p e s m below meth c A ls hx hb hml hr hts (hown : s.vm.findClass RX6 = some m.cls) hlocks hA hS hP hK hD hE (hl : lv_has ls 3 [(0, .ref a0), (1, .ref a1)]) => ?_)
  refine ai_open (fun K hK0 => ?_)
  refine (hK0 _ _ _).mpr ?_
  refine lv_aload_n hx hb dX6_copyFrom_0 rfl (lv_at hl 0 rfl) ?_
  refine lv_aload_n hx hb dX6_copyFrom_1 rfl (lv_at hl 1 rfl) ?_
  refine va_get (D := (dC, dI)) (ci := 6) (v := .int a1_0) (C := RX6) (T := TX6) (N := 4) hx hb hts zi_X6_copyFrom_6 hown hK hP 1 rfl rfl 0 (by decide) (hts (.fieldLink RX6 18 "WaxTurns$Watchers" "count" "I") (List.mem_cons_of_mem _ (List.mem_append_left _ (List.mem_of_getElem? (i := 0) rfl)))) (fun _ h9 => h9) rfl dX6_copyFrom_2 ?_
  refine va_put (D := (dC, dI)) (ci := 6) (v := .int a1_0) (ty := .int) (C := RX6) (T := TX6) (N := 4) hx hb hts zi_X6_copyFrom_6 tyX6 tyX6_ok nmX6 hown hK hP hD hS 0 rfl rfl 0 (by decide) (hts (.fieldLink RX6 18 "WaxTurns$Watchers" "count" "I") (List.mem_cons_of_mem _ (List.mem_append_left _ (List.mem_of_getElem? (i := 0) rfl)))) (fun _ h9 => h9) rfl (tyX6_ok 0 (by decide)) rfl rfl (Nat.le_of_ble_eq_true rfl) dX6_copyFrom_5 (fun H locs hP hD hS => ?_)
  refine zs_0 (y := (a0, .inr (6, [.int a1_0, .int a0_1, .ref a0_2, .ref a0_3]))) hP hD rfl (fun hP hD => ?_)
  refine lv_aload_n hx hb dX6_copyFrom_8 rfl (lv_at hl 0 rfl) ?_
  refine lv_aload_n hx hb dX6_copyFrom_9 rfl (lv_at hl 1 rfl) ?_
  refine va_get (D := (dC, dI)) (ci := 6) (v := .int a1_1) (C := RX6) (T := TX6) (N := 4) hx hb hts zi_X6_copyFrom_6 hown hK hP 1 rfl rfl 1 (by decide) (hts (.fieldLink RX6 22 "WaxTurns$Watchers" "posts" "I") (List.mem_cons_of_mem _ (List.mem_append_left _ (List.mem_of_getElem? (i := 1) rfl)))) (fun _ h9 => h9) rfl dX6_copyFrom_10 ?_
  refine va_put (D := (dC, dI)) (ci := 6) (v := .int a1_1) (ty := .int) (C := RX6) (T := TX6) (N := 4) hx hb hts zi_X6_copyFrom_6 tyX6 tyX6_ok nmX6 hown hK hP hD hS 0 rfl rfl 1 (by decide) (hts (.fieldLink RX6 22 "WaxTurns$Watchers" "posts" "I") (List.mem_cons_of_mem _ (List.mem_append_left _ (List.mem_of_getElem? (i := 1) rfl)))) (fun _ h9 => h9) rfl (tyX6_ok 1 (by decide)) rfl rfl (Nat.le_of_ble_eq_true rfl) dX6_copyFrom_13 (fun H locs hP hD hS => ?_)
  refine zs_0 (y := (a0, .inr (6, [.int a1_0, .int a1_1, .ref a0_2, .ref a0_3]))) hP hD rfl (fun hP hD => ?_)
  refine lv_iconst (v := 0) hx hb dX6_copyFrom_16 zk_iconst_0 ?_
  refine lv_istore_n (lv' := [(2, .int 0), (0, .ref a0), (1, .ref a1)]) hx hb dX6_copyFrom_17 rfl hl (by decide) rfl (fun ls hl => ?_)
  have J18 : ∀ (n : Nat) (j18l2 : Int32) (j18a0_2_a : Nat → Int32) (j18a0_3_a : Nat → Int32) (H : Heap) (locs : List Loc) (ls : Array Slot), (4 : Int) - j18l2.toInt ≤ (n : Int) → (0 : Int) ≤ j18l2.toInt → j18l2.toInt ≤ (3 : Int) → (∀ k, (0 : Int) ≤ (j18a0_2_a k).toInt ∧ (j18a0_2_a k).toInt ≤ 80) → (∀ k, (0 : Int) ≤ (j18a0_3_a k).toInt ∧ (j18a0_3_a k).toInt ≤ 80) → va_P (dC, dI) vwCl [(a0, .inr (6, [.int a1_0, .int a1_1, .ref a0_2, .ref a0_3])), (a1, .inr (6, [.int a1_0, .int a1_1, .ref a1_2, .ref a1_3])), (a1_2, .inl (ka1_2, 3, .inl (fa1_2))), (a0_2, .inl (ka0_2, 3, .inl (j18a0_2_a))), (a1_3, .inl (ka1_3, 3, .inl (fa1_3))), (a0_3, .inl (ka0_3, 3, .inl (j18a0_3_a)))] H → va_D A [(a0, .inr (6, [.int a1_0, .int a1_1, .ref a0_2, .ref a0_3])), (a1, .inr (6, [.int a1_0, .int a1_1, .ref a1_2, .ref a1_3])), (a1_2, .inl (ka1_2, 3, .inl (fa1_2))), (a0_2, .inl (ka0_2, 3, .inl (j18a0_2_a))), (a1_3, .inl (ka1_3, 3, .inl (fa1_3))), (a0_3, .inl (ka0_3, 3, .inl (j18a0_3_a)))] → va_S A s.heap H locs → lv_has ls 3 [(0, .ref a0), (1, .ref a1), (2, .int j18l2)] → K H locs (F0 m 18 ls []) := by
    intro n
    induction n with
    | zero =>
      intro j18l2 j18a0_2_a j18a0_3_a H locs ls hm bj18l2_l bj18l2_u bj18a0_2_a bj18a0_3_a hP hD hS hl
      have h8 := ai_min j18l2
      have h9 := ai_max j18l2
      exact absurd hm (by omega)
    | succ n ih18 =>
      intro j18l2 j18a0_2_a j18a0_3_a H locs ls hm bj18l2_l bj18l2_u bj18a0_2_a bj18a0_3_a hP hD hS hl
      refine (hK0 _ _ _).mpr ?_
      have hm18 := hm
      refine lv_iload_n hx hb dX6_copyFrom_18 rfl (lv_at hl 2 rfl) ?_
      refine lv_iconst (v := 3) hx hb dX6_copyFrom_19 zk_iconst_3 ?_
      refine lv_icmp_ge (tgt := 53) hx hb dX6_copyFrom_20 (by decide) (fun c20 => ?_) (fun c20 => ?_)
      · have gc20 := ai_le c20
        have l20t_j18l2 : (3 : Int) ≤ j18l2.toInt := Int.le_trans zq8 gc20
        exact W.vret hx hb hr (fun t ht hW => ⟨⟨(), rfl, trivial, a1_0, a1_1, j18a0_2_a, j18a0_3_a, ⟨ba1_0_l, ba1_0_u⟩, bj18a0_2_a, bj18a0_3_a, by rw [ht]; exact hP, va_K.moved hW.alike hK, hD⟩, hS.F ht⟩) hS.2.2 dX6_copyFrom_53
      · have gc20 := ai_nle c20
        have u20f_j18l2 : j18l2.toInt ≤ (2 : Int) := ai_lthi gc20 zq9
        refine lv_aload_n hx hb dX6_copyFrom_23 rfl (lv_at hl 0 rfl) ?_
        refine va_get (D := (dC, dI)) (ci := 6) (v := .ref a0_2) (C := RX6) (T := TX6) (N := 4) hx hb hts zi_X6_copyFrom_6 hown hK hP 0 rfl rfl 2 (by decide) (hts (.fieldLink RX6 9 "WaxTurns$Watchers" "from" "[I") (List.mem_cons_of_mem _ (List.mem_append_left _ (List.mem_of_getElem? (i := 2) rfl)))) (fun _ h9 => h9) rfl dX6_copyFrom_24 ?_
        refine lv_iload_n hx hb dX6_copyFrom_27 rfl (lv_at hl 2 rfl) ?_
        refine lv_aload_n hx hb dX6_copyFrom_28 rfl (lv_at hl 1 rfl) ?_
        refine va_get (D := (dC, dI)) (ci := 6) (v := .ref a1_2) (C := RX6) (T := TX6) (N := 4) hx hb hts zi_X6_copyFrom_6 hown hK hP 1 rfl rfl 2 (by decide) (hts (.fieldLink RX6 9 "WaxTurns$Watchers" "from" "[I") (List.mem_cons_of_mem _ (List.mem_append_left _ (List.mem_of_getElem? (i := 2) rfl)))) (fun _ h9 => h9) rfl dX6_copyFrom_29 ?_
        refine lv_iload_n hx hb dX6_copyFrom_32 rfl (lv_at hl 2 rfl) ?_
        refine va_iald hx hb hK hP 2 0 rfl rfl (ai_in bj18l2_l u20f_j18l2 (by decide) (by decide)) dX6_copyFrom_33 ?_
        refine lv_topi (fun x33 ex33 => ?_)
        have bx33 : (0 : Int) ≤ x33.toInt ∧ x33.toInt ≤ 80 := by rw [ex33]; exact bfa1_2 _
        refine va_iast hx hb hK hP hD hS 3 1 rfl rfl (ai_in bj18l2_l u20f_j18l2 (by decide) (by decide)) dX6_copyFrom_34 (fun H locs hP hD hS => ?_)
        obtain ⟨f34, bf34, hP, hD⟩ : ∃ f34 : Nat → Int32, (∀ k, (0 : Int) ≤ (f34 k).toInt ∧ (f34 k).toInt ≤ 80) ∧ va_P (dC, dI) vwCl [(a0, .inr (6, [.int a1_0, .int a1_1, .ref a0_2, .ref a0_3])), (a1, .inr (6, [.int a1_0, .int a1_1, .ref a1_2, .ref a1_3])), (a1_2, .inl (ka1_2, 3, .inl (fa1_2))), (a0_2, .inl (ka0_2, 3, .inl (f34))), (a1_3, .inl (ka1_3, 3, .inl (fa1_3))), (a0_3, .inl (ka0_3, 3, .inl (j18a0_3_a)))] H ∧ va_D A [(a0, .inr (6, [.int a1_0, .int a1_1, .ref a0_2, .ref a0_3])), (a1, .inr (6, [.int a1_0, .int a1_1, .ref a1_2, .ref a1_3])), (a1_2, .inl (ka1_2, 3, .inl (fa1_2))), (a0_2, .inl (ka0_2, 3, .inl (f34))), (a1_3, .inl (ka1_3, 3, .inl (fa1_3))), (a0_3, .inl (ka0_3, 3, .inl (j18a0_3_a)))] := ⟨_, ai_upd bj18a0_2_a _ ⟨bx33.1, bx33.2⟩, hP, hD⟩
        refine lv_aload_n hx hb dX6_copyFrom_35 rfl (lv_at hl 0 rfl) ?_
        refine va_get (D := (dC, dI)) (ci := 6) (v := .ref a0_3) (C := RX6) (T := TX6) (N := 4) hx hb hts zi_X6_copyFrom_6 hown hK hP 0 rfl rfl 3 (by decide) (hts (.fieldLink RX6 15 "WaxTurns$Watchers" "to" "[I") (List.mem_cons_of_mem _ (List.mem_append_left _ (List.mem_of_getElem? (i := 3) rfl)))) (fun _ h9 => h9) rfl dX6_copyFrom_36 ?_
        refine lv_iload_n hx hb dX6_copyFrom_39 rfl (lv_at hl 2 rfl) ?_
        refine lv_aload_n hx hb dX6_copyFrom_40 rfl (lv_at hl 1 rfl) ?_
        refine va_get (D := (dC, dI)) (ci := 6) (v := .ref a1_3) (C := RX6) (T := TX6) (N := 4) hx hb hts zi_X6_copyFrom_6 hown hK hP 1 rfl rfl 3 (by decide) (hts (.fieldLink RX6 15 "WaxTurns$Watchers" "to" "[I") (List.mem_cons_of_mem _ (List.mem_append_left _ (List.mem_of_getElem? (i := 3) rfl)))) (fun _ h9 => h9) rfl dX6_copyFrom_41 ?_
        refine lv_iload_n hx hb dX6_copyFrom_44 rfl (lv_at hl 2 rfl) ?_
        refine va_iald hx hb hK hP 4 2 rfl rfl (ai_in bj18l2_l u20f_j18l2 (by decide) (by decide)) dX6_copyFrom_45 ?_
        refine lv_topi (fun x45 ex45 => ?_)
        have bx45 : (0 : Int) ≤ x45.toInt ∧ x45.toInt ≤ 80 := by rw [ex45]; exact bfa1_3 _
        refine va_iast hx hb hK hP hD hS 5 3 rfl rfl (ai_in bj18l2_l u20f_j18l2 (by decide) (by decide)) dX6_copyFrom_46 (fun H locs hP hD hS => ?_)
        obtain ⟨f46, bf46, hP, hD⟩ : ∃ f46 : Nat → Int32, (∀ k, (0 : Int) ≤ (f46 k).toInt ∧ (f46 k).toInt ≤ 80) ∧ va_P (dC, dI) vwCl [(a0, .inr (6, [.int a1_0, .int a1_1, .ref a0_2, .ref a0_3])), (a1, .inr (6, [.int a1_0, .int a1_1, .ref a1_2, .ref a1_3])), (a1_2, .inl (ka1_2, 3, .inl (fa1_2))), (a0_2, .inl (ka0_2, 3, .inl (f34))), (a1_3, .inl (ka1_3, 3, .inl (fa1_3))), (a0_3, .inl (ka0_3, 3, .inl (f46)))] H ∧ va_D A [(a0, .inr (6, [.int a1_0, .int a1_1, .ref a0_2, .ref a0_3])), (a1, .inr (6, [.int a1_0, .int a1_1, .ref a1_2, .ref a1_3])), (a1_2, .inl (ka1_2, 3, .inl (fa1_2))), (a0_2, .inl (ka0_2, 3, .inl (f34))), (a1_3, .inl (ka1_3, 3, .inl (fa1_3))), (a0_3, .inl (ka0_3, 3, .inl (f46)))] := ⟨_, ai_upd bj18a0_3_a _ ⟨bx45.1, bx45.2⟩, hP, hD⟩
        obtain ⟨x47, ex47⟩ : ∃ y : Int32, y = j18l2 + Int32.ofInt 1 := ⟨_, rfl⟩
        have qx47 : x47.toInt = j18l2.toInt + 1 := ai_inc ex47 (by decide) (by decide) u20f_j18l2 (by decide)
        have bx47 : (1 : Int) ≤ x47.toInt ∧ x47.toInt ≤ 3 := ⟨by rw [qx47]; exact Int.add_le_add bj18l2_l (Int.le_refl _), by rw [qx47]; exact Int.add_le_add u20f_j18l2 (Int.le_refl _)⟩
        refine lv_iinc (v := x47) (lv' := [(2, .int x47), (0, .ref a0), (1, .ref a1)]) hx hb dX6_copyFrom_47 hl (k := 2) rfl ex47.symm (by decide) rfl (fun ls hl => ?_)
        refine lv_goto (tgt := 18) hx hb dX6_copyFrom_50 (by decide) ?_
        exact (hK0 _ _ _).mp (ih18 x47 f34 f46 _ _ _ (by have h0 := qx47; omega) (Int.le_trans zq4 bx47.1) bx47.2 bf34 bf46 hP hD hS (lv_sub hl [1, 2, 0] rfl))
  exact (hK0 _ _ _).mp (J18 4 0 fa0_2 fa0_3 _ _ _ (by have h1 : (0 : Int) ≤ (0 : Int32).toInt := zq5; have h2 : (0 : Int32).toInt ≤ (0 : Int) := zq6; omega) zq5 (Int.le_trans zq6 zq11) bfa0_2 bfa0_3 hP hD hS (lv_sub hl [1, 2, 0] rfl))

set_option maxHeartbeats 4000000 in
set_option maxRecDepth 100000 in
theorem c_X6_placeOf (l : Launch) (dC : Nat → ClassId) (dI : Nat → Nat → Nat) (sz : Nat) (a0 : Nat) (a1 : Int32) (a2 : Int32) (a0g_0 a0g_1 : Value) (a0_2 : Nat) (a0_3 : Nat) (ka0_3 : ClassId) (fa0_3 : Nat → Int32) (ka0_2 : ClassId) (fa0_2 : Nat → Int32) (ba1_l : (0 : Int) ≤ a1.toInt) (ba1_u : a1.toInt ≤ (2 : Int)) (bfa0_3 : (∀ k, (0 : Int) ≤ (fa0_3 k).toInt ∧ (fa0_3 k).toInt ≤ 80)) (bfa0_2 : (∀ k, (0 : Int) ≤ (fa0_2 k).toInt ∧ (fa0_2 k).toInt ≤ 80)) : zm l yX6_placeOf wsX6_placeOf ({ frames := 0, cells := 0, slots := 0, locals := 0 }) [.ref a0, .int a1, .int a2] dC dI sz [(a0, .inr (6, [a0g_0, a0g_1, .ref a0_2, .ref a0_3])), (a0_3, .inl (ka0_3, 3, .inl (fa0_3))), (a0_2, .inl (ka0_2, 3, .inl (fa0_2)))] [(ka0_3, .int), (ka0_2, .int)] (fun A _ => True) (fun A => va_Qi (fun (r : Int32) (_ : Unit) => True) (fun (_ : Unit) (t : State) => ax_B dC dI A [(a0, .inr (6, [a0g_0, a0g_1, .ref a0_2, .ref a0_3])), (a0_3, .inl (ka0_3, 3, .inl (fa0_3))), (a0_2, .inl (ka0_2, 3, .inl (fa0_2)))] [(ka0_3, .int), (ka0_2, .int)] t) A) := by
  refine zh (cc := cX6_placeOf) (maxL := 7) (ret := (some .int)) zn_RX6 rfl (Nat.le_of_ble_eq_true rfl) (fun p e s m below meth c A ls hx hb hml hr hts (hown : s.vm.findClass RX6 = some m.cls) hlocks hA hS hP hK hD hE (hl : lv_has ls 7 [(0, .ref a0), (1, .int a1), (2, .int a2)]) => ?_)
  refine lv_aload_n hx hb dX6_placeOf_0 rfl (lv_at hl 0 rfl) ?_
  refine va_get (D := (dC, dI)) (ci := 6) (v := .ref a0_3) (C := RX6) (T := TX6) (N := 4) hx hb hts zi_X6_placeOf_6 hown hK hP 0 rfl rfl 3 (by decide) (hts (.fieldLink RX6 15 "WaxTurns$Watchers" "to" "[I") (List.mem_cons_of_mem _ (List.mem_append_left _ (List.mem_of_getElem? (i := 0) rfl)))) (fun _ h9 => h9) rfl dX6_placeOf_1 ?_
  refine lv_iload_n hx hb dX6_placeOf_4 rfl (lv_at hl 1 rfl) ?_
  refine va_iald hx hb hK hP 1 0 rfl rfl (ai_in ba1_l ba1_u (by decide) (by decide)) dX6_placeOf_5 ?_
  refine lv_topi (fun x5 ex5 => ?_)
  have bx5 : (0 : Int) ≤ x5.toInt ∧ x5.toInt ≤ 80 := by rw [ex5]; exact bfa0_3 _
  refine lv_aload_n hx hb dX6_placeOf_6 rfl (lv_at hl 0 rfl) ?_
  refine va_get (D := (dC, dI)) (ci := 6) (v := .ref a0_2) (C := RX6) (T := TX6) (N := 4) hx hb hts zi_X6_placeOf_6 hown hK hP 0 rfl rfl 2 (by decide) (hts (.fieldLink RX6 9 "WaxTurns$Watchers" "from" "[I") (List.mem_cons_of_mem _ (List.mem_append_left _ (List.mem_of_getElem? (i := 1) rfl)))) (fun _ h9 => h9) rfl dX6_placeOf_7 ?_
  refine lv_iload_n hx hb dX6_placeOf_10 rfl (lv_at hl 1 rfl) ?_
  refine va_iald hx hb hK hP 2 1 rfl rfl (ai_in ba1_l ba1_u (by decide) (by decide)) dX6_placeOf_11 ?_
  refine lv_topi (fun x11 ex11 => ?_)
  have bx11 : (0 : Int) ≤ x11.toInt ∧ x11.toInt ≤ 80 := by rw [ex11]; exact bfa0_2 _
  refine lv_icmp_le (tgt := 19) hx hb dX6_placeOf_12 (by decide) (fun c12 => ?_) (fun c12 => ?_)
  · have gc12 := ai_le c12
    have u12t_x5 : x5.toInt ≤ (80 : Int) := bx5.2
    have l12t_x11 : (0 : Int) ≤ x11.toInt := bx11.1
    refine lv_iconst (v := 0) hx hb dX6_placeOf_19 zk_iconst_0 ?_
    refine lv_istore_n (lv' := [(3, .int 0), (0, .ref a0), (1, .int a1), (2, .int a2)]) hx hb dX6_placeOf_20 rfl hl (by decide) rfl (fun ls hl => ?_)
    refine lv_iload_n hx hb dX6_placeOf_21 rfl (lv_at hl 0 rfl) ?_
    refine lv_if_eq (tgt := 41) hx hb dX6_placeOf_22 (by decide) (fun _ => ?_) (fun c22 => absurd (by decide +kernel) c22)
    refine lv_aload_n hx hb dX6_placeOf_41 rfl (lv_at hl 1 rfl) ?_
    refine va_get (D := (dC, dI)) (ci := 6) (v := .ref a0_2) (C := RX6) (T := TX6) (N := 4) hx hb hts zi_X6_placeOf_6 hown hK hP 0 rfl rfl 2 (by decide) (hts (.fieldLink RX6 9 "WaxTurns$Watchers" "from" "[I") (List.mem_cons_of_mem _ (List.mem_append_left _ (List.mem_of_getElem? (i := 1) rfl)))) (fun _ h9 => h9) rfl dX6_placeOf_42 ?_
    refine lv_iload_n hx hb dX6_placeOf_45 rfl (lv_at hl 2 rfl) ?_
    refine va_iald hx hb hK hP 2 1 rfl rfl (ai_in ba1_l ba1_u (by decide) (by decide)) dX6_placeOf_46 ?_
    refine ax_ti x11 ex11.symm ?_
    refine lv_aload_n hx hb dX6_placeOf_47 rfl (lv_at hl 1 rfl) ?_
    refine va_get (D := (dC, dI)) (ci := 6) (v := .ref a0_3) (C := RX6) (T := TX6) (N := 4) hx hb hts zi_X6_placeOf_6 hown hK hP 0 rfl rfl 3 (by decide) (hts (.fieldLink RX6 15 "WaxTurns$Watchers" "to" "[I") (List.mem_cons_of_mem _ (List.mem_append_left _ (List.mem_of_getElem? (i := 0) rfl)))) (fun _ h9 => h9) rfl dX6_placeOf_48 ?_
    refine lv_iload_n hx hb dX6_placeOf_51 rfl (lv_at hl 2 rfl) ?_
    refine va_iald hx hb hK hP 1 0 rfl rfl (ai_in ba1_l ba1_u (by decide) (by decide)) dX6_placeOf_52 ?_
    refine ax_ti x5 ex5.symm ?_
    refine lv_isub hx hb dX6_placeOf_53 ?_
    refine lv_topi (fun x53 ex53 => ?_)
    have qx53 : x53.toInt = x11.toInt - x5.toInt := ai_sub ex53 ⟨l12t_x11, bx11.2⟩ ⟨bx5.1, u12t_x5⟩ (by decide) (by decide)
    have bx53 : (-80 : Int) ≤ x53.toInt ∧ x53.toInt ≤ 80 := ⟨by rw [qx53]; exact Int.sub_le_sub l12t_x11 u12t_x5, by rw [qx53]; exact Int.sub_le_sub bx11.2 bx5.1⟩
    refine lv_istore (lv' := [(4, .int x53), (3, .int 0), (0, .ref a0), (1, .int a1), (2, .int a2)]) hx hb dX6_placeOf_54 hl (by decide) rfl (fun ls hl => ?_)
    refine lv_iload hx hb dX6_placeOf_56 (lv_at hl 0 rfl) ?_
    refine lv_if_gt (tgt := 68) hx hb dX6_placeOf_58 (by decide) (fun c58 => ?_) (fun c58 => ?_)
    · have gc58 := ai_lt c58
      have l58t_x53 : (1 : Int) ≤ x53.toInt := ai_ltlo gc58 zq5
      refine lv_iload_n hx hb dX6_placeOf_68 rfl (lv_at hl 4 rfl) ?_
      refine lv_iconst (v := 2) hx hb dX6_placeOf_69 zk_iconst_2 ?_
      refine lv_iload hx hb dX6_placeOf_70 (lv_at hl 0 rfl) ?_
      refine lv_imul hx hb dX6_placeOf_72 ?_
      refine lv_topi (fun x72 ex72 => ?_)
      have qx72 : x72.toInt = (2 : Int32).toInt * x53.toInt ∧ (2 : Int) ≤ x72.toInt ∧ x72.toInt ≤ 160 := ai_mul ex72 ⟨zq12, zq13⟩ ⟨l58t_x53, bx53.2⟩ (by decide) (by decide) zq14
      have wx72 : x72.toInt = 2 * x53.toInt := qx72.1
      refine lv_irem hx hb dX6_placeOf_73 (ai_nz qx72.2.1 (by decide)) ?_
      refine lv_topi (fun x73 ex73 => ?_)
      refine lv_istore (lv' := [(5, .int x73), (4, .int x53), (3, .int 0), (0, .ref a0), (1, .int a1), (2, .int a2)]) hx hb dX6_placeOf_74 hl (by decide) rfl (fun ls hl => ?_)
      refine lv_iload hx hb dX6_placeOf_76 (lv_at hl 0 rfl) ?_
      refine lv_iload hx hb dX6_placeOf_78 (lv_at hl 1 rfl) ?_
      refine lv_icmp_gt (tgt := 88) hx hb dX6_placeOf_80 (by decide) (fun c80 => ?_) (fun c80 => ?_)
      · have gc80 := ai_lt c80
        have u80t_x53 : x53.toInt ≤ (80 : Int) := bx53.2
        have l80t_x73 : (2 : Int) ≤ x73.toInt := ai_ltlo gc80 l58t_x53
        refine lv_iconst (v := 2) hx hb dX6_placeOf_88 zk_iconst_2 ?_
        refine lv_iload hx hb dX6_placeOf_89 (lv_at hl 1 rfl) ?_
        refine lv_imul hx hb dX6_placeOf_91 ?_
        refine ax_ti x72 ex72.symm ?_
        refine lv_iload hx hb dX6_placeOf_92 (lv_at hl 0 rfl) ?_
        refine lv_isub hx hb dX6_placeOf_94 ?_
        refine lv_topi (fun x94 ex94 => ?_)
        have qx94 : x94.toInt = x72.toInt - x73.toInt := ai_sub ex94 ⟨qx72.2.1, qx72.2.2⟩ ⟨l80t_x73, (ai_max x73)⟩ (by decide) (by decide)
        have bx94 : (-2147483645 : Int) ≤ x94.toInt ∧ x94.toInt ≤ 158 := ⟨by rw [qx94]; exact Int.sub_le_sub qx72.2.1 (ai_max x73), by rw [qx94]; exact Int.sub_le_sub qx72.2.2 l80t_x73⟩
        refine lv_istore (lv' := [(6, .int x94), (5, .int x73), (4, .int x53), (3, .int 0), (0, .ref a0), (1, .int a1), (2, .int a2)]) hx hb dX6_placeOf_95 hl (by decide) rfl (fun ls hl => ?_)
        refine lv_iload_n hx hb dX6_placeOf_97 rfl (lv_at hl 3 rfl) ?_
        refine lv_if_eq (tgt := 113) hx hb dX6_placeOf_98 (by decide) (fun _ => ?_) (fun c98 => absurd (by decide +kernel) c98)
        refine lv_aload_n hx hb dX6_placeOf_113 rfl (lv_at hl 4 rfl) ?_
        refine va_get (D := (dC, dI)) (ci := 6) (v := .ref a0_2) (C := RX6) (T := TX6) (N := 4) hx hb hts zi_X6_placeOf_6 hown hK hP 0 rfl rfl 2 (by decide) (hts (.fieldLink RX6 9 "WaxTurns$Watchers" "from" "[I") (List.mem_cons_of_mem _ (List.mem_append_left _ (List.mem_of_getElem? (i := 1) rfl)))) (fun _ h9 => h9) rfl dX6_placeOf_114 ?_
        refine lv_iload_n hx hb dX6_placeOf_117 rfl (lv_at hl 5 rfl) ?_
        refine va_iald hx hb hK hP 2 1 rfl rfl (ai_in ba1_l ba1_u (by decide) (by decide)) dX6_placeOf_118 ?_
        refine ax_ti x11 ex11.symm ?_
        refine lv_iload hx hb dX6_placeOf_119 (lv_at hl 0 rfl) ?_
        refine lv_isub hx hb dX6_placeOf_121 ?_
        refine lv_topi (fun x121 ex121 => ?_)
        exact W.iret (v := x121) hx hb hr (fun t ht hW => ⟨⟨x121, (), rfl, trivial, by rw [ht]; exact hP, va_K.moved hW.alike hK, hD⟩, hS.F ht⟩) hS.2.2 dX6_placeOf_122
      · have gc80 := ai_nlt c80
        have u80f_x73 : x73.toInt ≤ (80 : Int) := Int.le_trans gc80 bx53.2
        refine lv_iload hx hb dX6_placeOf_83 (lv_at hl 0 rfl) ?_
        refine lv_goto (tgt := 95) hx hb dX6_placeOf_85 (by decide) ?_
        refine lv_istore (lv' := [(6, .int x73), (5, .int x73), (4, .int x53), (3, .int 0), (0, .ref a0), (1, .int a1), (2, .int a2)]) hx hb dX6_placeOf_95 hl (by decide) rfl (fun ls hl => ?_)
        refine lv_iload_n hx hb dX6_placeOf_97 rfl (lv_at hl 3 rfl) ?_
        refine lv_if_eq (tgt := 113) hx hb dX6_placeOf_98 (by decide) (fun _ => ?_) (fun c98 => absurd (by decide +kernel) c98)
        refine lv_aload_n hx hb dX6_placeOf_113 rfl (lv_at hl 4 rfl) ?_
        refine va_get (D := (dC, dI)) (ci := 6) (v := .ref a0_2) (C := RX6) (T := TX6) (N := 4) hx hb hts zi_X6_placeOf_6 hown hK hP 0 rfl rfl 2 (by decide) (hts (.fieldLink RX6 9 "WaxTurns$Watchers" "from" "[I") (List.mem_cons_of_mem _ (List.mem_append_left _ (List.mem_of_getElem? (i := 1) rfl)))) (fun _ h9 => h9) rfl dX6_placeOf_114 ?_
        refine lv_iload_n hx hb dX6_placeOf_117 rfl (lv_at hl 5 rfl) ?_
        refine va_iald hx hb hK hP 2 1 rfl rfl (ai_in ba1_l ba1_u (by decide) (by decide)) dX6_placeOf_118 ?_
        refine ax_ti x11 ex11.symm ?_
        refine lv_iload hx hb dX6_placeOf_119 (lv_at hl 0 rfl) ?_
        refine lv_isub hx hb dX6_placeOf_121 ?_
        refine lv_topi (fun x121 ex121 => ?_)
        exact W.iret (v := x121) hx hb hr (fun t ht hW => ⟨⟨x121, (), rfl, trivial, by rw [ht]; exact hP, va_K.moved hW.alike hK, hD⟩, hS.F ht⟩) hS.2.2 dX6_placeOf_122
    · have gc58 := ai_nlt c58
      have u58f_x53 : x53.toInt ≤ (0 : Int) := Int.le_trans gc58 zq6
      refine lv_aload_n hx hb dX6_placeOf_61 rfl (lv_at hl 2 rfl) ?_
      refine va_get (D := (dC, dI)) (ci := 6) (v := .ref a0_2) (C := RX6) (T := TX6) (N := 4) hx hb hts zi_X6_placeOf_6 hown hK hP 0 rfl rfl 2 (by decide) (hts (.fieldLink RX6 9 "WaxTurns$Watchers" "from" "[I") (List.mem_cons_of_mem _ (List.mem_append_left _ (List.mem_of_getElem? (i := 1) rfl)))) (fun _ h9 => h9) rfl dX6_placeOf_62 ?_
      refine lv_iload_n hx hb dX6_placeOf_65 rfl (lv_at hl 3 rfl) ?_
      refine va_iald hx hb hK hP 2 1 rfl rfl (ai_in ba1_l ba1_u (by decide) (by decide)) dX6_placeOf_66 ?_
      refine ax_ti x11 ex11.symm ?_
      exact W.iret (v := x11) hx hb hr (fun t ht hW => ⟨⟨x11, (), rfl, trivial, by rw [ht]; exact hP, va_K.moved hW.alike hK, hD⟩, hS.F ht⟩) hS.2.2 dX6_placeOf_67
  · have gc12 := ai_nle c12
    have u12f_x11 : x11.toInt ≤ (79 : Int) := ai_lthi gc12 bx5.2
    have l12f_x5 : (1 : Int) ≤ x5.toInt := ai_ltlo gc12 bx11.1
    refine lv_iconst (v := 1) hx hb dX6_placeOf_15 zk_iconst_1 ?_
    refine lv_goto (tgt := 20) hx hb dX6_placeOf_16 (by decide) ?_
    refine lv_istore_n (lv' := [(3, .int 1), (0, .ref a0), (1, .int a1), (2, .int a2)]) hx hb dX6_placeOf_20 rfl hl (by decide) rfl (fun ls hl => ?_)
    refine lv_iload_n hx hb dX6_placeOf_21 rfl (lv_at hl 0 rfl) ?_
    refine lv_if_eq (tgt := 41) hx hb dX6_placeOf_22 (by decide) (fun c22 => absurd c22 (by decide +kernel)) (fun _ => ?_)
    refine lv_aload_n hx hb dX6_placeOf_25 rfl (lv_at hl 1 rfl) ?_
    refine va_get (D := (dC, dI)) (ci := 6) (v := .ref a0_3) (C := RX6) (T := TX6) (N := 4) hx hb hts zi_X6_placeOf_6 hown hK hP 0 rfl rfl 3 (by decide) (hts (.fieldLink RX6 15 "WaxTurns$Watchers" "to" "[I") (List.mem_cons_of_mem _ (List.mem_append_left _ (List.mem_of_getElem? (i := 0) rfl)))) (fun _ h9 => h9) rfl dX6_placeOf_26 ?_
    refine lv_iload_n hx hb dX6_placeOf_29 rfl (lv_at hl 2 rfl) ?_
    refine va_iald hx hb hK hP 1 0 rfl rfl (ai_in ba1_l ba1_u (by decide) (by decide)) dX6_placeOf_30 ?_
    refine ax_ti x5 ex5.symm ?_
    refine lv_aload_n hx hb dX6_placeOf_31 rfl (lv_at hl 1 rfl) ?_
    refine va_get (D := (dC, dI)) (ci := 6) (v := .ref a0_2) (C := RX6) (T := TX6) (N := 4) hx hb hts zi_X6_placeOf_6 hown hK hP 0 rfl rfl 2 (by decide) (hts (.fieldLink RX6 9 "WaxTurns$Watchers" "from" "[I") (List.mem_cons_of_mem _ (List.mem_append_left _ (List.mem_of_getElem? (i := 1) rfl)))) (fun _ h9 => h9) rfl dX6_placeOf_32 ?_
    refine lv_iload_n hx hb dX6_placeOf_35 rfl (lv_at hl 2 rfl) ?_
    refine va_iald hx hb hK hP 2 1 rfl rfl (ai_in ba1_l ba1_u (by decide) (by decide)) dX6_placeOf_36 ?_
    refine ax_ti x11 ex11.symm ?_
    refine lv_isub hx hb dX6_placeOf_37 ?_
    refine lv_topi (fun x37 ex37 => ?_)
    have qx37 : x37.toInt = x5.toInt - x11.toInt := ai_sub ex37 ⟨l12f_x5, bx5.2⟩ ⟨bx11.1, u12f_x11⟩ (by decide) (by decide)
    have bx37 : (-78 : Int) ≤ x37.toInt ∧ x37.toInt ≤ 80 := ⟨by rw [qx37]; exact Int.sub_le_sub l12f_x5 u12f_x11, by rw [qx37]; exact Int.sub_le_sub bx5.2 bx11.1⟩
    refine lv_goto (tgt := 54) hx hb dX6_placeOf_38 (by decide) ?_
    refine lv_istore (lv' := [(4, .int x37), (3, .int 1), (0, .ref a0), (1, .int a1), (2, .int a2)]) hx hb dX6_placeOf_54 hl (by decide) rfl (fun ls hl => ?_)
    refine lv_iload hx hb dX6_placeOf_56 (lv_at hl 0 rfl) ?_
    refine lv_if_gt (tgt := 68) hx hb dX6_placeOf_58 (by decide) (fun c58 => ?_) (fun c58 => ?_)
    · have gc58 := ai_lt c58
      have l58t_x37 : (1 : Int) ≤ x37.toInt := ai_ltlo gc58 zq5
      refine lv_iload_n hx hb dX6_placeOf_68 rfl (lv_at hl 4 rfl) ?_
      refine lv_iconst (v := 2) hx hb dX6_placeOf_69 zk_iconst_2 ?_
      refine lv_iload hx hb dX6_placeOf_70 (lv_at hl 0 rfl) ?_
      refine lv_imul hx hb dX6_placeOf_72 ?_
      refine lv_topi (fun x72 ex72 => ?_)
      have qx72 : x72.toInt = (2 : Int32).toInt * x37.toInt ∧ (2 : Int) ≤ x72.toInt ∧ x72.toInt ≤ 160 := ai_mul ex72 ⟨zq12, zq13⟩ ⟨l58t_x37, bx37.2⟩ (by decide) (by decide) zq14
      have wx72 : x72.toInt = 2 * x37.toInt := qx72.1
      refine lv_irem hx hb dX6_placeOf_73 (ai_nz qx72.2.1 (by decide)) ?_
      refine lv_topi (fun x73 ex73 => ?_)
      refine lv_istore (lv' := [(5, .int x73), (4, .int x37), (3, .int 1), (0, .ref a0), (1, .int a1), (2, .int a2)]) hx hb dX6_placeOf_74 hl (by decide) rfl (fun ls hl => ?_)
      refine lv_iload hx hb dX6_placeOf_76 (lv_at hl 0 rfl) ?_
      refine lv_iload hx hb dX6_placeOf_78 (lv_at hl 1 rfl) ?_
      refine lv_icmp_gt (tgt := 88) hx hb dX6_placeOf_80 (by decide) (fun c80 => ?_) (fun c80 => ?_)
      · have gc80 := ai_lt c80
        have u80t_x37 : x37.toInt ≤ (80 : Int) := bx37.2
        have l80t_x73 : (2 : Int) ≤ x73.toInt := ai_ltlo gc80 l58t_x37
        refine lv_iconst (v := 2) hx hb dX6_placeOf_88 zk_iconst_2 ?_
        refine lv_iload hx hb dX6_placeOf_89 (lv_at hl 1 rfl) ?_
        refine lv_imul hx hb dX6_placeOf_91 ?_
        refine ax_ti x72 ex72.symm ?_
        refine lv_iload hx hb dX6_placeOf_92 (lv_at hl 0 rfl) ?_
        refine lv_isub hx hb dX6_placeOf_94 ?_
        refine lv_topi (fun x94 ex94 => ?_)
        have qx94 : x94.toInt = x72.toInt - x73.toInt := ai_sub ex94 ⟨qx72.2.1, qx72.2.2⟩ ⟨l80t_x73, (ai_max x73)⟩ (by decide) (by decide)
        have bx94 : (-2147483645 : Int) ≤ x94.toInt ∧ x94.toInt ≤ 158 := ⟨by rw [qx94]; exact Int.sub_le_sub qx72.2.1 (ai_max x73), by rw [qx94]; exact Int.sub_le_sub qx72.2.2 l80t_x73⟩
        refine lv_istore (lv' := [(6, .int x94), (5, .int x73), (4, .int x37), (3, .int 1), (0, .ref a0), (1, .int a1), (2, .int a2)]) hx hb dX6_placeOf_95 hl (by decide) rfl (fun ls hl => ?_)
        refine lv_iload_n hx hb dX6_placeOf_97 rfl (lv_at hl 3 rfl) ?_
        refine lv_if_eq (tgt := 113) hx hb dX6_placeOf_98 (by decide) (fun c98 => absurd c98 (by decide +kernel)) (fun _ => ?_)
        refine lv_aload_n hx hb dX6_placeOf_101 rfl (lv_at hl 4 rfl) ?_
        refine va_get (D := (dC, dI)) (ci := 6) (v := .ref a0_2) (C := RX6) (T := TX6) (N := 4) hx hb hts zi_X6_placeOf_6 hown hK hP 0 rfl rfl 2 (by decide) (hts (.fieldLink RX6 9 "WaxTurns$Watchers" "from" "[I") (List.mem_cons_of_mem _ (List.mem_append_left _ (List.mem_of_getElem? (i := 1) rfl)))) (fun _ h9 => h9) rfl dX6_placeOf_102 ?_
        refine lv_iload_n hx hb dX6_placeOf_105 rfl (lv_at hl 5 rfl) ?_
        refine va_iald hx hb hK hP 2 1 rfl rfl (ai_in ba1_l ba1_u (by decide) (by decide)) dX6_placeOf_106 ?_
        refine ax_ti x11 ex11.symm ?_
        refine lv_iload hx hb dX6_placeOf_107 (lv_at hl 0 rfl) ?_
        refine lv_iadd hx hb dX6_placeOf_109 ?_
        refine lv_topi (fun x109 ex109 => ?_)
        have qx109 : x109.toInt = x11.toInt + x94.toInt := ai_add ex109 ⟨bx11.1, u12f_x11⟩ ⟨bx94.1, bx94.2⟩ (by decide) (by decide)
        have bx109 : (-2147483645 : Int) ≤ x109.toInt ∧ x109.toInt ≤ 237 := ⟨by rw [qx109]; exact Int.add_le_add bx11.1 bx94.1, by rw [qx109]; exact Int.add_le_add u12f_x11 bx94.2⟩
        refine lv_goto (tgt := 122) hx hb dX6_placeOf_110 (by decide) ?_
        exact W.iret (v := x109) hx hb hr (fun t ht hW => ⟨⟨x109, (), rfl, trivial, by rw [ht]; exact hP, va_K.moved hW.alike hK, hD⟩, hS.F ht⟩) hS.2.2 dX6_placeOf_122
      · have gc80 := ai_nlt c80
        have u80f_x73 : x73.toInt ≤ (80 : Int) := Int.le_trans gc80 bx37.2
        refine lv_iload hx hb dX6_placeOf_83 (lv_at hl 0 rfl) ?_
        refine lv_goto (tgt := 95) hx hb dX6_placeOf_85 (by decide) ?_
        refine lv_istore (lv' := [(6, .int x73), (5, .int x73), (4, .int x37), (3, .int 1), (0, .ref a0), (1, .int a1), (2, .int a2)]) hx hb dX6_placeOf_95 hl (by decide) rfl (fun ls hl => ?_)
        refine lv_iload_n hx hb dX6_placeOf_97 rfl (lv_at hl 3 rfl) ?_
        refine lv_if_eq (tgt := 113) hx hb dX6_placeOf_98 (by decide) (fun c98 => absurd c98 (by decide +kernel)) (fun _ => ?_)
        refine lv_aload_n hx hb dX6_placeOf_101 rfl (lv_at hl 4 rfl) ?_
        refine va_get (D := (dC, dI)) (ci := 6) (v := .ref a0_2) (C := RX6) (T := TX6) (N := 4) hx hb hts zi_X6_placeOf_6 hown hK hP 0 rfl rfl 2 (by decide) (hts (.fieldLink RX6 9 "WaxTurns$Watchers" "from" "[I") (List.mem_cons_of_mem _ (List.mem_append_left _ (List.mem_of_getElem? (i := 1) rfl)))) (fun _ h9 => h9) rfl dX6_placeOf_102 ?_
        refine lv_iload_n hx hb dX6_placeOf_105 rfl (lv_at hl 5 rfl) ?_
        refine va_iald hx hb hK hP 2 1 rfl rfl (ai_in ba1_l ba1_u (by decide) (by decide)) dX6_placeOf_106 ?_
        refine ax_ti x11 ex11.symm ?_
        refine lv_iload hx hb dX6_placeOf_107 (lv_at hl 0 rfl) ?_
        refine lv_iadd hx hb dX6_placeOf_109 ?_
        refine lv_topi (fun x109 ex109 => ?_)
        have qx109 : x109.toInt = x11.toInt + x73.toInt := ai_add ex109 ⟨bx11.1, u12f_x11⟩ ⟨(ai_min x73), u80f_x73⟩ (by decide) (by decide)
        have bx109 : (-2147483648 : Int) ≤ x109.toInt ∧ x109.toInt ≤ 159 := ⟨by rw [qx109]; exact Int.add_le_add bx11.1 (ai_min x73), by rw [qx109]; exact Int.add_le_add u12f_x11 u80f_x73⟩
        refine lv_goto (tgt := 122) hx hb dX6_placeOf_110 (by decide) ?_
        exact W.iret (v := x109) hx hb hr (fun t ht hW => ⟨⟨x109, (), rfl, trivial, by rw [ht]; exact hP, va_K.moved hW.alike hK, hD⟩, hS.F ht⟩) hS.2.2 dX6_placeOf_122
    · have gc58 := ai_nlt c58
      have u58f_x37 : x37.toInt ≤ (0 : Int) := Int.le_trans gc58 zq6
      refine lv_aload_n hx hb dX6_placeOf_61 rfl (lv_at hl 2 rfl) ?_
      refine va_get (D := (dC, dI)) (ci := 6) (v := .ref a0_2) (C := RX6) (T := TX6) (N := 4) hx hb hts zi_X6_placeOf_6 hown hK hP 0 rfl rfl 2 (by decide) (hts (.fieldLink RX6 9 "WaxTurns$Watchers" "from" "[I") (List.mem_cons_of_mem _ (List.mem_append_left _ (List.mem_of_getElem? (i := 1) rfl)))) (fun _ h9 => h9) rfl dX6_placeOf_62 ?_
      refine lv_iload_n hx hb dX6_placeOf_65 rfl (lv_at hl 3 rfl) ?_
      refine va_iald hx hb hK hP 2 1 rfl rfl (ai_in ba1_l ba1_u (by decide) (by decide)) dX6_placeOf_66 ?_
      refine ax_ti x11 ex11.symm ?_
      exact W.iret (v := x11) hx hb hr (fun t ht hW => ⟨⟨x11, (), rfl, trivial, by rw [ht]; exact hP, va_K.moved hW.alike hK, hD⟩, hS.F ht⟩) hS.2.2 dX6_placeOf_67

set_option maxHeartbeats 4000000 in
set_option maxRecDepth 100000 in
theorem c_X6_placesIn (l : Launch) (dC : Nat → ClassId) (dI : Nat → Nat → Nat) (sz : Nat) (a0 : Nat) (a1 : Int32) (a0_0 : Int32) (a0_1 : Int32) (a0_2 : Nat) (a0_3 : Nat) (ka0_3 : ClassId) (fa0_3 : Nat → Int32) (ka0_2 : ClassId) (fa0_2 : Nat → Int32) (ba0_0_l : (0 : Int) ≤ a0_0.toInt) (ba0_0_u : a0_0.toInt ≤ (3 : Int)) (bfa0_3 : (∀ k, (0 : Int) ≤ (fa0_3 k).toInt ∧ (fa0_3 k).toInt ≤ 80)) (bfa0_2 : (∀ k, (0 : Int) ≤ (fa0_2 k).toInt ∧ (fa0_2 k).toInt ≤ 80)) : zm l yX6_placesIn wsX6_placesIn ({ frames := 1, cells := 0, slots := 0, locals := 26 }) [.ref a0, .int a1] dC dI sz [(a0, .inr (6, [.int a0_0, .int a0_1, .ref a0_2, .ref a0_3])), (a0_3, .inl (ka0_3, 3, .inl (fa0_3))), (a0_2, .inl (ka0_2, 3, .inl (fa0_2)))] [(ka0_3, .int), (ka0_2, .int)] (fun A _ => True) (fun A => va_Qi (fun (r : Int32) (_ : Unit) => True) (fun (_ : Unit) (t : State) => ax_B dC dI A [(a0, .inr (6, [.int a0_0, .int a0_1, .ref a0_2, .ref a0_3])), (a0_3, .inl (ka0_3, 3, .inl (fa0_3))), (a0_2, .inl (ka0_2, 3, .inl (fa0_2)))] [(ka0_3, .int), (ka0_2, .int)] t) A) := by
  refine zh (cc := cX6_placesIn) (maxL := 4) (ret := (some .int)) zn_RX6 rfl (Nat.le_of_ble_eq_true rfl) (fun p e s m below meth c A ls hx hb hml hr hts (hown : s.vm.findClass RX6 = some m.cls) hlocks hA hS hP hK hD hE (hl : lv_has ls 4 [(0, .ref a0), (1, .int a1)]) => ?_)
  refine ai_open (fun K hK0 => ?_)
  refine (hK0 _ _ _).mpr ?_
  refine lv_aload_n hx hb dX6_placesIn_0 rfl (lv_at hl 0 rfl) ?_
  refine va_get (D := (dC, dI)) (ci := 6) (v := .int a0_1) (C := RX6) (T := TX6) (N := 4) hx hb hts zi_X6_placesIn_6 hown hK hP 0 rfl rfl 1 (by decide) (hts (.fieldLink RX6 22 "WaxTurns$Watchers" "posts" "I") (List.mem_cons_of_mem _ (List.mem_append_left _ (List.mem_of_getElem? (i := 0) rfl)))) (fun _ h9 => h9) rfl dX6_placesIn_1 ?_
  refine lv_istore_n (lv' := [(2, .int a0_1), (0, .ref a0), (1, .int a1)]) hx hb dX6_placesIn_4 rfl hl (by decide) rfl (fun ls hl => ?_)
  refine lv_iconst (v := 0) hx hb dX6_placesIn_5 zk_iconst_0 ?_
  refine lv_istore_n (lv' := [(3, .int 0), (2, .int a0_1), (0, .ref a0), (1, .int a1)]) hx hb dX6_placesIn_6 rfl hl (by decide) rfl (fun ls hl => ?_)
  have J7 : ∀ (n : Nat) (j7l3 : Int32) (j7l2 : Int32) (H : Heap) (locs : List Loc) (ls : Array Slot), (4 : Int) - j7l3.toInt ≤ (n : Int) → (0 : Int) ≤ j7l3.toInt → j7l3.toInt ≤ (3 : Int) → va_P (dC, dI) vwCl [(a0, .inr (6, [.int a0_0, .int a0_1, .ref a0_2, .ref a0_3])), (a0_3, .inl (ka0_3, 3, .inl (fa0_3))), (a0_2, .inl (ka0_2, 3, .inl (fa0_2)))] H → va_D A [(a0, .inr (6, [.int a0_0, .int a0_1, .ref a0_2, .ref a0_3])), (a0_3, .inl (ka0_3, 3, .inl (fa0_3))), (a0_2, .inl (ka0_2, 3, .inl (fa0_2)))] → va_S A s.heap H locs → lv_has ls 4 [(0, .ref a0), (1, .int a1), (2, .int j7l2), (3, .int j7l3)] → K H locs (F0 m 7 ls []) := by
    intro n
    induction n with
    | zero =>
      intro j7l3 j7l2 H locs ls hm bj7l3_l bj7l3_u hP hD hS hl
      have h8 := ai_min j7l3
      have h9 := ai_max j7l3
      exact absurd hm (by omega)
    | succ n ih7 =>
      intro j7l3 j7l2 H locs ls hm bj7l3_l bj7l3_u hP hD hS hl
      refine (hK0 _ _ _).mpr ?_
      have hm7 := hm
      refine lv_iload_n hx hb dX6_placesIn_7 rfl (lv_at hl 3 rfl) ?_
      refine lv_aload_n hx hb dX6_placesIn_8 rfl (lv_at hl 0 rfl) ?_
      refine va_get (D := (dC, dI)) (ci := 6) (v := .int a0_0) (C := RX6) (T := TX6) (N := 4) hx hb hts zi_X6_placesIn_6 hown hK hP 0 rfl rfl 0 (by decide) (hts (.fieldLink RX6 18 "WaxTurns$Watchers" "count" "I") (List.mem_cons_of_mem _ (List.mem_append_left _ (List.mem_of_getElem? (i := 1) rfl)))) (fun _ h9 => h9) rfl dX6_placesIn_9 ?_
      refine lv_icmp_ge (tgt := 32) hx hb dX6_placesIn_12 (by decide) (fun c12 => ?_) (fun c12 => ?_)
      · have gc12 := ai_le c12
        have u12t_a0_0 : a0_0.toInt ≤ (3 : Int) := ba0_0_u
        have l12t_j7l3 : (0 : Int) ≤ j7l3.toInt := bj7l3_l
        refine lv_iload_n hx hb dX6_placesIn_32 rfl (lv_at hl 2 rfl) ?_
        exact W.iret (v := j7l2) hx hb hr (fun t ht hW => ⟨⟨j7l2, (), rfl, trivial, by rw [ht]; exact hP, va_K.moved hW.alike hK, hD⟩, hS.F ht⟩) hS.2.2 dX6_placesIn_33
      · have gc12 := ai_nle c12
        have u12f_j7l3 : j7l3.toInt ≤ (2 : Int) := ai_lthi gc12 ba0_0_u
        have l12f_a0_0 : (1 : Int) ≤ a0_0.toInt := ai_ltlo gc12 bj7l3_l
        refine lv_iload_n hx hb dX6_placesIn_15 rfl (lv_at hl 2 rfl) ?_
        refine lv_iconst (v := 1) hx hb dX6_placesIn_16 zk_iconst_1 ?_
        refine lv_aload_n hx hb dX6_placesIn_17 rfl (lv_at hl 0 rfl) ?_
        refine lv_iload_n hx hb dX6_placesIn_18 rfl (lv_at hl 3 rfl) ?_
        refine lv_iload_n hx hb dX6_placesIn_19 rfl (lv_at hl 1 rfl) ?_
        have hKc := hK.sub (tys' := [(ka0_3, .int), (ka0_2, .int)]) [0, 1] rfl
        refine va_calli (va_runV (As := [.int j7l3, .int a1]) (rest := [.int 1, .int j7l2]) ⟨hx, hb, hml, hown, hts⟩ (c_X6_placeOf l dC dI H.size a0 j7l3 a1 (.int a0_0) (.int a0_1) a0_2 a0_3 ka0_3 fa0_3 ka0_2 fa0_2 bj7l3_l u12f_j7l3 bfa0_3 bfa0_2) (cwV 2 hts gX6_placesIn_X6_placeOf rfl rfl rfl zd_X6_placeOf ⟨Nat.le_of_ble_eq_true rfl, Nat.le_of_ble_eq_true rfl⟩) ⟨ax_blind (fun _ _ _ _ _ => trivial), zr_6 hKc (zp_P3 hP) (q0 := 0) rfl, ax_pre (zp_P3 hP) hKc (zp_D3 hD) (fun _ _ => trivial)⟩ rfl rfl hl.1 rfl (lv_room (Nat.le_of_ble_eq_true rfl)) dX6_placesIn_20 ⟨Nat.le_of_ble_eq_true rfl, Nat.le_of_ble_eq_true rfl⟩) hS (fun q _ h => zp_F3 hD hS hA q h) (zp_F3 hD hS hA) (fun r20 u t H locs ht hvm hw hB hz1 hk1 hS1 => zo3 hB ht hP hD hk1 (zp_F3 hD hS hA) hS1 (fun hP hK1 hD hS => ?_))
        refine lv_ishl hx hb dX6_placesIn_23 ?_
        refine lv_topi (fun x23 ex23 => ?_)
        refine lv_ior hx hb dX6_placesIn_24 ?_
        refine lv_topi (fun x24 ex24 => ?_)
        refine lv_istore_n (lv' := [(2, .int x24), (0, .ref a0), (1, .int a1), (3, .int j7l3)]) hx hb dX6_placesIn_25 rfl hl (by decide) rfl (fun ls hl => ?_)
        obtain ⟨x26, ex26⟩ : ∃ y : Int32, y = j7l3 + Int32.ofInt 1 := ⟨_, rfl⟩
        have qx26 : x26.toInt = j7l3.toInt + 1 := ai_inc ex26 (by decide) (by decide) u12f_j7l3 (by decide)
        have bx26 : (1 : Int) ≤ x26.toInt ∧ x26.toInt ≤ 3 := ⟨by rw [qx26]; exact Int.add_le_add bj7l3_l (Int.le_refl _), by rw [qx26]; exact Int.add_le_add u12f_j7l3 (Int.le_refl _)⟩
        refine lv_iinc (v := x26) (lv' := [(3, .int x26), (2, .int x24), (0, .ref a0), (1, .int a1)]) hx hb dX6_placesIn_26 hl (k := 3) rfl ex26.symm (by decide) rfl (fun ls hl => ?_)
        refine lv_goto (tgt := 7) hx hb dX6_placesIn_29 (by decide) ?_
        exact (hK0 _ _ _).mp (ih7 x26 x24 _ _ _ (by have h0 := qx26; omega) (Int.le_trans zq4 bx26.1) bx26.2 hP hD hS (lv_sub hl [2, 3, 1, 0] rfl))
  exact (hK0 _ _ _).mp (J7 4 0 a0_1 _ _ _ (by have h1 : (0 : Int) ≤ (0 : Int32).toInt := zq5; have h2 : (0 : Int32).toInt ≤ (0 : Int) := zq6; omega) zq5 (Int.le_trans zq6 zq11) hP hD hS (lv_sub hl [2, 3, 1, 0] rfl))
end P100_safe
section P101_safe
set_option maxHeartbeats 4000000 in
set_option maxRecDepth 100000 in
theorem c_X0_next (l : Launch) (dC : Nat → ClassId) (dI : Nat → Nat → Nat) (sz : Nat) (a0 : Nat) (a1 : Int32) (a0_0 : Int32) (a0g_1 a0g_2 a0g_3 a0g_4 a0g_7 a0g_8 a0g_9 a0g_10 a0g_11 a0g_12 a0g_13 a0g_14 : Value) (a0_5 : Int32) (a0_6 : Int32) (ba1_l : (0 : Int) ≤ a1.toInt) (ba1_u : a1.toInt ≤ (8 : Int)) (ba0_0_l : (0 : Int) ≤ a0_0.toInt) (ba0_0_u : a0_0.toInt ≤ (9 : Int)) (ba0_5_l : (0 : Int) ≤ a0_5.toInt) (ba0_5_u : a0_5.toInt ≤ (8 : Int)) (ba0_6_l : (0 : Int) ≤ a0_6.toInt) (ba0_6_u : a0_6.toInt ≤ (8 : Int)) : zm l yX0_next wsX0_next ({ frames := 0, cells := 0, slots := 0, locals := 0 }) [.ref a0, .int a1] dC dI sz [(a0, .inr (0, [.int a0_0, a0g_1, a0g_2, a0g_3, a0g_4, .int a0_5, .int a0_6, a0g_7, a0g_8, a0g_9, a0g_10, a0g_11, a0g_12, a0g_13, a0g_14]))] [] (fun A _ => True) (fun A => va_Qi (fun (r : Int32) (_ : Unit) => (0 : Int) ≤ r.toInt ∧ r.toInt ≤ (8 : Int)) (fun (_ : Unit) (t : State) => ax_B dC dI A [(a0, .inr (0, [.int a0_0, a0g_1, a0g_2, a0g_3, a0g_4, .int a0_5, .int a0_6, a0g_7, a0g_8, a0g_9, a0g_10, a0g_11, a0g_12, a0g_13, a0g_14]))] [] t) A) := by
  refine zh (cc := cX0_next) (maxL := 2) (ret := (some .int)) zn_RX0 rfl (Nat.le_of_ble_eq_true rfl) (fun p e s m below meth c A ls hx hb hml hr hts (hown : s.vm.findClass RX0 = some m.cls) hlocks hA hS hP hK hD hE (hl : lv_has ls 2 [(0, .ref a0), (1, .int a1)]) => ?_)
  refine lv_aload_n hx hb dX0_next_0 rfl (lv_at hl 0 rfl) ?_
  refine va_get (D := (dC, dI)) (ci := 0) (v := .int a0_0) (C := RX0) (T := TX0) (N := 15) hx hb hts zi_X0_next_0 hown hK hP 0 rfl rfl 0 (by decide) (hts (.fieldLink RX0 31 "WaxTurns$Hall" "figures" "I") (List.mem_cons_of_mem _ (List.mem_append_left _ (List.mem_of_getElem? (i := 0) rfl)))) (fun _ h9 => h9) rfl dX0_next_1 ?_
  refine lv_if_gt (tgt := 11) hx hb dX0_next_4 (by decide) (fun c4 => ?_) (fun c4 => ?_)
  · have gc4 := ai_lt c4
    have l4t_a0_0 : (1 : Int) ≤ a0_0.toInt := ai_ltlo gc4 zq5
    refine lv_iload_n hx hb dX0_next_11 rfl (lv_at hl 1 rfl) ?_
    refine lv_aload_n hx hb dX0_next_12 rfl (lv_at hl 0 rfl) ?_
    refine va_get (D := (dC, dI)) (ci := 0) (v := .int a0_5) (C := RX0) (T := TX0) (N := 15) hx hb hts zi_X0_next_0 hown hK hP 0 rfl rfl 5 (by decide) (hts (.fieldLink RX0 63 "WaxTurns$Hall" "times" "I") (List.mem_cons_of_mem _ (List.mem_append_left _ (List.mem_of_getElem? (i := 1) rfl)))) (fun _ h9 => h9) rfl dX0_next_13 ?_
    refine lv_imul hx hb dX0_next_16 ?_
    refine lv_topi (fun x16 ex16 => ?_)
    have qx16 : x16.toInt = a1.toInt * a0_5.toInt ∧ (0 : Int) ≤ x16.toInt ∧ x16.toInt ≤ 64 := ai_mul ex16 ⟨ba1_l, ba1_u⟩ ⟨ba0_5_l, ba0_5_u⟩ (by decide) (by decide) zq18
    refine lv_aload_n hx hb dX0_next_17 rfl (lv_at hl 0 rfl) ?_
    refine va_get (D := (dC, dI)) (ci := 0) (v := .int a0_6) (C := RX0) (T := TX0) (N := 15) hx hb hts zi_X0_next_0 hown hK hP 0 rfl rfl 6 (by decide) (hts (.fieldLink RX0 66 "WaxTurns$Hall" "plus" "I") (List.mem_cons_of_mem _ (List.mem_append_left _ (List.mem_of_getElem? (i := 2) rfl)))) (fun _ h9 => h9) rfl dX0_next_18 ?_
    refine lv_iadd hx hb dX0_next_21 ?_
    refine lv_topi (fun x21 ex21 => ?_)
    have qx21 : x21.toInt = x16.toInt + a0_6.toInt := ai_add ex21 ⟨qx16.2.1, qx16.2.2⟩ ⟨ba0_6_l, ba0_6_u⟩ (by decide) (by decide)
    have bx21 : (0 : Int) ≤ x21.toInt ∧ x21.toInt ≤ 72 := ⟨by rw [qx21]; exact Int.add_le_add qx16.2.1 ba0_6_l, by rw [qx21]; exact Int.add_le_add qx16.2.2 ba0_6_u⟩
    refine lv_aload_n hx hb dX0_next_22 rfl (lv_at hl 0 rfl) ?_
    refine va_get (D := (dC, dI)) (ci := 0) (v := .int a0_0) (C := RX0) (T := TX0) (N := 15) hx hb hts zi_X0_next_0 hown hK hP 0 rfl rfl 0 (by decide) (hts (.fieldLink RX0 31 "WaxTurns$Hall" "figures" "I") (List.mem_cons_of_mem _ (List.mem_append_left _ (List.mem_of_getElem? (i := 0) rfl)))) (fun _ h9 => h9) rfl dX0_next_23 ?_
    refine lv_irem hx hb dX0_next_26 (ai_nz l4t_a0_0 (by decide)) ?_
    refine lv_topi (fun x26 ex26 => ?_)
    have qx26 := ai_rem2 ex26 bx21.1 (Int.lt_of_lt_of_le zq19 l4t_a0_0) ba0_0_u
    exact W.iret (v := x26) hx hb hr (fun t ht hW => ⟨⟨x26, (), rfl, ⟨qx26.2.1, qx26.2.2⟩, by rw [ht]; exact hP, va_K.moved hW.alike hK, hD⟩, hS.F ht⟩) hS.2.2 dX0_next_27
  · have gc4 := ai_nlt c4
    have u4f_a0_0 : a0_0.toInt ≤ (0 : Int) := Int.le_trans gc4 zq6
    refine lv_iconst (v := 0) hx hb dX0_next_7 zk_iconst_0 ?_
    refine lv_goto (tgt := 27) hx hb dX0_next_8 (by decide) ?_
    exact W.iret (v := 0) hx hb hr (fun t ht hW => ⟨⟨0, (), rfl, ⟨zq5, (Int.le_trans zq6 zq20)⟩, by rw [ht]; exact hP, va_K.moved hW.alike hK, hD⟩, hS.F ht⟩) hS.2.2 dX0_next_27

set_option maxHeartbeats 4000000 in
set_option maxRecDepth 100000 in
theorem c_X7_laterTurn8 (l : Launch) (dC : Nat → ClassId) (dI : Nat → Nat → Nat) (sz : Nat) (a1 : Int32) (a2 : Int32) (a3 : Int32) (a4 : Int32) (a5 : Int32) (ba1_l : (0 : Int) ≤ a1.toInt) (ba1_u : a1.toInt ≤ (9 : Int)) (ba2_l : (0 : Int) ≤ a2.toInt) (ba2_u : a2.toInt ≤ (8 : Int)) (ba3_l : (0 : Int) ≤ a3.toInt) (ba3_u : a3.toInt ≤ (8 : Int)) (ba4_l : (0 : Int) ≤ a4.toInt) (ba4_u : a4.toInt ≤ (8 : Int)) : zm l yX7_laterTurn wsX7_laterTurn ({ frames := 0, cells := 0, slots := 0, locals := 0 }) [.int a1, .int a2, .int a3, .int a4, .int a5] dC dI sz [] [] (fun A _ => True) (fun A => va_Qi (fun (r : Int32) (_ : Unit) => (0 : Int) ≤ r.toInt ∧ r.toInt ≤ (8 : Int)) (fun (_ : Unit) (t : State) => ax_B dC dI A [] [] t) A) := by
  refine zh (cc := cX7_laterTurn) (maxL := 9) (ret := (some .int)) zn_RX7 rfl (Nat.le_of_ble_eq_true rfl) (fun p e s m below meth c A ls hx hb hml hr hts (hown : s.vm.findClass RX7 = some m.cls) hlocks hA hS hP hK hD hE (hl : lv_has ls 9 [(0, .int a1), (1, .int a2), (2, .int a3), (3, .int a4), (4, .int a5)]) => ?_)
  refine ai_open (fun K hK0 => ?_)
  refine (hK0 _ _ _).mpr ?_
  refine lv_iload_n hx hb dX7_laterTurn_0 rfl (lv_at hl 0 rfl) ?_
  refine lv_if_gt (tgt := 6) hx hb dX7_laterTurn_1 (by decide) (fun c1 => ?_) (fun c1 => ?_)
  · have gc1 := ai_lt c1
    have l1t_a1 : (1 : Int) ≤ a1.toInt := ai_ltlo gc1 zq5
    refine lv_iload_n hx hb dX7_laterTurn_6 rfl (lv_at hl 1 rfl) ?_
    refine lv_istore (lv' := [(5, .int a2), (0, .int a1), (1, .int a2), (2, .int a3), (3, .int a4), (4, .int a5)]) hx hb dX7_laterTurn_7 hl (by decide) rfl (fun ls hl => ?_)
    refine lv_iload_n hx hb dX7_laterTurn_9 rfl (lv_at hl 3 rfl) ?_
    refine lv_istore (lv' := [(6, .int a3), (5, .int a2), (0, .int a1), (1, .int a2), (2, .int a3), (3, .int a4), (4, .int a5)]) hx hb dX7_laterTurn_10 hl (by decide) rfl (fun ls hl => ?_)
    refine lv_iload_n hx hb dX7_laterTurn_12 rfl (lv_at hl 5 rfl) ?_
    refine lv_istore (lv' := [(7, .int a4), (6, .int a3), (5, .int a2), (0, .int a1), (1, .int a2), (2, .int a3), (3, .int a4), (4, .int a5)]) hx hb dX7_laterTurn_13 hl (by decide) rfl (fun ls hl => ?_)
    refine lv_iload hx hb dX7_laterTurn_15 (lv_at hl 7 rfl) ?_
    refine lv_istore (lv' := [(8, .int a5), (7, .int a4), (6, .int a3), (5, .int a2), (0, .int a1), (1, .int a2), (2, .int a3), (3, .int a4), (4, .int a5)]) hx hb dX7_laterTurn_17 hl (by decide) rfl (fun ls hl => ?_)
    have J19 : ∀ (n : Nat) (j19l8 : Int32) (j19l7 : Int32) (j19l6 : Int32) (j19l5 : Int32) (H : Heap) (locs : List Loc) (ls : Array Slot), j19l8.toInt - (-2147483649 : Int) ≤ (n : Int) → (0 : Int) ≤ j19l7.toInt → j19l7.toInt ≤ (8 : Int) → (0 : Int) ≤ j19l6.toInt → j19l6.toInt ≤ (8 : Int) → (0 : Int) ≤ j19l5.toInt → j19l5.toInt ≤ (8 : Int) → va_P (dC, dI) vwCl [] H → va_D A [] → va_S A s.heap H locs → lv_has ls 9 [(0, .int a1), (5, .int j19l5), (6, .int j19l6), (7, .int j19l7), (8, .int j19l8)] → K H locs (F0 m 19 ls []) := by
      intro n
      induction n with
      | zero =>
        intro j19l8 j19l7 j19l6 j19l5 H locs ls hm bj19l7_l bj19l7_u bj19l6_l bj19l6_u bj19l5_l bj19l5_u hP hD hS hl
        have h8 := ai_min j19l8
        have h9 := ai_max j19l8
        exact absurd hm (by omega)
      | succ n ih19 =>
        intro j19l8 j19l7 j19l6 j19l5 H locs ls hm bj19l7_l bj19l7_u bj19l6_l bj19l6_u bj19l5_l bj19l5_u hP hD hS hl
        refine (hK0 _ _ _).mpr ?_
        have hm19 := hm
        refine lv_iload hx hb dX7_laterTurn_19 (lv_at hl 4 rfl) ?_
        refine lv_if_le (tgt := 74) hx hb dX7_laterTurn_21 (by decide) (fun c21 => ?_) (fun c21 => ?_)
        · have gc21 := ai_le c21
          have u21t_j19l8 : j19l8.toInt ≤ (0 : Int) := Int.le_trans gc21 zq6
          refine lv_iload hx hb dX7_laterTurn_74 (lv_at hl 3 rfl) ?_
          exact W.iret (v := j19l7) hx hb hr (fun t ht hW => ⟨⟨j19l7, (), rfl, ⟨bj19l7_l, bj19l7_u⟩, by rw [ht]; exact hP, va_K.moved hW.alike hK, hD⟩, hS.F ht⟩) hS.2.2 dX7_laterTurn_76
        · have gc21 := ai_nle c21
          have l21f_j19l8 : (1 : Int) ≤ j19l8.toInt := ai_ltlo gc21 zq5
          refine lv_iload hx hb dX7_laterTurn_24 (lv_at hl 4 rfl) ?_
          refine lv_iconst (v := 1) hx hb dX7_laterTurn_26 zk_iconst_1 ?_
          refine lv_iand hx hb dX7_laterTurn_27 ?_
          refine lv_topi (fun x27 ex27 => ?_)
          refine lv_iconst (v := 1) hx hb dX7_laterTurn_28 zk_iconst_1 ?_
          have J44 : ∀ (j44l7 : Int32) (H : Heap) (locs : List Loc) (ls : Array Slot), (0 : Int) ≤ j44l7.toInt → j44l7.toInt ≤ (8 : Int) → va_P (dC, dI) vwCl [] H → va_D A [] → va_S A s.heap H locs → lv_has ls 9 [(0, .int a1), (5, .int j19l5), (6, .int j19l6), (7, .int j44l7), (8, .int j19l8)] → K H locs (F0 m 44 ls []) := by
            intro j44l7 H locs ls  bj44l7_l bj44l7_u hP hD hS hl
            refine (hK0 _ _ _).mpr ?_
            refine lv_iload hx hb dX7_laterTurn_44 (lv_at hl 2 rfl) ?_
            refine lv_iload hx hb dX7_laterTurn_46 (lv_at hl 1 rfl) ?_
            refine lv_imul hx hb dX7_laterTurn_48 ?_
            refine lv_topi (fun x48 ex48 => ?_)
            have qx48 : x48.toInt = j19l6.toInt * j19l5.toInt ∧ (0 : Int) ≤ x48.toInt ∧ x48.toInt ≤ 64 := ai_mul ex48 ⟨bj19l6_l, bj19l6_u⟩ ⟨bj19l5_l, bj19l5_u⟩ (by decide) (by decide) zq18
            refine lv_iload hx hb dX7_laterTurn_49 (lv_at hl 2 rfl) ?_
            refine lv_iadd hx hb dX7_laterTurn_51 ?_
            refine lv_topi (fun x51 ex51 => ?_)
            have qx51 : x51.toInt = x48.toInt + j19l6.toInt := ai_add ex51 ⟨qx48.2.1, qx48.2.2⟩ ⟨bj19l6_l, bj19l6_u⟩ (by decide) (by decide)
            have bx51 : (0 : Int) ≤ x51.toInt ∧ x51.toInt ≤ 72 := ⟨by rw [qx51]; exact Int.add_le_add qx48.2.1 bj19l6_l, by rw [qx51]; exact Int.add_le_add qx48.2.2 bj19l6_u⟩
            refine lv_iload_n hx hb dX7_laterTurn_52 rfl (lv_at hl 0 rfl) ?_
            refine lv_irem hx hb dX7_laterTurn_53 (ai_nz l1t_a1 (by decide)) ?_
            refine lv_topi (fun x53 ex53 => ?_)
            have qx53 := ai_rem2 ex53 bx51.1 (Int.lt_of_lt_of_le zq19 l1t_a1) ba1_u
            refine lv_istore (lv' := [(6, .int x53), (0, .int a1), (5, .int j19l5), (7, .int j44l7), (8, .int j19l8)]) hx hb dX7_laterTurn_54 hl (by decide) rfl (fun ls hl => ?_)
            refine lv_iload hx hb dX7_laterTurn_56 (lv_at hl 2 rfl) ?_
            refine lv_iload hx hb dX7_laterTurn_58 (lv_at hl 2 rfl) ?_
            refine lv_imul hx hb dX7_laterTurn_60 ?_
            refine lv_topi (fun x60 ex60 => ?_)
            have qx60 : x60.toInt = j19l5.toInt * j19l5.toInt ∧ (0 : Int) ≤ x60.toInt ∧ x60.toInt ≤ 64 := ai_mul ex60 ⟨bj19l5_l, bj19l5_u⟩ ⟨bj19l5_l, bj19l5_u⟩ (by decide) (by decide) zq18
            refine lv_iload_n hx hb dX7_laterTurn_61 rfl (lv_at hl 1 rfl) ?_
            refine lv_irem hx hb dX7_laterTurn_62 (ai_nz l1t_a1 (by decide)) ?_
            refine lv_topi (fun x62 ex62 => ?_)
            have qx62 := ai_rem2 ex62 qx60.2.1 (Int.lt_of_lt_of_le zq19 l1t_a1) ba1_u
            refine lv_istore (lv' := [(5, .int x62), (6, .int x53), (0, .int a1), (7, .int j44l7), (8, .int j19l8)]) hx hb dX7_laterTurn_63 hl (by decide) rfl (fun ls hl => ?_)
            refine lv_iload hx hb dX7_laterTurn_65 (lv_at hl 4 rfl) ?_
            refine lv_iconst (v := 1) hx hb dX7_laterTurn_67 zk_iconst_1 ?_
            refine lv_ishr hx hb dX7_laterTurn_68 ?_
            refine lv_topi (fun x68 ex68 => ?_)
            have qx68 : x68.toInt = j19l8.toInt / 2 := ai_shr1 ex68
            have bx68 : (0 : Int) ≤ x68.toInt ∧ x68.toInt ≤ 1073741823 := by have h1 : (1 : Int) ≤ j19l8.toInt := l21f_j19l8; have h2 : j19l8.toInt ≤ (2147483647 : Int) := (ai_max j19l8); omega
            refine lv_istore (lv' := [(8, .int x68), (5, .int x62), (6, .int x53), (0, .int a1), (7, .int j44l7)]) hx hb dX7_laterTurn_69 hl (by decide) rfl (fun ls hl => ?_)
            refine lv_goto (tgt := 19) hx hb dX7_laterTurn_71 (by decide) ?_
            exact (hK0 _ _ _).mp (ih19 x68 j44l7 x53 x62 _ _ _ (by have h0 := qx68; omega) bj44l7_l bj44l7_u qx53.2.1 qx53.2.2 qx62.2.1 qx62.2.2 hP hD hS (lv_sub hl [3, 1, 2, 4, 0] rfl))
          refine lv_icmp_ne (tgt := 44) hx hb dX7_laterTurn_29 (by decide) (fun c29 => ?_) (fun c29 => ?_)
          · have gc29 := ai_ne c29
            exact (hK0 _ _ _).mp (J44 j19l7 _ _ _  bj19l7_l bj19l7_u hP hD hS (lv_sub hl [0, 1, 2, 3, 4] rfl))
          · have gc29 := ai_eq c29
            have u29f_x27 : x27.toInt ≤ (1 : Int) := Int.le_trans (Int.le_of_eq gc29) zq0
            have l29f_x27 : (1 : Int) ≤ x27.toInt := Int.le_trans zq1 (Int.le_of_eq gc29.symm)
            refine lv_iload hx hb dX7_laterTurn_32 (lv_at hl 3 rfl) ?_
            refine lv_iload hx hb dX7_laterTurn_34 (lv_at hl 1 rfl) ?_
            refine lv_imul hx hb dX7_laterTurn_36 ?_
            refine lv_topi (fun x36 ex36 => ?_)
            have qx36 : x36.toInt = j19l7.toInt * j19l5.toInt ∧ (0 : Int) ≤ x36.toInt ∧ x36.toInt ≤ 64 := ai_mul ex36 ⟨bj19l7_l, bj19l7_u⟩ ⟨bj19l5_l, bj19l5_u⟩ (by decide) (by decide) zq18
            refine lv_iload hx hb dX7_laterTurn_37 (lv_at hl 2 rfl) ?_
            refine lv_iadd hx hb dX7_laterTurn_39 ?_
            refine lv_topi (fun x39 ex39 => ?_)
            have qx39 : x39.toInt = x36.toInt + j19l6.toInt := ai_add ex39 ⟨qx36.2.1, qx36.2.2⟩ ⟨bj19l6_l, bj19l6_u⟩ (by decide) (by decide)
            have bx39 : (0 : Int) ≤ x39.toInt ∧ x39.toInt ≤ 72 := ⟨by rw [qx39]; exact Int.add_le_add qx36.2.1 bj19l6_l, by rw [qx39]; exact Int.add_le_add qx36.2.2 bj19l6_u⟩
            refine lv_iload_n hx hb dX7_laterTurn_40 rfl (lv_at hl 0 rfl) ?_
            refine lv_irem hx hb dX7_laterTurn_41 (ai_nz l1t_a1 (by decide)) ?_
            refine lv_topi (fun x41 ex41 => ?_)
            have qx41 := ai_rem2 ex41 bx39.1 (Int.lt_of_lt_of_le zq19 l1t_a1) ba1_u
            refine lv_istore (lv' := [(7, .int x41), (0, .int a1), (5, .int j19l5), (6, .int j19l6), (8, .int j19l8)]) hx hb dX7_laterTurn_42 hl (by decide) rfl (fun ls hl => ?_)
            exact (hK0 _ _ _).mp (J44 x41 _ _ _  qx41.2.1 qx41.2.2 hP hD hS (lv_sub hl [1, 2, 3, 0, 4] rfl))
    exact (hK0 _ _ _).mp (J19 4294967296 a5 a4 a3 a2 _ _ _ (by have h1 : (-2147483648 : Int) ≤ a5.toInt := (ai_min a5); have h2 : a5.toInt ≤ (2147483647 : Int) := (ai_max a5); omega) ba4_l ba4_u ba3_l ba3_u ba2_l ba2_u hP hD hS (lv_sub hl [4, 3, 2, 1, 0] rfl))
  · have gc1 := ai_nlt c1
    have u1f_a1 : a1.toInt ≤ (0 : Int) := Int.le_trans gc1 zq6
    refine lv_iconst (v := 0) hx hb dX7_laterTurn_4 zk_iconst_0 ?_
    exact W.iret (v := 0) hx hb hr (fun t ht hW => ⟨⟨0, (), rfl, ⟨zq5, (Int.le_trans zq6 zq20)⟩, by rw [ht]; exact hP, va_K.moved hW.alike hK, hD⟩, hS.F ht⟩) hS.2.2 dX7_laterTurn_5

set_option maxHeartbeats 4000000 in
set_option maxRecDepth 100000 in
theorem c_X7_laterTurn (l : Launch) (dC : Nat → ClassId) (dI : Nat → Nat → Nat) (sz : Nat) (a1 : Int32) (a2 : Int32) (a3 : Int32) (a4 : Int32) (a5 : Int32) (ba1_l : (0 : Int) ≤ a1.toInt) (ba1_u : a1.toInt ≤ (9 : Int)) (ba2_l : (0 : Int) ≤ a2.toInt) (ba2_u : a2.toInt ≤ (9 : Int)) (ba3_l : (0 : Int) ≤ a3.toInt) (ba3_u : a3.toInt ≤ (9 : Int)) (ba4_l : (0 : Int) ≤ a4.toInt) (ba4_u : a4.toInt ≤ (9 : Int)) : zm l yX7_laterTurn wsX7_laterTurn ({ frames := 0, cells := 0, slots := 0, locals := 0 }) [.int a1, .int a2, .int a3, .int a4, .int a5] dC dI sz [] [] (fun A _ => True) (fun A => va_Qi (fun (r : Int32) (_ : Unit) => (0 : Int) ≤ r.toInt ∧ r.toInt ≤ (9 : Int)) (fun (_ : Unit) (t : State) => ax_B dC dI A [] [] t) A) := by
  refine zh (cc := cX7_laterTurn) (maxL := 9) (ret := (some .int)) zn_RX7 rfl (Nat.le_of_ble_eq_true rfl) (fun p e s m below meth c A ls hx hb hml hr hts (hown : s.vm.findClass RX7 = some m.cls) hlocks hA hS hP hK hD hE (hl : lv_has ls 9 [(0, .int a1), (1, .int a2), (2, .int a3), (3, .int a4), (4, .int a5)]) => ?_)
  refine ai_open (fun K hK0 => ?_)
  refine (hK0 _ _ _).mpr ?_
  refine lv_iload_n hx hb dX7_laterTurn_0 rfl (lv_at hl 0 rfl) ?_
  refine lv_if_gt (tgt := 6) hx hb dX7_laterTurn_1 (by decide) (fun c1 => ?_) (fun c1 => ?_)
  · have gc1 := ai_lt c1
    have l1t_a1 : (1 : Int) ≤ a1.toInt := ai_ltlo gc1 zq5
    refine lv_iload_n hx hb dX7_laterTurn_6 rfl (lv_at hl 1 rfl) ?_
    refine lv_istore (lv' := [(5, .int a2), (0, .int a1), (1, .int a2), (2, .int a3), (3, .int a4), (4, .int a5)]) hx hb dX7_laterTurn_7 hl (by decide) rfl (fun ls hl => ?_)
    refine lv_iload_n hx hb dX7_laterTurn_9 rfl (lv_at hl 3 rfl) ?_
    refine lv_istore (lv' := [(6, .int a3), (5, .int a2), (0, .int a1), (1, .int a2), (2, .int a3), (3, .int a4), (4, .int a5)]) hx hb dX7_laterTurn_10 hl (by decide) rfl (fun ls hl => ?_)
    refine lv_iload_n hx hb dX7_laterTurn_12 rfl (lv_at hl 5 rfl) ?_
    refine lv_istore (lv' := [(7, .int a4), (6, .int a3), (5, .int a2), (0, .int a1), (1, .int a2), (2, .int a3), (3, .int a4), (4, .int a5)]) hx hb dX7_laterTurn_13 hl (by decide) rfl (fun ls hl => ?_)
    refine lv_iload hx hb dX7_laterTurn_15 (lv_at hl 7 rfl) ?_
    refine lv_istore (lv' := [(8, .int a5), (7, .int a4), (6, .int a3), (5, .int a2), (0, .int a1), (1, .int a2), (2, .int a3), (3, .int a4), (4, .int a5)]) hx hb dX7_laterTurn_17 hl (by decide) rfl (fun ls hl => ?_)
    have J19 : ∀ (n : Nat) (j19l8 : Int32) (j19l7 : Int32) (j19l6 : Int32) (j19l5 : Int32) (H : Heap) (locs : List Loc) (ls : Array Slot), j19l8.toInt - (-2147483649 : Int) ≤ (n : Int) → (0 : Int) ≤ j19l7.toInt → j19l7.toInt ≤ (9 : Int) → (0 : Int) ≤ j19l6.toInt → j19l6.toInt ≤ (9 : Int) → (0 : Int) ≤ j19l5.toInt → j19l5.toInt ≤ (9 : Int) → va_P (dC, dI) vwCl [] H → va_D A [] → va_S A s.heap H locs → lv_has ls 9 [(0, .int a1), (5, .int j19l5), (6, .int j19l6), (7, .int j19l7), (8, .int j19l8)] → K H locs (F0 m 19 ls []) := by
      intro n
      induction n with
      | zero =>
        intro j19l8 j19l7 j19l6 j19l5 H locs ls hm bj19l7_l bj19l7_u bj19l6_l bj19l6_u bj19l5_l bj19l5_u hP hD hS hl
        have h8 := ai_min j19l8
        have h9 := ai_max j19l8
        exact absurd hm (by omega)
      | succ n ih19 =>
        intro j19l8 j19l7 j19l6 j19l5 H locs ls hm bj19l7_l bj19l7_u bj19l6_l bj19l6_u bj19l5_l bj19l5_u hP hD hS hl
        refine (hK0 _ _ _).mpr ?_
        have hm19 := hm
        refine lv_iload hx hb dX7_laterTurn_19 (lv_at hl 4 rfl) ?_
        refine lv_if_le (tgt := 74) hx hb dX7_laterTurn_21 (by decide) (fun c21 => ?_) (fun c21 => ?_)
        · have gc21 := ai_le c21
          have u21t_j19l8 : j19l8.toInt ≤ (0 : Int) := Int.le_trans gc21 zq6
          refine lv_iload hx hb dX7_laterTurn_74 (lv_at hl 3 rfl) ?_
          exact W.iret (v := j19l7) hx hb hr (fun t ht hW => ⟨⟨j19l7, (), rfl, ⟨bj19l7_l, bj19l7_u⟩, by rw [ht]; exact hP, va_K.moved hW.alike hK, hD⟩, hS.F ht⟩) hS.2.2 dX7_laterTurn_76
        · have gc21 := ai_nle c21
          have l21f_j19l8 : (1 : Int) ≤ j19l8.toInt := ai_ltlo gc21 zq5
          refine lv_iload hx hb dX7_laterTurn_24 (lv_at hl 4 rfl) ?_
          refine lv_iconst (v := 1) hx hb dX7_laterTurn_26 zk_iconst_1 ?_
          refine lv_iand hx hb dX7_laterTurn_27 ?_
          refine lv_topi (fun x27 ex27 => ?_)
          refine lv_iconst (v := 1) hx hb dX7_laterTurn_28 zk_iconst_1 ?_
          have J44 : ∀ (j44l7 : Int32) (H : Heap) (locs : List Loc) (ls : Array Slot), (0 : Int) ≤ j44l7.toInt → j44l7.toInt ≤ (9 : Int) → va_P (dC, dI) vwCl [] H → va_D A [] → va_S A s.heap H locs → lv_has ls 9 [(0, .int a1), (5, .int j19l5), (6, .int j19l6), (7, .int j44l7), (8, .int j19l8)] → K H locs (F0 m 44 ls []) := by
            intro j44l7 H locs ls  bj44l7_l bj44l7_u hP hD hS hl
            refine (hK0 _ _ _).mpr ?_
            refine lv_iload hx hb dX7_laterTurn_44 (lv_at hl 2 rfl) ?_
            refine lv_iload hx hb dX7_laterTurn_46 (lv_at hl 1 rfl) ?_
            refine lv_imul hx hb dX7_laterTurn_48 ?_
            refine lv_topi (fun x48 ex48 => ?_)
            have qx48 : x48.toInt = j19l6.toInt * j19l5.toInt ∧ (0 : Int) ≤ x48.toInt ∧ x48.toInt ≤ 81 := ai_mul ex48 ⟨bj19l6_l, bj19l6_u⟩ ⟨bj19l5_l, bj19l5_u⟩ (by decide) (by decide) zq21
            refine lv_iload hx hb dX7_laterTurn_49 (lv_at hl 2 rfl) ?_
            refine lv_iadd hx hb dX7_laterTurn_51 ?_
            refine lv_topi (fun x51 ex51 => ?_)
            have qx51 : x51.toInt = x48.toInt + j19l6.toInt := ai_add ex51 ⟨qx48.2.1, qx48.2.2⟩ ⟨bj19l6_l, bj19l6_u⟩ (by decide) (by decide)
            have bx51 : (0 : Int) ≤ x51.toInt ∧ x51.toInt ≤ 90 := ⟨by rw [qx51]; exact Int.add_le_add qx48.2.1 bj19l6_l, by rw [qx51]; exact Int.add_le_add qx48.2.2 bj19l6_u⟩
            refine lv_iload_n hx hb dX7_laterTurn_52 rfl (lv_at hl 0 rfl) ?_
            refine lv_irem hx hb dX7_laterTurn_53 (ai_nz l1t_a1 (by decide)) ?_
            refine lv_topi (fun x53 ex53 => ?_)
            have qx53 := ai_rem2 ex53 bx51.1 (Int.lt_of_lt_of_le zq19 l1t_a1) ba1_u
            refine lv_istore (lv' := [(6, .int x53), (0, .int a1), (5, .int j19l5), (7, .int j44l7), (8, .int j19l8)]) hx hb dX7_laterTurn_54 hl (by decide) rfl (fun ls hl => ?_)
            refine lv_iload hx hb dX7_laterTurn_56 (lv_at hl 2 rfl) ?_
            refine lv_iload hx hb dX7_laterTurn_58 (lv_at hl 2 rfl) ?_
            refine lv_imul hx hb dX7_laterTurn_60 ?_
            refine lv_topi (fun x60 ex60 => ?_)
            have qx60 : x60.toInt = j19l5.toInt * j19l5.toInt ∧ (0 : Int) ≤ x60.toInt ∧ x60.toInt ≤ 81 := ai_mul ex60 ⟨bj19l5_l, bj19l5_u⟩ ⟨bj19l5_l, bj19l5_u⟩ (by decide) (by decide) zq21
            refine lv_iload_n hx hb dX7_laterTurn_61 rfl (lv_at hl 1 rfl) ?_
            refine lv_irem hx hb dX7_laterTurn_62 (ai_nz l1t_a1 (by decide)) ?_
            refine lv_topi (fun x62 ex62 => ?_)
            have qx62 := ai_rem2 ex62 qx60.2.1 (Int.lt_of_lt_of_le zq19 l1t_a1) ba1_u
            refine lv_istore (lv' := [(5, .int x62), (6, .int x53), (0, .int a1), (7, .int j44l7), (8, .int j19l8)]) hx hb dX7_laterTurn_63 hl (by decide) rfl (fun ls hl => ?_)
            refine lv_iload hx hb dX7_laterTurn_65 (lv_at hl 4 rfl) ?_
            refine lv_iconst (v := 1) hx hb dX7_laterTurn_67 zk_iconst_1 ?_
            refine lv_ishr hx hb dX7_laterTurn_68 ?_
            refine lv_topi (fun x68 ex68 => ?_)
            have qx68 : x68.toInt = j19l8.toInt / 2 := ai_shr1 ex68
            have bx68 : (0 : Int) ≤ x68.toInt ∧ x68.toInt ≤ 1073741823 := by have h1 : (1 : Int) ≤ j19l8.toInt := l21f_j19l8; have h2 : j19l8.toInt ≤ (2147483647 : Int) := (ai_max j19l8); omega
            refine lv_istore (lv' := [(8, .int x68), (5, .int x62), (6, .int x53), (0, .int a1), (7, .int j44l7)]) hx hb dX7_laterTurn_69 hl (by decide) rfl (fun ls hl => ?_)
            refine lv_goto (tgt := 19) hx hb dX7_laterTurn_71 (by decide) ?_
            exact (hK0 _ _ _).mp (ih19 x68 j44l7 x53 x62 _ _ _ (by have h0 := qx68; omega) bj44l7_l bj44l7_u qx53.2.1 (Int.le_trans qx53.2.2 zq22) qx62.2.1 (Int.le_trans qx62.2.2 zq22) hP hD hS (lv_sub hl [3, 1, 2, 4, 0] rfl))
          refine lv_icmp_ne (tgt := 44) hx hb dX7_laterTurn_29 (by decide) (fun c29 => ?_) (fun c29 => ?_)
          · have gc29 := ai_ne c29
            exact (hK0 _ _ _).mp (J44 j19l7 _ _ _  bj19l7_l bj19l7_u hP hD hS (lv_sub hl [0, 1, 2, 3, 4] rfl))
          · have gc29 := ai_eq c29
            have u29f_x27 : x27.toInt ≤ (1 : Int) := Int.le_trans (Int.le_of_eq gc29) zq0
            have l29f_x27 : (1 : Int) ≤ x27.toInt := Int.le_trans zq1 (Int.le_of_eq gc29.symm)
            refine lv_iload hx hb dX7_laterTurn_32 (lv_at hl 3 rfl) ?_
            refine lv_iload hx hb dX7_laterTurn_34 (lv_at hl 1 rfl) ?_
            refine lv_imul hx hb dX7_laterTurn_36 ?_
            refine lv_topi (fun x36 ex36 => ?_)
            have qx36 : x36.toInt = j19l7.toInt * j19l5.toInt ∧ (0 : Int) ≤ x36.toInt ∧ x36.toInt ≤ 81 := ai_mul ex36 ⟨bj19l7_l, bj19l7_u⟩ ⟨bj19l5_l, bj19l5_u⟩ (by decide) (by decide) zq21
            refine lv_iload hx hb dX7_laterTurn_37 (lv_at hl 2 rfl) ?_
            refine lv_iadd hx hb dX7_laterTurn_39 ?_
            refine lv_topi (fun x39 ex39 => ?_)
            have qx39 : x39.toInt = x36.toInt + j19l6.toInt := ai_add ex39 ⟨qx36.2.1, qx36.2.2⟩ ⟨bj19l6_l, bj19l6_u⟩ (by decide) (by decide)
            have bx39 : (0 : Int) ≤ x39.toInt ∧ x39.toInt ≤ 90 := ⟨by rw [qx39]; exact Int.add_le_add qx36.2.1 bj19l6_l, by rw [qx39]; exact Int.add_le_add qx36.2.2 bj19l6_u⟩
            refine lv_iload_n hx hb dX7_laterTurn_40 rfl (lv_at hl 0 rfl) ?_
            refine lv_irem hx hb dX7_laterTurn_41 (ai_nz l1t_a1 (by decide)) ?_
            refine lv_topi (fun x41 ex41 => ?_)
            have qx41 := ai_rem2 ex41 bx39.1 (Int.lt_of_lt_of_le zq19 l1t_a1) ba1_u
            refine lv_istore (lv' := [(7, .int x41), (0, .int a1), (5, .int j19l5), (6, .int j19l6), (8, .int j19l8)]) hx hb dX7_laterTurn_42 hl (by decide) rfl (fun ls hl => ?_)
            exact (hK0 _ _ _).mp (J44 x41 _ _ _  qx41.2.1 (Int.le_trans qx41.2.2 zq22) hP hD hS (lv_sub hl [1, 2, 3, 0, 4] rfl))
    exact (hK0 _ _ _).mp (J19 4294967296 a5 a4 a3 a2 _ _ _ (by have h1 : (-2147483648 : Int) ≤ a5.toInt := (ai_min a5); have h2 : a5.toInt ≤ (2147483647 : Int) := (ai_max a5); omega) ba4_l ba4_u ba3_l ba3_u ba2_l ba2_u hP hD hS (lv_sub hl [4, 3, 2, 1, 0] rfl))
  · have gc1 := ai_nlt c1
    have u1f_a1 : a1.toInt ≤ (0 : Int) := Int.le_trans gc1 zq6
    refine lv_iconst (v := 0) hx hb dX7_laterTurn_4 zk_iconst_0 ?_
    exact W.iret (v := 0) hx hb hr (fun t ht hW => ⟨⟨0, (), rfl, ⟨zq5, (Int.le_trans zq6 zq7)⟩, by rw [ht]; exact hP, va_K.moved hW.alike hK, hD⟩, hS.F ht⟩) hS.2.2 dX7_laterTurn_5

set_option maxHeartbeats 4000000 in
set_option maxRecDepth 100000 in
theorem c_X0_aliveByLaw (l : Launch) (dC : Nat → ClassId) (dI : Nat → Nat → Nat) (sz : Nat) (a0 : Nat) (a1 : Int32) (a2 : Int32) (a0_0 : Int32) (a0_1 : Int32) (a0g_2 a0g_3 a0g_4 a0g_5 a0g_6 a0g_7 a0g_8 a0g_9 a0g_10 a0g_11 a0g_12 a0g_13 a0g_14 : Value) (ba1_l : (0 : Int) ≤ a1.toInt) (ba1_u : a1.toInt ≤ (999 : Int)) (ba2_l : (0 : Int) ≤ a2.toInt) (ba2_u : a2.toInt ≤ (999 : Int)) (ba0_0_l : (0 : Int) ≤ a0_0.toInt) (ba0_0_u : a0_0.toInt ≤ (9 : Int)) : zm l yX0_aliveByLaw wsX0_aliveByLaw ({ frames := 1, cells := 0, slots := 0, locals := 28 }) [.ref a0, .int a1, .int a2] dC dI sz [(a0, .inr (0, [.int a0_0, .int a0_1, a0g_2, a0g_3, a0g_4, a0g_5, a0g_6, a0g_7, a0g_8, a0g_9, a0g_10, a0g_11, a0g_12, a0g_13, a0g_14]))] [] (fun A U => va_Nw (.methodLinkNest RX0 72 yX7_laterTurn RX7) U) (fun A => va_Qi (fun (r : Int32) (_ : Unit) => (0 : Int) ≤ r.toInt ∧ r.toInt ≤ (9 : Int)) (fun (_ : Unit) (t : State) => ax_B dC dI A [(a0, .inr (0, [.int a0_0, .int a0_1, a0g_2, a0g_3, a0g_4, a0g_5, a0g_6, a0g_7, a0g_8, a0g_9, a0g_10, a0g_11, a0g_12, a0g_13, a0g_14]))] [] t) A) := by
  refine zh (cc := cX0_aliveByLaw) (maxL := 4) (ret := (some .int)) zn_RX0 rfl (Nat.le_of_ble_eq_true rfl) (fun p e s m below meth c A ls hx hb hml hr hts (hown : s.vm.findClass RX0 = some m.cls) hlocks hA hS hP hK hD hE (hl : lv_has ls 4 [(0, .ref a0), (1, .int a1), (2, .int a2)]) => ?_)
  have hE0 := hE
  refine lv_aload_n hx hb dX0_aliveByLaw_0 rfl (lv_at hl 0 rfl) ?_
  refine va_get (D := (dC, dI)) (ci := 0) (v := .int a0_1) (C := RX0) (T := TX0) (N := 15) hx hb hts zi_X0_aliveByLaw_0 hown hK hP 0 rfl rfl 1 (by decide) (hts (.fieldLink RX0 48 "WaxTurns$Hall" "span" "I") (List.mem_cons_of_mem _ (List.mem_append_left _ (List.mem_of_getElem? (i := 0) rfl)))) (fun _ h9 => h9) rfl dX0_aliveByLaw_1 ?_
  refine lv_if_gt (tgt := 11) hx hb dX0_aliveByLaw_4 (by decide) (fun c4 => ?_) (fun c4 => ?_)
  · have gc4 := ai_lt c4
    have l4t_a0_1 : (1 : Int) ≤ a0_1.toInt := ai_ltlo gc4 zq5
    refine lv_iload_n hx hb dX0_aliveByLaw_11 rfl (lv_at hl 2 rfl) ?_
    refine lv_aload_n hx hb dX0_aliveByLaw_12 rfl (lv_at hl 0 rfl) ?_
    refine va_get (D := (dC, dI)) (ci := 0) (v := .int a0_1) (C := RX0) (T := TX0) (N := 15) hx hb hts zi_X0_aliveByLaw_0 hown hK hP 0 rfl rfl 1 (by decide) (hts (.fieldLink RX0 48 "WaxTurns$Hall" "span" "I") (List.mem_cons_of_mem _ (List.mem_append_left _ (List.mem_of_getElem? (i := 0) rfl)))) (fun _ h9 => h9) rfl dX0_aliveByLaw_13 ?_
    refine lv_idiv hx hb dX0_aliveByLaw_16 (ai_nz l4t_a0_1 (by decide)) ?_
    refine lv_topi (fun x16 ex16 => ?_)
    have qx16 := ai_div ex16 ⟨ba2_l, ba2_u⟩ (Int.lt_of_lt_of_le zq19 l4t_a0_1)
    refine lv_istore_n (lv' := [(3, .int x16), (0, .ref a0), (1, .int a1), (2, .int a2)]) hx hb dX0_aliveByLaw_17 rfl hl (by decide) rfl (fun ls hl => ?_)
    refine lv_aload_n hx hb dX0_aliveByLaw_18 rfl (lv_at hl 1 rfl) ?_
    refine va_get (D := (dC, dI)) (ci := 0) (v := .int a0_0) (C := RX0) (T := TX0) (N := 15) hx hb hts zi_X0_aliveByLaw_0 hown hK hP 0 rfl rfl 0 (by decide) (hts (.fieldLink RX0 31 "WaxTurns$Hall" "figures" "I") (List.mem_cons_of_mem _ (List.mem_append_left _ (List.mem_of_getElem? (i := 1) rfl)))) (fun _ h9 => h9) rfl dX0_aliveByLaw_19 ?_
    refine lv_iload_n hx hb dX0_aliveByLaw_22 rfl (lv_at hl 2 rfl) ?_
    refine lv_bipush (v := 100) hx hb dX0_aliveByLaw_23 zk_bipush_100 ?_
    refine lv_idiv hx hb dX0_aliveByLaw_25 (by decide +kernel) ?_
    refine lv_topi (fun x25 ex25 => ?_)
    have qx25 := ai_div ex25 ⟨ba1_l, ba1_u⟩ (Int.lt_of_lt_of_le zq23 zq24)
    have u25z_x25 : x25.toInt ≤ (9 : Int) := (by have h1 := qx25.1; have h2 := ba1_u; have h3 : (100 : Int32).toInt = 100 := (by decide); rw [h3] at h1; omega)
    refine lv_iload_n hx hb dX0_aliveByLaw_26 rfl (lv_at hl 2 rfl) ?_
    refine lv_bipush (v := 10) hx hb dX0_aliveByLaw_27 zk_bipush_10 ?_
    refine lv_idiv hx hb dX0_aliveByLaw_29 (by decide +kernel) ?_
    refine lv_topi (fun x29 ex29 => ?_)
    have qx29 := ai_div ex29 ⟨ba1_l, ba1_u⟩ (Int.lt_of_lt_of_le zq25 zq26)
    have u29z_x29 : x29.toInt ≤ (99 : Int) := (by have h1 := qx29.1; have h2 := ba1_u; have h3 : (10 : Int32).toInt = 10 := (by decide); rw [h3] at h1; omega)
    refine lv_bipush (v := 10) hx hb dX0_aliveByLaw_30 zk_bipush_10 ?_
    refine lv_irem hx hb dX0_aliveByLaw_32 (by decide +kernel) ?_
    refine lv_topi (fun x32 ex32 => ?_)
    have qx32 := ai_rem2 ex32 qx29.2.1 (Int.lt_of_lt_of_le zq25 zq26) zq27
    have wx32 : x32.toInt = x29.toInt % 10 := qx32.1
    refine lv_iload_n hx hb dX0_aliveByLaw_33 rfl (lv_at hl 2 rfl) ?_
    refine lv_bipush (v := 10) hx hb dX0_aliveByLaw_34 zk_bipush_10 ?_
    refine lv_irem hx hb dX0_aliveByLaw_36 (by decide +kernel) ?_
    refine lv_topi (fun x36 ex36 => ?_)
    have qx36 := ai_rem2 ex36 ba1_l (Int.lt_of_lt_of_le zq25 zq26) zq27
    have wx36 : x36.toInt = a1.toInt % 10 := qx36.1
    refine lv_iload_n hx hb dX0_aliveByLaw_37 rfl (lv_at hl 0 rfl) ?_
    refine va_calli (va_runSN (As := [.int a0_0, .int x25, .int x32, .int x36, .int x16]) (rest := []) ⟨hx, hb, hml, hown, hts⟩ (c_X7_laterTurn l dC dI s.heap.size a0_0 x25 x32 x36 x16 ba0_0_l ba0_0_u qx25.2.1 u25z_x25 qx32.2.1 qx32.2.2 qx36.2.1 qx36.2.2) ⟨va_cnB 5 hts gX0_aliveByLaw_X7_laterTurn_n72 rfl rfl rfl hE0 (hts (.initialized RX7) (List.mem_cons_of_mem _ (List.mem_append_left _ (List.mem_of_getElem? (i := 3) rfl)))) zd_X7_laterTurn.2 ⟨Nat.le_of_ble_eq_true rfl, Nat.le_of_ble_eq_true rfl⟩, (hts (.static yX7_laterTurn) (List.mem_cons_of_mem _ (List.mem_append_left _ (List.mem_of_getElem? (i := 2) rfl)))), trivial⟩ ⟨ax_blind (fun _ _ _ _ _ => trivial), ax_pre (zp_P0 hP) (zp_K hK) (zp_D0 hD) (fun _ _ => trivial)⟩ rfl rfl hl.1 rfl (lv_room (Nat.le_of_ble_eq_true rfl)) dX0_aliveByLaw_38 ⟨Nat.le_of_ble_eq_true rfl, Nat.le_of_ble_eq_true rfl⟩) hS (fun q _ h => zp_F0 hD hS hA q h) (zp_F0 hD hS hA) (fun r38 u t H locs ht hvm hw hB hz1 hk1 hS1 => zo0 hB ht hP hD hk1 (zp_F0 hD hS hA) hS1 (fun hP hK1 hD hS => ?_))
    have hw : (0 : Int) ≤ r38.toInt ∧ r38.toInt ≤ (9 : Int) := hw
    obtain ⟨h38_0, h38_1⟩ := hw
    exact W.iret (v := r38) hx hb hr (fun t ht hW => ⟨⟨r38, (), rfl, ⟨h38_0, h38_1⟩, by rw [ht]; exact hP, va_K.moved hW.alike hK, hD⟩, hS.F ht⟩) hS.2.2 dX0_aliveByLaw_41
  · have gc4 := ai_nlt c4
    have u4f_a0_1 : a0_1.toInt ≤ (0 : Int) := Int.le_trans gc4 zq6
    refine lv_iconst (v := 0) hx hb dX0_aliveByLaw_7 zk_iconst_0 ?_
    refine lv_goto (tgt := 17) hx hb dX0_aliveByLaw_8 (by decide) ?_
    refine lv_istore_n (lv' := [(3, .int 0), (0, .ref a0), (1, .int a1), (2, .int a2)]) hx hb dX0_aliveByLaw_17 rfl hl (by decide) rfl (fun ls hl => ?_)
    refine lv_aload_n hx hb dX0_aliveByLaw_18 rfl (lv_at hl 1 rfl) ?_
    refine va_get (D := (dC, dI)) (ci := 0) (v := .int a0_0) (C := RX0) (T := TX0) (N := 15) hx hb hts zi_X0_aliveByLaw_0 hown hK hP 0 rfl rfl 0 (by decide) (hts (.fieldLink RX0 31 "WaxTurns$Hall" "figures" "I") (List.mem_cons_of_mem _ (List.mem_append_left _ (List.mem_of_getElem? (i := 1) rfl)))) (fun _ h9 => h9) rfl dX0_aliveByLaw_19 ?_
    refine lv_iload_n hx hb dX0_aliveByLaw_22 rfl (lv_at hl 2 rfl) ?_
    refine lv_bipush (v := 100) hx hb dX0_aliveByLaw_23 zk_bipush_100 ?_
    refine lv_idiv hx hb dX0_aliveByLaw_25 (by decide +kernel) ?_
    refine lv_topi (fun x25 ex25 => ?_)
    have qx25 := ai_div ex25 ⟨ba1_l, ba1_u⟩ (Int.lt_of_lt_of_le zq23 zq24)
    have u25z_x25 : x25.toInt ≤ (9 : Int) := (by have h1 := qx25.1; have h2 := ba1_u; have h3 : (100 : Int32).toInt = 100 := (by decide); rw [h3] at h1; omega)
    refine lv_iload_n hx hb dX0_aliveByLaw_26 rfl (lv_at hl 2 rfl) ?_
    refine lv_bipush (v := 10) hx hb dX0_aliveByLaw_27 zk_bipush_10 ?_
    refine lv_idiv hx hb dX0_aliveByLaw_29 (by decide +kernel) ?_
    refine lv_topi (fun x29 ex29 => ?_)
    have qx29 := ai_div ex29 ⟨ba1_l, ba1_u⟩ (Int.lt_of_lt_of_le zq25 zq26)
    have u29z_x29 : x29.toInt ≤ (99 : Int) := (by have h1 := qx29.1; have h2 := ba1_u; have h3 : (10 : Int32).toInt = 10 := (by decide); rw [h3] at h1; omega)
    refine lv_bipush (v := 10) hx hb dX0_aliveByLaw_30 zk_bipush_10 ?_
    refine lv_irem hx hb dX0_aliveByLaw_32 (by decide +kernel) ?_
    refine lv_topi (fun x32 ex32 => ?_)
    have qx32 := ai_rem2 ex32 qx29.2.1 (Int.lt_of_lt_of_le zq25 zq26) zq27
    have wx32 : x32.toInt = x29.toInt % 10 := qx32.1
    refine lv_iload_n hx hb dX0_aliveByLaw_33 rfl (lv_at hl 2 rfl) ?_
    refine lv_bipush (v := 10) hx hb dX0_aliveByLaw_34 zk_bipush_10 ?_
    refine lv_irem hx hb dX0_aliveByLaw_36 (by decide +kernel) ?_
    refine lv_topi (fun x36 ex36 => ?_)
    have qx36 := ai_rem2 ex36 ba1_l (Int.lt_of_lt_of_le zq25 zq26) zq27
    have wx36 : x36.toInt = a1.toInt % 10 := qx36.1
    refine lv_iload_n hx hb dX0_aliveByLaw_37 rfl (lv_at hl 0 rfl) ?_
    refine va_calli (va_runSN (As := [.int a0_0, .int x25, .int x32, .int x36, .int 0]) (rest := []) ⟨hx, hb, hml, hown, hts⟩ (c_X7_laterTurn l dC dI s.heap.size a0_0 x25 x32 x36 0 ba0_0_l ba0_0_u qx25.2.1 u25z_x25 qx32.2.1 qx32.2.2 qx36.2.1 qx36.2.2) ⟨va_cnB 5 hts gX0_aliveByLaw_X7_laterTurn_n72 rfl rfl rfl hE0 (hts (.initialized RX7) (List.mem_cons_of_mem _ (List.mem_append_left _ (List.mem_of_getElem? (i := 3) rfl)))) zd_X7_laterTurn.2 ⟨Nat.le_of_ble_eq_true rfl, Nat.le_of_ble_eq_true rfl⟩, (hts (.static yX7_laterTurn) (List.mem_cons_of_mem _ (List.mem_append_left _ (List.mem_of_getElem? (i := 2) rfl)))), trivial⟩ ⟨ax_blind (fun _ _ _ _ _ => trivial), ax_pre (zp_P0 hP) (zp_K hK) (zp_D0 hD) (fun _ _ => trivial)⟩ rfl rfl hl.1 rfl (lv_room (Nat.le_of_ble_eq_true rfl)) dX0_aliveByLaw_38 ⟨Nat.le_of_ble_eq_true rfl, Nat.le_of_ble_eq_true rfl⟩) hS (fun q _ h => zp_F0 hD hS hA q h) (zp_F0 hD hS hA) (fun r38 u t H locs ht hvm hw hB hz1 hk1 hS1 => zo0 hB ht hP hD hk1 (zp_F0 hD hS hA) hS1 (fun hP hK1 hD hS => ?_))
    have hw : (0 : Int) ≤ r38.toInt ∧ r38.toInt ≤ (9 : Int) := hw
    obtain ⟨h38_0, h38_1⟩ := hw
    exact W.iret (v := r38) hx hb hr (fun t ht hW => ⟨⟨r38, (), rfl, ⟨h38_0, h38_1⟩, by rw [ht]; exact hP, va_K.moved hW.alike hK, hD⟩, hS.F ht⟩) hS.2.2 dX0_aliveByLaw_41

set_option maxHeartbeats 4000000 in
set_option maxRecDepth 100000 in
theorem c_X0_goesLike (l : Launch) (dC : Nat → ClassId) (dI : Nat → Nat → Nat) (sz : Nat) (a0 : Nat) (a1 : Int32) (a2 : Int32) (a0_0 : Int32) (a0g_1 a0g_2 a0g_3 a0g_4 a0g_8 a0g_9 a0g_10 a0g_11 a0g_12 a0g_13 a0g_14 : Value) (a0_5 : Int32) (a0_6 : Int32) (a0_7 : Int32) (ba1_l : (0 : Int) ≤ a1.toInt) (ba1_u : a1.toInt ≤ (8 : Int)) (ba2_l : (0 : Int) ≤ a2.toInt) (ba2_u : a2.toInt ≤ (8 : Int)) (ba0_0_l : (0 : Int) ≤ a0_0.toInt) (ba0_0_u : a0_0.toInt ≤ (9 : Int)) (ba0_5_l : (0 : Int) ≤ a0_5.toInt) (ba0_5_u : a0_5.toInt ≤ (8 : Int)) (ba0_6_l : (0 : Int) ≤ a0_6.toInt) (ba0_6_u : a0_6.toInt ≤ (8 : Int)) (ba0_7_l : (0 : Int) ≤ a0_7.toInt) (ba0_7_u : a0_7.toInt ≤ (8 : Int)) : zm l yX0_goesLike wsX0_goesLike ({ frames := 1, cells := 0, slots := 0, locals := 21 }) [.ref a0, .int a1, .int a2] dC dI sz [(a0, .inr (0, [.int a0_0, a0g_1, a0g_2, a0g_3, a0g_4, .int a0_5, .int a0_6, .int a0_7, a0g_8, a0g_9, a0g_10, a0g_11, a0g_12, a0g_13, a0g_14]))] [] (fun A _ => True) (fun A => va_Qi (fun (r : Int32) (_ : Unit) => (r = 1) ∨ (r = 0 ∧ (1 : Int) ≤ a0_0.toInt ∧ a0_0.toInt ≤ (9 : Int))) (fun (_ : Unit) (t : State) => ax_B dC dI A [(a0, .inr (0, [.int a0_0, a0g_1, a0g_2, a0g_3, a0g_4, .int a0_5, .int a0_6, .int a0_7, a0g_8, a0g_9, a0g_10, a0g_11, a0g_12, a0g_13, a0g_14]))] [] t) A) := by
  refine zh (cc := cX0_goesLike) (maxL := 6) (ret := (some .boolean)) zn_RX0 rfl (Nat.le_of_ble_eq_true rfl) (fun p e s m below meth c A ls hx hb hml hr hts (hown : s.vm.findClass RX0 = some m.cls) hlocks hA hS hP hK hD hE (hl : lv_has ls 6 [(0, .ref a0), (1, .int a1), (2, .int a2)]) => ?_)
  refine ai_open (fun K hK0 => ?_)
  refine (hK0 _ _ _).mpr ?_
  refine lv_aload_n hx hb dX0_goesLike_0 rfl (lv_at hl 0 rfl) ?_
  refine va_get (D := (dC, dI)) (ci := 0) (v := .int a0_7) (C := RX0) (T := TX0) (N := 15) hx hb hts zi_X0_goesLike_0 hown hK hP 0 rfl rfl 7 (by decide) (hts (.fieldLink RX0 69 "WaxTurns$Hall" "first" "I") (List.mem_cons_of_mem _ (List.mem_append_left _ (List.mem_of_getElem? (i := 0) rfl)))) (fun _ h9 => h9) rfl dX0_goesLike_1 ?_
  refine lv_istore_n (lv' := [(3, .int a0_7), (0, .ref a0), (1, .int a1), (2, .int a2)]) hx hb dX0_goesLike_4 rfl hl (by decide) rfl (fun ls hl => ?_)
  refine lv_iconst (v := 0) hx hb dX0_goesLike_5 zk_iconst_0 ?_
  refine lv_istore (lv' := [(4, .int 0), (3, .int a0_7), (0, .ref a0), (1, .int a1), (2, .int a2)]) hx hb dX0_goesLike_6 hl (by decide) rfl (fun ls hl => ?_)
  have J8 : ∀ (n : Nat) (j8l4 : Int32) (j8l3 : Int32) (H : Heap) (locs : List Loc) (ls : Array Slot), (10 : Int) - j8l4.toInt ≤ (n : Int) → (0 : Int) ≤ j8l4.toInt → j8l4.toInt ≤ (9 : Int) → (0 : Int) ≤ j8l3.toInt → j8l3.toInt ≤ (8 : Int) → va_P (dC, dI) vwCl [(a0, .inr (0, [.int a0_0, a0g_1, a0g_2, a0g_3, a0g_4, .int a0_5, .int a0_6, .int a0_7, a0g_8, a0g_9, a0g_10, a0g_11, a0g_12, a0g_13, a0g_14]))] H → va_D A [(a0, .inr (0, [.int a0_0, a0g_1, a0g_2, a0g_3, a0g_4, .int a0_5, .int a0_6, .int a0_7, a0g_8, a0g_9, a0g_10, a0g_11, a0g_12, a0g_13, a0g_14]))] → va_S A s.heap H locs → lv_has ls 6 [(0, .ref a0), (1, .int a1), (2, .int a2), (3, .int j8l3), (4, .int j8l4)] → K H locs (F0 m 8 ls []) := by
    intro n
    induction n with
    | zero =>
      intro j8l4 j8l3 H locs ls hm bj8l4_l bj8l4_u bj8l3_l bj8l3_u hP hD hS hl
      have h8 := ai_min j8l4
      have h9 := ai_max j8l4
      exact absurd hm (by omega)
    | succ n ih8 =>
      intro j8l4 j8l3 H locs ls hm bj8l4_l bj8l4_u bj8l3_l bj8l3_u hP hD hS hl
      refine (hK0 _ _ _).mpr ?_
      have hm8 := hm
      refine lv_iload hx hb dX0_goesLike_8 (lv_at hl 4 rfl) ?_
      refine lv_aload_n hx hb dX0_goesLike_10 rfl (lv_at hl 0 rfl) ?_
      refine va_get (D := (dC, dI)) (ci := 0) (v := .int a0_0) (C := RX0) (T := TX0) (N := 15) hx hb hts zi_X0_goesLike_0 hown hK hP 0 rfl rfl 0 (by decide) (hts (.fieldLink RX0 31 "WaxTurns$Hall" "figures" "I") (List.mem_cons_of_mem _ (List.mem_append_left _ (List.mem_of_getElem? (i := 1) rfl)))) (fun _ h9 => h9) rfl dX0_goesLike_11 ?_
      refine lv_icmp_ge (tgt := 50) hx hb dX0_goesLike_14 (by decide) (fun c14 => ?_) (fun c14 => ?_)
      · have gc14 := ai_le c14
        have u14t_a0_0 : a0_0.toInt ≤ (9 : Int) := ba0_0_u
        have l14t_j8l4 : (0 : Int) ≤ j8l4.toInt := bj8l4_l
        refine lv_iconst (v := 1) hx hb dX0_goesLike_50 zk_iconst_1 ?_
        exact W.zret (v := 1) hx hb hr rfl (fun t ht hW => ⟨⟨1, (), rfl, (Or.inl (rfl)), by rw [ht]; exact hP, va_K.moved hW.alike hK, hD⟩, hS.F ht⟩) hS.2.2 dX0_goesLike_51
      · have gc14 := ai_nle c14
        have u14f_j8l4 : j8l4.toInt ≤ (8 : Int) := ai_lthi gc14 ba0_0_u
        have l14f_a0_0 : (1 : Int) ≤ a0_0.toInt := ai_ltlo gc14 bj8l4_l
        refine lv_aload_n hx hb dX0_goesLike_17 rfl (lv_at hl 0 rfl) ?_
        refine lv_iload_n hx hb dX0_goesLike_18 rfl (lv_at hl 3 rfl) ?_
        refine va_calli (va_runV (As := [.int j8l3]) (rest := []) ⟨hx, hb, hml, hown, hts⟩ (c_X0_next l dC dI H.size a0 j8l3 a0_0 a0g_1 a0g_2 a0g_3 a0g_4 (.int a0_7) a0g_8 a0g_9 a0g_10 a0g_11 a0g_12 a0g_13 a0g_14 a0_5 a0_6 bj8l3_l bj8l3_u (Int.le_trans zq4 l14f_a0_0) ba0_0_u ba0_5_l ba0_5_u ba0_6_l ba0_6_u) (cwV 1 hts gX0_goesLike_X0_next rfl rfl rfl zd_X0_next ⟨Nat.le_of_ble_eq_true rfl, Nat.le_of_ble_eq_true rfl⟩) ⟨ax_blind (fun _ _ _ _ _ => trivial), zr_0 (zp_K hK) (zp_P1 hP) (q0 := 0) rfl, ax_pre (zp_P1 hP) (zp_K hK) (zp_D1 hD) (fun _ _ => trivial)⟩ rfl rfl hl.1 rfl (lv_room (Nat.le_of_ble_eq_true rfl)) dX0_goesLike_19 ⟨Nat.le_of_ble_eq_true rfl, Nat.le_of_ble_eq_true rfl⟩) hS (fun q _ h => zp_F1 hD hS hA q h) (zp_F1 hD hS hA) (fun r19 u t H locs ht hvm hw hB hz1 hk1 hS1 => zo1 hB ht hP hD hk1 (zp_F1 hD hS hA) hS1 (fun hP hK1 hD hS => ?_))
        have hw : (0 : Int) ≤ r19.toInt ∧ r19.toInt ≤ (8 : Int) := hw
        obtain ⟨h19_0, h19_1⟩ := hw
        refine lv_istore (lv' := [(5, .int r19), (0, .ref a0), (1, .int a1), (2, .int a2), (3, .int j8l3), (4, .int j8l4)]) hx hb dX0_goesLike_22 hl (by decide) rfl (fun ls hl => ?_)
        refine lv_iload_n hx hb dX0_goesLike_24 rfl (lv_at hl 4 rfl) ?_
        refine lv_iload_n hx hb dX0_goesLike_25 rfl (lv_at hl 2 rfl) ?_
        refine lv_imul hx hb dX0_goesLike_26 ?_
        refine lv_topi (fun x26 ex26 => ?_)
        have qx26 : x26.toInt = j8l3.toInt * a1.toInt ∧ (0 : Int) ≤ x26.toInt ∧ x26.toInt ≤ 64 := ai_mul ex26 ⟨bj8l3_l, bj8l3_u⟩ ⟨ba1_l, ba1_u⟩ (by decide) (by decide) zq18
        refine lv_iload_n hx hb dX0_goesLike_27 rfl (lv_at hl 3 rfl) ?_
        refine lv_iadd hx hb dX0_goesLike_28 ?_
        refine lv_topi (fun x28 ex28 => ?_)
        have qx28 : x28.toInt = x26.toInt + a2.toInt := ai_add ex28 ⟨qx26.2.1, qx26.2.2⟩ ⟨ba2_l, ba2_u⟩ (by decide) (by decide)
        have bx28 : (0 : Int) ≤ x28.toInt ∧ x28.toInt ≤ 72 := ⟨by rw [qx28]; exact Int.add_le_add qx26.2.1 ba2_l, by rw [qx28]; exact Int.add_le_add qx26.2.2 ba2_u⟩
        refine lv_aload_n hx hb dX0_goesLike_29 rfl (lv_at hl 1 rfl) ?_
        refine va_get (D := (dC, dI)) (ci := 0) (v := .int a0_0) (C := RX0) (T := TX0) (N := 15) hx hb hts zi_X0_goesLike_0 hown hK hP 0 rfl rfl 0 (by decide) (hts (.fieldLink RX0 31 "WaxTurns$Hall" "figures" "I") (List.mem_cons_of_mem _ (List.mem_append_left _ (List.mem_of_getElem? (i := 1) rfl)))) (fun _ h9 => h9) rfl dX0_goesLike_30 ?_
        refine lv_irem hx hb dX0_goesLike_33 (ai_nz l14f_a0_0 (by decide)) ?_
        refine lv_topi (fun x33 ex33 => ?_)
        have qx33 := ai_rem2 ex33 bx28.1 (Int.lt_of_lt_of_le zq19 l14f_a0_0) ba0_0_u
        refine lv_iload hx hb dX0_goesLike_34 (lv_at hl 0 rfl) ?_
        refine lv_icmp_eq (tgt := 41) hx hb dX0_goesLike_36 (by decide) (fun c36 => ?_) (fun c36 => ?_)
        · have gc36 := ai_eq c36
          have u36t_x33 : x33.toInt ≤ (8 : Int) := qx33.2.2
          have l36t_x33 : (0 : Int) ≤ x33.toInt := qx33.2.1
          have u36t_r19 : r19.toInt ≤ (8 : Int) := h19_1
          have l36t_r19 : (0 : Int) ≤ r19.toInt := h19_0
          refine lv_iload hx hb dX0_goesLike_41 (lv_at hl 0 rfl) ?_
          refine lv_istore_n (lv' := [(3, .int r19), (5, .int r19), (0, .ref a0), (1, .int a1), (2, .int a2), (4, .int j8l4)]) hx hb dX0_goesLike_43 rfl hl (by decide) rfl (fun ls hl => ?_)
          obtain ⟨x44, ex44⟩ : ∃ y : Int32, y = j8l4 + Int32.ofInt 1 := ⟨_, rfl⟩
          have qx44 : x44.toInt = j8l4.toInt + 1 := ai_inc ex44 (by decide) (by decide) u14f_j8l4 (by decide)
          have bx44 : (1 : Int) ≤ x44.toInt ∧ x44.toInt ≤ 9 := ⟨by rw [qx44]; exact Int.add_le_add bj8l4_l (Int.le_refl _), by rw [qx44]; exact Int.add_le_add u14f_j8l4 (Int.le_refl _)⟩
          refine lv_iinc (v := x44) (lv' := [(4, .int x44), (3, .int r19), (5, .int r19), (0, .ref a0), (1, .int a1), (2, .int a2)]) hx hb dX0_goesLike_44 hl (k := 5) rfl ex44.symm (by decide) rfl (fun ls hl => ?_)
          refine lv_goto (tgt := 8) hx hb dX0_goesLike_47 (by decide) ?_
          exact (hK0 _ _ _).mp (ih8 x44 r19 _ _ _ (by have h0 := qx44; omega) (Int.le_trans zq4 bx44.1) bx44.2 l36t_r19 u36t_r19 hP hD hS (lv_sub hl [3, 4, 5, 1, 0] rfl))
        · have gc36 := ai_ne c36
          refine lv_iconst (v := 0) hx hb dX0_goesLike_39 zk_iconst_0 ?_
          exact W.zret (v := 0) hx hb hr rfl (fun t ht hW => ⟨⟨0, (), rfl, (Or.inr (⟨rfl, l14f_a0_0, ba0_0_u⟩)), by rw [ht]; exact hP, va_K.moved hW.alike hK, hD⟩, hS.F ht⟩) hS.2.2 dX0_goesLike_40
  exact (hK0 _ _ _).mp (J8 10 0 a0_7 _ _ _ (by have h1 : (0 : Int) ≤ (0 : Int32).toInt := zq5; have h2 : (0 : Int32).toInt ≤ (0 : Int) := zq6; omega) zq5 (Int.le_trans zq6 zq7) ba0_7_l ba0_7_u hP hD hS (lv_sub hl [2, 3, 4, 1, 0] rfl))

set_option maxHeartbeats 4000000 in
set_option maxRecDepth 100000 in
theorem c_X0_stepsIn (l : Launch) (dC : Nat → ClassId) (dI : Nat → Nat → Nat) (sz : Nat) (a0 : Nat) (a1 : Int32) (a2 : Int32) (a0g_0 a0g_1 a0g_2 a0g_3 a0g_4 a0g_5 a0g_6 a0g_7 a0g_8 a0g_9 a0g_12 a0g_13 a0g_14 : Value) (a0_10 : Nat) (a0_11 : Nat) (ka0_10 : ClassId) (fa0_10 : Nat → Int32) (ka0_11 : ClassId) (fa0_11 : Nat → Int32)  : zm l yX0_stepsIn wsX0_stepsIn ({ frames := 1, cells := 0, slots := 0, locals := 22 }) [.ref a0, .int a1, .int a2] dC dI sz [(a0, .inr (0, [a0g_0, a0g_1, a0g_2, a0g_3, a0g_4, a0g_5, a0g_6, a0g_7, a0g_8, a0g_9, .ref a0_10, .ref a0_11, a0g_12, a0g_13, a0g_14])), (a0_10, .inl (ka0_10, 9, .inl (fa0_10))), (a0_11, .inl (ka0_11, 9, .inl (fa0_11)))] [(ka0_10, .int), (ka0_11, .int)] (fun A U => va_Nw (.methodLinkNest RX0 118 yX7_within RX7) U) (fun A => va_Qi (fun (r : Int32) (_ : Unit) => (r = 1 ∧ (0 : Int) ≤ a1.toInt ∧ a1.toInt ≤ (8 : Int)) ∨ (r = 0)) (fun (_ : Unit) (t : State) => ax_B dC dI A [(a0, .inr (0, [a0g_0, a0g_1, a0g_2, a0g_3, a0g_4, a0g_5, a0g_6, a0g_7, a0g_8, a0g_9, .ref a0_10, .ref a0_11, a0g_12, a0g_13, a0g_14])), (a0_10, .inl (ka0_10, 9, .inl (fa0_10))), (a0_11, .inl (ka0_11, 9, .inl (fa0_11)))] [(ka0_10, .int), (ka0_11, .int)] t) A) := by
  refine zh (cc := cX0_stepsIn) (maxL := 4) (ret := (some .boolean)) zn_RX0 rfl (Nat.le_of_ble_eq_true rfl) (fun p e s m below meth c A ls hx hb hml hr hts (hown : s.vm.findClass RX0 = some m.cls) hlocks hA hS hP hK hD hE (hl : lv_has ls 4 [(0, .ref a0), (1, .int a1), (2, .int a2)]) => ?_)
  have hE0 := hE
  refine lv_iload_n hx hb dX0_stepsIn_0 rfl (lv_at hl 1 rfl) ?_
  refine lv_iconst (v := 0) hx hb dX0_stepsIn_1 zk_iconst_0 ?_
  refine lv_bipush (v := 8) hx hb dX0_stepsIn_2 zk_bipush_8 ?_
  refine va_calli (va_runSN (As := [.int a1, .int 0, .int 8]) (rest := []) ⟨hx, hb, hml, hown, hts⟩ (c_X7_within l dC dI s.heap.size a1 0 8 ) ⟨va_cnB 3 hts gX0_stepsIn_X7_within_n118 rfl rfl rfl hE0 (hts (.initialized RX7) (List.mem_cons_of_mem _ (List.mem_append_left _ (List.mem_of_getElem? (i := 3) rfl)))) zd_X7_within.2 ⟨Nat.le_of_ble_eq_true rfl, Nat.le_of_ble_eq_true rfl⟩, (hts (.static yX7_within) (List.mem_cons_of_mem _ (List.mem_append_left _ (List.mem_of_getElem? (i := 2) rfl)))), trivial⟩ ⟨ax_blind (fun _ _ _ _ _ => trivial), ax_pre (zp_P0 hP) (zp_K hK) (zp_D0 hD) (fun _ _ => trivial)⟩ rfl rfl hl.1 rfl (lv_room (Nat.le_of_ble_eq_true rfl)) dX0_stepsIn_4 ⟨Nat.le_of_ble_eq_true rfl, Nat.le_of_ble_eq_true rfl⟩) hS (fun q _ h => zp_F0 hD hS hA q h) (zp_F0 hD hS hA) (fun r4 u t H locs ht hvm hw hB hz1 hk1 hS1 => zo0 hB ht hP hD hk1 (zp_F0 hD hS hA) hS1 (fun hP hK1 hD hS => ?_))
  rcases hw with hw | hw
  · obtain ⟨hw, h4⟩ := hw
    subst hw
    have l4k0_a1 : (0 : Int) ≤ a1.toInt := Int.le_trans zq5 h4.1
    have u4k0_a1 : a1.toInt ≤ (8 : Int) := Int.le_trans h4.2 zq28
    refine lv_if_eq (tgt := 20) hx hb dX0_stepsIn_7 (by decide) (fun c7 => absurd c7 (by decide +kernel)) (fun _ => ?_)
    refine lv_aload_n hx hb dX0_stepsIn_10 rfl (lv_at hl 0 rfl) ?_
    refine va_get (D := (dC, dI)) (ci := 0) (v := .ref a0_10) (C := RX0) (T := TX0) (N := 15) hx hb hts zi_X0_stepsIn_0 hown hK hP 0 rfl rfl 10 (by decide) (hts (.fieldLink RX0 9 "WaxTurns$Hall" "kinds" "[I") (List.mem_cons_of_mem _ (List.mem_append_left _ (List.mem_of_getElem? (i := 0) rfl)))) (fun _ h9 => h9) rfl dX0_stepsIn_11 ?_
    refine lv_iload_n hx hb dX0_stepsIn_14 rfl (lv_at hl 1 rfl) ?_
    refine va_iald hx hb hK hP 1 0 rfl rfl (ai_in l4k0_a1 u4k0_a1 (by decide) (by decide)) dX0_stepsIn_15 ?_
    refine lv_topi (fun x15 ex15 => ?_)
    refine lv_iconst (v := 1) hx hb dX0_stepsIn_16 zk_iconst_1 ?_
    refine lv_icmp_eq (tgt := 22) hx hb dX0_stepsIn_17 (by decide) (fun c17 => ?_) (fun c17 => ?_)
    · have gc17 := ai_eq c17
      have u17t_x15 : x15.toInt ≤ (1 : Int) := Int.le_trans (Int.le_of_eq gc17) zq0
      have l17t_x15 : (1 : Int) ≤ x15.toInt := Int.le_trans zq1 (Int.le_of_eq gc17.symm)
      refine lv_aload_n hx hb dX0_stepsIn_22 rfl (lv_at hl 0 rfl) ?_
      refine va_get (D := (dC, dI)) (ci := 0) (v := .ref a0_11) (C := RX0) (T := TX0) (N := 15) hx hb hts zi_X0_stepsIn_0 hown hK hP 0 rfl rfl 11 (by decide) (hts (.fieldLink RX0 15 "WaxTurns$Hall" "measures" "[I") (List.mem_cons_of_mem _ (List.mem_append_left _ (List.mem_of_getElem? (i := 1) rfl)))) (fun _ h9 => h9) rfl dX0_stepsIn_23 ?_
      refine lv_iload_n hx hb dX0_stepsIn_26 rfl (lv_at hl 1 rfl) ?_
      refine va_iald hx hb hK hP 2 1 rfl rfl (ai_in l4k0_a1 u4k0_a1 (by decide) (by decide)) dX0_stepsIn_27 ?_
      refine lv_topi (fun x27 ex27 => ?_)
      refine lv_istore_n (lv' := [(3, .int x27), (0, .ref a0), (1, .int a1), (2, .int a2)]) hx hb dX0_stepsIn_28 rfl hl (by decide) rfl (fun ls hl => ?_)
      refine lv_iload_n hx hb dX0_stepsIn_29 rfl (lv_at hl 0 rfl) ?_
      refine lv_if_le (tgt := 43) hx hb dX0_stepsIn_30 (by decide) (fun c30 => ?_) (fun c30 => ?_)
      · have gc30 := ai_le c30
        have u30t_x27 : x27.toInt ≤ (0 : Int) := Int.le_trans gc30 zq6
        refine lv_iconst (v := 0) hx hb dX0_stepsIn_43 zk_iconst_0 ?_
        exact W.zret (v := 0) hx hb hr rfl (fun t ht hW => ⟨⟨0, (), rfl, (Or.inr (rfl)), by rw [ht]; exact hP, va_K.moved hW.alike hK, hD⟩, hS.F ht⟩) hS.2.2 dX0_stepsIn_44
      · have gc30 := ai_nle c30
        have l30f_x27 : (1 : Int) ≤ x27.toInt := ai_ltlo gc30 zq5
        refine lv_iload_n hx hb dX0_stepsIn_33 rfl (lv_at hl 3 rfl) ?_
        refine lv_iload_n hx hb dX0_stepsIn_34 rfl (lv_at hl 0 rfl) ?_
        refine lv_irem hx hb dX0_stepsIn_35 (ai_nz l30f_x27 (by decide)) ?_
        refine lv_topi (fun x35 ex35 => ?_)
        refine lv_if_ne (tgt := 43) hx hb dX0_stepsIn_36 (by decide) (fun c36 => ?_) (fun c36 => ?_)
        · have gc36 := ai_ne c36
          refine lv_iconst (v := 0) hx hb dX0_stepsIn_43 zk_iconst_0 ?_
          exact W.zret (v := 0) hx hb hr rfl (fun t ht hW => ⟨⟨0, (), rfl, (Or.inr (rfl)), by rw [ht]; exact hP, va_K.moved hW.alike hK, hD⟩, hS.F ht⟩) hS.2.2 dX0_stepsIn_44
        · have gc36 := ai_eq c36
          have u36f_x35 : x35.toInt ≤ (0 : Int) := Int.le_trans (Int.le_of_eq gc36) zq6
          have l36f_x35 : (0 : Int) ≤ x35.toInt := Int.le_trans zq5 (Int.le_of_eq gc36.symm)
          refine lv_iconst (v := 1) hx hb dX0_stepsIn_39 zk_iconst_1 ?_
          refine lv_goto (tgt := 44) hx hb dX0_stepsIn_40 (by decide) ?_
          exact W.zret (v := 1) hx hb hr rfl (fun t ht hW => ⟨⟨1, (), rfl, (Or.inl ⟨rfl, l4k0_a1, u4k0_a1⟩), by rw [ht]; exact hP, va_K.moved hW.alike hK, hD⟩, hS.F ht⟩) hS.2.2 dX0_stepsIn_44
    · have gc17 := ai_ne c17
      refine lv_iconst (v := 0) hx hb dX0_stepsIn_20 zk_iconst_0 ?_
      exact W.zret (v := 0) hx hb hr rfl (fun t ht hW => ⟨⟨0, (), rfl, (Or.inr (rfl)), by rw [ht]; exact hP, va_K.moved hW.alike hK, hD⟩, hS.F ht⟩) hS.2.2 dX0_stepsIn_21
  · obtain ⟨hw, h4⟩ := hw
    subst hw
    refine lv_if_eq (tgt := 20) hx hb dX0_stepsIn_7 (by decide) (fun _ => ?_) (fun c7 => absurd (by decide +kernel) c7)
    refine lv_iconst (v := 0) hx hb dX0_stepsIn_20 zk_iconst_0 ?_
    exact W.zret (v := 0) hx hb hr rfl (fun t ht hW => ⟨⟨0, (), rfl, (Or.inr (rfl)), by rw [ht]; exact hP, va_K.moved hW.alike hK, hD⟩, hS.F ht⟩) hS.2.2 dX0_stepsIn_21

set_option maxHeartbeats 4000000 in
set_option maxRecDepth 100000 in
theorem c_X0_nearer (l : Launch) (dC : Nat → ClassId) (dI : Nat → Nat → Nat) (sz : Nat) (a0 : Nat) (a1 : Int32) (a0g_0 a0g_1 a0g_3 a0g_4 a0g_5 a0g_6 a0g_7 a0g_8 a0g_9 a0g_10 a0g_11 a0g_12 a0g_13 a0g_14 : Value) (a0_2 : Int32)  : zm l yX0_nearer wsX0_nearer ({ frames := 0, cells := 0, slots := 0, locals := 0 }) [.ref a0, .int a1] dC dI sz [(a0, .inr (0, [a0g_0, a0g_1, .int a0_2, a0g_3, a0g_4, a0g_5, a0g_6, a0g_7, a0g_8, a0g_9, a0g_10, a0g_11, a0g_12, a0g_13, a0g_14]))] [] (fun A _ => True) (fun A => va_Qi (fun (r : Int32) (_ : Unit) => True) (fun (_ : Unit) (t : State) => ax_B dC dI A [(a0, .inr (0, [a0g_0, a0g_1, .int a0_2, a0g_3, a0g_4, a0g_5, a0g_6, a0g_7, a0g_8, a0g_9, a0g_10, a0g_11, a0g_12, a0g_13, a0g_14]))] [] t) A) := by
  refine zh (cc := cX0_nearer) (maxL := 2) (ret := (some .int)) zn_RX0 rfl (Nat.le_of_ble_eq_true rfl) (fun p e s m below meth c A ls hx hb hml hr hts (hown : s.vm.findClass RX0 = some m.cls) hlocks hA hS hP hK hD hE (hl : lv_has ls 2 [(0, .ref a0), (1, .int a1)]) => ?_)
  refine lv_iload_n hx hb dX0_nearer_0 rfl (lv_at hl 1 rfl) ?_
  refine lv_aload_n hx hb dX0_nearer_1 rfl (lv_at hl 0 rfl) ?_
  refine va_get (D := (dC, dI)) (ci := 0) (v := .int a0_2) (C := RX0) (T := TX0) (N := 15) hx hb hts zi_X0_nearer_0 hown hK hP 0 rfl rfl 2 (by decide) (hts (.fieldLink RX0 51 "WaxTurns$Hall" "stairsPlace" "I") (List.mem_cons_of_mem _ (List.mem_append_left _ (List.mem_of_getElem? (i := 0) rfl)))) (fun _ h9 => h9) rfl dX0_nearer_2 ?_
  refine lv_icmp_ne (tgt := 10) hx hb dX0_nearer_5 (by decide) (fun c5 => ?_) (fun c5 => ?_)
  · have gc5 := ai_ne c5
    refine lv_iload_n hx hb dX0_nearer_10 rfl (lv_at hl 1 rfl) ?_
    refine lv_aload_n hx hb dX0_nearer_11 rfl (lv_at hl 0 rfl) ?_
    refine va_get (D := (dC, dI)) (ci := 0) (v := .int a0_2) (C := RX0) (T := TX0) (N := 15) hx hb hts zi_X0_nearer_0 hown hK hP 0 rfl rfl 2 (by decide) (hts (.fieldLink RX0 51 "WaxTurns$Hall" "stairsPlace" "I") (List.mem_cons_of_mem _ (List.mem_append_left _ (List.mem_of_getElem? (i := 0) rfl)))) (fun _ h9 => h9) rfl dX0_nearer_12 ?_
    refine lv_icmp_ge (tgt := 24) hx hb dX0_nearer_15 (by decide) (fun c15 => ?_) (fun c15 => ?_)
    · have gc15 := ai_le c15
      refine lv_iload_n hx hb dX0_nearer_24 rfl (lv_at hl 1 rfl) ?_
      refine lv_iconst (v := 1) hx hb dX0_nearer_25 zk_iconst_1 ?_
      refine lv_isub hx hb dX0_nearer_26 ?_
      refine lv_topi (fun x26 ex26 => ?_)
      exact W.iret (v := x26) hx hb hr (fun t ht hW => ⟨⟨x26, (), rfl, trivial, by rw [ht]; exact hP, va_K.moved hW.alike hK, hD⟩, hS.F ht⟩) hS.2.2 dX0_nearer_27
    · have gc15 := ai_nle c15
      have u15f_a1 : a1.toInt ≤ (2147483646 : Int) := ai_lthi gc15 (ai_max a0_2)
      have l15f_a0_2 : (-2147483647 : Int) ≤ a0_2.toInt := ai_ltlo gc15 (ai_min a1)
      refine lv_iload_n hx hb dX0_nearer_18 rfl (lv_at hl 1 rfl) ?_
      refine lv_iconst (v := 1) hx hb dX0_nearer_19 zk_iconst_1 ?_
      refine lv_iadd hx hb dX0_nearer_20 ?_
      refine lv_topi (fun x20 ex20 => ?_)
      have qx20 : x20.toInt = a1.toInt + (1 : Int32).toInt := ai_add ex20 ⟨(ai_min a1), u15f_a1⟩ ⟨zq1, zq0⟩ (by decide) (by decide)
      have bx20 : (-2147483647 : Int) ≤ x20.toInt ∧ x20.toInt ≤ 2147483647 := ⟨by rw [qx20]; exact Int.add_le_add (ai_min a1) zq1, by rw [qx20]; exact Int.add_le_add u15f_a1 zq0⟩
      have wx20 : x20.toInt = a1.toInt + 1 := qx20
      refine lv_goto (tgt := 27) hx hb dX0_nearer_21 (by decide) ?_
      exact W.iret (v := x20) hx hb hr (fun t ht hW => ⟨⟨x20, (), rfl, trivial, by rw [ht]; exact hP, va_K.moved hW.alike hK, hD⟩, hS.F ht⟩) hS.2.2 dX0_nearer_27
  · have gc5 := ai_eq c5
    refine lv_iload_n hx hb dX0_nearer_8 rfl (lv_at hl 1 rfl) ?_
    exact W.iret (v := a1) hx hb hr (fun t ht hW => ⟨⟨a1, (), rfl, trivial, by rw [ht]; exact hP, va_K.moved hW.alike hK, hD⟩, hS.F ht⟩) hS.2.2 dX0_nearer_9

set_option maxHeartbeats 4000000 in
set_option maxRecDepth 100000 in
theorem c_X0_step (l : Launch) (dC : Nat → ClassId) (dI : Nat → Nat → Nat) (sz : Nat) (a0 : Nat) (a1 : Nat) (a2 : Int32) (a3 : Nat) (a0g_0 a0g_1 a0g_3 a0g_4 a0g_5 a0g_6 a0g_7 a0g_8 a0g_9 a0g_10 a0g_11 a0g_12 a0g_13 a0g_14 : Value) (a0_2 : Int32) (a1_0 : Int32) (a1g_1 a1g_2 a1g_6 : Value) (a1_3 : Int32) (a1_4 : Int32) (a1_5 : Nat) (ka1_5 : ClassId) (fa1_5 : Nat → Int32) (a3_0 : Int32) (a3_1 : Int32) (a3_2 : Nat) (a3_3 : Nat) (ka3_3 : ClassId) (fa3_3 : Nat → Int32) (ka3_2 : ClassId) (fa3_2 : Nat → Int32) (ba2_l : (0 : Int) ≤ a2.toInt) (ba2_u : a2.toInt ≤ (8 : Int)) (ba3_0_l : (0 : Int) ≤ a3_0.toInt) (ba3_0_u : a3_0.toInt ≤ (3 : Int)) (bfa3_3 : (∀ k, (0 : Int) ≤ (fa3_3 k).toInt ∧ (fa3_3 k).toInt ≤ 80)) (bfa3_2 : (∀ k, (0 : Int) ≤ (fa3_2 k).toInt ∧ (fa3_2 k).toInt ≤ 80)) : zm l yX0_step wsX0_step ({ frames := 2, cells := 0, slots := 0, locals := 49 }) [.ref a0, .ref a1, .int a2, .ref a3] dC dI sz [(a0, .inr (0, [a0g_0, a0g_1, .int a0_2, a0g_3, a0g_4, a0g_5, a0g_6, a0g_7, a0g_8, a0g_9, a0g_10, a0g_11, a0g_12, a0g_13, a0g_14])), (a1, .inr (5, [.int a1_0, a1g_1, a1g_2, .int a1_3, .int a1_4, .ref a1_5, a1g_6])), (a1_5, .inl (ka1_5, 9, .inl (fa1_5))), (a3, .inr (6, [.int a3_0, .int a3_1, .ref a3_2, .ref a3_3])), (a3_3, .inl (ka3_3, 3, .inl (fa3_3))), (a3_2, .inl (ka3_2, 3, .inl (fa3_2)))] [(ka1_5, .int), (ka3_3, .int), (ka3_2, .int)] (fun A U => va_Nw (.methodLinkNest RX5 38 yX7_hasBit RX7) U ∧ va_Nw (.methodLinkNest RX0 129 yX7_hasBit RX7) U) (fun A => va_Qv (fun (_ : Unit) => True) (fun (_ : Unit) (t : State) => ∃ na1_3 : Int32, ∃ na1_4 : Int32, ∃ nfa1_5 : Nat → Int32, ax_B dC dI A [(a0, .inr (0, [a0g_0, a0g_1, .int a0_2, a0g_3, a0g_4, a0g_5, a0g_6, a0g_7, a0g_8, a0g_9, a0g_10, a0g_11, a0g_12, a0g_13, a0g_14])), (a1, .inr (5, [.int a1_0, a1g_1, a1g_2, .int na1_3, .int na1_4, .ref a1_5, a1g_6])), (a1_5, .inl (ka1_5, 9, .inl (nfa1_5))), (a3, .inr (6, [.int a3_0, .int a3_1, .ref a3_2, .ref a3_3])), (a3_3, .inl (ka3_3, 3, .inl (fa3_3))), (a3_2, .inl (ka3_2, 3, .inl (fa3_2)))] [(ka1_5, .int), (ka3_3, .int), (ka3_2, .int)] t) A) := by
  refine zh (cc := cX0_step) (maxL := 5) (ret := none) zn_RX0 rfl (Nat.le_of_ble_eq_true rfl) (fun p e s m below meth c A ls hx hb hml hr hts (hown : s.vm.findClass RX0 = some m.cls) hlocks hA hS hP hK hD hE (hl : lv_has ls 5 [(0, .ref a0), (1, .ref a1), (2, .int a2), (3, .ref a3)]) => ?_)
  obtain ⟨hE0, hE1⟩ := hE
  refine lv_aload_n hx hb dX0_step_0 rfl (lv_at hl 1 rfl) ?_
  refine lv_iload_n hx hb dX0_step_1 rfl (lv_at hl 2 rfl) ?_
  refine zc_cutc (wc := [(a1, .inr (5, [.int a1_0, a1g_1, a1g_2, .int a1_3, .int a1_4, .ref a1_5, a1g_6]))]) hP hD hS hA [1] (by decide +kernel) rfl (fun hPc hDc hFc hCc => ?_)
  have hKc := zp_K hK
  refine va_calli (va_runV (As := [.int a2]) (rest := []) ⟨hx, hb, hml, hown, hts⟩ (c_X5_isGone l dC dI s.heap.size a1 a2 (.int a1_0) a1g_1 a1g_2 (.int a1_4) (.ref a1_5) a1g_6 a1_3 ) (cwV 1 hts gX0_step_X5_isGone rfl rfl rfl zd_X5_isGone ⟨Nat.le_of_ble_eq_true rfl, Nat.le_of_ble_eq_true rfl⟩) ⟨ax_blind (fun _ _ _ _ hq => va_Nw.same rfl rfl (hq)), zr_5 hKc hPc (q0 := 0) rfl, ax_pre hPc hKc hDc (fun _ hW => va_Nw.warmM hW hE0)⟩ rfl rfl hl.1 rfl (lv_room (Nat.le_of_ble_eq_true rfl)) dX0_step_2 ⟨Nat.le_of_ble_eq_true rfl, Nat.le_of_ble_eq_true rfl⟩) hS (fun q _ h => hFc q h) hFc (fun r2 u t H locs ht hvm hw hB hz1 hk1 hS => zo hB ht (fun hP1 hK1 hD1 => ?_))
  refine zc_backc (w := [(a0, .inr (0, [a0g_0, a0g_1, .int a0_2, a0g_3, a0g_4, a0g_5, a0g_6, a0g_7, a0g_8, a0g_9, a0g_10, a0g_11, a0g_12, a0g_13, a0g_14])), (a1, .inr (5, [.int a1_0, a1g_1, a1g_2, .int a1_3, .int a1_4, .ref a1_5, a1g_6])), (a1_5, .inl (ka1_5, 9, .inl (fa1_5))), (a3, .inr (6, [.int a3_0, .int a3_1, .ref a3_2, .ref a3_3])), (a3_3, .inl (ka3_3, 3, .inl (fa3_3))), (a3_2, .inl (ka3_2, 3, .inl (fa3_2)))]) hP hD hCc hk1 hFc hP1 hD1 [.inl 0, .inr 0, .inl 2, .inl 3, .inl 4, .inl 5] (by decide +kernel) rfl (fun hP hD => ?_)
  rcases hw with hw | hw
  · subst hw
    refine lv_if_eq (tgt := 9) hx hb dX0_step_5 (by decide) (fun c5 => absurd c5 (by decide +kernel)) (fun _ => ?_)
    exact W.vret hx hb hr (fun t ht hW => ⟨⟨(), rfl, trivial, a1_3, a1_4, fa1_5, by rw [ht]; exact hP, va_K.moved hW.alike hK, hD⟩, hS.F ht⟩) hS.2.2 dX0_step_8
  · subst hw
    refine lv_if_eq (tgt := 9) hx hb dX0_step_5 (by decide) (fun _ => ?_) (fun c5 => absurd (by decide +kernel) c5)
    refine lv_aload_n hx hb dX0_step_9 rfl (lv_at hl 0 rfl) ?_
    refine lv_aload_n hx hb dX0_step_10 rfl (lv_at hl 1 rfl) ?_
    refine va_get (D := (dC, dI)) (ci := 5) (v := .ref a1_5) (C := RX5) (T := TX5) (N := 7) hx hb hts zi_X0_step_5 hown hK hP 1 rfl rfl 5 (by decide) (hts (.fieldLink RX0 99 "WaxTurns$Scene" "places" "[I") (zm_X0_step_r1 (List.mem_of_getElem? (i := 0) rfl))) (fun _ h9 => h9) rfl dX0_step_11 ?_
    refine lv_iload_n hx hb dX0_step_14 rfl (lv_at hl 2 rfl) ?_
    refine va_iald hx hb hK hP 2 0 rfl rfl (ai_in ba2_l ba2_u (by decide) (by decide)) dX0_step_15 ?_
    refine lv_topi (fun x15 ex15 => ?_)
    refine va_calli (va_runV (As := [.int x15]) (rest := []) ⟨hx, hb, hml, hown, hts⟩ (c_X0_nearer l dC dI H.size a0 x15 a0g_0 a0g_1 a0g_3 a0g_4 a0g_5 a0g_6 a0g_7 a0g_8 a0g_9 a0g_10 a0g_11 a0g_12 a0g_13 a0g_14 a0_2 ) (cwV 1 hts gX0_step_X0_nearer rfl rfl rfl zd_X0_nearer ⟨Nat.le_of_ble_eq_true rfl, Nat.le_of_ble_eq_true rfl⟩) ⟨ax_blind (fun _ _ _ _ _ => trivial), zr_0 (zp_K hK) (zp_P1 hP) (q0 := 0) rfl, ax_pre (zp_P1 hP) (zp_K hK) (zp_D1 hD) (fun _ _ => trivial)⟩ rfl rfl hl.1 rfl (lv_room (Nat.le_of_ble_eq_true rfl)) dX0_step_16 ⟨Nat.le_of_ble_eq_true rfl, Nat.le_of_ble_eq_true rfl⟩) hS (fun q _ h => zp_F1 hD hS hA q h) (zp_F1 hD hS hA) (fun r16 u t H locs ht hvm hw hB hz1 hk1 hS1 => zo1 hB ht hP hD hk1 (zp_F1 hD hS hA) hS1 (fun hP hK1 hD hS => ?_))
    refine lv_istore (lv' := [(4, .int r16), (0, .ref a0), (1, .ref a1), (2, .int a2), (3, .ref a3)]) hx hb dX0_step_19 hl (by decide) rfl (fun ls hl => ?_)
    refine lv_aload_n hx hb dX0_step_21 rfl (lv_at hl 4 rfl) ?_
    refine lv_aload_n hx hb dX0_step_22 rfl (lv_at hl 2 rfl) ?_
    refine va_get (D := (dC, dI)) (ci := 5) (v := .int a1_0) (C := RX5) (T := TX5) (N := 7) hx hb hts zi_X0_step_5 hown hK hP 1 rfl rfl 0 (by decide) (hts (.fieldLink RX0 102 "WaxTurns$Scene" "minute" "I") (zm_X0_step_r1 (List.mem_of_getElem? (i := 1) rfl))) (fun _ h9 => h9) rfl dX0_step_23 ?_
    refine zc_cutc (wc := [(a3, .inr (6, [.int a3_0, .int a3_1, .ref a3_2, .ref a3_3])), (a3_3, .inl (ka3_3, 3, .inl (fa3_3))), (a3_2, .inl (ka3_2, 3, .inl (fa3_2)))]) hP hD hS hA [3, 4, 5] (by decide +kernel) rfl (fun hPc hDc hFc hCc => ?_)
    have hKc := hK.sub (tys' := [(ka3_3, .int), (ka3_2, .int)]) [1, 2] rfl
    refine va_calli (va_runV (As := [.int a1_0]) (rest := []) ⟨hx, hb, hml, hown, hts⟩ (c_X6_placesIn l dC dI H.size a3 a1_0 a3_0 a3_1 a3_2 a3_3 ka3_3 fa3_3 ka3_2 fa3_2 ba3_0_l ba3_0_u bfa3_3 bfa3_2) (cwV 1 hts gX0_step_X6_placesIn rfl rfl rfl zd_X6_placesIn ⟨Nat.le_of_ble_eq_true rfl, Nat.le_of_ble_eq_true rfl⟩) ⟨ax_blind (fun _ _ _ _ _ => trivial), zr_6 hKc hPc (q0 := 0) rfl, ax_pre hPc hKc hDc (fun _ _ => trivial)⟩ rfl rfl hl.1 rfl (lv_room (Nat.le_of_ble_eq_true rfl)) dX0_step_26 ⟨Nat.le_of_ble_eq_true rfl, Nat.le_of_ble_eq_true rfl⟩) hS (fun q _ h => hFc q h) hFc (fun r26 u t H locs ht hvm hw hB hz1 hk1 hS => zo hB ht (fun hP1 hK1 hD1 => ?_))
    refine zc_backc (w := [(a0, .inr (0, [a0g_0, a0g_1, .int a0_2, a0g_3, a0g_4, a0g_5, a0g_6, a0g_7, a0g_8, a0g_9, a0g_10, a0g_11, a0g_12, a0g_13, a0g_14])), (a1, .inr (5, [.int a1_0, a1g_1, a1g_2, .int a1_3, .int a1_4, .ref a1_5, a1g_6])), (a1_5, .inl (ka1_5, 9, .inl (fa1_5))), (a3, .inr (6, [.int a3_0, .int a3_1, .ref a3_2, .ref a3_3])), (a3_3, .inl (ka3_3, 3, .inl (fa3_3))), (a3_2, .inl (ka3_2, 3, .inl (fa3_2)))]) hP hD hCc hk1 hFc hP1 hD1 [.inl 0, .inl 1, .inl 2, .inr 0, .inr 1, .inr 2] (by decide +kernel) rfl (fun hP hD => ?_)
    refine lv_iload hx hb dX0_step_29 (lv_at hl 0 rfl) ?_
    refine va_calli (va_runSN (As := [.int r26, .int r16]) (rest := []) ⟨hx, hb, hml, hown, hts⟩ (c_X7_hasBit l dC dI H.size r26 r16 ) ⟨va_cnB 2 hts gX0_step_X7_hasBit_n129 rfl rfl rfl hE1 (hts (.initialized RX7) (zm_X0_step_r1 (List.mem_of_getElem? (i := 12) rfl))) zd_X7_hasBit.2 ⟨Nat.le_of_ble_eq_true rfl, Nat.le_of_ble_eq_true rfl⟩, (hts (.static yX7_hasBit) (zm_X0_step_r1 (List.mem_of_getElem? (i := 11) rfl))), trivial⟩ ⟨ax_blind (fun _ _ _ _ _ => trivial), ax_pre (zp_P0 hP) (zp_K hK) (zp_D0 hD) (fun _ _ => trivial)⟩ rfl rfl hl.1 rfl (lv_room (Nat.le_of_ble_eq_true rfl)) dX0_step_31 ⟨Nat.le_of_ble_eq_true rfl, Nat.le_of_ble_eq_true rfl⟩) hS (fun q _ h => zp_F0 hD hS hA q h) (zp_F0 hD hS hA) (fun r31 u t H locs ht hvm hw hB hz1 hk1 hS1 => zo0 hB ht hP hD hk1 (zp_F0 hD hS hA) hS1 (fun hP hK1 hD hS => ?_))
    rcases hw with hw | hw
    · subst hw
      refine lv_if_eq (tgt := 53) hx hb dX0_step_34 (by decide) (fun c34 => absurd c34 (by decide +kernel)) (fun _ => ?_)
      refine lv_aload_n hx hb dX0_step_37 rfl (lv_at hl 2 rfl) ?_
      refine lv_dup hx hb dX0_step_38 rfl ?_
      refine va_get (D := (dC, dI)) (ci := 5) (v := .int a1_4) (C := RX5) (T := TX5) (N := 7) hx hb hts zi_X0_step_5 hown hK hP 1 rfl rfl 4 (by decide) (hts (.fieldLink RX0 132 "WaxTurns$Scene" "catchCount" "I") (zm_X0_step_r1 (List.mem_of_getElem? (i := 2) rfl))) (fun _ h9 => h9) rfl dX0_step_39 ?_
      refine lv_iconst (v := 1) hx hb dX0_step_42 zk_iconst_1 ?_
      refine lv_iadd hx hb dX0_step_43 ?_
      refine lv_topi (fun x43 ex43 => ?_)
      refine va_put (D := (dC, dI)) (ci := 5) (v := .int x43) (ty := .int) (C := RX5) (T := TX5) (N := 7) hx hb hts zi_X0_step_5 tyX5 tyX5_ok nmX5 hown hK hP hD hS 1 rfl rfl 4 (by decide) (hts (.fieldLink RX0 132 "WaxTurns$Scene" "catchCount" "I") (zm_X0_step_r1 (List.mem_of_getElem? (i := 2) rfl))) (fun _ h9 => h9) rfl (tyX5_ok 4 (by decide)) rfl rfl (Nat.le_of_ble_eq_true rfl) dX0_step_44 (fun H locs hP hD hS => ?_)
      refine zs_1 (y := (a1, .inr (5, [.int a1_0, a1g_1, a1g_2, .int a1_3, .int x43, .ref a1_5, a1g_6]))) hP hD rfl (fun hP hD => ?_)
      refine lv_iload_n hx hb dX0_step_47 rfl (lv_at hl 3 rfl) ?_
      refine lv_istore (lv' := [(4, .int a2), (0, .ref a0), (1, .ref a1), (2, .int a2), (3, .ref a3)]) hx hb dX0_step_48 hl (by decide) rfl (fun ls hl => ?_)
      refine lv_goto (tgt := 74) hx hb dX0_step_50 (by decide) ?_
      refine lv_aload_n hx hb dX0_step_74 rfl (lv_at hl 2 rfl) ?_
      refine va_get (D := (dC, dI)) (ci := 5) (v := .ref a1_5) (C := RX5) (T := TX5) (N := 7) hx hb hts zi_X0_step_5 hown hK hP 1 rfl rfl 5 (by decide) (hts (.fieldLink RX0 99 "WaxTurns$Scene" "places" "[I") (zm_X0_step_r1 (List.mem_of_getElem? (i := 0) rfl))) (fun _ h9 => h9) rfl dX0_step_75 ?_
      refine lv_iload_n hx hb dX0_step_78 rfl (lv_at hl 3 rfl) ?_
      refine lv_iload hx hb dX0_step_79 (lv_at hl 0 rfl) ?_
      refine va_iast hx hb hK hP hD hS 2 0 rfl rfl (ai_in ba2_l ba2_u (by decide) (by decide)) dX0_step_81 (fun H locs hP hD hS => ?_)
      obtain ⟨f81, hP, hD⟩ : ∃ f81 : Nat → Int32, va_P (dC, dI) vwCl [(a0, .inr (0, [a0g_0, a0g_1, .int a0_2, a0g_3, a0g_4, a0g_5, a0g_6, a0g_7, a0g_8, a0g_9, a0g_10, a0g_11, a0g_12, a0g_13, a0g_14])), (a1, .inr (5, [.int a1_0, a1g_1, a1g_2, .int a1_3, .int x43, .ref a1_5, a1g_6])), (a1_5, .inl (ka1_5, 9, .inl (f81))), (a3, .inr (6, [.int a3_0, .int a3_1, .ref a3_2, .ref a3_3])), (a3_3, .inl (ka3_3, 3, .inl (fa3_3))), (a3_2, .inl (ka3_2, 3, .inl (fa3_2)))] H ∧ va_D A [(a0, .inr (0, [a0g_0, a0g_1, .int a0_2, a0g_3, a0g_4, a0g_5, a0g_6, a0g_7, a0g_8, a0g_9, a0g_10, a0g_11, a0g_12, a0g_13, a0g_14])), (a1, .inr (5, [.int a1_0, a1g_1, a1g_2, .int a1_3, .int x43, .ref a1_5, a1g_6])), (a1_5, .inl (ka1_5, 9, .inl (f81))), (a3, .inr (6, [.int a3_0, .int a3_1, .ref a3_2, .ref a3_3])), (a3_3, .inl (ka3_3, 3, .inl (fa3_3))), (a3_2, .inl (ka3_2, 3, .inl (fa3_2)))] := ⟨_, hP, hD⟩
      exact W.vret hx hb hr (fun t ht hW => ⟨⟨(), rfl, trivial, a1_3, x43, f81, by rw [ht]; exact hP, va_K.moved hW.alike hK, hD⟩, hS.F ht⟩) hS.2.2 dX0_step_82
    · subst hw
      refine lv_if_eq (tgt := 53) hx hb dX0_step_34 (by decide) (fun _ => ?_) (fun c34 => absurd (by decide +kernel) c34)
      refine lv_iload hx hb dX0_step_53 (lv_at hl 0 rfl) ?_
      refine lv_aload_n hx hb dX0_step_55 rfl (lv_at hl 1 rfl) ?_
      refine va_get (D := (dC, dI)) (ci := 0) (v := .int a0_2) (C := RX0) (T := TX0) (N := 15) hx hb hts zi_X0_step_0 hown hK hP 0 rfl rfl 2 (by decide) (hts (.fieldLink RX0 51 "WaxTurns$Hall" "stairsPlace" "I") (zm_X0_step_r1 (List.mem_of_getElem? (i := 3) rfl))) (fun _ h9 => h9) rfl dX0_step_56 ?_
      refine lv_icmp_ne (tgt := 74) hx hb dX0_step_59 (by decide) (fun c59 => ?_) (fun c59 => ?_)
      · have gc59 := ai_ne c59
        refine lv_aload_n hx hb dX0_step_74 rfl (lv_at hl 2 rfl) ?_
        refine va_get (D := (dC, dI)) (ci := 5) (v := .ref a1_5) (C := RX5) (T := TX5) (N := 7) hx hb hts zi_X0_step_5 hown hK hP 1 rfl rfl 5 (by decide) (hts (.fieldLink RX0 99 "WaxTurns$Scene" "places" "[I") (zm_X0_step_r1 (List.mem_of_getElem? (i := 0) rfl))) (fun _ h9 => h9) rfl dX0_step_75 ?_
        refine lv_iload_n hx hb dX0_step_78 rfl (lv_at hl 3 rfl) ?_
        refine lv_iload hx hb dX0_step_79 (lv_at hl 0 rfl) ?_
        refine va_iast hx hb hK hP hD hS 2 0 rfl rfl (ai_in ba2_l ba2_u (by decide) (by decide)) dX0_step_81 (fun H locs hP hD hS => ?_)
        obtain ⟨f81, hP, hD⟩ : ∃ f81 : Nat → Int32, va_P (dC, dI) vwCl [(a0, .inr (0, [a0g_0, a0g_1, .int a0_2, a0g_3, a0g_4, a0g_5, a0g_6, a0g_7, a0g_8, a0g_9, a0g_10, a0g_11, a0g_12, a0g_13, a0g_14])), (a1, .inr (5, [.int a1_0, a1g_1, a1g_2, .int a1_3, .int a1_4, .ref a1_5, a1g_6])), (a1_5, .inl (ka1_5, 9, .inl (f81))), (a3, .inr (6, [.int a3_0, .int a3_1, .ref a3_2, .ref a3_3])), (a3_3, .inl (ka3_3, 3, .inl (fa3_3))), (a3_2, .inl (ka3_2, 3, .inl (fa3_2)))] H ∧ va_D A [(a0, .inr (0, [a0g_0, a0g_1, .int a0_2, a0g_3, a0g_4, a0g_5, a0g_6, a0g_7, a0g_8, a0g_9, a0g_10, a0g_11, a0g_12, a0g_13, a0g_14])), (a1, .inr (5, [.int a1_0, a1g_1, a1g_2, .int a1_3, .int a1_4, .ref a1_5, a1g_6])), (a1_5, .inl (ka1_5, 9, .inl (f81))), (a3, .inr (6, [.int a3_0, .int a3_1, .ref a3_2, .ref a3_3])), (a3_3, .inl (ka3_3, 3, .inl (fa3_3))), (a3_2, .inl (ka3_2, 3, .inl (fa3_2)))] := ⟨_, hP, hD⟩
        exact W.vret hx hb hr (fun t ht hW => ⟨⟨(), rfl, trivial, a1_3, a1_4, f81, by rw [ht]; exact hP, va_K.moved hW.alike hK, hD⟩, hS.F ht⟩) hS.2.2 dX0_step_82
      · have gc59 := ai_eq c59
        refine lv_aload_n hx hb dX0_step_62 rfl (lv_at hl 2 rfl) ?_
        refine lv_dup hx hb dX0_step_63 rfl ?_
        refine va_get (D := (dC, dI)) (ci := 5) (v := .int a1_3) (C := RX5) (T := TX5) (N := 7) hx hb hts zi_X0_step_5 hown hK hP 1 rfl rfl 3 (by decide) (hts (.fieldLink RX0 135 "WaxTurns$Scene" "goneBits" "I") (zm_X0_step_r1 (List.mem_of_getElem? (i := 4) rfl))) (fun _ h9 => h9) rfl dX0_step_64 ?_
        refine lv_iconst (v := 1) hx hb dX0_step_67 zk_iconst_1 ?_
        refine lv_iload_n hx hb dX0_step_68 rfl (lv_at hl 3 rfl) ?_
        refine lv_ishl hx hb dX0_step_69 ?_
        refine lv_topi (fun x69 ex69 => ?_)
        refine lv_ior hx hb dX0_step_70 ?_
        refine lv_topi (fun x70 ex70 => ?_)
        refine va_put (D := (dC, dI)) (ci := 5) (v := .int x70) (ty := .int) (C := RX5) (T := TX5) (N := 7) hx hb hts zi_X0_step_5 tyX5 tyX5_ok nmX5 hown hK hP hD hS 1 rfl rfl 3 (by decide) (hts (.fieldLink RX0 135 "WaxTurns$Scene" "goneBits" "I") (zm_X0_step_r1 (List.mem_of_getElem? (i := 4) rfl))) (fun _ h9 => h9) rfl (tyX5_ok 3 (by decide)) rfl rfl (Nat.le_of_ble_eq_true rfl) dX0_step_71 (fun H locs hP hD hS => ?_)
        refine zs_1 (y := (a1, .inr (5, [.int a1_0, a1g_1, a1g_2, .int x70, .int a1_4, .ref a1_5, a1g_6]))) hP hD rfl (fun hP hD => ?_)
        refine lv_aload_n hx hb dX0_step_74 rfl (lv_at hl 2 rfl) ?_
        refine va_get (D := (dC, dI)) (ci := 5) (v := .ref a1_5) (C := RX5) (T := TX5) (N := 7) hx hb hts zi_X0_step_5 hown hK hP 1 rfl rfl 5 (by decide) (hts (.fieldLink RX0 99 "WaxTurns$Scene" "places" "[I") (zm_X0_step_r1 (List.mem_of_getElem? (i := 0) rfl))) (fun _ h9 => h9) rfl dX0_step_75 ?_
        refine lv_iload_n hx hb dX0_step_78 rfl (lv_at hl 3 rfl) ?_
        refine lv_iload hx hb dX0_step_79 (lv_at hl 0 rfl) ?_
        refine va_iast hx hb hK hP hD hS 2 0 rfl rfl (ai_in ba2_l ba2_u (by decide) (by decide)) dX0_step_81 (fun H locs hP hD hS => ?_)
        obtain ⟨f81, hP, hD⟩ : ∃ f81 : Nat → Int32, va_P (dC, dI) vwCl [(a0, .inr (0, [a0g_0, a0g_1, .int a0_2, a0g_3, a0g_4, a0g_5, a0g_6, a0g_7, a0g_8, a0g_9, a0g_10, a0g_11, a0g_12, a0g_13, a0g_14])), (a1, .inr (5, [.int a1_0, a1g_1, a1g_2, .int x70, .int a1_4, .ref a1_5, a1g_6])), (a1_5, .inl (ka1_5, 9, .inl (f81))), (a3, .inr (6, [.int a3_0, .int a3_1, .ref a3_2, .ref a3_3])), (a3_3, .inl (ka3_3, 3, .inl (fa3_3))), (a3_2, .inl (ka3_2, 3, .inl (fa3_2)))] H ∧ va_D A [(a0, .inr (0, [a0g_0, a0g_1, .int a0_2, a0g_3, a0g_4, a0g_5, a0g_6, a0g_7, a0g_8, a0g_9, a0g_10, a0g_11, a0g_12, a0g_13, a0g_14])), (a1, .inr (5, [.int a1_0, a1g_1, a1g_2, .int x70, .int a1_4, .ref a1_5, a1g_6])), (a1_5, .inl (ka1_5, 9, .inl (f81))), (a3, .inr (6, [.int a3_0, .int a3_1, .ref a3_2, .ref a3_3])), (a3_3, .inl (ka3_3, 3, .inl (fa3_3))), (a3_2, .inl (ka3_2, 3, .inl (fa3_2)))] := ⟨_, hP, hD⟩
        exact W.vret hx hb hr (fun t ht hW => ⟨⟨(), rfl, trivial, x70, a1_4, f81, by rw [ht]; exact hP, va_K.moved hW.alike hK, hD⟩, hS.F ht⟩) hS.2.2 dX0_step_82
end P101_safe
section P102_safe
set_option maxHeartbeats 4000000 in
set_option maxRecDepth 100000 in
theorem c_X0_isHeardAt (l : Launch) (dC : Nat → ClassId) (dI : Nat → Nat → Nat) (sz : Nat) (a1 : Int32) (a2 : Int32)  : zm l yX0_isHeardAt wsX0_isHeardAt ({ frames := 0, cells := 0, slots := 0, locals := 0 }) [.int a1, .int a2] dC dI sz [] [] (fun A _ => True) (fun A => va_Qi (fun (r : Int32) (_ : Unit) => (r = 1) ∨ (r = 0)) (fun (_ : Unit) (t : State) => ax_B dC dI A [] [] t) A) := by
  refine zh (cc := cX0_isHeardAt) (maxL := 2) (ret := (some .boolean)) zn_RX0 rfl (Nat.le_of_ble_eq_true rfl) (fun p e s m below meth c A ls hx hb hml hr hts (hown : s.vm.findClass RX0 = some m.cls) hlocks hA hS hP hK hD hE (hl : lv_has ls 2 [(0, .int a1), (1, .int a2)]) => ?_)
  refine lv_iload_n hx hb dX0_isHeardAt_0 rfl (lv_at hl 1 rfl) ?_
  refine lv_bipush (v := 7) hx hb dX0_isHeardAt_1 zk_bipush_7 ?_
  refine lv_iload_n hx hb dX0_isHeardAt_3 rfl (lv_at hl 0 rfl) ?_
  refine lv_ishl hx hb dX0_isHeardAt_4 ?_
  refine lv_topi (fun x4 ex4 => ?_)
  refine lv_iconst (v := 1) hx hb dX0_isHeardAt_5 zk_iconst_1 ?_
  refine lv_ishr hx hb dX0_isHeardAt_6 ?_
  refine lv_topi (fun x6 ex6 => ?_)
  have qx6 : x6.toInt = x4.toInt / 2 := ai_shr1 ex6
  refine lv_iand hx hb dX0_isHeardAt_7 ?_
  refine lv_topi (fun x7 ex7 => ?_)
  refine lv_if_eq (tgt := 15) hx hb dX0_isHeardAt_8 (by decide) (fun c8 => ?_) (fun c8 => ?_)
  · have gc8 := ai_eq c8
    have u8t_x7 : x7.toInt ≤ (0 : Int) := Int.le_trans (Int.le_of_eq gc8) zq6
    have l8t_x7 : (0 : Int) ≤ x7.toInt := Int.le_trans zq5 (Int.le_of_eq gc8.symm)
    refine lv_iconst (v := 0) hx hb dX0_isHeardAt_15 zk_iconst_0 ?_
    exact W.zret (v := 0) hx hb hr rfl (fun t ht hW => ⟨⟨0, (), rfl, (Or.inr (rfl)), by rw [ht]; exact hP, va_K.moved hW.alike hK, hD⟩, hS.F ht⟩) hS.2.2 dX0_isHeardAt_16
  · have gc8 := ai_ne c8
    refine lv_iconst (v := 1) hx hb dX0_isHeardAt_11 zk_iconst_1 ?_
    refine lv_goto (tgt := 16) hx hb dX0_isHeardAt_12 (by decide) ?_
    exact W.zret (v := 1) hx hb hr rfl (fun t ht hW => ⟨⟨1, (), rfl, (Or.inl (rfl)), by rw [ht]; exact hP, va_K.moved hW.alike hK, hD⟩, hS.F ht⟩) hS.2.2 dX0_isHeardAt_16

set_option maxHeartbeats 4000000 in
set_option maxRecDepth 100000 in
theorem c_X0_partSaid (l : Launch) (dC : Nat → ClassId) (dI : Nat → Nat → Nat) (sz : Nat) (a0 : Nat) (a1 : Int32) (a2 : Int32) (a0g_0 a0g_1 a0g_2 a0g_3 a0g_4 a0g_5 a0g_6 a0g_7 a0g_8 a0g_9 a0g_12 a0g_13 a0g_14 : Value) (a0_10 : Nat) (a0_11 : Nat) (ka0_10 : ClassId) (fa0_10 : Nat → Int32) (ka0_11 : ClassId) (fa0_11 : Nat → Int32)  : zm l yX0_partSaid wsX0_partSaid ({ frames := 1, cells := 0, slots := 0, locals := 22 }) [.ref a0, .int a1, .int a2] dC dI sz [(a0, .inr (0, [a0g_0, a0g_1, a0g_2, a0g_3, a0g_4, a0g_5, a0g_6, a0g_7, a0g_8, a0g_9, .ref a0_10, .ref a0_11, a0g_12, a0g_13, a0g_14])), (a0_10, .inl (ka0_10, 9, .inl (fa0_10))), (a0_11, .inl (ka0_11, 9, .inl (fa0_11)))] [(ka0_10, .int), (ka0_11, .int)] (fun A U => va_Nw (.methodLinkNest RX0 118 yX7_within RX7) U) (fun A => va_Qi (fun (r : Int32) (_ : Unit) => True) (fun (_ : Unit) (t : State) => ax_B dC dI A [(a0, .inr (0, [a0g_0, a0g_1, a0g_2, a0g_3, a0g_4, a0g_5, a0g_6, a0g_7, a0g_8, a0g_9, .ref a0_10, .ref a0_11, a0g_12, a0g_13, a0g_14])), (a0_10, .inl (ka0_10, 9, .inl (fa0_10))), (a0_11, .inl (ka0_11, 9, .inl (fa0_11)))] [(ka0_10, .int), (ka0_11, .int)] t) A) := by
  refine zh (cc := cX0_partSaid) (maxL := 4) (ret := (some .int)) zn_RX0 rfl (Nat.le_of_ble_eq_true rfl) (fun p e s m below meth c A ls hx hb hml hr hts (hown : s.vm.findClass RX0 = some m.cls) hlocks hA hS hP hK hD hE (hl : lv_has ls 4 [(0, .ref a0), (1, .int a1), (2, .int a2)]) => ?_)
  have hE0 := hE
  refine lv_iload_n hx hb dX0_partSaid_0 rfl (lv_at hl 1 rfl) ?_
  refine lv_iconst (v := 0) hx hb dX0_partSaid_1 zk_iconst_0 ?_
  refine lv_bipush (v := 8) hx hb dX0_partSaid_2 zk_bipush_8 ?_
  refine va_calli (va_runSN (As := [.int a1, .int 0, .int 8]) (rest := []) ⟨hx, hb, hml, hown, hts⟩ (c_X7_within l dC dI s.heap.size a1 0 8 ) ⟨va_cnB 3 hts gX0_partSaid_X7_within_n118 rfl rfl rfl hE0 (hts (.initialized RX7) (List.mem_cons_of_mem _ (List.mem_append_left _ (List.mem_of_getElem? (i := 3) rfl)))) zd_X7_within.2 ⟨Nat.le_of_ble_eq_true rfl, Nat.le_of_ble_eq_true rfl⟩, (hts (.static yX7_within) (List.mem_cons_of_mem _ (List.mem_append_left _ (List.mem_of_getElem? (i := 2) rfl)))), trivial⟩ ⟨ax_blind (fun _ _ _ _ _ => trivial), ax_pre (zp_P0 hP) (zp_K hK) (zp_D0 hD) (fun _ _ => trivial)⟩ rfl rfl hl.1 rfl (lv_room (Nat.le_of_ble_eq_true rfl)) dX0_partSaid_4 ⟨Nat.le_of_ble_eq_true rfl, Nat.le_of_ble_eq_true rfl⟩) hS (fun q _ h => zp_F0 hD hS hA q h) (zp_F0 hD hS hA) (fun r4 u t H locs ht hvm hw hB hz1 hk1 hS1 => zo0 hB ht hP hD hk1 (zp_F0 hD hS hA) hS1 (fun hP hK1 hD hS => ?_))
  rcases hw with hw | hw
  · obtain ⟨hw, h4⟩ := hw
    subst hw
    have l4k0_a1 : (0 : Int) ≤ a1.toInt := Int.le_trans zq5 h4.1
    have u4k0_a1 : a1.toInt ≤ (8 : Int) := Int.le_trans h4.2 zq28
    refine lv_if_eq (tgt := 24) hx hb dX0_partSaid_7 (by decide) (fun c7 => absurd c7 (by decide +kernel)) (fun _ => ?_)
    refine lv_aload_n hx hb dX0_partSaid_10 rfl (lv_at hl 0 rfl) ?_
    refine va_get (D := (dC, dI)) (ci := 0) (v := .ref a0_10) (C := RX0) (T := TX0) (N := 15) hx hb hts zi_X0_partSaid_0 hown hK hP 0 rfl rfl 10 (by decide) (hts (.fieldLink RX0 9 "WaxTurns$Hall" "kinds" "[I") (List.mem_cons_of_mem _ (List.mem_append_left _ (List.mem_of_getElem? (i := 0) rfl)))) (fun _ h9 => h9) rfl dX0_partSaid_11 ?_
    refine lv_iload_n hx hb dX0_partSaid_14 rfl (lv_at hl 1 rfl) ?_
    refine va_iald hx hb hK hP 1 0 rfl rfl (ai_in l4k0_a1 u4k0_a1 (by decide) (by decide)) dX0_partSaid_15 ?_
    refine lv_topi (fun x15 ex15 => ?_)
    refine lv_iconst (v := 2) hx hb dX0_partSaid_16 zk_iconst_2 ?_
    refine lv_icmp_ne (tgt := 24) hx hb dX0_partSaid_17 (by decide) (fun c17 => ?_) (fun c17 => ?_)
    · have gc17 := ai_ne c17
      refine lv_iconst (v := 0) hx hb dX0_partSaid_24 zk_iconst_0 ?_
      refine lv_istore_n (lv' := [(3, .int 0), (0, .ref a0), (1, .int a1), (2, .int a2)]) hx hb dX0_partSaid_25 rfl hl (by decide) rfl (fun ls hl => ?_)
      refine lv_iload_n hx hb dX0_partSaid_26 rfl (lv_at hl 0 rfl) ?_
      refine lv_if_eq (tgt := 48) hx hb dX0_partSaid_27 (by decide) (fun _ => ?_) (fun c27 => absurd (by decide +kernel) c27)
      refine lv_iconst (v := 0) hx hb dX0_partSaid_48 zk_iconst_0 ?_
      exact W.iret (v := 0) hx hb hr (fun t ht hW => ⟨⟨0, (), rfl, trivial, by rw [ht]; exact hP, va_K.moved hW.alike hK, hD⟩, hS.F ht⟩) hS.2.2 dX0_partSaid_49
    · have gc17 := ai_eq c17
      have u17f_x15 : x15.toInt ≤ (2 : Int) := Int.le_trans (Int.le_of_eq gc17) zq13
      have l17f_x15 : (2 : Int) ≤ x15.toInt := Int.le_trans zq12 (Int.le_of_eq gc17.symm)
      refine lv_iconst (v := 1) hx hb dX0_partSaid_20 zk_iconst_1 ?_
      refine lv_goto (tgt := 25) hx hb dX0_partSaid_21 (by decide) ?_
      refine lv_istore_n (lv' := [(3, .int 1), (0, .ref a0), (1, .int a1), (2, .int a2)]) hx hb dX0_partSaid_25 rfl hl (by decide) rfl (fun ls hl => ?_)
      refine lv_iload_n hx hb dX0_partSaid_26 rfl (lv_at hl 0 rfl) ?_
      refine lv_if_eq (tgt := 48) hx hb dX0_partSaid_27 (by decide) (fun c27 => absurd c27 (by decide +kernel)) (fun _ => ?_)
      refine lv_iload_n hx hb dX0_partSaid_30 rfl (lv_at hl 3 rfl) ?_
      refine lv_aload_n hx hb dX0_partSaid_31 rfl (lv_at hl 1 rfl) ?_
      refine va_get (D := (dC, dI)) (ci := 0) (v := .ref a0_11) (C := RX0) (T := TX0) (N := 15) hx hb hts zi_X0_partSaid_0 hown hK hP 0 rfl rfl 11 (by decide) (hts (.fieldLink RX0 15 "WaxTurns$Hall" "measures" "[I") (List.mem_cons_of_mem _ (List.mem_append_left _ (List.mem_of_getElem? (i := 1) rfl)))) (fun _ h9 => h9) rfl dX0_partSaid_32 ?_
      refine lv_iload_n hx hb dX0_partSaid_35 rfl (lv_at hl 2 rfl) ?_
      refine va_iald hx hb hK hP 2 1 rfl rfl (ai_in l4k0_a1 u4k0_a1 (by decide) (by decide)) dX0_partSaid_36 ?_
      refine lv_topi (fun x36 ex36 => ?_)
      refine lv_icmp_gt (tgt := 48) hx hb dX0_partSaid_37 (by decide) (fun c37 => ?_) (fun c37 => ?_)
      · have gc37 := ai_lt c37
        have u37t_x36 : x36.toInt ≤ (2147483646 : Int) := ai_lthi gc37 (ai_max a2)
        have l37t_a2 : (-2147483647 : Int) ≤ a2.toInt := ai_ltlo gc37 (ai_min x36)
        refine lv_iconst (v := 0) hx hb dX0_partSaid_48 zk_iconst_0 ?_
        exact W.iret (v := 0) hx hb hr (fun t ht hW => ⟨⟨0, (), rfl, trivial, by rw [ht]; exact hP, va_K.moved hW.alike hK, hD⟩, hS.F ht⟩) hS.2.2 dX0_partSaid_49
      · have gc37 := ai_nlt c37
        refine lv_iconst (v := 1) hx hb dX0_partSaid_40 zk_iconst_1 ?_
        refine lv_iload_n hx hb dX0_partSaid_41 rfl (lv_at hl 3 rfl) ?_
        refine lv_iconst (v := 1) hx hb dX0_partSaid_42 zk_iconst_1 ?_
        refine lv_isub hx hb dX0_partSaid_43 ?_
        refine lv_topi (fun x43 ex43 => ?_)
        refine lv_ishl hx hb dX0_partSaid_44 ?_
        refine lv_topi (fun x44 ex44 => ?_)
        refine lv_goto (tgt := 49) hx hb dX0_partSaid_45 (by decide) ?_
        exact W.iret (v := x44) hx hb hr (fun t ht hW => ⟨⟨x44, (), rfl, trivial, by rw [ht]; exact hP, va_K.moved hW.alike hK, hD⟩, hS.F ht⟩) hS.2.2 dX0_partSaid_49
  · obtain ⟨hw, h4⟩ := hw
    subst hw
    refine lv_if_eq (tgt := 24) hx hb dX0_partSaid_7 (by decide) (fun _ => ?_) (fun c7 => absurd (by decide +kernel) c7)
    refine lv_iconst (v := 0) hx hb dX0_partSaid_24 zk_iconst_0 ?_
    refine lv_istore_n (lv' := [(3, .int 0), (0, .ref a0), (1, .int a1), (2, .int a2)]) hx hb dX0_partSaid_25 rfl hl (by decide) rfl (fun ls hl => ?_)
    refine lv_iload_n hx hb dX0_partSaid_26 rfl (lv_at hl 0 rfl) ?_
    refine lv_if_eq (tgt := 48) hx hb dX0_partSaid_27 (by decide) (fun _ => ?_) (fun c27 => absurd (by decide +kernel) c27)
    refine lv_iconst (v := 0) hx hb dX0_partSaid_48 zk_iconst_0 ?_
    exact W.iret (v := 0) hx hb hr (fun t ht hW => ⟨⟨0, (), rfl, trivial, by rw [ht]; exact hP, va_K.moved hW.alike hK, hD⟩, hS.F ht⟩) hS.2.2 dX0_partSaid_49

set_option maxHeartbeats 4000000 in
set_option maxRecDepth 100000 in
theorem c_X0_pass (l : Launch) (dC : Nat → ClassId) (dI : Nat → Nat → Nat) (sz : Nat) (a0 : Nat) (a1 : Nat) (a2 : Nat) (a0_0 : Int32) (a0_1 : Int32) (a0_2 : Int32) (a0g_3 a0g_4 a0g_7 a0g_8 a0g_9 a0g_12 a0g_13 a0g_14 : Value) (a0_5 : Int32) (a0_6 : Int32) (a0_10 : Nat) (a0_11 : Nat) (a1_0 : Int32) (a1_1 : Int32) (a1_2 : Int32) (a1_3 : Int32) (a1_4 : Int32) (a1_5 : Nat) (a1_6 : Nat) (ka0_10 : ClassId) (fa0_10 : Nat → Int32) (ka0_11 : ClassId) (fa0_11 : Nat → Int32) (ka1_5 : ClassId) (fa1_5 : Nat → Int32) (a2_0 : Int32) (a2_1 : Int32) (a2_2 : Nat) (a2_3 : Nat) (ka2_3 : ClassId) (fa2_3 : Nat → Int32) (ka2_2 : ClassId) (fa2_2 : Nat → Int32) (ka1_6 : ClassId) (fa1_6 : Nat → Int32) (ba0_0_l : (0 : Int) ≤ a0_0.toInt) (ba0_0_u : a0_0.toInt ≤ (9 : Int)) (ba0_5_l : (0 : Int) ≤ a0_5.toInt) (ba0_5_u : a0_5.toInt ≤ (8 : Int)) (ba0_6_l : (0 : Int) ≤ a0_6.toInt) (ba0_6_u : a0_6.toInt ≤ (8 : Int)) (ba1_1_l : (0 : Int) ≤ a1_1.toInt) (ba1_1_u : a1_1.toInt ≤ (8 : Int)) (ba2_0_l : (0 : Int) ≤ a2_0.toInt) (ba2_0_u : a2_0.toInt ≤ (3 : Int)) (bfa2_3 : (∀ k, (0 : Int) ≤ (fa2_3 k).toInt ∧ (fa2_3 k).toInt ≤ 80)) (bfa2_2 : (∀ k, (0 : Int) ≤ (fa2_2 k).toInt ∧ (fa2_2 k).toInt ≤ 80)) : zm l yX0_pass wsX0_pass ({ frames := 3, cells := 0, slots := 0, locals := 73 }) [.ref a0, .ref a1, .ref a2] dC dI sz [(a0, .inr (0, [.int a0_0, .int a0_1, .int a0_2, a0g_3, a0g_4, .int a0_5, .int a0_6, a0g_7, a0g_8, a0g_9, .ref a0_10, .ref a0_11, a0g_12, a0g_13, a0g_14])), (a1, .inr (5, [.int a1_0, .int a1_1, .int a1_2, .int a1_3, .int a1_4, .ref a1_5, .ref a1_6])), (a0_10, .inl (ka0_10, 9, .inl (fa0_10))), (a0_11, .inl (ka0_11, 9, .inl (fa0_11))), (a1_5, .inl (ka1_5, 9, .inl (fa1_5))), (a2, .inr (6, [.int a2_0, .int a2_1, .ref a2_2, .ref a2_3])), (a2_3, .inl (ka2_3, 3, .inl (fa2_3))), (a2_2, .inl (ka2_2, 3, .inl (fa2_2))), (a1_6, .inl (ka1_6, 9, .inl (fa1_6)))] [(ka0_10, .int), (ka0_11, .int), (ka1_5, .int), (ka2_3, .int), (ka2_2, .int), (ka1_6, .int)] (fun A U => va_Nw (.methodLinkNest RX0 118 yX7_within RX7) U ∧ va_Nw (.methodLinkNest RX5 38 yX7_hasBit RX7) U ∧ va_Nw (.methodLinkNest RX0 129 yX7_hasBit RX7) U) (fun A => va_Qv (fun (_ : Unit) => True) (fun (_ : Unit) (t : State) => ∃ na1_0 : Int32, ∃ na1_1 : Int32, ∃ na1_2 : Int32, ∃ na1_3 : Int32, ∃ na1_4 : Int32, ∃ nfa1_5 : Nat → Int32, ∃ nfa1_6 : Nat → Int32, ((0 : Int) ≤ na1_1.toInt ∧ na1_1.toInt ≤ 8) ∧ ax_B dC dI A [(a0, .inr (0, [.int a0_0, .int a0_1, .int a0_2, a0g_3, a0g_4, .int a0_5, .int a0_6, a0g_7, a0g_8, a0g_9, .ref a0_10, .ref a0_11, a0g_12, a0g_13, a0g_14])), (a1, .inr (5, [.int na1_0, .int na1_1, .int na1_2, .int na1_3, .int na1_4, .ref a1_5, .ref a1_6])), (a0_10, .inl (ka0_10, 9, .inl (fa0_10))), (a0_11, .inl (ka0_11, 9, .inl (fa0_11))), (a1_5, .inl (ka1_5, 9, .inl (nfa1_5))), (a2, .inr (6, [.int a2_0, .int a2_1, .ref a2_2, .ref a2_3])), (a2_3, .inl (ka2_3, 3, .inl (fa2_3))), (a2_2, .inl (ka2_2, 3, .inl (fa2_2))), (a1_6, .inl (ka1_6, 9, .inl (nfa1_6)))] [(ka0_10, .int), (ka0_11, .int), (ka1_5, .int), (ka2_3, .int), (ka2_2, .int), (ka1_6, .int)] t) A) := by
  refine zh (cc := cX0_pass) (maxL := 6) (ret := none) zn_RX0 rfl (Nat.le_of_ble_eq_true rfl) (fun p e s m below meth c A ls hx hb hml hr hts (hown : s.vm.findClass RX0 = some m.cls) hlocks hA hS hP hK hD hE (hl : lv_has ls 6 [(0, .ref a0), (1, .ref a1), (2, .ref a2)]) => ?_)
  obtain ⟨hE0, hE1, hE2⟩ := hE
  refine lv_aload_n hx hb dX0_pass_0 rfl (lv_at hl 1 rfl) ?_
  refine va_get (D := (dC, dI)) (ci := 5) (v := .int a1_1) (C := RX5) (T := TX5) (N := 7) hx hb hts zi_X0_pass_5 hown hK hP 1 rfl rfl 1 (by decide) (hts (.fieldLink RX0 79 "WaxTurns$Scene" "turn" "I") (zm_X0_pass_r1 (List.mem_of_getElem? (i := 0) rfl))) (fun _ h9 => h9) rfl dX0_pass_1 ?_
  refine lv_istore_n (lv' := [(3, .int a1_1), (0, .ref a0), (1, .ref a1), (2, .ref a2)]) hx hb dX0_pass_4 rfl hl (by decide) rfl (fun ls hl => ?_)
  refine lv_aload_n hx hb dX0_pass_5 rfl (lv_at hl 2 rfl) ?_
  refine va_get (D := (dC, dI)) (ci := 5) (v := .int a1_2) (C := RX5) (T := TX5) (N := 7) hx hb hts zi_X0_pass_5 hown hK hP 1 rfl rfl 2 (by decide) (hts (.fieldLink RX0 84 "WaxTurns$Scene" "spent" "I") (zm_X0_pass_r1 (List.mem_of_getElem? (i := 1) rfl))) (fun _ h9 => h9) rfl dX0_pass_6 ?_
  refine lv_iconst (v := 1) hx hb dX0_pass_9 zk_iconst_1 ?_
  refine lv_iadd hx hb dX0_pass_10 ?_
  refine lv_topi (fun x10 ex10 => ?_)
  refine lv_istore (lv' := [(4, .int x10), (3, .int a1_1), (0, .ref a0), (1, .ref a1), (2, .ref a2)]) hx hb dX0_pass_11 hl (by decide) rfl (fun ls hl => ?_)
  refine lv_aload_n hx hb dX0_pass_13 rfl (lv_at hl 2 rfl) ?_
  refine lv_iload_n hx hb dX0_pass_14 rfl (lv_at hl 1 rfl) ?_
  refine lv_iload hx hb dX0_pass_15 (lv_at hl 0 rfl) ?_
  refine zc_cutc (wc := [(a0, .inr (0, [.int a0_0, .int a0_1, .int a0_2, a0g_3, a0g_4, .int a0_5, .int a0_6, a0g_7, a0g_8, a0g_9, .ref a0_10, .ref a0_11, a0g_12, a0g_13, a0g_14])), (a0_10, .inl (ka0_10, 9, .inl (fa0_10))), (a0_11, .inl (ka0_11, 9, .inl (fa0_11)))]) hP hD hS hA [0, 2, 3] (by decide +kernel) rfl (fun hPc hDc hFc hCc => ?_)
  have hKc := hK.sub (tys' := [(ka0_10, .int), (ka0_11, .int)]) [0, 1] rfl
  refine va_calli (va_runV (As := [.int a1_1, .int x10]) (rest := []) ⟨hx, hb, hml, hown, hts⟩ (c_X0_stepsIn l dC dI s.heap.size a0 a1_1 x10 (.int a0_0) (.int a0_1) (.int a0_2) a0g_3 a0g_4 (.int a0_5) (.int a0_6) a0g_7 a0g_8 a0g_9 a0g_12 a0g_13 a0g_14 a0_10 a0_11 ka0_10 fa0_10 ka0_11 fa0_11 ) (cwV 2 hts gX0_pass_X0_stepsIn rfl rfl rfl zd_X0_stepsIn ⟨Nat.le_of_ble_eq_true rfl, Nat.le_of_ble_eq_true rfl⟩) ⟨ax_blind (fun _ _ _ _ hq => va_Nw.same rfl rfl (hq)), zr_0 hKc hPc (q0 := 0) rfl, ax_pre hPc hKc hDc (fun _ hW => va_Nw.warmM hW hE0)⟩ rfl rfl hl.1 rfl (lv_room (Nat.le_of_ble_eq_true rfl)) dX0_pass_17 ⟨Nat.le_of_ble_eq_true rfl, Nat.le_of_ble_eq_true rfl⟩) hS (fun q _ h => hFc q h) hFc (fun r17 u t H locs ht hvm hw hB hz1 hk1 hS => zo hB ht (fun hP1 hK1 hD1 => ?_))
  refine zc_backc (w := [(a0, .inr (0, [.int a0_0, .int a0_1, .int a0_2, a0g_3, a0g_4, .int a0_5, .int a0_6, a0g_7, a0g_8, a0g_9, .ref a0_10, .ref a0_11, a0g_12, a0g_13, a0g_14])), (a1, .inr (5, [.int a1_0, .int a1_1, .int a1_2, .int a1_3, .int a1_4, .ref a1_5, .ref a1_6])), (a0_10, .inl (ka0_10, 9, .inl (fa0_10))), (a0_11, .inl (ka0_11, 9, .inl (fa0_11))), (a1_5, .inl (ka1_5, 9, .inl (fa1_5))), (a2, .inr (6, [.int a2_0, .int a2_1, .ref a2_2, .ref a2_3])), (a2_3, .inl (ka2_3, 3, .inl (fa2_3))), (a2_2, .inl (ka2_2, 3, .inl (fa2_2))), (a1_6, .inl (ka1_6, 9, .inl (fa1_6)))]) hP hD hCc hk1 hFc hP1 hD1 [.inr 0, .inl 1, .inr 1, .inr 2, .inl 4, .inl 5, .inl 6, .inl 7, .inl 8] (by decide +kernel) rfl (fun hP hD => ?_)
  rcases hw with hw | hw
  · obtain ⟨hw, h17_0, h17_1⟩ := hw
    subst hw
    have l17k0_a1_1 : (0 : Int) ≤ a1_1.toInt := ba1_1_l
    have u17k0_a1_1 : a1_1.toInt ≤ (8 : Int) := ba1_1_u
    refine lv_if_eq (tgt := 30) hx hb dX0_pass_20 (by decide) (fun c20 => absurd c20 (by decide +kernel)) (fun _ => ?_)
    refine lv_aload_n hx hb dX0_pass_23 rfl (lv_at hl 2 rfl) ?_
    refine lv_aload_n hx hb dX0_pass_24 rfl (lv_at hl 3 rfl) ?_
    refine lv_iload_n hx hb dX0_pass_25 rfl (lv_at hl 1 rfl) ?_
    refine lv_aload_n hx hb dX0_pass_26 rfl (lv_at hl 4 rfl) ?_
    refine zc_cutc (wc := [(a0, .inr (0, [.int a0_0, .int a0_1, .int a0_2, a0g_3, a0g_4, .int a0_5, .int a0_6, a0g_7, a0g_8, a0g_9, .ref a0_10, .ref a0_11, a0g_12, a0g_13, a0g_14])), (a1, .inr (5, [.int a1_0, .int a1_1, .int a1_2, .int a1_3, .int a1_4, .ref a1_5, .ref a1_6])), (a1_5, .inl (ka1_5, 9, .inl (fa1_5))), (a2, .inr (6, [.int a2_0, .int a2_1, .ref a2_2, .ref a2_3])), (a2_3, .inl (ka2_3, 3, .inl (fa2_3))), (a2_2, .inl (ka2_2, 3, .inl (fa2_2)))]) hP hD hS hA [0, 1, 4, 5, 6, 7] (by decide +kernel) rfl (fun hPc hDc hFc hCc => ?_)
    have hKc := hK.sub (tys' := [(ka1_5, .int), (ka2_3, .int), (ka2_2, .int)]) [2, 3, 4] rfl
    refine va_callv (va_runV (As := [.ref a1, .int a1_1, .ref a2]) (rest := []) ⟨hx, hb, hml, hown, hts⟩ (c_X0_step l dC dI H.size a0 a1 a1_1 a2 (.int a0_0) (.int a0_1) a0g_3 a0g_4 (.int a0_5) (.int a0_6) a0g_7 a0g_8 a0g_9 (.ref a0_10) (.ref a0_11) a0g_12 a0g_13 a0g_14 a0_2 a1_0 (.int a1_1) (.int a1_2) (.ref a1_6) a1_3 a1_4 a1_5 ka1_5 fa1_5 a2_0 a2_1 a2_2 a2_3 ka2_3 fa2_3 ka2_2 fa2_2 l17k0_a1_1 u17k0_a1_1 ba2_0_l ba2_0_u bfa2_3 bfa2_2) (cwV 3 hts gX0_pass_X0_step rfl rfl rfl zd_X0_step ⟨Nat.le_of_ble_eq_true rfl, Nat.le_of_ble_eq_true rfl⟩) ⟨ax_blind (fun _ _ _ _ hq => ⟨va_Nw.same rfl rfl (hq.1), va_Nw.same rfl rfl (hq.2)⟩), zr_0 hKc hPc (q0 := 0) rfl, ax_pre hPc hKc hDc (fun _ hW => ⟨va_Nw.warmM hW hE1, va_Nw.warmM hW hE2⟩)⟩ rfl rfl hl.1 rfl (lv_room (Nat.le_of_ble_eq_true rfl)) dX0_pass_27 ⟨Nat.le_of_ble_eq_true rfl, Nat.le_of_ble_eq_true rfl⟩) hS (fun q _ h => hFc q h) hFc (fun u t H locs ht hvm hw hB hz1 hk1 hS => zx_3 hB (fun v27na1_3 v27na1_4 v27nfa1_5 hB => zo hB ht (fun hP1 hK1 hD1 => ?_)))
    refine zc_backc (w := [(a0, .inr (0, [.int a0_0, .int a0_1, .int a0_2, a0g_3, a0g_4, .int a0_5, .int a0_6, a0g_7, a0g_8, a0g_9, .ref a0_10, .ref a0_11, a0g_12, a0g_13, a0g_14])), (a1, .inr (5, [.int a1_0, .int a1_1, .int a1_2, .int v27na1_3, .int v27na1_4, .ref a1_5, .ref a1_6])), (a0_10, .inl (ka0_10, 9, .inl (fa0_10))), (a0_11, .inl (ka0_11, 9, .inl (fa0_11))), (a1_5, .inl (ka1_5, 9, .inl (v27nfa1_5))), (a2, .inr (6, [.int a2_0, .int a2_1, .ref a2_2, .ref a2_3])), (a2_3, .inl (ka2_3, 3, .inl (fa2_3))), (a2_2, .inl (ka2_2, 3, .inl (fa2_2))), (a1_6, .inl (ka1_6, 9, .inl (fa1_6)))]) hP hD hCc hk1 hFc hP1 hD1 [.inr 0, .inr 1, .inl 2, .inl 3, .inr 2, .inr 3, .inr 4, .inr 5, .inl 8] (by decide +kernel) rfl (fun hP hD => ?_)
    refine lv_aload_n hx hb dX0_pass_30 rfl (lv_at hl 2 rfl) ?_
    refine lv_iload_n hx hb dX0_pass_31 rfl (lv_at hl 1 rfl) ?_
    refine lv_iload hx hb dX0_pass_32 (lv_at hl 0 rfl) ?_
    refine zc_cutc (wc := [(a0, .inr (0, [.int a0_0, .int a0_1, .int a0_2, a0g_3, a0g_4, .int a0_5, .int a0_6, a0g_7, a0g_8, a0g_9, .ref a0_10, .ref a0_11, a0g_12, a0g_13, a0g_14])), (a0_10, .inl (ka0_10, 9, .inl (fa0_10))), (a0_11, .inl (ka0_11, 9, .inl (fa0_11)))]) hP hD hS hA [0, 2, 3] (by decide +kernel) rfl (fun hPc hDc hFc hCc => ?_)
    have hKc := hK.sub (tys' := [(ka0_10, .int), (ka0_11, .int)]) [0, 1] rfl
    refine va_calli (va_runV (As := [.int a1_1, .int x10]) (rest := []) ⟨hx, hb, hml, hown, hts⟩ (c_X0_partSaid l dC dI H.size a0 a1_1 x10 (.int a0_0) (.int a0_1) (.int a0_2) a0g_3 a0g_4 (.int a0_5) (.int a0_6) a0g_7 a0g_8 a0g_9 a0g_12 a0g_13 a0g_14 a0_10 a0_11 ka0_10 fa0_10 ka0_11 fa0_11 ) (cwV 2 hts gX0_pass_X0_partSaid rfl rfl rfl zd_X0_partSaid ⟨Nat.le_of_ble_eq_true rfl, Nat.le_of_ble_eq_true rfl⟩) ⟨ax_blind (fun _ _ _ _ hq => va_Nw.same rfl rfl (hq)), zr_0 hKc hPc (q0 := 0) rfl, ax_pre hPc hKc hDc (fun _ hW => va_Nw.warmM hW hE0)⟩ rfl rfl hl.1 rfl (lv_room (Nat.le_of_ble_eq_true rfl)) dX0_pass_34 ⟨Nat.le_of_ble_eq_true rfl, Nat.le_of_ble_eq_true rfl⟩) hS (fun q _ h => hFc q h) hFc (fun r34 u t H locs ht hvm hw hB hz1 hk1 hS => zo hB ht (fun hP1 hK1 hD1 => ?_))
    refine zc_backc (w := [(a0, .inr (0, [.int a0_0, .int a0_1, .int a0_2, a0g_3, a0g_4, .int a0_5, .int a0_6, a0g_7, a0g_8, a0g_9, .ref a0_10, .ref a0_11, a0g_12, a0g_13, a0g_14])), (a1, .inr (5, [.int a1_0, .int a1_1, .int a1_2, .int v27na1_3, .int v27na1_4, .ref a1_5, .ref a1_6])), (a0_10, .inl (ka0_10, 9, .inl (fa0_10))), (a0_11, .inl (ka0_11, 9, .inl (fa0_11))), (a1_5, .inl (ka1_5, 9, .inl (v27nfa1_5))), (a2, .inr (6, [.int a2_0, .int a2_1, .ref a2_2, .ref a2_3])), (a2_3, .inl (ka2_3, 3, .inl (fa2_3))), (a2_2, .inl (ka2_2, 3, .inl (fa2_2))), (a1_6, .inl (ka1_6, 9, .inl (fa1_6)))]) hP hD hCc hk1 hFc hP1 hD1 [.inr 0, .inl 1, .inr 1, .inr 2, .inl 4, .inl 5, .inl 6, .inl 7, .inl 8] (by decide +kernel) rfl (fun hP hD => ?_)
    refine lv_istore (lv' := [(5, .int r34), (4, .int x10), (3, .int a1_1), (0, .ref a0), (1, .ref a1), (2, .ref a2)]) hx hb dX0_pass_37 hl (by decide) rfl (fun ls hl => ?_)
    refine lv_iload hx hb dX0_pass_39 (lv_at hl 0 rfl) ?_
    refine lv_if_eq (tgt := 75) hx hb dX0_pass_41 (by decide) (fun c41 => ?_) (fun c41 => ?_)
    · have gc41 := ai_eq c41
      have u41t_r34 : r34.toInt ≤ (0 : Int) := Int.le_trans (Int.le_of_eq gc41) zq6
      have l41t_r34 : (0 : Int) ≤ r34.toInt := Int.le_trans zq5 (Int.le_of_eq gc41.symm)
      refine lv_aload_n hx hb dX0_pass_75 rfl (lv_at hl 4 rfl) ?_
      refine lv_dup hx hb dX0_pass_76 rfl ?_
      refine va_get (D := (dC, dI)) (ci := 5) (v := .int a1_0) (C := RX5) (T := TX5) (N := 7) hx hb hts zi_X0_pass_5 hown hK hP 1 rfl rfl 0 (by decide) (hts (.fieldLink RX0 102 "WaxTurns$Scene" "minute" "I") (zm_X0_pass_r1 (List.mem_of_getElem? (i := 3) rfl))) (fun _ h9 => h9) rfl dX0_pass_77 ?_
      refine lv_iconst (v := 1) hx hb dX0_pass_80 zk_iconst_1 ?_
      refine lv_iadd hx hb dX0_pass_81 ?_
      refine lv_topi (fun x81 ex81 => ?_)
      refine va_put (D := (dC, dI)) (ci := 5) (v := .int x81) (ty := .int) (C := RX5) (T := TX5) (N := 7) hx hb hts zi_X0_pass_5 tyX5 tyX5_ok nmX5 hown hK hP hD hS 1 rfl rfl 0 (by decide) (hts (.fieldLink RX0 102 "WaxTurns$Scene" "minute" "I") (zm_X0_pass_r1 (List.mem_of_getElem? (i := 3) rfl))) (fun _ h9 => h9) rfl (tyX5_ok 0 (by decide)) rfl rfl (Nat.le_of_ble_eq_true rfl) dX0_pass_82 (fun H locs hP hD hS => ?_)
      refine zs_1 (y := (a1, .inr (5, [.int x81, .int a1_1, .int a1_2, .int v27na1_3, .int v27na1_4, .ref a1_5, .ref a1_6]))) hP hD rfl (fun hP hD => ?_)
      refine lv_aload_n hx hb dX0_pass_85 rfl (lv_at hl 4 rfl) ?_
      refine lv_iload hx hb dX0_pass_86 (lv_at hl 1 rfl) ?_
      refine va_put (D := (dC, dI)) (ci := 5) (v := .int x10) (ty := .int) (C := RX5) (T := TX5) (N := 7) hx hb hts zi_X0_pass_5 tyX5 tyX5_ok nmX5 hown hK hP hD hS 1 rfl rfl 2 (by decide) (hts (.fieldLink RX0 84 "WaxTurns$Scene" "spent" "I") (zm_X0_pass_r1 (List.mem_of_getElem? (i := 1) rfl))) (fun _ h9 => h9) rfl (tyX5_ok 2 (by decide)) rfl rfl (Nat.le_of_ble_eq_true rfl) dX0_pass_88 (fun H locs hP hD hS => ?_)
      refine zs_1 (y := (a1, .inr (5, [.int x81, .int a1_1, .int x10, .int v27na1_3, .int v27na1_4, .ref a1_5, .ref a1_6]))) hP hD rfl (fun hP hD => ?_)
      refine lv_iload hx hb dX0_pass_91 (lv_at hl 1 rfl) ?_
      refine lv_aload_n hx hb dX0_pass_93 rfl (lv_at hl 3 rfl) ?_
      refine va_get (D := (dC, dI)) (ci := 0) (v := .int a0_1) (C := RX0) (T := TX0) (N := 15) hx hb hts zi_X0_pass_0 hown hK hP 0 rfl rfl 1 (by decide) (hts (.fieldLink RX0 48 "WaxTurns$Hall" "span" "I") (zm_X0_pass_r1 (List.mem_of_getElem? (i := 5) rfl))) (fun _ h9 => h9) rfl dX0_pass_94 ?_
      refine lv_icmp_lt (tgt := 109) hx hb dX0_pass_97 (by decide) (fun c97 => ?_) (fun c97 => ?_)
      · have gc97 := ai_lt c97
        have u97t_x10 : x10.toInt ≤ (2147483646 : Int) := ai_lthi gc97 (ai_max a0_1)
        have l97t_a0_1 : (-2147483647 : Int) ≤ a0_1.toInt := ai_ltlo gc97 (ai_min x10)
        exact W.vret hx hb hr (fun t ht hW => ⟨⟨(), rfl, trivial, x81, a1_1, x10, v27na1_3, v27na1_4, v27nfa1_5, fa1_6, ⟨l17k0_a1_1, u17k0_a1_1⟩, by rw [ht]; exact hP, va_K.moved hW.alike hK, hD⟩, hS.F ht⟩) hS.2.2 dX0_pass_109
      · have gc97 := ai_nlt c97
        refine lv_aload_n hx hb dX0_pass_100 rfl (lv_at hl 4 rfl) ?_
        refine lv_aload_n hx hb dX0_pass_101 rfl (lv_at hl 3 rfl) ?_
        refine lv_iload_n hx hb dX0_pass_102 rfl (lv_at hl 2 rfl) ?_
        refine va_calli (va_runV (As := [.int a1_1]) (rest := [.ref a1]) ⟨hx, hb, hml, hown, hts⟩ (c_X0_next l dC dI H.size a0 a1_1 a0_0 (.int a0_1) (.int a0_2) a0g_3 a0g_4 a0g_7 a0g_8 a0g_9 (.ref a0_10) (.ref a0_11) a0g_12 a0g_13 a0g_14 a0_5 a0_6 l17k0_a1_1 u17k0_a1_1 ba0_0_l ba0_0_u ba0_5_l ba0_5_u ba0_6_l ba0_6_u) (cwV 1 hts gX0_pass_X0_next rfl rfl rfl zd_X0_next ⟨Nat.le_of_ble_eq_true rfl, Nat.le_of_ble_eq_true rfl⟩) ⟨ax_blind (fun _ _ _ _ _ => trivial), zr_0 (zp_K hK) (zp_P1 hP) (q0 := 0) rfl, ax_pre (zp_P1 hP) (zp_K hK) (zp_D1 hD) (fun _ _ => trivial)⟩ rfl rfl hl.1 rfl (lv_room (Nat.le_of_ble_eq_true rfl)) dX0_pass_103 ⟨Nat.le_of_ble_eq_true rfl, Nat.le_of_ble_eq_true rfl⟩) hS (fun q _ h => zp_F1 hD hS hA q h) (zp_F1 hD hS hA) (fun r103 u t H locs ht hvm hw hB hz1 hk1 hS1 => zo1 hB ht hP hD hk1 (zp_F1 hD hS hA) hS1 (fun hP hK1 hD hS => ?_))
        have hw : (0 : Int) ≤ r103.toInt ∧ r103.toInt ≤ (8 : Int) := hw
        obtain ⟨h103_0, h103_1⟩ := hw
        refine zc_cutc (wc := [(a1, .inr (5, [.int x81, .int a1_1, .int x10, .int v27na1_3, .int v27na1_4, .ref a1_5, .ref a1_6]))]) hP hD hS hA [1] (by decide +kernel) rfl (fun hPc hDc hFc hCc => ?_)
        have hKc := zp_K hK
        refine va_callv (va_runV (As := [.int r103]) (rest := []) ⟨hx, hb, hml, hown, hts⟩ (c_X5_startTurn l dC dI H.size a1 r103 (.int x81) (.int v27na1_3) (.int v27na1_4) (.ref a1_5) (.ref a1_6) a1_1 x10 h103_0 h103_1 l17k0_a1_1 u17k0_a1_1) (cwV 1 hts gX0_pass_X5_startTurn rfl rfl rfl zd_X5_startTurn ⟨Nat.le_of_ble_eq_true rfl, Nat.le_of_ble_eq_true rfl⟩) ⟨ax_blind (fun _ _ _ _ _ => trivial), zr_5 hKc hPc (q0 := 0) rfl, ax_pre hPc hKc hDc (fun _ _ => trivial)⟩ rfl rfl hl.1 rfl (lv_room (Nat.le_of_ble_eq_true rfl)) dX0_pass_106 ⟨Nat.le_of_ble_eq_true rfl, Nat.le_of_ble_eq_true rfl⟩) hS (fun q _ h => hFc q h) hFc (fun u t H locs ht hvm hw hB hz1 hk1 hS => zx_2 hB (fun v106na0_1 v106na0_2 hB => zy_1 hB (fun bv106na0_1 hB => zo hB ht (fun hP1 hK1 hD1 => ?_))))
        refine zc_backc (w := [(a0, .inr (0, [.int a0_0, .int a0_1, .int a0_2, a0g_3, a0g_4, .int a0_5, .int a0_6, a0g_7, a0g_8, a0g_9, .ref a0_10, .ref a0_11, a0g_12, a0g_13, a0g_14])), (a1, .inr (5, [.int x81, .int v106na0_1, .int v106na0_2, .int v27na1_3, .int v27na1_4, .ref a1_5, .ref a1_6])), (a0_10, .inl (ka0_10, 9, .inl (fa0_10))), (a0_11, .inl (ka0_11, 9, .inl (fa0_11))), (a1_5, .inl (ka1_5, 9, .inl (v27nfa1_5))), (a2, .inr (6, [.int a2_0, .int a2_1, .ref a2_2, .ref a2_3])), (a2_3, .inl (ka2_3, 3, .inl (fa2_3))), (a2_2, .inl (ka2_2, 3, .inl (fa2_2))), (a1_6, .inl (ka1_6, 9, .inl (fa1_6)))]) hP hD hCc hk1 hFc hP1 hD1 [.inl 0, .inr 0, .inl 2, .inl 3, .inl 4, .inl 5, .inl 6, .inl 7, .inl 8] (by decide +kernel) rfl (fun hP hD => ?_)
        exact W.vret hx hb hr (fun t ht hW => ⟨⟨(), rfl, trivial, x81, v106na0_1, v106na0_2, v27na1_3, v27na1_4, v27nfa1_5, fa1_6, ⟨bv106na0_1.1, bv106na0_1.2⟩, by rw [ht]; exact hP, va_K.moved hW.alike hK, hD⟩, hS.F ht⟩) hS.2.2 dX0_pass_109
    · have gc41 := ai_ne c41
      refine lv_aload_n hx hb dX0_pass_44 rfl (lv_at hl 4 rfl) ?_
      refine va_get (D := (dC, dI)) (ci := 5) (v := .ref a1_5) (C := RX5) (T := TX5) (N := 7) hx hb hts zi_X0_pass_5 hown hK hP 1 rfl rfl 5 (by decide) (hts (.fieldLink RX0 99 "WaxTurns$Scene" "places" "[I") (zm_X0_pass_r1 (List.mem_of_getElem? (i := 2) rfl))) (fun _ h9 => h9) rfl dX0_pass_45 ?_
      refine lv_iload_n hx hb dX0_pass_48 rfl (lv_at hl 2 rfl) ?_
      refine va_iald hx hb hK hP 4 2 rfl rfl (ai_in l17k0_a1_1 u17k0_a1_1 (by decide) (by decide)) dX0_pass_49 ?_
      refine lv_topi (fun x49 ex49 => ?_)
      refine lv_aload_n hx hb dX0_pass_50 rfl (lv_at hl 5 rfl) ?_
      refine lv_aload_n hx hb dX0_pass_51 rfl (lv_at hl 4 rfl) ?_
      refine va_get (D := (dC, dI)) (ci := 5) (v := .int a1_0) (C := RX5) (T := TX5) (N := 7) hx hb hts zi_X0_pass_5 hown hK hP 1 rfl rfl 0 (by decide) (hts (.fieldLink RX0 102 "WaxTurns$Scene" "minute" "I") (zm_X0_pass_r1 (List.mem_of_getElem? (i := 3) rfl))) (fun _ h9 => h9) rfl dX0_pass_52 ?_
      refine zc_cutc (wc := [(a2, .inr (6, [.int a2_0, .int a2_1, .ref a2_2, .ref a2_3])), (a2_3, .inl (ka2_3, 3, .inl (fa2_3))), (a2_2, .inl (ka2_2, 3, .inl (fa2_2)))]) hP hD hS hA [5, 6, 7] (by decide +kernel) rfl (fun hPc hDc hFc hCc => ?_)
      have hKc := hK.sub (tys' := [(ka2_3, .int), (ka2_2, .int)]) [3, 4] rfl
      refine va_calli (va_runV (As := [.int a1_0]) (rest := [.int x49]) ⟨hx, hb, hml, hown, hts⟩ (c_X6_placesIn l dC dI H.size a2 a1_0 a2_0 a2_1 a2_2 a2_3 ka2_3 fa2_3 ka2_2 fa2_2 ba2_0_l ba2_0_u bfa2_3 bfa2_2) (cwV 1 hts gX0_pass_X6_placesIn rfl rfl rfl zd_X6_placesIn ⟨Nat.le_of_ble_eq_true rfl, Nat.le_of_ble_eq_true rfl⟩) ⟨ax_blind (fun _ _ _ _ _ => trivial), zr_6 hKc hPc (q0 := 0) rfl, ax_pre hPc hKc hDc (fun _ _ => trivial)⟩ rfl rfl hl.1 rfl (lv_room (Nat.le_of_ble_eq_true rfl)) dX0_pass_55 ⟨Nat.le_of_ble_eq_true rfl, Nat.le_of_ble_eq_true rfl⟩) hS (fun q _ h => hFc q h) hFc (fun r55 u t H locs ht hvm hw hB hz1 hk1 hS => zo hB ht (fun hP1 hK1 hD1 => ?_))
      refine zc_backc (w := [(a0, .inr (0, [.int a0_0, .int a0_1, .int a0_2, a0g_3, a0g_4, .int a0_5, .int a0_6, a0g_7, a0g_8, a0g_9, .ref a0_10, .ref a0_11, a0g_12, a0g_13, a0g_14])), (a1, .inr (5, [.int a1_0, .int a1_1, .int a1_2, .int v27na1_3, .int v27na1_4, .ref a1_5, .ref a1_6])), (a0_10, .inl (ka0_10, 9, .inl (fa0_10))), (a0_11, .inl (ka0_11, 9, .inl (fa0_11))), (a1_5, .inl (ka1_5, 9, .inl (v27nfa1_5))), (a2, .inr (6, [.int a2_0, .int a2_1, .ref a2_2, .ref a2_3])), (a2_3, .inl (ka2_3, 3, .inl (fa2_3))), (a2_2, .inl (ka2_2, 3, .inl (fa2_2))), (a1_6, .inl (ka1_6, 9, .inl (fa1_6)))]) hP hD hCc hk1 hFc hP1 hD1 [.inl 0, .inl 1, .inl 2, .inl 3, .inl 4, .inr 0, .inr 1, .inr 2, .inl 8] (by decide +kernel) rfl (fun hP hD => ?_)
      refine va_calli (va_runS (As := [.int x49, .int r55]) (rest := []) ⟨hx, hb, hml, hown, hts⟩ (c_X0_isHeardAt l dC dI H.size x49 r55 ) (va_cwS 2 hts gX0_pass_X0_isHeardAt rfl rfl rfl zd_X0_isHeardAt.2 ⟨Nat.le_of_ble_eq_true rfl, Nat.le_of_ble_eq_true rfl⟩) ⟨ax_blind (fun _ _ _ _ _ => trivial), ax_pre (zp_P0 hP) (zp_K hK) (zp_D0 hD) (fun _ _ => trivial)⟩ rfl rfl hl.1 rfl (lv_room (Nat.le_of_ble_eq_true rfl)) dX0_pass_58 ⟨Nat.le_of_ble_eq_true rfl, Nat.le_of_ble_eq_true rfl⟩) hS (fun q _ h => zp_F0 hD hS hA q h) (zp_F0 hD hS hA) (fun r58 u t H locs ht hvm hw hB hz1 hk1 hS1 => zo0 hB ht hP hD hk1 (zp_F0 hD hS hA) hS1 (fun hP hK1 hD hS => ?_))
      rcases hw with hw | hw
      · subst hw
        refine lv_if_eq (tgt := 75) hx hb dX0_pass_61 (by decide) (fun c61 => absurd c61 (by decide +kernel)) (fun _ => ?_)
        refine lv_aload_n hx hb dX0_pass_64 rfl (lv_at hl 4 rfl) ?_
        refine va_get (D := (dC, dI)) (ci := 5) (v := .ref a1_6) (C := RX5) (T := TX5) (N := 7) hx hb hts zi_X0_pass_5 hown hK hP 1 rfl rfl 6 (by decide) (hts (.fieldLink RX0 111 "WaxTurns$Scene" "heardBits" "[I") (zm_X0_pass_r1 (List.mem_of_getElem? (i := 4) rfl))) (fun _ h9 => h9) rfl dX0_pass_65 ?_
        refine lv_iload_n hx hb dX0_pass_68 rfl (lv_at hl 2 rfl) ?_
        refine lv_dup2_11 hx hb dX0_pass_69 rfl rfl ?_
        refine va_iald hx hb hK hP 8 5 rfl rfl (ai_in l17k0_a1_1 u17k0_a1_1 (by decide) (by decide)) dX0_pass_70 ?_
        refine lv_topi (fun x70 ex70 => ?_)
        refine lv_iload hx hb dX0_pass_71 (lv_at hl 0 rfl) ?_
        refine lv_ior hx hb dX0_pass_73 ?_
        refine lv_topi (fun x73 ex73 => ?_)
        refine va_iast hx hb hK hP hD hS 8 5 rfl rfl (ai_in l17k0_a1_1 u17k0_a1_1 (by decide) (by decide)) dX0_pass_74 (fun H locs hP hD hS => ?_)
        obtain ⟨f74, hP, hD⟩ : ∃ f74 : Nat → Int32, va_P (dC, dI) vwCl [(a0, .inr (0, [.int a0_0, .int a0_1, .int a0_2, a0g_3, a0g_4, .int a0_5, .int a0_6, a0g_7, a0g_8, a0g_9, .ref a0_10, .ref a0_11, a0g_12, a0g_13, a0g_14])), (a1, .inr (5, [.int a1_0, .int a1_1, .int a1_2, .int v27na1_3, .int v27na1_4, .ref a1_5, .ref a1_6])), (a0_10, .inl (ka0_10, 9, .inl (fa0_10))), (a0_11, .inl (ka0_11, 9, .inl (fa0_11))), (a1_5, .inl (ka1_5, 9, .inl (v27nfa1_5))), (a2, .inr (6, [.int a2_0, .int a2_1, .ref a2_2, .ref a2_3])), (a2_3, .inl (ka2_3, 3, .inl (fa2_3))), (a2_2, .inl (ka2_2, 3, .inl (fa2_2))), (a1_6, .inl (ka1_6, 9, .inl (f74)))] H ∧ va_D A [(a0, .inr (0, [.int a0_0, .int a0_1, .int a0_2, a0g_3, a0g_4, .int a0_5, .int a0_6, a0g_7, a0g_8, a0g_9, .ref a0_10, .ref a0_11, a0g_12, a0g_13, a0g_14])), (a1, .inr (5, [.int a1_0, .int a1_1, .int a1_2, .int v27na1_3, .int v27na1_4, .ref a1_5, .ref a1_6])), (a0_10, .inl (ka0_10, 9, .inl (fa0_10))), (a0_11, .inl (ka0_11, 9, .inl (fa0_11))), (a1_5, .inl (ka1_5, 9, .inl (v27nfa1_5))), (a2, .inr (6, [.int a2_0, .int a2_1, .ref a2_2, .ref a2_3])), (a2_3, .inl (ka2_3, 3, .inl (fa2_3))), (a2_2, .inl (ka2_2, 3, .inl (fa2_2))), (a1_6, .inl (ka1_6, 9, .inl (f74)))] := ⟨_, hP, hD⟩
        refine lv_aload_n hx hb dX0_pass_75 rfl (lv_at hl 4 rfl) ?_
        refine lv_dup hx hb dX0_pass_76 rfl ?_
        refine va_get (D := (dC, dI)) (ci := 5) (v := .int a1_0) (C := RX5) (T := TX5) (N := 7) hx hb hts zi_X0_pass_5 hown hK hP 1 rfl rfl 0 (by decide) (hts (.fieldLink RX0 102 "WaxTurns$Scene" "minute" "I") (zm_X0_pass_r1 (List.mem_of_getElem? (i := 3) rfl))) (fun _ h9 => h9) rfl dX0_pass_77 ?_
        refine lv_iconst (v := 1) hx hb dX0_pass_80 zk_iconst_1 ?_
        refine lv_iadd hx hb dX0_pass_81 ?_
        refine lv_topi (fun x81 ex81 => ?_)
        refine va_put (D := (dC, dI)) (ci := 5) (v := .int x81) (ty := .int) (C := RX5) (T := TX5) (N := 7) hx hb hts zi_X0_pass_5 tyX5 tyX5_ok nmX5 hown hK hP hD hS 1 rfl rfl 0 (by decide) (hts (.fieldLink RX0 102 "WaxTurns$Scene" "minute" "I") (zm_X0_pass_r1 (List.mem_of_getElem? (i := 3) rfl))) (fun _ h9 => h9) rfl (tyX5_ok 0 (by decide)) rfl rfl (Nat.le_of_ble_eq_true rfl) dX0_pass_82 (fun H locs hP hD hS => ?_)
        refine zs_1 (y := (a1, .inr (5, [.int x81, .int a1_1, .int a1_2, .int v27na1_3, .int v27na1_4, .ref a1_5, .ref a1_6]))) hP hD rfl (fun hP hD => ?_)
        refine lv_aload_n hx hb dX0_pass_85 rfl (lv_at hl 4 rfl) ?_
        refine lv_iload hx hb dX0_pass_86 (lv_at hl 1 rfl) ?_
        refine va_put (D := (dC, dI)) (ci := 5) (v := .int x10) (ty := .int) (C := RX5) (T := TX5) (N := 7) hx hb hts zi_X0_pass_5 tyX5 tyX5_ok nmX5 hown hK hP hD hS 1 rfl rfl 2 (by decide) (hts (.fieldLink RX0 84 "WaxTurns$Scene" "spent" "I") (zm_X0_pass_r1 (List.mem_of_getElem? (i := 1) rfl))) (fun _ h9 => h9) rfl (tyX5_ok 2 (by decide)) rfl rfl (Nat.le_of_ble_eq_true rfl) dX0_pass_88 (fun H locs hP hD hS => ?_)
        refine zs_1 (y := (a1, .inr (5, [.int x81, .int a1_1, .int x10, .int v27na1_3, .int v27na1_4, .ref a1_5, .ref a1_6]))) hP hD rfl (fun hP hD => ?_)
        refine lv_iload hx hb dX0_pass_91 (lv_at hl 1 rfl) ?_
        refine lv_aload_n hx hb dX0_pass_93 rfl (lv_at hl 3 rfl) ?_
        refine va_get (D := (dC, dI)) (ci := 0) (v := .int a0_1) (C := RX0) (T := TX0) (N := 15) hx hb hts zi_X0_pass_0 hown hK hP 0 rfl rfl 1 (by decide) (hts (.fieldLink RX0 48 "WaxTurns$Hall" "span" "I") (zm_X0_pass_r1 (List.mem_of_getElem? (i := 5) rfl))) (fun _ h9 => h9) rfl dX0_pass_94 ?_
        refine lv_icmp_lt (tgt := 109) hx hb dX0_pass_97 (by decide) (fun c97 => ?_) (fun c97 => ?_)
        · have gc97 := ai_lt c97
          have u97t_x10 : x10.toInt ≤ (2147483646 : Int) := ai_lthi gc97 (ai_max a0_1)
          have l97t_a0_1 : (-2147483647 : Int) ≤ a0_1.toInt := ai_ltlo gc97 (ai_min x10)
          exact W.vret hx hb hr (fun t ht hW => ⟨⟨(), rfl, trivial, x81, a1_1, x10, v27na1_3, v27na1_4, v27nfa1_5, f74, ⟨l17k0_a1_1, u17k0_a1_1⟩, by rw [ht]; exact hP, va_K.moved hW.alike hK, hD⟩, hS.F ht⟩) hS.2.2 dX0_pass_109
        · have gc97 := ai_nlt c97
          refine lv_aload_n hx hb dX0_pass_100 rfl (lv_at hl 4 rfl) ?_
          refine lv_aload_n hx hb dX0_pass_101 rfl (lv_at hl 3 rfl) ?_
          refine lv_iload_n hx hb dX0_pass_102 rfl (lv_at hl 2 rfl) ?_
          refine va_calli (va_runV (As := [.int a1_1]) (rest := [.ref a1]) ⟨hx, hb, hml, hown, hts⟩ (c_X0_next l dC dI H.size a0 a1_1 a0_0 (.int a0_1) (.int a0_2) a0g_3 a0g_4 a0g_7 a0g_8 a0g_9 (.ref a0_10) (.ref a0_11) a0g_12 a0g_13 a0g_14 a0_5 a0_6 l17k0_a1_1 u17k0_a1_1 ba0_0_l ba0_0_u ba0_5_l ba0_5_u ba0_6_l ba0_6_u) (cwV 1 hts gX0_pass_X0_next rfl rfl rfl zd_X0_next ⟨Nat.le_of_ble_eq_true rfl, Nat.le_of_ble_eq_true rfl⟩) ⟨ax_blind (fun _ _ _ _ _ => trivial), zr_0 (zp_K hK) (zp_P1 hP) (q0 := 0) rfl, ax_pre (zp_P1 hP) (zp_K hK) (zp_D1 hD) (fun _ _ => trivial)⟩ rfl rfl hl.1 rfl (lv_room (Nat.le_of_ble_eq_true rfl)) dX0_pass_103 ⟨Nat.le_of_ble_eq_true rfl, Nat.le_of_ble_eq_true rfl⟩) hS (fun q _ h => zp_F1 hD hS hA q h) (zp_F1 hD hS hA) (fun r103 u t H locs ht hvm hw hB hz1 hk1 hS1 => zo1 hB ht hP hD hk1 (zp_F1 hD hS hA) hS1 (fun hP hK1 hD hS => ?_))
          have hw : (0 : Int) ≤ r103.toInt ∧ r103.toInt ≤ (8 : Int) := hw
          obtain ⟨h103_0, h103_1⟩ := hw
          refine zc_cutc (wc := [(a1, .inr (5, [.int x81, .int a1_1, .int x10, .int v27na1_3, .int v27na1_4, .ref a1_5, .ref a1_6]))]) hP hD hS hA [1] (by decide +kernel) rfl (fun hPc hDc hFc hCc => ?_)
          have hKc := zp_K hK
          refine va_callv (va_runV (As := [.int r103]) (rest := []) ⟨hx, hb, hml, hown, hts⟩ (c_X5_startTurn l dC dI H.size a1 r103 (.int x81) (.int v27na1_3) (.int v27na1_4) (.ref a1_5) (.ref a1_6) a1_1 x10 h103_0 h103_1 l17k0_a1_1 u17k0_a1_1) (cwV 1 hts gX0_pass_X5_startTurn rfl rfl rfl zd_X5_startTurn ⟨Nat.le_of_ble_eq_true rfl, Nat.le_of_ble_eq_true rfl⟩) ⟨ax_blind (fun _ _ _ _ _ => trivial), zr_5 hKc hPc (q0 := 0) rfl, ax_pre hPc hKc hDc (fun _ _ => trivial)⟩ rfl rfl hl.1 rfl (lv_room (Nat.le_of_ble_eq_true rfl)) dX0_pass_106 ⟨Nat.le_of_ble_eq_true rfl, Nat.le_of_ble_eq_true rfl⟩) hS (fun q _ h => hFc q h) hFc (fun u t H locs ht hvm hw hB hz1 hk1 hS => zx_2 hB (fun v106na0_1 v106na0_2 hB => zy_1 hB (fun bv106na0_1 hB => zo hB ht (fun hP1 hK1 hD1 => ?_))))
          refine zc_backc (w := [(a0, .inr (0, [.int a0_0, .int a0_1, .int a0_2, a0g_3, a0g_4, .int a0_5, .int a0_6, a0g_7, a0g_8, a0g_9, .ref a0_10, .ref a0_11, a0g_12, a0g_13, a0g_14])), (a1, .inr (5, [.int x81, .int v106na0_1, .int v106na0_2, .int v27na1_3, .int v27na1_4, .ref a1_5, .ref a1_6])), (a0_10, .inl (ka0_10, 9, .inl (fa0_10))), (a0_11, .inl (ka0_11, 9, .inl (fa0_11))), (a1_5, .inl (ka1_5, 9, .inl (v27nfa1_5))), (a2, .inr (6, [.int a2_0, .int a2_1, .ref a2_2, .ref a2_3])), (a2_3, .inl (ka2_3, 3, .inl (fa2_3))), (a2_2, .inl (ka2_2, 3, .inl (fa2_2))), (a1_6, .inl (ka1_6, 9, .inl (f74)))]) hP hD hCc hk1 hFc hP1 hD1 [.inl 0, .inr 0, .inl 2, .inl 3, .inl 4, .inl 5, .inl 6, .inl 7, .inl 8] (by decide +kernel) rfl (fun hP hD => ?_)
          exact W.vret hx hb hr (fun t ht hW => ⟨⟨(), rfl, trivial, x81, v106na0_1, v106na0_2, v27na1_3, v27na1_4, v27nfa1_5, f74, ⟨bv106na0_1.1, bv106na0_1.2⟩, by rw [ht]; exact hP, va_K.moved hW.alike hK, hD⟩, hS.F ht⟩) hS.2.2 dX0_pass_109
      · subst hw
        refine lv_if_eq (tgt := 75) hx hb dX0_pass_61 (by decide) (fun _ => ?_) (fun c61 => absurd (by decide +kernel) c61)
        refine lv_aload_n hx hb dX0_pass_75 rfl (lv_at hl 4 rfl) ?_
        refine lv_dup hx hb dX0_pass_76 rfl ?_
        refine va_get (D := (dC, dI)) (ci := 5) (v := .int a1_0) (C := RX5) (T := TX5) (N := 7) hx hb hts zi_X0_pass_5 hown hK hP 1 rfl rfl 0 (by decide) (hts (.fieldLink RX0 102 "WaxTurns$Scene" "minute" "I") (zm_X0_pass_r1 (List.mem_of_getElem? (i := 3) rfl))) (fun _ h9 => h9) rfl dX0_pass_77 ?_
        refine lv_iconst (v := 1) hx hb dX0_pass_80 zk_iconst_1 ?_
        refine lv_iadd hx hb dX0_pass_81 ?_
        refine lv_topi (fun x81 ex81 => ?_)
        refine va_put (D := (dC, dI)) (ci := 5) (v := .int x81) (ty := .int) (C := RX5) (T := TX5) (N := 7) hx hb hts zi_X0_pass_5 tyX5 tyX5_ok nmX5 hown hK hP hD hS 1 rfl rfl 0 (by decide) (hts (.fieldLink RX0 102 "WaxTurns$Scene" "minute" "I") (zm_X0_pass_r1 (List.mem_of_getElem? (i := 3) rfl))) (fun _ h9 => h9) rfl (tyX5_ok 0 (by decide)) rfl rfl (Nat.le_of_ble_eq_true rfl) dX0_pass_82 (fun H locs hP hD hS => ?_)
        refine zs_1 (y := (a1, .inr (5, [.int x81, .int a1_1, .int a1_2, .int v27na1_3, .int v27na1_4, .ref a1_5, .ref a1_6]))) hP hD rfl (fun hP hD => ?_)
        refine lv_aload_n hx hb dX0_pass_85 rfl (lv_at hl 4 rfl) ?_
        refine lv_iload hx hb dX0_pass_86 (lv_at hl 1 rfl) ?_
        refine va_put (D := (dC, dI)) (ci := 5) (v := .int x10) (ty := .int) (C := RX5) (T := TX5) (N := 7) hx hb hts zi_X0_pass_5 tyX5 tyX5_ok nmX5 hown hK hP hD hS 1 rfl rfl 2 (by decide) (hts (.fieldLink RX0 84 "WaxTurns$Scene" "spent" "I") (zm_X0_pass_r1 (List.mem_of_getElem? (i := 1) rfl))) (fun _ h9 => h9) rfl (tyX5_ok 2 (by decide)) rfl rfl (Nat.le_of_ble_eq_true rfl) dX0_pass_88 (fun H locs hP hD hS => ?_)
        refine zs_1 (y := (a1, .inr (5, [.int x81, .int a1_1, .int x10, .int v27na1_3, .int v27na1_4, .ref a1_5, .ref a1_6]))) hP hD rfl (fun hP hD => ?_)
        refine lv_iload hx hb dX0_pass_91 (lv_at hl 1 rfl) ?_
        refine lv_aload_n hx hb dX0_pass_93 rfl (lv_at hl 3 rfl) ?_
        refine va_get (D := (dC, dI)) (ci := 0) (v := .int a0_1) (C := RX0) (T := TX0) (N := 15) hx hb hts zi_X0_pass_0 hown hK hP 0 rfl rfl 1 (by decide) (hts (.fieldLink RX0 48 "WaxTurns$Hall" "span" "I") (zm_X0_pass_r1 (List.mem_of_getElem? (i := 5) rfl))) (fun _ h9 => h9) rfl dX0_pass_94 ?_
        refine lv_icmp_lt (tgt := 109) hx hb dX0_pass_97 (by decide) (fun c97 => ?_) (fun c97 => ?_)
        · have gc97 := ai_lt c97
          have u97t_x10 : x10.toInt ≤ (2147483646 : Int) := ai_lthi gc97 (ai_max a0_1)
          have l97t_a0_1 : (-2147483647 : Int) ≤ a0_1.toInt := ai_ltlo gc97 (ai_min x10)
          exact W.vret hx hb hr (fun t ht hW => ⟨⟨(), rfl, trivial, x81, a1_1, x10, v27na1_3, v27na1_4, v27nfa1_5, fa1_6, ⟨l17k0_a1_1, u17k0_a1_1⟩, by rw [ht]; exact hP, va_K.moved hW.alike hK, hD⟩, hS.F ht⟩) hS.2.2 dX0_pass_109
        · have gc97 := ai_nlt c97
          refine lv_aload_n hx hb dX0_pass_100 rfl (lv_at hl 4 rfl) ?_
          refine lv_aload_n hx hb dX0_pass_101 rfl (lv_at hl 3 rfl) ?_
          refine lv_iload_n hx hb dX0_pass_102 rfl (lv_at hl 2 rfl) ?_
          refine va_calli (va_runV (As := [.int a1_1]) (rest := [.ref a1]) ⟨hx, hb, hml, hown, hts⟩ (c_X0_next l dC dI H.size a0 a1_1 a0_0 (.int a0_1) (.int a0_2) a0g_3 a0g_4 a0g_7 a0g_8 a0g_9 (.ref a0_10) (.ref a0_11) a0g_12 a0g_13 a0g_14 a0_5 a0_6 l17k0_a1_1 u17k0_a1_1 ba0_0_l ba0_0_u ba0_5_l ba0_5_u ba0_6_l ba0_6_u) (cwV 1 hts gX0_pass_X0_next rfl rfl rfl zd_X0_next ⟨Nat.le_of_ble_eq_true rfl, Nat.le_of_ble_eq_true rfl⟩) ⟨ax_blind (fun _ _ _ _ _ => trivial), zr_0 (zp_K hK) (zp_P1 hP) (q0 := 0) rfl, ax_pre (zp_P1 hP) (zp_K hK) (zp_D1 hD) (fun _ _ => trivial)⟩ rfl rfl hl.1 rfl (lv_room (Nat.le_of_ble_eq_true rfl)) dX0_pass_103 ⟨Nat.le_of_ble_eq_true rfl, Nat.le_of_ble_eq_true rfl⟩) hS (fun q _ h => zp_F1 hD hS hA q h) (zp_F1 hD hS hA) (fun r103 u t H locs ht hvm hw hB hz1 hk1 hS1 => zo1 hB ht hP hD hk1 (zp_F1 hD hS hA) hS1 (fun hP hK1 hD hS => ?_))
          have hw : (0 : Int) ≤ r103.toInt ∧ r103.toInt ≤ (8 : Int) := hw
          obtain ⟨h103_0, h103_1⟩ := hw
          refine zc_cutc (wc := [(a1, .inr (5, [.int x81, .int a1_1, .int x10, .int v27na1_3, .int v27na1_4, .ref a1_5, .ref a1_6]))]) hP hD hS hA [1] (by decide +kernel) rfl (fun hPc hDc hFc hCc => ?_)
          have hKc := zp_K hK
          refine va_callv (va_runV (As := [.int r103]) (rest := []) ⟨hx, hb, hml, hown, hts⟩ (c_X5_startTurn l dC dI H.size a1 r103 (.int x81) (.int v27na1_3) (.int v27na1_4) (.ref a1_5) (.ref a1_6) a1_1 x10 h103_0 h103_1 l17k0_a1_1 u17k0_a1_1) (cwV 1 hts gX0_pass_X5_startTurn rfl rfl rfl zd_X5_startTurn ⟨Nat.le_of_ble_eq_true rfl, Nat.le_of_ble_eq_true rfl⟩) ⟨ax_blind (fun _ _ _ _ _ => trivial), zr_5 hKc hPc (q0 := 0) rfl, ax_pre hPc hKc hDc (fun _ _ => trivial)⟩ rfl rfl hl.1 rfl (lv_room (Nat.le_of_ble_eq_true rfl)) dX0_pass_106 ⟨Nat.le_of_ble_eq_true rfl, Nat.le_of_ble_eq_true rfl⟩) hS (fun q _ h => hFc q h) hFc (fun u t H locs ht hvm hw hB hz1 hk1 hS => zx_2 hB (fun v106na0_1 v106na0_2 hB => zy_1 hB (fun bv106na0_1 hB => zo hB ht (fun hP1 hK1 hD1 => ?_))))
          refine zc_backc (w := [(a0, .inr (0, [.int a0_0, .int a0_1, .int a0_2, a0g_3, a0g_4, .int a0_5, .int a0_6, a0g_7, a0g_8, a0g_9, .ref a0_10, .ref a0_11, a0g_12, a0g_13, a0g_14])), (a1, .inr (5, [.int x81, .int v106na0_1, .int v106na0_2, .int v27na1_3, .int v27na1_4, .ref a1_5, .ref a1_6])), (a0_10, .inl (ka0_10, 9, .inl (fa0_10))), (a0_11, .inl (ka0_11, 9, .inl (fa0_11))), (a1_5, .inl (ka1_5, 9, .inl (v27nfa1_5))), (a2, .inr (6, [.int a2_0, .int a2_1, .ref a2_2, .ref a2_3])), (a2_3, .inl (ka2_3, 3, .inl (fa2_3))), (a2_2, .inl (ka2_2, 3, .inl (fa2_2))), (a1_6, .inl (ka1_6, 9, .inl (fa1_6)))]) hP hD hCc hk1 hFc hP1 hD1 [.inl 0, .inr 0, .inl 2, .inl 3, .inl 4, .inl 5, .inl 6, .inl 7, .inl 8] (by decide +kernel) rfl (fun hP hD => ?_)
          exact W.vret hx hb hr (fun t ht hW => ⟨⟨(), rfl, trivial, x81, v106na0_1, v106na0_2, v27na1_3, v27na1_4, v27nfa1_5, fa1_6, ⟨bv106na0_1.1, bv106na0_1.2⟩, by rw [ht]; exact hP, va_K.moved hW.alike hK, hD⟩, hS.F ht⟩) hS.2.2 dX0_pass_109
  · subst hw
    refine lv_if_eq (tgt := 30) hx hb dX0_pass_20 (by decide) (fun _ => ?_) (fun c20 => absurd (by decide +kernel) c20)
    refine lv_aload_n hx hb dX0_pass_30 rfl (lv_at hl 2 rfl) ?_
    refine lv_iload_n hx hb dX0_pass_31 rfl (lv_at hl 1 rfl) ?_
    refine lv_iload hx hb dX0_pass_32 (lv_at hl 0 rfl) ?_
    refine zc_cutc (wc := [(a0, .inr (0, [.int a0_0, .int a0_1, .int a0_2, a0g_3, a0g_4, .int a0_5, .int a0_6, a0g_7, a0g_8, a0g_9, .ref a0_10, .ref a0_11, a0g_12, a0g_13, a0g_14])), (a0_10, .inl (ka0_10, 9, .inl (fa0_10))), (a0_11, .inl (ka0_11, 9, .inl (fa0_11)))]) hP hD hS hA [0, 2, 3] (by decide +kernel) rfl (fun hPc hDc hFc hCc => ?_)
    have hKc := hK.sub (tys' := [(ka0_10, .int), (ka0_11, .int)]) [0, 1] rfl
    refine va_calli (va_runV (As := [.int a1_1, .int x10]) (rest := []) ⟨hx, hb, hml, hown, hts⟩ (c_X0_partSaid l dC dI H.size a0 a1_1 x10 (.int a0_0) (.int a0_1) (.int a0_2) a0g_3 a0g_4 (.int a0_5) (.int a0_6) a0g_7 a0g_8 a0g_9 a0g_12 a0g_13 a0g_14 a0_10 a0_11 ka0_10 fa0_10 ka0_11 fa0_11 ) (cwV 2 hts gX0_pass_X0_partSaid rfl rfl rfl zd_X0_partSaid ⟨Nat.le_of_ble_eq_true rfl, Nat.le_of_ble_eq_true rfl⟩) ⟨ax_blind (fun _ _ _ _ hq => va_Nw.same rfl rfl (hq)), zr_0 hKc hPc (q0 := 0) rfl, ax_pre hPc hKc hDc (fun _ hW => va_Nw.warmM hW hE0)⟩ rfl rfl hl.1 rfl (lv_room (Nat.le_of_ble_eq_true rfl)) dX0_pass_34 ⟨Nat.le_of_ble_eq_true rfl, Nat.le_of_ble_eq_true rfl⟩) hS (fun q _ h => hFc q h) hFc (fun r34 u t H locs ht hvm hw hB hz1 hk1 hS => zo hB ht (fun hP1 hK1 hD1 => ?_))
    refine zc_backc (w := [(a0, .inr (0, [.int a0_0, .int a0_1, .int a0_2, a0g_3, a0g_4, .int a0_5, .int a0_6, a0g_7, a0g_8, a0g_9, .ref a0_10, .ref a0_11, a0g_12, a0g_13, a0g_14])), (a1, .inr (5, [.int a1_0, .int a1_1, .int a1_2, .int a1_3, .int a1_4, .ref a1_5, .ref a1_6])), (a0_10, .inl (ka0_10, 9, .inl (fa0_10))), (a0_11, .inl (ka0_11, 9, .inl (fa0_11))), (a1_5, .inl (ka1_5, 9, .inl (fa1_5))), (a2, .inr (6, [.int a2_0, .int a2_1, .ref a2_2, .ref a2_3])), (a2_3, .inl (ka2_3, 3, .inl (fa2_3))), (a2_2, .inl (ka2_2, 3, .inl (fa2_2))), (a1_6, .inl (ka1_6, 9, .inl (fa1_6)))]) hP hD hCc hk1 hFc hP1 hD1 [.inr 0, .inl 1, .inr 1, .inr 2, .inl 4, .inl 5, .inl 6, .inl 7, .inl 8] (by decide +kernel) rfl (fun hP hD => ?_)
    refine lv_istore (lv' := [(5, .int r34), (4, .int x10), (3, .int a1_1), (0, .ref a0), (1, .ref a1), (2, .ref a2)]) hx hb dX0_pass_37 hl (by decide) rfl (fun ls hl => ?_)
    refine lv_iload hx hb dX0_pass_39 (lv_at hl 0 rfl) ?_
    refine lv_if_eq (tgt := 75) hx hb dX0_pass_41 (by decide) (fun c41 => ?_) (fun c41 => ?_)
    · have gc41 := ai_eq c41
      have u41t_r34 : r34.toInt ≤ (0 : Int) := Int.le_trans (Int.le_of_eq gc41) zq6
      have l41t_r34 : (0 : Int) ≤ r34.toInt := Int.le_trans zq5 (Int.le_of_eq gc41.symm)
      refine lv_aload_n hx hb dX0_pass_75 rfl (lv_at hl 4 rfl) ?_
      refine lv_dup hx hb dX0_pass_76 rfl ?_
      refine va_get (D := (dC, dI)) (ci := 5) (v := .int a1_0) (C := RX5) (T := TX5) (N := 7) hx hb hts zi_X0_pass_5 hown hK hP 1 rfl rfl 0 (by decide) (hts (.fieldLink RX0 102 "WaxTurns$Scene" "minute" "I") (zm_X0_pass_r1 (List.mem_of_getElem? (i := 3) rfl))) (fun _ h9 => h9) rfl dX0_pass_77 ?_
      refine lv_iconst (v := 1) hx hb dX0_pass_80 zk_iconst_1 ?_
      refine lv_iadd hx hb dX0_pass_81 ?_
      refine lv_topi (fun x81 ex81 => ?_)
      refine va_put (D := (dC, dI)) (ci := 5) (v := .int x81) (ty := .int) (C := RX5) (T := TX5) (N := 7) hx hb hts zi_X0_pass_5 tyX5 tyX5_ok nmX5 hown hK hP hD hS 1 rfl rfl 0 (by decide) (hts (.fieldLink RX0 102 "WaxTurns$Scene" "minute" "I") (zm_X0_pass_r1 (List.mem_of_getElem? (i := 3) rfl))) (fun _ h9 => h9) rfl (tyX5_ok 0 (by decide)) rfl rfl (Nat.le_of_ble_eq_true rfl) dX0_pass_82 (fun H locs hP hD hS => ?_)
      refine zs_1 (y := (a1, .inr (5, [.int x81, .int a1_1, .int a1_2, .int a1_3, .int a1_4, .ref a1_5, .ref a1_6]))) hP hD rfl (fun hP hD => ?_)
      refine lv_aload_n hx hb dX0_pass_85 rfl (lv_at hl 4 rfl) ?_
      refine lv_iload hx hb dX0_pass_86 (lv_at hl 1 rfl) ?_
      refine va_put (D := (dC, dI)) (ci := 5) (v := .int x10) (ty := .int) (C := RX5) (T := TX5) (N := 7) hx hb hts zi_X0_pass_5 tyX5 tyX5_ok nmX5 hown hK hP hD hS 1 rfl rfl 2 (by decide) (hts (.fieldLink RX0 84 "WaxTurns$Scene" "spent" "I") (zm_X0_pass_r1 (List.mem_of_getElem? (i := 1) rfl))) (fun _ h9 => h9) rfl (tyX5_ok 2 (by decide)) rfl rfl (Nat.le_of_ble_eq_true rfl) dX0_pass_88 (fun H locs hP hD hS => ?_)
      refine zs_1 (y := (a1, .inr (5, [.int x81, .int a1_1, .int x10, .int a1_3, .int a1_4, .ref a1_5, .ref a1_6]))) hP hD rfl (fun hP hD => ?_)
      refine lv_iload hx hb dX0_pass_91 (lv_at hl 1 rfl) ?_
      refine lv_aload_n hx hb dX0_pass_93 rfl (lv_at hl 3 rfl) ?_
      refine va_get (D := (dC, dI)) (ci := 0) (v := .int a0_1) (C := RX0) (T := TX0) (N := 15) hx hb hts zi_X0_pass_0 hown hK hP 0 rfl rfl 1 (by decide) (hts (.fieldLink RX0 48 "WaxTurns$Hall" "span" "I") (zm_X0_pass_r1 (List.mem_of_getElem? (i := 5) rfl))) (fun _ h9 => h9) rfl dX0_pass_94 ?_
      refine lv_icmp_lt (tgt := 109) hx hb dX0_pass_97 (by decide) (fun c97 => ?_) (fun c97 => ?_)
      · have gc97 := ai_lt c97
        have u97t_x10 : x10.toInt ≤ (2147483646 : Int) := ai_lthi gc97 (ai_max a0_1)
        have l97t_a0_1 : (-2147483647 : Int) ≤ a0_1.toInt := ai_ltlo gc97 (ai_min x10)
        exact W.vret hx hb hr (fun t ht hW => ⟨⟨(), rfl, trivial, x81, a1_1, x10, a1_3, a1_4, fa1_5, fa1_6, ⟨ba1_1_l, ba1_1_u⟩, by rw [ht]; exact hP, va_K.moved hW.alike hK, hD⟩, hS.F ht⟩) hS.2.2 dX0_pass_109
      · have gc97 := ai_nlt c97
        refine lv_aload_n hx hb dX0_pass_100 rfl (lv_at hl 4 rfl) ?_
        refine lv_aload_n hx hb dX0_pass_101 rfl (lv_at hl 3 rfl) ?_
        refine lv_iload_n hx hb dX0_pass_102 rfl (lv_at hl 2 rfl) ?_
        refine va_calli (va_runV (As := [.int a1_1]) (rest := [.ref a1]) ⟨hx, hb, hml, hown, hts⟩ (c_X0_next l dC dI H.size a0 a1_1 a0_0 (.int a0_1) (.int a0_2) a0g_3 a0g_4 a0g_7 a0g_8 a0g_9 (.ref a0_10) (.ref a0_11) a0g_12 a0g_13 a0g_14 a0_5 a0_6 ba1_1_l ba1_1_u ba0_0_l ba0_0_u ba0_5_l ba0_5_u ba0_6_l ba0_6_u) (cwV 1 hts gX0_pass_X0_next rfl rfl rfl zd_X0_next ⟨Nat.le_of_ble_eq_true rfl, Nat.le_of_ble_eq_true rfl⟩) ⟨ax_blind (fun _ _ _ _ _ => trivial), zr_0 (zp_K hK) (zp_P1 hP) (q0 := 0) rfl, ax_pre (zp_P1 hP) (zp_K hK) (zp_D1 hD) (fun _ _ => trivial)⟩ rfl rfl hl.1 rfl (lv_room (Nat.le_of_ble_eq_true rfl)) dX0_pass_103 ⟨Nat.le_of_ble_eq_true rfl, Nat.le_of_ble_eq_true rfl⟩) hS (fun q _ h => zp_F1 hD hS hA q h) (zp_F1 hD hS hA) (fun r103 u t H locs ht hvm hw hB hz1 hk1 hS1 => zo1 hB ht hP hD hk1 (zp_F1 hD hS hA) hS1 (fun hP hK1 hD hS => ?_))
        have hw : (0 : Int) ≤ r103.toInt ∧ r103.toInt ≤ (8 : Int) := hw
        obtain ⟨h103_0, h103_1⟩ := hw
        refine zc_cutc (wc := [(a1, .inr (5, [.int x81, .int a1_1, .int x10, .int a1_3, .int a1_4, .ref a1_5, .ref a1_6]))]) hP hD hS hA [1] (by decide +kernel) rfl (fun hPc hDc hFc hCc => ?_)
        have hKc := zp_K hK
        refine va_callv (va_runV (As := [.int r103]) (rest := []) ⟨hx, hb, hml, hown, hts⟩ (c_X5_startTurn l dC dI H.size a1 r103 (.int x81) (.int a1_3) (.int a1_4) (.ref a1_5) (.ref a1_6) a1_1 x10 h103_0 h103_1 ba1_1_l ba1_1_u) (cwV 1 hts gX0_pass_X5_startTurn rfl rfl rfl zd_X5_startTurn ⟨Nat.le_of_ble_eq_true rfl, Nat.le_of_ble_eq_true rfl⟩) ⟨ax_blind (fun _ _ _ _ _ => trivial), zr_5 hKc hPc (q0 := 0) rfl, ax_pre hPc hKc hDc (fun _ _ => trivial)⟩ rfl rfl hl.1 rfl (lv_room (Nat.le_of_ble_eq_true rfl)) dX0_pass_106 ⟨Nat.le_of_ble_eq_true rfl, Nat.le_of_ble_eq_true rfl⟩) hS (fun q _ h => hFc q h) hFc (fun u t H locs ht hvm hw hB hz1 hk1 hS => zx_2 hB (fun v106na0_1 v106na0_2 hB => zy_1 hB (fun bv106na0_1 hB => zo hB ht (fun hP1 hK1 hD1 => ?_))))
        refine zc_backc (w := [(a0, .inr (0, [.int a0_0, .int a0_1, .int a0_2, a0g_3, a0g_4, .int a0_5, .int a0_6, a0g_7, a0g_8, a0g_9, .ref a0_10, .ref a0_11, a0g_12, a0g_13, a0g_14])), (a1, .inr (5, [.int x81, .int v106na0_1, .int v106na0_2, .int a1_3, .int a1_4, .ref a1_5, .ref a1_6])), (a0_10, .inl (ka0_10, 9, .inl (fa0_10))), (a0_11, .inl (ka0_11, 9, .inl (fa0_11))), (a1_5, .inl (ka1_5, 9, .inl (fa1_5))), (a2, .inr (6, [.int a2_0, .int a2_1, .ref a2_2, .ref a2_3])), (a2_3, .inl (ka2_3, 3, .inl (fa2_3))), (a2_2, .inl (ka2_2, 3, .inl (fa2_2))), (a1_6, .inl (ka1_6, 9, .inl (fa1_6)))]) hP hD hCc hk1 hFc hP1 hD1 [.inl 0, .inr 0, .inl 2, .inl 3, .inl 4, .inl 5, .inl 6, .inl 7, .inl 8] (by decide +kernel) rfl (fun hP hD => ?_)
        exact W.vret hx hb hr (fun t ht hW => ⟨⟨(), rfl, trivial, x81, v106na0_1, v106na0_2, a1_3, a1_4, fa1_5, fa1_6, ⟨bv106na0_1.1, bv106na0_1.2⟩, by rw [ht]; exact hP, va_K.moved hW.alike hK, hD⟩, hS.F ht⟩) hS.2.2 dX0_pass_109
    · have gc41 := ai_ne c41
      refine lv_aload_n hx hb dX0_pass_44 rfl (lv_at hl 4 rfl) ?_
      refine va_get (D := (dC, dI)) (ci := 5) (v := .ref a1_5) (C := RX5) (T := TX5) (N := 7) hx hb hts zi_X0_pass_5 hown hK hP 1 rfl rfl 5 (by decide) (hts (.fieldLink RX0 99 "WaxTurns$Scene" "places" "[I") (zm_X0_pass_r1 (List.mem_of_getElem? (i := 2) rfl))) (fun _ h9 => h9) rfl dX0_pass_45 ?_
      refine lv_iload_n hx hb dX0_pass_48 rfl (lv_at hl 2 rfl) ?_
      refine va_iald hx hb hK hP 4 2 rfl rfl (ai_in ba1_1_l ba1_1_u (by decide) (by decide)) dX0_pass_49 ?_
      refine lv_topi (fun x49 ex49 => ?_)
      refine lv_aload_n hx hb dX0_pass_50 rfl (lv_at hl 5 rfl) ?_
      refine lv_aload_n hx hb dX0_pass_51 rfl (lv_at hl 4 rfl) ?_
      refine va_get (D := (dC, dI)) (ci := 5) (v := .int a1_0) (C := RX5) (T := TX5) (N := 7) hx hb hts zi_X0_pass_5 hown hK hP 1 rfl rfl 0 (by decide) (hts (.fieldLink RX0 102 "WaxTurns$Scene" "minute" "I") (zm_X0_pass_r1 (List.mem_of_getElem? (i := 3) rfl))) (fun _ h9 => h9) rfl dX0_pass_52 ?_
      refine zc_cutc (wc := [(a2, .inr (6, [.int a2_0, .int a2_1, .ref a2_2, .ref a2_3])), (a2_3, .inl (ka2_3, 3, .inl (fa2_3))), (a2_2, .inl (ka2_2, 3, .inl (fa2_2)))]) hP hD hS hA [5, 6, 7] (by decide +kernel) rfl (fun hPc hDc hFc hCc => ?_)
      have hKc := hK.sub (tys' := [(ka2_3, .int), (ka2_2, .int)]) [3, 4] rfl
      refine va_calli (va_runV (As := [.int a1_0]) (rest := [.int x49]) ⟨hx, hb, hml, hown, hts⟩ (c_X6_placesIn l dC dI H.size a2 a1_0 a2_0 a2_1 a2_2 a2_3 ka2_3 fa2_3 ka2_2 fa2_2 ba2_0_l ba2_0_u bfa2_3 bfa2_2) (cwV 1 hts gX0_pass_X6_placesIn rfl rfl rfl zd_X6_placesIn ⟨Nat.le_of_ble_eq_true rfl, Nat.le_of_ble_eq_true rfl⟩) ⟨ax_blind (fun _ _ _ _ _ => trivial), zr_6 hKc hPc (q0 := 0) rfl, ax_pre hPc hKc hDc (fun _ _ => trivial)⟩ rfl rfl hl.1 rfl (lv_room (Nat.le_of_ble_eq_true rfl)) dX0_pass_55 ⟨Nat.le_of_ble_eq_true rfl, Nat.le_of_ble_eq_true rfl⟩) hS (fun q _ h => hFc q h) hFc (fun r55 u t H locs ht hvm hw hB hz1 hk1 hS => zo hB ht (fun hP1 hK1 hD1 => ?_))
      refine zc_backc (w := [(a0, .inr (0, [.int a0_0, .int a0_1, .int a0_2, a0g_3, a0g_4, .int a0_5, .int a0_6, a0g_7, a0g_8, a0g_9, .ref a0_10, .ref a0_11, a0g_12, a0g_13, a0g_14])), (a1, .inr (5, [.int a1_0, .int a1_1, .int a1_2, .int a1_3, .int a1_4, .ref a1_5, .ref a1_6])), (a0_10, .inl (ka0_10, 9, .inl (fa0_10))), (a0_11, .inl (ka0_11, 9, .inl (fa0_11))), (a1_5, .inl (ka1_5, 9, .inl (fa1_5))), (a2, .inr (6, [.int a2_0, .int a2_1, .ref a2_2, .ref a2_3])), (a2_3, .inl (ka2_3, 3, .inl (fa2_3))), (a2_2, .inl (ka2_2, 3, .inl (fa2_2))), (a1_6, .inl (ka1_6, 9, .inl (fa1_6)))]) hP hD hCc hk1 hFc hP1 hD1 [.inl 0, .inl 1, .inl 2, .inl 3, .inl 4, .inr 0, .inr 1, .inr 2, .inl 8] (by decide +kernel) rfl (fun hP hD => ?_)
      refine va_calli (va_runS (As := [.int x49, .int r55]) (rest := []) ⟨hx, hb, hml, hown, hts⟩ (c_X0_isHeardAt l dC dI H.size x49 r55 ) (va_cwS 2 hts gX0_pass_X0_isHeardAt rfl rfl rfl zd_X0_isHeardAt.2 ⟨Nat.le_of_ble_eq_true rfl, Nat.le_of_ble_eq_true rfl⟩) ⟨ax_blind (fun _ _ _ _ _ => trivial), ax_pre (zp_P0 hP) (zp_K hK) (zp_D0 hD) (fun _ _ => trivial)⟩ rfl rfl hl.1 rfl (lv_room (Nat.le_of_ble_eq_true rfl)) dX0_pass_58 ⟨Nat.le_of_ble_eq_true rfl, Nat.le_of_ble_eq_true rfl⟩) hS (fun q _ h => zp_F0 hD hS hA q h) (zp_F0 hD hS hA) (fun r58 u t H locs ht hvm hw hB hz1 hk1 hS1 => zo0 hB ht hP hD hk1 (zp_F0 hD hS hA) hS1 (fun hP hK1 hD hS => ?_))
      rcases hw with hw | hw
      · subst hw
        refine lv_if_eq (tgt := 75) hx hb dX0_pass_61 (by decide) (fun c61 => absurd c61 (by decide +kernel)) (fun _ => ?_)
        refine lv_aload_n hx hb dX0_pass_64 rfl (lv_at hl 4 rfl) ?_
        refine va_get (D := (dC, dI)) (ci := 5) (v := .ref a1_6) (C := RX5) (T := TX5) (N := 7) hx hb hts zi_X0_pass_5 hown hK hP 1 rfl rfl 6 (by decide) (hts (.fieldLink RX0 111 "WaxTurns$Scene" "heardBits" "[I") (zm_X0_pass_r1 (List.mem_of_getElem? (i := 4) rfl))) (fun _ h9 => h9) rfl dX0_pass_65 ?_
        refine lv_iload_n hx hb dX0_pass_68 rfl (lv_at hl 2 rfl) ?_
        refine lv_dup2_11 hx hb dX0_pass_69 rfl rfl ?_
        refine va_iald hx hb hK hP 8 5 rfl rfl (ai_in ba1_1_l ba1_1_u (by decide) (by decide)) dX0_pass_70 ?_
        refine lv_topi (fun x70 ex70 => ?_)
        refine lv_iload hx hb dX0_pass_71 (lv_at hl 0 rfl) ?_
        refine lv_ior hx hb dX0_pass_73 ?_
        refine lv_topi (fun x73 ex73 => ?_)
        refine va_iast hx hb hK hP hD hS 8 5 rfl rfl (ai_in ba1_1_l ba1_1_u (by decide) (by decide)) dX0_pass_74 (fun H locs hP hD hS => ?_)
        obtain ⟨f74, hP, hD⟩ : ∃ f74 : Nat → Int32, va_P (dC, dI) vwCl [(a0, .inr (0, [.int a0_0, .int a0_1, .int a0_2, a0g_3, a0g_4, .int a0_5, .int a0_6, a0g_7, a0g_8, a0g_9, .ref a0_10, .ref a0_11, a0g_12, a0g_13, a0g_14])), (a1, .inr (5, [.int a1_0, .int a1_1, .int a1_2, .int a1_3, .int a1_4, .ref a1_5, .ref a1_6])), (a0_10, .inl (ka0_10, 9, .inl (fa0_10))), (a0_11, .inl (ka0_11, 9, .inl (fa0_11))), (a1_5, .inl (ka1_5, 9, .inl (fa1_5))), (a2, .inr (6, [.int a2_0, .int a2_1, .ref a2_2, .ref a2_3])), (a2_3, .inl (ka2_3, 3, .inl (fa2_3))), (a2_2, .inl (ka2_2, 3, .inl (fa2_2))), (a1_6, .inl (ka1_6, 9, .inl (f74)))] H ∧ va_D A [(a0, .inr (0, [.int a0_0, .int a0_1, .int a0_2, a0g_3, a0g_4, .int a0_5, .int a0_6, a0g_7, a0g_8, a0g_9, .ref a0_10, .ref a0_11, a0g_12, a0g_13, a0g_14])), (a1, .inr (5, [.int a1_0, .int a1_1, .int a1_2, .int a1_3, .int a1_4, .ref a1_5, .ref a1_6])), (a0_10, .inl (ka0_10, 9, .inl (fa0_10))), (a0_11, .inl (ka0_11, 9, .inl (fa0_11))), (a1_5, .inl (ka1_5, 9, .inl (fa1_5))), (a2, .inr (6, [.int a2_0, .int a2_1, .ref a2_2, .ref a2_3])), (a2_3, .inl (ka2_3, 3, .inl (fa2_3))), (a2_2, .inl (ka2_2, 3, .inl (fa2_2))), (a1_6, .inl (ka1_6, 9, .inl (f74)))] := ⟨_, hP, hD⟩
        refine lv_aload_n hx hb dX0_pass_75 rfl (lv_at hl 4 rfl) ?_
        refine lv_dup hx hb dX0_pass_76 rfl ?_
        refine va_get (D := (dC, dI)) (ci := 5) (v := .int a1_0) (C := RX5) (T := TX5) (N := 7) hx hb hts zi_X0_pass_5 hown hK hP 1 rfl rfl 0 (by decide) (hts (.fieldLink RX0 102 "WaxTurns$Scene" "minute" "I") (zm_X0_pass_r1 (List.mem_of_getElem? (i := 3) rfl))) (fun _ h9 => h9) rfl dX0_pass_77 ?_
        refine lv_iconst (v := 1) hx hb dX0_pass_80 zk_iconst_1 ?_
        refine lv_iadd hx hb dX0_pass_81 ?_
        refine lv_topi (fun x81 ex81 => ?_)
        refine va_put (D := (dC, dI)) (ci := 5) (v := .int x81) (ty := .int) (C := RX5) (T := TX5) (N := 7) hx hb hts zi_X0_pass_5 tyX5 tyX5_ok nmX5 hown hK hP hD hS 1 rfl rfl 0 (by decide) (hts (.fieldLink RX0 102 "WaxTurns$Scene" "minute" "I") (zm_X0_pass_r1 (List.mem_of_getElem? (i := 3) rfl))) (fun _ h9 => h9) rfl (tyX5_ok 0 (by decide)) rfl rfl (Nat.le_of_ble_eq_true rfl) dX0_pass_82 (fun H locs hP hD hS => ?_)
        refine zs_1 (y := (a1, .inr (5, [.int x81, .int a1_1, .int a1_2, .int a1_3, .int a1_4, .ref a1_5, .ref a1_6]))) hP hD rfl (fun hP hD => ?_)
        refine lv_aload_n hx hb dX0_pass_85 rfl (lv_at hl 4 rfl) ?_
        refine lv_iload hx hb dX0_pass_86 (lv_at hl 1 rfl) ?_
        refine va_put (D := (dC, dI)) (ci := 5) (v := .int x10) (ty := .int) (C := RX5) (T := TX5) (N := 7) hx hb hts zi_X0_pass_5 tyX5 tyX5_ok nmX5 hown hK hP hD hS 1 rfl rfl 2 (by decide) (hts (.fieldLink RX0 84 "WaxTurns$Scene" "spent" "I") (zm_X0_pass_r1 (List.mem_of_getElem? (i := 1) rfl))) (fun _ h9 => h9) rfl (tyX5_ok 2 (by decide)) rfl rfl (Nat.le_of_ble_eq_true rfl) dX0_pass_88 (fun H locs hP hD hS => ?_)
        refine zs_1 (y := (a1, .inr (5, [.int x81, .int a1_1, .int x10, .int a1_3, .int a1_4, .ref a1_5, .ref a1_6]))) hP hD rfl (fun hP hD => ?_)
        refine lv_iload hx hb dX0_pass_91 (lv_at hl 1 rfl) ?_
        refine lv_aload_n hx hb dX0_pass_93 rfl (lv_at hl 3 rfl) ?_
        refine va_get (D := (dC, dI)) (ci := 0) (v := .int a0_1) (C := RX0) (T := TX0) (N := 15) hx hb hts zi_X0_pass_0 hown hK hP 0 rfl rfl 1 (by decide) (hts (.fieldLink RX0 48 "WaxTurns$Hall" "span" "I") (zm_X0_pass_r1 (List.mem_of_getElem? (i := 5) rfl))) (fun _ h9 => h9) rfl dX0_pass_94 ?_
        refine lv_icmp_lt (tgt := 109) hx hb dX0_pass_97 (by decide) (fun c97 => ?_) (fun c97 => ?_)
        · have gc97 := ai_lt c97
          have u97t_x10 : x10.toInt ≤ (2147483646 : Int) := ai_lthi gc97 (ai_max a0_1)
          have l97t_a0_1 : (-2147483647 : Int) ≤ a0_1.toInt := ai_ltlo gc97 (ai_min x10)
          exact W.vret hx hb hr (fun t ht hW => ⟨⟨(), rfl, trivial, x81, a1_1, x10, a1_3, a1_4, fa1_5, f74, ⟨ba1_1_l, ba1_1_u⟩, by rw [ht]; exact hP, va_K.moved hW.alike hK, hD⟩, hS.F ht⟩) hS.2.2 dX0_pass_109
        · have gc97 := ai_nlt c97
          refine lv_aload_n hx hb dX0_pass_100 rfl (lv_at hl 4 rfl) ?_
          refine lv_aload_n hx hb dX0_pass_101 rfl (lv_at hl 3 rfl) ?_
          refine lv_iload_n hx hb dX0_pass_102 rfl (lv_at hl 2 rfl) ?_
          refine va_calli (va_runV (As := [.int a1_1]) (rest := [.ref a1]) ⟨hx, hb, hml, hown, hts⟩ (c_X0_next l dC dI H.size a0 a1_1 a0_0 (.int a0_1) (.int a0_2) a0g_3 a0g_4 a0g_7 a0g_8 a0g_9 (.ref a0_10) (.ref a0_11) a0g_12 a0g_13 a0g_14 a0_5 a0_6 ba1_1_l ba1_1_u ba0_0_l ba0_0_u ba0_5_l ba0_5_u ba0_6_l ba0_6_u) (cwV 1 hts gX0_pass_X0_next rfl rfl rfl zd_X0_next ⟨Nat.le_of_ble_eq_true rfl, Nat.le_of_ble_eq_true rfl⟩) ⟨ax_blind (fun _ _ _ _ _ => trivial), zr_0 (zp_K hK) (zp_P1 hP) (q0 := 0) rfl, ax_pre (zp_P1 hP) (zp_K hK) (zp_D1 hD) (fun _ _ => trivial)⟩ rfl rfl hl.1 rfl (lv_room (Nat.le_of_ble_eq_true rfl)) dX0_pass_103 ⟨Nat.le_of_ble_eq_true rfl, Nat.le_of_ble_eq_true rfl⟩) hS (fun q _ h => zp_F1 hD hS hA q h) (zp_F1 hD hS hA) (fun r103 u t H locs ht hvm hw hB hz1 hk1 hS1 => zo1 hB ht hP hD hk1 (zp_F1 hD hS hA) hS1 (fun hP hK1 hD hS => ?_))
          have hw : (0 : Int) ≤ r103.toInt ∧ r103.toInt ≤ (8 : Int) := hw
          obtain ⟨h103_0, h103_1⟩ := hw
          refine zc_cutc (wc := [(a1, .inr (5, [.int x81, .int a1_1, .int x10, .int a1_3, .int a1_4, .ref a1_5, .ref a1_6]))]) hP hD hS hA [1] (by decide +kernel) rfl (fun hPc hDc hFc hCc => ?_)
          have hKc := zp_K hK
          refine va_callv (va_runV (As := [.int r103]) (rest := []) ⟨hx, hb, hml, hown, hts⟩ (c_X5_startTurn l dC dI H.size a1 r103 (.int x81) (.int a1_3) (.int a1_4) (.ref a1_5) (.ref a1_6) a1_1 x10 h103_0 h103_1 ba1_1_l ba1_1_u) (cwV 1 hts gX0_pass_X5_startTurn rfl rfl rfl zd_X5_startTurn ⟨Nat.le_of_ble_eq_true rfl, Nat.le_of_ble_eq_true rfl⟩) ⟨ax_blind (fun _ _ _ _ _ => trivial), zr_5 hKc hPc (q0 := 0) rfl, ax_pre hPc hKc hDc (fun _ _ => trivial)⟩ rfl rfl hl.1 rfl (lv_room (Nat.le_of_ble_eq_true rfl)) dX0_pass_106 ⟨Nat.le_of_ble_eq_true rfl, Nat.le_of_ble_eq_true rfl⟩) hS (fun q _ h => hFc q h) hFc (fun u t H locs ht hvm hw hB hz1 hk1 hS => zx_2 hB (fun v106na0_1 v106na0_2 hB => zy_1 hB (fun bv106na0_1 hB => zo hB ht (fun hP1 hK1 hD1 => ?_))))
          refine zc_backc (w := [(a0, .inr (0, [.int a0_0, .int a0_1, .int a0_2, a0g_3, a0g_4, .int a0_5, .int a0_6, a0g_7, a0g_8, a0g_9, .ref a0_10, .ref a0_11, a0g_12, a0g_13, a0g_14])), (a1, .inr (5, [.int x81, .int v106na0_1, .int v106na0_2, .int a1_3, .int a1_4, .ref a1_5, .ref a1_6])), (a0_10, .inl (ka0_10, 9, .inl (fa0_10))), (a0_11, .inl (ka0_11, 9, .inl (fa0_11))), (a1_5, .inl (ka1_5, 9, .inl (fa1_5))), (a2, .inr (6, [.int a2_0, .int a2_1, .ref a2_2, .ref a2_3])), (a2_3, .inl (ka2_3, 3, .inl (fa2_3))), (a2_2, .inl (ka2_2, 3, .inl (fa2_2))), (a1_6, .inl (ka1_6, 9, .inl (f74)))]) hP hD hCc hk1 hFc hP1 hD1 [.inl 0, .inr 0, .inl 2, .inl 3, .inl 4, .inl 5, .inl 6, .inl 7, .inl 8] (by decide +kernel) rfl (fun hP hD => ?_)
          exact W.vret hx hb hr (fun t ht hW => ⟨⟨(), rfl, trivial, x81, v106na0_1, v106na0_2, a1_3, a1_4, fa1_5, f74, ⟨bv106na0_1.1, bv106na0_1.2⟩, by rw [ht]; exact hP, va_K.moved hW.alike hK, hD⟩, hS.F ht⟩) hS.2.2 dX0_pass_109
      · subst hw
        refine lv_if_eq (tgt := 75) hx hb dX0_pass_61 (by decide) (fun _ => ?_) (fun c61 => absurd (by decide +kernel) c61)
        refine lv_aload_n hx hb dX0_pass_75 rfl (lv_at hl 4 rfl) ?_
        refine lv_dup hx hb dX0_pass_76 rfl ?_
        refine va_get (D := (dC, dI)) (ci := 5) (v := .int a1_0) (C := RX5) (T := TX5) (N := 7) hx hb hts zi_X0_pass_5 hown hK hP 1 rfl rfl 0 (by decide) (hts (.fieldLink RX0 102 "WaxTurns$Scene" "minute" "I") (zm_X0_pass_r1 (List.mem_of_getElem? (i := 3) rfl))) (fun _ h9 => h9) rfl dX0_pass_77 ?_
        refine lv_iconst (v := 1) hx hb dX0_pass_80 zk_iconst_1 ?_
        refine lv_iadd hx hb dX0_pass_81 ?_
        refine lv_topi (fun x81 ex81 => ?_)
        refine va_put (D := (dC, dI)) (ci := 5) (v := .int x81) (ty := .int) (C := RX5) (T := TX5) (N := 7) hx hb hts zi_X0_pass_5 tyX5 tyX5_ok nmX5 hown hK hP hD hS 1 rfl rfl 0 (by decide) (hts (.fieldLink RX0 102 "WaxTurns$Scene" "minute" "I") (zm_X0_pass_r1 (List.mem_of_getElem? (i := 3) rfl))) (fun _ h9 => h9) rfl (tyX5_ok 0 (by decide)) rfl rfl (Nat.le_of_ble_eq_true rfl) dX0_pass_82 (fun H locs hP hD hS => ?_)
        refine zs_1 (y := (a1, .inr (5, [.int x81, .int a1_1, .int a1_2, .int a1_3, .int a1_4, .ref a1_5, .ref a1_6]))) hP hD rfl (fun hP hD => ?_)
        refine lv_aload_n hx hb dX0_pass_85 rfl (lv_at hl 4 rfl) ?_
        refine lv_iload hx hb dX0_pass_86 (lv_at hl 1 rfl) ?_
        refine va_put (D := (dC, dI)) (ci := 5) (v := .int x10) (ty := .int) (C := RX5) (T := TX5) (N := 7) hx hb hts zi_X0_pass_5 tyX5 tyX5_ok nmX5 hown hK hP hD hS 1 rfl rfl 2 (by decide) (hts (.fieldLink RX0 84 "WaxTurns$Scene" "spent" "I") (zm_X0_pass_r1 (List.mem_of_getElem? (i := 1) rfl))) (fun _ h9 => h9) rfl (tyX5_ok 2 (by decide)) rfl rfl (Nat.le_of_ble_eq_true rfl) dX0_pass_88 (fun H locs hP hD hS => ?_)
        refine zs_1 (y := (a1, .inr (5, [.int x81, .int a1_1, .int x10, .int a1_3, .int a1_4, .ref a1_5, .ref a1_6]))) hP hD rfl (fun hP hD => ?_)
        refine lv_iload hx hb dX0_pass_91 (lv_at hl 1 rfl) ?_
        refine lv_aload_n hx hb dX0_pass_93 rfl (lv_at hl 3 rfl) ?_
        refine va_get (D := (dC, dI)) (ci := 0) (v := .int a0_1) (C := RX0) (T := TX0) (N := 15) hx hb hts zi_X0_pass_0 hown hK hP 0 rfl rfl 1 (by decide) (hts (.fieldLink RX0 48 "WaxTurns$Hall" "span" "I") (zm_X0_pass_r1 (List.mem_of_getElem? (i := 5) rfl))) (fun _ h9 => h9) rfl dX0_pass_94 ?_
        refine lv_icmp_lt (tgt := 109) hx hb dX0_pass_97 (by decide) (fun c97 => ?_) (fun c97 => ?_)
        · have gc97 := ai_lt c97
          have u97t_x10 : x10.toInt ≤ (2147483646 : Int) := ai_lthi gc97 (ai_max a0_1)
          have l97t_a0_1 : (-2147483647 : Int) ≤ a0_1.toInt := ai_ltlo gc97 (ai_min x10)
          exact W.vret hx hb hr (fun t ht hW => ⟨⟨(), rfl, trivial, x81, a1_1, x10, a1_3, a1_4, fa1_5, fa1_6, ⟨ba1_1_l, ba1_1_u⟩, by rw [ht]; exact hP, va_K.moved hW.alike hK, hD⟩, hS.F ht⟩) hS.2.2 dX0_pass_109
        · have gc97 := ai_nlt c97
          refine lv_aload_n hx hb dX0_pass_100 rfl (lv_at hl 4 rfl) ?_
          refine lv_aload_n hx hb dX0_pass_101 rfl (lv_at hl 3 rfl) ?_
          refine lv_iload_n hx hb dX0_pass_102 rfl (lv_at hl 2 rfl) ?_
          refine va_calli (va_runV (As := [.int a1_1]) (rest := [.ref a1]) ⟨hx, hb, hml, hown, hts⟩ (c_X0_next l dC dI H.size a0 a1_1 a0_0 (.int a0_1) (.int a0_2) a0g_3 a0g_4 a0g_7 a0g_8 a0g_9 (.ref a0_10) (.ref a0_11) a0g_12 a0g_13 a0g_14 a0_5 a0_6 ba1_1_l ba1_1_u ba0_0_l ba0_0_u ba0_5_l ba0_5_u ba0_6_l ba0_6_u) (cwV 1 hts gX0_pass_X0_next rfl rfl rfl zd_X0_next ⟨Nat.le_of_ble_eq_true rfl, Nat.le_of_ble_eq_true rfl⟩) ⟨ax_blind (fun _ _ _ _ _ => trivial), zr_0 (zp_K hK) (zp_P1 hP) (q0 := 0) rfl, ax_pre (zp_P1 hP) (zp_K hK) (zp_D1 hD) (fun _ _ => trivial)⟩ rfl rfl hl.1 rfl (lv_room (Nat.le_of_ble_eq_true rfl)) dX0_pass_103 ⟨Nat.le_of_ble_eq_true rfl, Nat.le_of_ble_eq_true rfl⟩) hS (fun q _ h => zp_F1 hD hS hA q h) (zp_F1 hD hS hA) (fun r103 u t H locs ht hvm hw hB hz1 hk1 hS1 => zo1 hB ht hP hD hk1 (zp_F1 hD hS hA) hS1 (fun hP hK1 hD hS => ?_))
          have hw : (0 : Int) ≤ r103.toInt ∧ r103.toInt ≤ (8 : Int) := hw
          obtain ⟨h103_0, h103_1⟩ := hw
          refine zc_cutc (wc := [(a1, .inr (5, [.int x81, .int a1_1, .int x10, .int a1_3, .int a1_4, .ref a1_5, .ref a1_6]))]) hP hD hS hA [1] (by decide +kernel) rfl (fun hPc hDc hFc hCc => ?_)
          have hKc := zp_K hK
          refine va_callv (va_runV (As := [.int r103]) (rest := []) ⟨hx, hb, hml, hown, hts⟩ (c_X5_startTurn l dC dI H.size a1 r103 (.int x81) (.int a1_3) (.int a1_4) (.ref a1_5) (.ref a1_6) a1_1 x10 h103_0 h103_1 ba1_1_l ba1_1_u) (cwV 1 hts gX0_pass_X5_startTurn rfl rfl rfl zd_X5_startTurn ⟨Nat.le_of_ble_eq_true rfl, Nat.le_of_ble_eq_true rfl⟩) ⟨ax_blind (fun _ _ _ _ _ => trivial), zr_5 hKc hPc (q0 := 0) rfl, ax_pre hPc hKc hDc (fun _ _ => trivial)⟩ rfl rfl hl.1 rfl (lv_room (Nat.le_of_ble_eq_true rfl)) dX0_pass_106 ⟨Nat.le_of_ble_eq_true rfl, Nat.le_of_ble_eq_true rfl⟩) hS (fun q _ h => hFc q h) hFc (fun u t H locs ht hvm hw hB hz1 hk1 hS => zx_2 hB (fun v106na0_1 v106na0_2 hB => zy_1 hB (fun bv106na0_1 hB => zo hB ht (fun hP1 hK1 hD1 => ?_))))
          refine zc_backc (w := [(a0, .inr (0, [.int a0_0, .int a0_1, .int a0_2, a0g_3, a0g_4, .int a0_5, .int a0_6, a0g_7, a0g_8, a0g_9, .ref a0_10, .ref a0_11, a0g_12, a0g_13, a0g_14])), (a1, .inr (5, [.int x81, .int v106na0_1, .int v106na0_2, .int a1_3, .int a1_4, .ref a1_5, .ref a1_6])), (a0_10, .inl (ka0_10, 9, .inl (fa0_10))), (a0_11, .inl (ka0_11, 9, .inl (fa0_11))), (a1_5, .inl (ka1_5, 9, .inl (fa1_5))), (a2, .inr (6, [.int a2_0, .int a2_1, .ref a2_2, .ref a2_3])), (a2_3, .inl (ka2_3, 3, .inl (fa2_3))), (a2_2, .inl (ka2_2, 3, .inl (fa2_2))), (a1_6, .inl (ka1_6, 9, .inl (fa1_6)))]) hP hD hCc hk1 hFc hP1 hD1 [.inl 0, .inr 0, .inl 2, .inl 3, .inl 4, .inl 5, .inl 6, .inl 7, .inl 8] (by decide +kernel) rfl (fun hP hD => ?_)
          exact W.vret hx hb hr (fun t ht hW => ⟨⟨(), rfl, trivial, x81, v106na0_1, v106na0_2, a1_3, a1_4, fa1_5, fa1_6, ⟨bv106na0_1.1, bv106na0_1.2⟩, by rw [ht]; exact hP, va_K.moved hW.alike hK, hD⟩, hS.F ht⟩) hS.2.2 dX0_pass_109
end P102_safe
section P103_safe
set_option maxHeartbeats 4000000 in
set_option maxRecDepth 100000 in
theorem c_X2_addIfFit (l : Launch) (dC : Nat → ClassId) (dI : Nat → Nat → Nat) (sz : Nat) (a0 : Nat) (a1 : Nat) (a2 : Int32) (a0_0 : Int32) (a0g_1 a0g_2 a0g_4 a0g_5 a0g_6 : Value) (a0_3 : Nat) (a1_0 : Int32) (a1_1 : Int32) (a1g_2 a1g_3 a1g_4 a1g_5 a1g_6 a1g_7 a1g_8 a1g_10 a1g_11 a1g_14 : Value) (a1_9 : Int32) (a1_12 : Nat) (a1_13 : Nat) (ka0_3 : ClassId) (fa0_3 : Nat → Int32) (ka1_13 : ClassId) (fa1_13 : Nat → Int32) (ka1_12 : ClassId) (fa1_12 : Nat → Int32) (ba2_l : (0 : Int) ≤ a2.toInt) (ba2_u : a2.toInt ≤ (888 : Int)) (ba0_0_l : (0 : Int) ≤ a0_0.toInt) (ba0_0_u : a0_0.toInt ≤ (729 : Int)) (ba1_0_l : (0 : Int) ≤ a1_0.toInt) (ba1_0_u : a1_0.toInt ≤ (9 : Int)) (ba1_9_l : (0 : Int) ≤ a1_9.toInt) (ba1_9_u : a1_9.toInt ≤ (6 : Int)) (bfa0_3 : (∀ k, (0 : Int) ≤ (fa0_3 k).toInt ∧ (fa0_3 k).toInt ≤ 888 ∧ (fa0_3 k).toInt % 10 ≤ 8)) (bfa1_13 : (∀ k, (0 : Int) ≤ (fa1_13 k).toInt ∧ (fa1_13 k).toInt ≤ 999)) (m_a2 : a2.toInt % 10 ≤ 8) : zm l yX2_addIfFit wsX2_addIfFit ({ frames := 2, cells := 0, slots := 0, locals := 51 }) [.ref a0, .ref a1, .int a2] dC dI sz [(a0, .inr (2, [.int a0_0, a0g_1, a0g_2, .ref a0_3, a0g_4, a0g_5, a0g_6])), (a1, .inr (0, [.int a1_0, .int a1_1, a1g_2, a1g_3, a1g_4, a1g_5, a1g_6, a1g_7, a1g_8, .int a1_9, a1g_10, a1g_11, .ref a1_12, .ref a1_13, a1g_14])), (a0_3, .inl (ka0_3, 729, .inl (fa0_3))), (a1_13, .inl (ka1_13, 6, .inl (fa1_13))), (a1_12, .inl (ka1_12, 6, .inl (fa1_12)))] [(ka0_3, .int), (ka1_13, .int), (ka1_12, .int)] (fun A U => va_Nw (.methodLinkNest RX0 72 yX7_laterTurn RX7) U) (fun A => va_Qv (fun (_ : Unit) => True) (fun (_ : Unit) (t : State) => ∃ na0_0 : Int32, ∃ nfa0_3 : Nat → Int32, ((0 : Int) ≤ na0_0.toInt ∧ na0_0.toInt ≤ 729) ∧ (∀ k, (0 : Int) ≤ (nfa0_3 k).toInt ∧ (nfa0_3 k).toInt ≤ 888 ∧ (nfa0_3 k).toInt % 10 ≤ 8) ∧ ax_B dC dI A [(a0, .inr (2, [.int na0_0, a0g_1, a0g_2, .ref a0_3, a0g_4, a0g_5, a0g_6])), (a1, .inr (0, [.int a1_0, .int a1_1, a1g_2, a1g_3, a1g_4, a1g_5, a1g_6, a1g_7, a1g_8, .int a1_9, a1g_10, a1g_11, .ref a1_12, .ref a1_13, a1g_14])), (a0_3, .inl (ka0_3, 729, .inl (nfa0_3))), (a1_13, .inl (ka1_13, 6, .inl (fa1_13))), (a1_12, .inl (ka1_12, 6, .inl (fa1_12)))] [(ka0_3, .int), (ka1_13, .int), (ka1_12, .int)] t) A) := by
  refine zh (cc := cX2_addIfFit) (maxL := 4) (ret := none) zn_RX2 rfl (Nat.le_of_ble_eq_true rfl) (fun p e s m below meth c A ls hx hb hml hr hts (hown : s.vm.findClass RX2 = some m.cls) hlocks hA hS hP hK hD hE (hl : lv_has ls 4 [(0, .ref a0), (1, .ref a1), (2, .int a2)]) => ?_)
  have hE0 := hE
  refine ai_open (fun K hK0 => ?_)
  refine (hK0 _ _ _).mpr ?_
  refine lv_iconst (v := 0) hx hb dX2_addIfFit_0 zk_iconst_0 ?_
  refine lv_istore_n (lv' := [(3, .int 0), (0, .ref a0), (1, .ref a1), (2, .int a2)]) hx hb dX2_addIfFit_1 rfl hl (by decide) rfl (fun ls hl => ?_)
  have J2 : ∀ (n : Nat) (j2l3 : Int32) (H : Heap) (locs : List Loc) (ls : Array Slot), (7 : Int) - j2l3.toInt ≤ (n : Int) → (0 : Int) ≤ j2l3.toInt → j2l3.toInt ≤ (6 : Int) → va_P (dC, dI) vwCl [(a0, .inr (2, [.int a0_0, a0g_1, a0g_2, .ref a0_3, a0g_4, a0g_5, a0g_6])), (a1, .inr (0, [.int a1_0, .int a1_1, a1g_2, a1g_3, a1g_4, a1g_5, a1g_6, a1g_7, a1g_8, .int a1_9, a1g_10, a1g_11, .ref a1_12, .ref a1_13, a1g_14])), (a0_3, .inl (ka0_3, 729, .inl (fa0_3))), (a1_13, .inl (ka1_13, 6, .inl (fa1_13))), (a1_12, .inl (ka1_12, 6, .inl (fa1_12)))] H → va_D A [(a0, .inr (2, [.int a0_0, a0g_1, a0g_2, .ref a0_3, a0g_4, a0g_5, a0g_6])), (a1, .inr (0, [.int a1_0, .int a1_1, a1g_2, a1g_3, a1g_4, a1g_5, a1g_6, a1g_7, a1g_8, .int a1_9, a1g_10, a1g_11, .ref a1_12, .ref a1_13, a1g_14])), (a0_3, .inl (ka0_3, 729, .inl (fa0_3))), (a1_13, .inl (ka1_13, 6, .inl (fa1_13))), (a1_12, .inl (ka1_12, 6, .inl (fa1_12)))] → va_S A s.heap H locs → lv_has ls 4 [(0, .ref a0), (1, .ref a1), (2, .int a2), (3, .int j2l3)] → K H locs (F0 m 2 ls []) := by
    intro n
    induction n with
    | zero =>
      intro j2l3 H locs ls hm bj2l3_l bj2l3_u hP hD hS hl
      have h8 := ai_min j2l3
      have h9 := ai_max j2l3
      exact absurd hm (by omega)
    | succ n ih2 =>
      intro j2l3 H locs ls hm bj2l3_l bj2l3_u hP hD hS hl
      refine (hK0 _ _ _).mpr ?_
      have hm2 := hm
      refine lv_iload_n hx hb dX2_addIfFit_2 rfl (lv_at hl 3 rfl) ?_
      refine lv_aload_n hx hb dX2_addIfFit_3 rfl (lv_at hl 1 rfl) ?_
      refine va_get (D := (dC, dI)) (ci := 0) (v := .int a1_9) (C := RX0) (T := TX0) (N := 15) hx hb hts zi_X2_addIfFit_0 hown hK hP 1 rfl rfl 9 (by decide) (hts (.fieldLink RX2 38 "WaxTurns$Hall" "seenCount" "I") (List.mem_cons_of_mem _ (List.mem_append_left _ (List.mem_append_left _ (List.mem_of_getElem? (i := 0) rfl))))) (fun _ h9 => h9) rfl dX2_addIfFit_4 ?_
      refine lv_icmp_ge (tgt := 37) hx hb dX2_addIfFit_7 (by decide) (fun c7 => ?_) (fun c7 => ?_)
      · have gc7 := ai_le c7
        have u7t_a1_9 : a1_9.toInt ≤ (6 : Int) := ba1_9_u
        have l7t_j2l3 : (0 : Int) ≤ j2l3.toInt := bj2l3_l
        refine lv_aload_n hx hb dX2_addIfFit_37 rfl (lv_at hl 0 rfl) ?_
        refine va_get (D := (dC, dI)) (ci := 2) (v := .int a0_0) (C := RX2) (T := TX2) (N := 7) hx hb hts zi_X2_addIfFit_2 hown hK hP 0 rfl rfl 0 (by decide) (hts (.fieldLink RX2 25 "WaxTurns$Laws" "fitCount" "I") (List.mem_cons_of_mem _ (List.mem_append_left _ (List.mem_append_left _ (List.mem_of_getElem? (i := 3) rfl))))) (fun _ h9 => h9) rfl dX2_addIfFit_38 ?_
        refine lv_sipush (v := 729) hx hb dX2_addIfFit_41 zk_sipush_729 ?_
        refine lv_icmp_ge (tgt := 67) hx hb dX2_addIfFit_44 (by decide) (fun c44 => ?_) (fun c44 => ?_)
        · have gc44 := ai_le c44
          have l44t_a0_0 : (729 : Int) ≤ a0_0.toInt := Int.le_trans zq29 gc44
          exact W.vret hx hb hr (fun t ht hW => ⟨⟨(), rfl, trivial, a0_0, fa0_3, ⟨Int.le_trans (by decide) l44t_a0_0, ba0_0_u⟩, bfa0_3, by rw [ht]; exact hP, va_K.moved hW.alike hK, hD⟩, hS.F ht⟩) hS.2.2 dX2_addIfFit_67
        · have gc44 := ai_nle c44
          have u44f_a0_0 : a0_0.toInt ≤ (728 : Int) := ai_lthi gc44 zq30
          refine lv_aload_n hx hb dX2_addIfFit_47 rfl (lv_at hl 0 rfl) ?_
          refine va_get (D := (dC, dI)) (ci := 2) (v := .ref a0_3) (C := RX2) (T := TX2) (N := 7) hx hb hts zi_X2_addIfFit_2 hown hK hP 0 rfl rfl 3 (by decide) (hts (.fieldLink RX2 9 "WaxTurns$Laws" "fitting" "[I") (List.mem_cons_of_mem _ (List.mem_append_left _ (List.mem_append_left _ (List.mem_of_getElem? (i := 4) rfl))))) (fun _ h9 => h9) rfl dX2_addIfFit_48 ?_
          refine lv_aload_n hx hb dX2_addIfFit_51 rfl (lv_at hl 0 rfl) ?_
          refine va_get (D := (dC, dI)) (ci := 2) (v := .int a0_0) (C := RX2) (T := TX2) (N := 7) hx hb hts zi_X2_addIfFit_2 hown hK hP 0 rfl rfl 0 (by decide) (hts (.fieldLink RX2 25 "WaxTurns$Laws" "fitCount" "I") (List.mem_cons_of_mem _ (List.mem_append_left _ (List.mem_append_left _ (List.mem_of_getElem? (i := 3) rfl))))) (fun _ h9 => h9) rfl dX2_addIfFit_52 ?_
          refine lv_iload_n hx hb dX2_addIfFit_55 rfl (lv_at hl 2 rfl) ?_
          refine va_iast hx hb hK hP hD hS 2 0 rfl rfl (ai_in ba0_0_l u44f_a0_0 (by decide) (by decide)) dX2_addIfFit_56 (fun H locs hP hD hS => ?_)
          obtain ⟨f56, bf56, hP, hD⟩ : ∃ f56 : Nat → Int32, (∀ k, (0 : Int) ≤ (f56 k).toInt ∧ (f56 k).toInt ≤ 888 ∧ (f56 k).toInt % 10 ≤ 8) ∧ va_P (dC, dI) vwCl [(a0, .inr (2, [.int a0_0, a0g_1, a0g_2, .ref a0_3, a0g_4, a0g_5, a0g_6])), (a1, .inr (0, [.int a1_0, .int a1_1, a1g_2, a1g_3, a1g_4, a1g_5, a1g_6, a1g_7, a1g_8, .int a1_9, a1g_10, a1g_11, .ref a1_12, .ref a1_13, a1g_14])), (a0_3, .inl (ka0_3, 729, .inl (f56))), (a1_13, .inl (ka1_13, 6, .inl (fa1_13))), (a1_12, .inl (ka1_12, 6, .inl (fa1_12)))] H ∧ va_D A [(a0, .inr (2, [.int a0_0, a0g_1, a0g_2, .ref a0_3, a0g_4, a0g_5, a0g_6])), (a1, .inr (0, [.int a1_0, .int a1_1, a1g_2, a1g_3, a1g_4, a1g_5, a1g_6, a1g_7, a1g_8, .int a1_9, a1g_10, a1g_11, .ref a1_12, .ref a1_13, a1g_14])), (a0_3, .inl (ka0_3, 729, .inl (f56))), (a1_13, .inl (ka1_13, 6, .inl (fa1_13))), (a1_12, .inl (ka1_12, 6, .inl (fa1_12)))] := ⟨_, ai_updm bfa0_3 _ ⟨ba2_l, ba2_u, m_a2⟩, hP, hD⟩
          refine lv_aload_n hx hb dX2_addIfFit_57 rfl (lv_at hl 0 rfl) ?_
          refine lv_dup hx hb dX2_addIfFit_58 rfl ?_
          refine va_get (D := (dC, dI)) (ci := 2) (v := .int a0_0) (C := RX2) (T := TX2) (N := 7) hx hb hts zi_X2_addIfFit_2 hown hK hP 0 rfl rfl 0 (by decide) (hts (.fieldLink RX2 25 "WaxTurns$Laws" "fitCount" "I") (List.mem_cons_of_mem _ (List.mem_append_left _ (List.mem_append_left _ (List.mem_of_getElem? (i := 3) rfl))))) (fun _ h9 => h9) rfl dX2_addIfFit_59 ?_
          refine lv_iconst (v := 1) hx hb dX2_addIfFit_62 zk_iconst_1 ?_
          refine lv_iadd hx hb dX2_addIfFit_63 ?_
          refine lv_topi (fun x63 ex63 => ?_)
          have qx63 : x63.toInt = a0_0.toInt + (1 : Int32).toInt := ai_add ex63 ⟨ba0_0_l, u44f_a0_0⟩ ⟨zq1, zq0⟩ (by decide) (by decide)
          have bx63 : (1 : Int) ≤ x63.toInt ∧ x63.toInt ≤ 729 := ⟨by rw [qx63]; exact Int.add_le_add ba0_0_l zq1, by rw [qx63]; exact Int.add_le_add u44f_a0_0 zq0⟩
          have wx63 : x63.toInt = a0_0.toInt + 1 := qx63
          refine va_put (D := (dC, dI)) (ci := 2) (v := .int x63) (ty := .int) (C := RX2) (T := TX2) (N := 7) hx hb hts zi_X2_addIfFit_2 tyX2 tyX2_ok nmX2 hown hK hP hD hS 0 rfl rfl 0 (by decide) (hts (.fieldLink RX2 25 "WaxTurns$Laws" "fitCount" "I") (List.mem_cons_of_mem _ (List.mem_append_left _ (List.mem_append_left _ (List.mem_of_getElem? (i := 3) rfl))))) (fun _ h9 => h9) rfl (tyX2_ok 0 (by decide)) rfl rfl (Nat.le_of_ble_eq_true rfl) dX2_addIfFit_64 (fun H locs hP hD hS => ?_)
          refine zs_0 (y := (a0, .inr (2, [.int x63, a0g_1, a0g_2, .ref a0_3, a0g_4, a0g_5, a0g_6]))) hP hD rfl (fun hP hD => ?_)
          exact W.vret hx hb hr (fun t ht hW => ⟨⟨(), rfl, trivial, x63, f56, ⟨Int.le_trans (by decide) bx63.1, bx63.2⟩, bf56, by rw [ht]; exact hP, va_K.moved hW.alike hK, hD⟩, hS.F ht⟩) hS.2.2 dX2_addIfFit_67
      · have gc7 := ai_nle c7
        have u7f_j2l3 : j2l3.toInt ≤ (5 : Int) := ai_lthi gc7 ba1_9_u
        have l7f_a1_9 : (1 : Int) ≤ a1_9.toInt := ai_ltlo gc7 bj2l3_l
        refine lv_aload_n hx hb dX2_addIfFit_10 rfl (lv_at hl 1 rfl) ?_
        refine lv_iload_n hx hb dX2_addIfFit_11 rfl (lv_at hl 2 rfl) ?_
        refine lv_aload_n hx hb dX2_addIfFit_12 rfl (lv_at hl 1 rfl) ?_
        refine va_get (D := (dC, dI)) (ci := 0) (v := .ref a1_13) (C := RX0) (T := TX0) (N := 15) hx hb hts zi_X2_addIfFit_0 hown hK hP 1 rfl rfl 13 (by decide) (hts (.fieldLink RX2 41 "WaxTurns$Hall" "seenMinutes" "[I") (List.mem_cons_of_mem _ (List.mem_append_left _ (List.mem_append_left _ (List.mem_of_getElem? (i := 1) rfl))))) (fun _ h9 => h9) rfl dX2_addIfFit_13 ?_
        refine lv_iload_n hx hb dX2_addIfFit_16 rfl (lv_at hl 3 rfl) ?_
        refine va_iald hx hb hK hP 3 1 rfl rfl (ai_in bj2l3_l u7f_j2l3 (by decide) (by decide)) dX2_addIfFit_17 ?_
        refine lv_topi (fun x17 ex17 => ?_)
        have bx17 : (0 : Int) ≤ x17.toInt ∧ x17.toInt ≤ 999 := by rw [ex17]; exact bfa1_13 _
        refine zc_cutc (wc := [(a1, .inr (0, [.int a1_0, .int a1_1, a1g_2, a1g_3, a1g_4, a1g_5, a1g_6, a1g_7, a1g_8, .int a1_9, a1g_10, a1g_11, .ref a1_12, .ref a1_13, a1g_14]))]) hP hD hS hA [1] (by decide +kernel) rfl (fun hPc hDc hFc hCc => ?_)
        have hKc := zp_K hK
        refine va_calli (va_runV (As := [.int a2, .int x17]) (rest := []) ⟨hx, hb, hml, hown, hts⟩ (c_X0_aliveByLaw l dC dI H.size a1 a2 x17 a1_0 a1_1 a1g_2 a1g_3 a1g_4 a1g_5 a1g_6 a1g_7 a1g_8 (.int a1_9) a1g_10 a1g_11 (.ref a1_12) (.ref a1_13) a1g_14 ba2_l (Int.le_trans ba2_u zq31) bx17.1 bx17.2 ba1_0_l ba1_0_u) (cwV 2 hts gX2_addIfFit_X0_aliveByLaw rfl rfl rfl zd_X0_aliveByLaw ⟨Nat.le_of_ble_eq_true rfl, Nat.le_of_ble_eq_true rfl⟩) ⟨ax_blind (fun _ _ _ _ hq => va_Nw.same rfl rfl (hq)), zr_0 hKc hPc (q0 := 0) rfl, ax_pre hPc hKc hDc (fun _ hW => va_Nw.warmM hW hE0)⟩ rfl rfl hl.1 rfl (lv_room (Nat.le_of_ble_eq_true rfl)) dX2_addIfFit_18 ⟨Nat.le_of_ble_eq_true rfl, Nat.le_of_ble_eq_true rfl⟩) hS (fun q _ h => hFc q h) hFc (fun r18 u t H locs ht hvm hw hB hz1 hk1 hS => zo hB ht (fun hP1 hK1 hD1 => ?_))
        refine zc_backc (w := [(a0, .inr (2, [.int a0_0, a0g_1, a0g_2, .ref a0_3, a0g_4, a0g_5, a0g_6])), (a1, .inr (0, [.int a1_0, .int a1_1, a1g_2, a1g_3, a1g_4, a1g_5, a1g_6, a1g_7, a1g_8, .int a1_9, a1g_10, a1g_11, .ref a1_12, .ref a1_13, a1g_14])), (a0_3, .inl (ka0_3, 729, .inl (fa0_3))), (a1_13, .inl (ka1_13, 6, .inl (fa1_13))), (a1_12, .inl (ka1_12, 6, .inl (fa1_12)))]) hP hD hCc hk1 hFc hP1 hD1 [.inl 0, .inr 0, .inl 2, .inl 3, .inl 4] (by decide +kernel) rfl (fun hP hD => ?_)
        have hw : (0 : Int) ≤ r18.toInt ∧ r18.toInt ≤ (9 : Int) := hw
        obtain ⟨h18_0, h18_1⟩ := hw
        refine lv_aload_n hx hb dX2_addIfFit_21 rfl (lv_at hl 1 rfl) ?_
        refine va_get (D := (dC, dI)) (ci := 0) (v := .ref a1_12) (C := RX0) (T := TX0) (N := 15) hx hb hts zi_X2_addIfFit_0 hown hK hP 1 rfl rfl 12 (by decide) (hts (.fieldLink RX2 48 "WaxTurns$Hall" "seenFigures" "[I") (List.mem_cons_of_mem _ (List.mem_append_left _ (List.mem_append_left _ (List.mem_of_getElem? (i := 2) rfl))))) (fun _ h9 => h9) rfl dX2_addIfFit_22 ?_
        refine lv_iload_n hx hb dX2_addIfFit_25 rfl (lv_at hl 3 rfl) ?_
        refine va_iald hx hb hK hP 4 2 rfl rfl (ai_in bj2l3_l u7f_j2l3 (by decide) (by decide)) dX2_addIfFit_26 ?_
        refine lv_topi (fun x26 ex26 => ?_)
        refine lv_icmp_eq (tgt := 31) hx hb dX2_addIfFit_27 (by decide) (fun c27 => ?_) (fun c27 => ?_)
        · have gc27 := ai_eq c27
          have u27t_x26 : x26.toInt ≤ (9 : Int) := Int.le_trans (Int.le_of_eq gc27.symm) h18_1
          have l27t_x26 : (0 : Int) ≤ x26.toInt := Int.le_trans h18_0 (Int.le_of_eq gc27)
          obtain ⟨x31, ex31⟩ : ∃ y : Int32, y = j2l3 + Int32.ofInt 1 := ⟨_, rfl⟩
          have qx31 : x31.toInt = j2l3.toInt + 1 := ai_inc ex31 (by decide) (by decide) u7f_j2l3 (by decide)
          have bx31 : (1 : Int) ≤ x31.toInt ∧ x31.toInt ≤ 6 := ⟨by rw [qx31]; exact Int.add_le_add bj2l3_l (Int.le_refl _), by rw [qx31]; exact Int.add_le_add u7f_j2l3 (Int.le_refl _)⟩
          refine lv_iinc (v := x31) (lv' := [(3, .int x31), (0, .ref a0), (1, .ref a1), (2, .int a2)]) hx hb dX2_addIfFit_31 hl (k := 3) rfl ex31.symm (by decide) rfl (fun ls hl => ?_)
          refine lv_goto (tgt := 2) hx hb dX2_addIfFit_34 (by decide) ?_
          exact (hK0 _ _ _).mp (ih2 x31 _ _ _ (by have h0 := qx31; omega) (Int.le_trans zq4 bx31.1) bx31.2 hP hD hS (lv_sub hl [1, 2, 3, 0] rfl))
        · have gc27 := ai_ne c27
          exact W.vret hx hb hr (fun t ht hW => ⟨⟨(), rfl, trivial, a0_0, fa0_3, ⟨ba0_0_l, ba0_0_u⟩, bfa0_3, by rw [ht]; exact hP, va_K.moved hW.alike hK, hD⟩, hS.F ht⟩) hS.2.2 dX2_addIfFit_30
  exact (hK0 _ _ _).mp (J2 7 0 _ _ _ (by have h1 : (0 : Int) ≤ (0 : Int32).toInt := zq5; have h2 : (0 : Int32).toInt ≤ (0 : Int) := zq6; omega) zq5 (Int.le_trans zq6 zq17) hP hD hS (lv_sub hl [1, 2, 3, 0] rfl))

set_option maxHeartbeats 4000000 in
set_option maxRecDepth 100000 in
theorem c_X2_list (l : Launch) (dC : Nat → ClassId) (dI : Nat → Nat → Nat) (sz : Nat) (a0 : Nat) (a1 : Nat) (a0_0 : Int32) (a0g_1 a0g_2 a0g_4 a0g_6 : Value) (a0_3 : Nat) (a0_5 : Int32) (a1_0 : Int32) (a1_1 : Int32) (a1g_2 a1g_3 a1g_4 a1g_5 a1g_6 a1g_7 a1g_8 a1g_10 a1g_11 a1g_14 : Value) (a1_9 : Int32) (a1_12 : Nat) (a1_13 : Nat) (ka0_3 : ClassId) (fa0_3 : Nat → Int32) (ka1_13 : ClassId) (fa1_13 : Nat → Int32) (ka1_12 : ClassId) (fa1_12 : Nat → Int32) (ba0_0_l : (0 : Int) ≤ a0_0.toInt) (ba0_0_u : a0_0.toInt ≤ (729 : Int)) (ba0_5_l : (0 : Int) ≤ a0_5.toInt) (ba0_5_u : a0_5.toInt ≤ (1 : Int)) (ba1_0_l : (0 : Int) ≤ a1_0.toInt) (ba1_0_u : a1_0.toInt ≤ (9 : Int)) (ba1_9_l : (0 : Int) ≤ a1_9.toInt) (ba1_9_u : a1_9.toInt ≤ (6 : Int)) (bfa0_3 : (∀ k, (0 : Int) ≤ (fa0_3 k).toInt ∧ (fa0_3 k).toInt ≤ 888 ∧ (fa0_3 k).toInt % 10 ≤ 8)) (bfa1_13 : (∀ k, (0 : Int) ≤ (fa1_13 k).toInt ∧ (fa1_13 k).toInt ≤ 999)) : zm l yX2_list wsX2_list ({ frames := 3, cells := 0, slots := 0, locals := 74 }) [.ref a0, .ref a1] dC dI sz [(a0, .inr (2, [.int a0_0, a0g_1, a0g_2, .ref a0_3, a0g_4, .int a0_5, a0g_6])), (a1, .inr (0, [.int a1_0, .int a1_1, a1g_2, a1g_3, a1g_4, a1g_5, a1g_6, a1g_7, a1g_8, .int a1_9, a1g_10, a1g_11, .ref a1_12, .ref a1_13, a1g_14])), (a0_3, .inl (ka0_3, 729, .inl (fa0_3))), (a1_13, .inl (ka1_13, 6, .inl (fa1_13))), (a1_12, .inl (ka1_12, 6, .inl (fa1_12)))] [(ka0_3, .int), (ka1_13, .int), (ka1_12, .int)] (fun A U => va_Nw (.methodLinkNest RX0 72 yX7_laterTurn RX7) U) (fun A => va_Qv (fun (_ : Unit) => True) (fun (_ : Unit) (t : State) => ∃ na0_0 : Int32, ∃ na0_5 : Int32, ∃ nfa0_3 : Nat → Int32, ((0 : Int) ≤ na0_0.toInt ∧ na0_0.toInt ≤ 729) ∧ ((0 : Int) ≤ na0_5.toInt ∧ na0_5.toInt ≤ 1) ∧ (∀ k, (0 : Int) ≤ (nfa0_3 k).toInt ∧ (nfa0_3 k).toInt ≤ 888 ∧ (nfa0_3 k).toInt % 10 ≤ 8) ∧ ax_B dC dI A [(a0, .inr (2, [.int na0_0, a0g_1, a0g_2, .ref a0_3, a0g_4, .int na0_5, a0g_6])), (a1, .inr (0, [.int a1_0, .int a1_1, a1g_2, a1g_3, a1g_4, a1g_5, a1g_6, a1g_7, a1g_8, .int a1_9, a1g_10, a1g_11, .ref a1_12, .ref a1_13, a1g_14])), (a0_3, .inl (ka0_3, 729, .inl (nfa0_3))), (a1_13, .inl (ka1_13, 6, .inl (fa1_13))), (a1_12, .inl (ka1_12, 6, .inl (fa1_12)))] [(ka0_3, .int), (ka1_13, .int), (ka1_12, .int)] t) A) := by
  refine zh (cc := cX2_list) (maxL := 5) (ret := none) zn_RX2 rfl (Nat.le_of_ble_eq_true rfl) (fun p e s m below meth c A ls hx hb hml hr hts (hown : s.vm.findClass RX2 = some m.cls) hlocks hA hS hP hK hD hE (hl : lv_has ls 5 [(0, .ref a0), (1, .ref a1)]) => ?_)
  have hE0 := hE
  refine ai_open (fun K hK0 => ?_)
  refine (hK0 _ _ _).mpr ?_
  refine lv_aload_n hx hb dX2_list_0 rfl (lv_at hl 0 rfl) ?_
  refine va_get (D := (dC, dI)) (ci := 2) (v := .int a0_5) (C := RX2) (T := TX2) (N := 7) hx hb hts zi_X2_list_2 hown hK hP 0 rfl rfl 5 (by decide) (hts (.fieldLink RX2 18 "WaxTurns$Laws" "listed" "Z") (List.mem_cons_of_mem _ (List.mem_append_left _ (List.mem_append_left _ (List.mem_of_getElem? (i := 0) rfl))))) (fun _ h9 => h9) rfl dX2_list_1 ?_
  refine lv_if_eq (tgt := 8) hx hb dX2_list_4 (by decide) (fun c4 => ?_) (fun c4 => ?_)
  · have gc4 := ai_eq c4
    have u4t_a0_5 : a0_5.toInt ≤ (0 : Int) := Int.le_trans (Int.le_of_eq gc4) zq6
    have l4t_a0_5 : (0 : Int) ≤ a0_5.toInt := ba0_5_l
    refine lv_aload_n hx hb dX2_list_8 rfl (lv_at hl 0 rfl) ?_
    refine lv_iconst (v := 1) hx hb dX2_list_9 zk_iconst_1 ?_
    refine va_put (D := (dC, dI)) (ci := 2) (v := .int 1) (ty := .boolean) (C := RX2) (T := TX2) (N := 7) hx hb hts zi_X2_list_2 tyX2 tyX2_ok nmX2 hown hK hP hD hS 0 rfl rfl 5 (by decide) (hts (.fieldLink RX2 18 "WaxTurns$Laws" "listed" "Z") (List.mem_cons_of_mem _ (List.mem_append_left _ (List.mem_append_left _ (List.mem_of_getElem? (i := 0) rfl))))) (fun _ h9 => h9) rfl (tyX2_ok 5 (by decide)) rfl rfl (Nat.le_of_ble_eq_true rfl) dX2_list_10 (fun H locs hP hD hS => ?_)
    refine zs_0 (y := (a0, .inr (2, [.int a0_0, a0g_1, a0g_2, .ref a0_3, a0g_4, .int 1, a0g_6]))) hP hD rfl (fun hP hD => ?_)
    refine lv_aload_n hx hb dX2_list_13 rfl (lv_at hl 0 rfl) ?_
    refine lv_iconst (v := 0) hx hb dX2_list_14 zk_iconst_0 ?_
    refine va_put (D := (dC, dI)) (ci := 2) (v := .int 0) (ty := .int) (C := RX2) (T := TX2) (N := 7) hx hb hts zi_X2_list_2 tyX2 tyX2_ok nmX2 hown hK hP hD hS 0 rfl rfl 0 (by decide) (hts (.fieldLink RX2 25 "WaxTurns$Laws" "fitCount" "I") (List.mem_cons_of_mem _ (List.mem_append_left _ (List.mem_append_left _ (List.mem_of_getElem? (i := 1) rfl))))) (fun _ h9 => h9) rfl (tyX2_ok 0 (by decide)) rfl rfl (Nat.le_of_ble_eq_true rfl) dX2_list_15 (fun H locs hP hD hS => ?_)
    refine zs_0 (y := (a0, .inr (2, [.int 0, a0g_1, a0g_2, .ref a0_3, a0g_4, .int 1, a0g_6]))) hP hD rfl (fun hP hD => ?_)
    refine lv_iconst (v := 0) hx hb dX2_list_18 zk_iconst_0 ?_
    refine lv_istore_n (lv' := [(2, .int 0), (0, .ref a0), (1, .ref a1)]) hx hb dX2_list_19 rfl hl (by decide) rfl (fun ls hl => ?_)
    have J20 : ∀ (n : Nat) (j20l2 : Int32) (j20a0_0 : Int32) (j20a0_3_a : Nat → Int32) (H : Heap) (locs : List Loc) (ls : Array Slot), (10 : Int) - j20l2.toInt ≤ (n : Int) → (0 : Int) ≤ j20l2.toInt → j20l2.toInt ≤ (9 : Int) → (0 : Int) ≤ j20a0_0.toInt → j20a0_0.toInt ≤ (729 : Int) → (∀ k, (0 : Int) ≤ (j20a0_3_a k).toInt ∧ (j20a0_3_a k).toInt ≤ 888 ∧ (j20a0_3_a k).toInt % 10 ≤ 8) → va_P (dC, dI) vwCl [(a0, .inr (2, [.int j20a0_0, a0g_1, a0g_2, .ref a0_3, a0g_4, .int 1, a0g_6])), (a1, .inr (0, [.int a1_0, .int a1_1, a1g_2, a1g_3, a1g_4, a1g_5, a1g_6, a1g_7, a1g_8, .int a1_9, a1g_10, a1g_11, .ref a1_12, .ref a1_13, a1g_14])), (a0_3, .inl (ka0_3, 729, .inl (j20a0_3_a))), (a1_13, .inl (ka1_13, 6, .inl (fa1_13))), (a1_12, .inl (ka1_12, 6, .inl (fa1_12)))] H → va_D A [(a0, .inr (2, [.int j20a0_0, a0g_1, a0g_2, .ref a0_3, a0g_4, .int 1, a0g_6])), (a1, .inr (0, [.int a1_0, .int a1_1, a1g_2, a1g_3, a1g_4, a1g_5, a1g_6, a1g_7, a1g_8, .int a1_9, a1g_10, a1g_11, .ref a1_12, .ref a1_13, a1g_14])), (a0_3, .inl (ka0_3, 729, .inl (j20a0_3_a))), (a1_13, .inl (ka1_13, 6, .inl (fa1_13))), (a1_12, .inl (ka1_12, 6, .inl (fa1_12)))] → va_S A s.heap H locs → lv_has ls 5 [(0, .ref a0), (1, .ref a1), (2, .int j20l2)] → K H locs (F0 m 20 ls []) := by
      intro n
      induction n with
      | zero =>
        intro j20l2 j20a0_0 j20a0_3_a H locs ls hm bj20l2_l bj20l2_u bj20a0_0_l bj20a0_0_u bj20a0_3_a hP hD hS hl
        have h8 := ai_min j20l2
        have h9 := ai_max j20l2
        exact absurd hm (by omega)
      | succ n ih20 =>
        intro j20l2 j20a0_0 j20a0_3_a H locs ls hm bj20l2_l bj20l2_u bj20a0_0_l bj20a0_0_u bj20a0_3_a hP hD hS hl
        refine (hK0 _ _ _).mpr ?_
        have hm20 := hm
        refine lv_iload_n hx hb dX2_list_20 rfl (lv_at hl 2 rfl) ?_
        refine lv_aload_n hx hb dX2_list_21 rfl (lv_at hl 1 rfl) ?_
        refine va_get (D := (dC, dI)) (ci := 0) (v := .int a1_0) (C := RX0) (T := TX0) (N := 15) hx hb hts zi_X2_list_0 hown hK hP 1 rfl rfl 0 (by decide) (hts (.fieldLink RX2 29 "WaxTurns$Hall" "figures" "I") (List.mem_cons_of_mem _ (List.mem_append_left _ (List.mem_append_left _ (List.mem_of_getElem? (i := 2) rfl))))) (fun _ h9 => h9) rfl dX2_list_22 ?_
        refine lv_icmp_ge (tgt := 85) hx hb dX2_list_25 (by decide) (fun c25 => ?_) (fun c25 => ?_)
        · have gc25 := ai_le c25
          have u25t_a1_0 : a1_0.toInt ≤ (9 : Int) := ba1_0_u
          have l25t_j20l2 : (0 : Int) ≤ j20l2.toInt := bj20l2_l
          exact W.vret hx hb hr (fun t ht hW => ⟨⟨(), rfl, trivial, j20a0_0, 1, j20a0_3_a, ⟨bj20a0_0_l, bj20a0_0_u⟩, ⟨Int.le_trans (by decide) zq1, zq0⟩, bj20a0_3_a, by rw [ht]; exact hP, va_K.moved hW.alike hK, hD⟩, hS.F ht⟩) hS.2.2 dX2_list_85
        · have gc25 := ai_nle c25
          have u25f_j20l2 : j20l2.toInt ≤ (8 : Int) := ai_lthi gc25 ba1_0_u
          have l25f_a1_0 : (1 : Int) ≤ a1_0.toInt := ai_ltlo gc25 bj20l2_l
          refine lv_iconst (v := 0) hx hb dX2_list_28 zk_iconst_0 ?_
          refine lv_istore_n (lv' := [(3, .int 0), (0, .ref a0), (1, .ref a1), (2, .int j20l2)]) hx hb dX2_list_29 rfl hl (by decide) rfl (fun ls hl => ?_)
          have J30 : ∀ (n : Nat) (j30l3 : Int32) (j30a0_0 : Int32) (j30a0_3_a : Nat → Int32) (H : Heap) (locs : List Loc) (ls : Array Slot), (10 : Int) - j30l3.toInt ≤ (n : Int) → (0 : Int) ≤ j30l3.toInt → j30l3.toInt ≤ (9 : Int) → (0 : Int) ≤ j30a0_0.toInt → j30a0_0.toInt ≤ (729 : Int) → (∀ k, (0 : Int) ≤ (j30a0_3_a k).toInt ∧ (j30a0_3_a k).toInt ≤ 888 ∧ (j30a0_3_a k).toInt % 10 ≤ 8) → va_P (dC, dI) vwCl [(a0, .inr (2, [.int j30a0_0, a0g_1, a0g_2, .ref a0_3, a0g_4, .int 1, a0g_6])), (a1, .inr (0, [.int a1_0, .int a1_1, a1g_2, a1g_3, a1g_4, a1g_5, a1g_6, a1g_7, a1g_8, .int a1_9, a1g_10, a1g_11, .ref a1_12, .ref a1_13, a1g_14])), (a0_3, .inl (ka0_3, 729, .inl (j30a0_3_a))), (a1_13, .inl (ka1_13, 6, .inl (fa1_13))), (a1_12, .inl (ka1_12, 6, .inl (fa1_12)))] H → va_D A [(a0, .inr (2, [.int j30a0_0, a0g_1, a0g_2, .ref a0_3, a0g_4, .int 1, a0g_6])), (a1, .inr (0, [.int a1_0, .int a1_1, a1g_2, a1g_3, a1g_4, a1g_5, a1g_6, a1g_7, a1g_8, .int a1_9, a1g_10, a1g_11, .ref a1_12, .ref a1_13, a1g_14])), (a0_3, .inl (ka0_3, 729, .inl (j30a0_3_a))), (a1_13, .inl (ka1_13, 6, .inl (fa1_13))), (a1_12, .inl (ka1_12, 6, .inl (fa1_12)))] → va_S A s.heap H locs → lv_has ls 5 [(0, .ref a0), (1, .ref a1), (2, .int j20l2), (3, .int j30l3)] → K H locs (F0 m 30 ls []) := by
            intro n
            induction n with
            | zero =>
              intro j30l3 j30a0_0 j30a0_3_a H locs ls hm bj30l3_l bj30l3_u bj30a0_0_l bj30a0_0_u bj30a0_3_a hP hD hS hl
              have h8 := ai_min j30l3
              have h9 := ai_max j30l3
              exact absurd hm (by omega)
            | succ n ih30 =>
              intro j30l3 j30a0_0 j30a0_3_a H locs ls hm bj30l3_l bj30l3_u bj30a0_0_l bj30a0_0_u bj30a0_3_a hP hD hS hl
              refine (hK0 _ _ _).mpr ?_
              have hm30 := hm
              refine lv_iload_n hx hb dX2_list_30 rfl (lv_at hl 3 rfl) ?_
              refine lv_aload_n hx hb dX2_list_31 rfl (lv_at hl 1 rfl) ?_
              refine va_get (D := (dC, dI)) (ci := 0) (v := .int a1_0) (C := RX0) (T := TX0) (N := 15) hx hb hts zi_X2_list_0 hown hK hP 1 rfl rfl 0 (by decide) (hts (.fieldLink RX2 29 "WaxTurns$Hall" "figures" "I") (List.mem_cons_of_mem _ (List.mem_append_left _ (List.mem_append_left _ (List.mem_of_getElem? (i := 2) rfl))))) (fun _ h9 => h9) rfl dX2_list_32 ?_
              refine lv_icmp_ge (tgt := 79) hx hb dX2_list_35 (by decide) (fun c35 => ?_) (fun c35 => ?_)
              · have gc35 := ai_le c35
                have u35t_a1_0 : a1_0.toInt ≤ (9 : Int) := ba1_0_u
                have l35t_j30l3 : (1 : Int) ≤ j30l3.toInt := Int.le_trans l25f_a1_0 gc35
                obtain ⟨x79, ex79⟩ : ∃ y : Int32, y = j20l2 + Int32.ofInt 1 := ⟨_, rfl⟩
                have qx79 : x79.toInt = j20l2.toInt + 1 := ai_inc ex79 (by decide) (by decide) u25f_j20l2 (by decide)
                have bx79 : (1 : Int) ≤ x79.toInt ∧ x79.toInt ≤ 9 := ⟨by rw [qx79]; exact Int.add_le_add bj20l2_l (Int.le_refl _), by rw [qx79]; exact Int.add_le_add u25f_j20l2 (Int.le_refl _)⟩
                refine lv_iinc (v := x79) (lv' := [(2, .int x79), (0, .ref a0), (1, .ref a1), (3, .int j30l3)]) hx hb dX2_list_79 hl (k := 2) rfl ex79.symm (by decide) rfl (fun ls hl => ?_)
                refine lv_goto (tgt := 20) hx hb dX2_list_82 (by decide) ?_
                exact (hK0 _ _ _).mp (ih20 x79 j30a0_0 j30a0_3_a _ _ _ (by have h0 := qx79; omega) (Int.le_trans zq4 bx79.1) bx79.2 bj30a0_0_l bj30a0_0_u bj30a0_3_a hP hD hS (lv_sub hl [1, 2, 0] rfl))
              · have gc35 := ai_nle c35
                have u35f_j30l3 : j30l3.toInt ≤ (8 : Int) := ai_lthi gc35 ba1_0_u
                have l35f_a1_0 : (1 : Int) ≤ a1_0.toInt := l25f_a1_0
                refine lv_iconst (v := 0) hx hb dX2_list_38 zk_iconst_0 ?_
                refine lv_istore (lv' := [(4, .int 0), (0, .ref a0), (1, .ref a1), (2, .int j20l2), (3, .int j30l3)]) hx hb dX2_list_39 hl (by decide) rfl (fun ls hl => ?_)
                have J41 : ∀ (n : Nat) (j41l4 : Int32) (j41a0_0 : Int32) (j41a0_3_a : Nat → Int32) (H : Heap) (locs : List Loc) (ls : Array Slot), (10 : Int) - j41l4.toInt ≤ (n : Int) → (0 : Int) ≤ j41l4.toInt → j41l4.toInt ≤ (9 : Int) → (0 : Int) ≤ j41a0_0.toInt → j41a0_0.toInt ≤ (729 : Int) → (∀ k, (0 : Int) ≤ (j41a0_3_a k).toInt ∧ (j41a0_3_a k).toInt ≤ 888 ∧ (j41a0_3_a k).toInt % 10 ≤ 8) → va_P (dC, dI) vwCl [(a0, .inr (2, [.int j41a0_0, a0g_1, a0g_2, .ref a0_3, a0g_4, .int 1, a0g_6])), (a1, .inr (0, [.int a1_0, .int a1_1, a1g_2, a1g_3, a1g_4, a1g_5, a1g_6, a1g_7, a1g_8, .int a1_9, a1g_10, a1g_11, .ref a1_12, .ref a1_13, a1g_14])), (a0_3, .inl (ka0_3, 729, .inl (j41a0_3_a))), (a1_13, .inl (ka1_13, 6, .inl (fa1_13))), (a1_12, .inl (ka1_12, 6, .inl (fa1_12)))] H → va_D A [(a0, .inr (2, [.int j41a0_0, a0g_1, a0g_2, .ref a0_3, a0g_4, .int 1, a0g_6])), (a1, .inr (0, [.int a1_0, .int a1_1, a1g_2, a1g_3, a1g_4, a1g_5, a1g_6, a1g_7, a1g_8, .int a1_9, a1g_10, a1g_11, .ref a1_12, .ref a1_13, a1g_14])), (a0_3, .inl (ka0_3, 729, .inl (j41a0_3_a))), (a1_13, .inl (ka1_13, 6, .inl (fa1_13))), (a1_12, .inl (ka1_12, 6, .inl (fa1_12)))] → va_S A s.heap H locs → lv_has ls 5 [(0, .ref a0), (1, .ref a1), (2, .int j20l2), (3, .int j30l3), (4, .int j41l4)] → K H locs (F0 m 41 ls []) := by
                  intro n
                  induction n with
                  | zero =>
                    intro j41l4 j41a0_0 j41a0_3_a H locs ls hm bj41l4_l bj41l4_u bj41a0_0_l bj41a0_0_u bj41a0_3_a hP hD hS hl
                    have h8 := ai_min j41l4
                    have h9 := ai_max j41l4
                    exact absurd hm (by omega)
                  | succ n ih41 =>
                    intro j41l4 j41a0_0 j41a0_3_a H locs ls hm bj41l4_l bj41l4_u bj41a0_0_l bj41a0_0_u bj41a0_3_a hP hD hS hl
                    refine (hK0 _ _ _).mpr ?_
                    have hm41 := hm
                    refine lv_iload hx hb dX2_list_41 (lv_at hl 4 rfl) ?_
                    refine lv_aload_n hx hb dX2_list_43 rfl (lv_at hl 1 rfl) ?_
                    refine va_get (D := (dC, dI)) (ci := 0) (v := .int a1_0) (C := RX0) (T := TX0) (N := 15) hx hb hts zi_X2_list_0 hown hK hP 1 rfl rfl 0 (by decide) (hts (.fieldLink RX2 29 "WaxTurns$Hall" "figures" "I") (List.mem_cons_of_mem _ (List.mem_append_left _ (List.mem_append_left _ (List.mem_of_getElem? (i := 2) rfl))))) (fun _ h9 => h9) rfl dX2_list_44 ?_
                    refine lv_icmp_ge (tgt := 73) hx hb dX2_list_47 (by decide) (fun c47 => ?_) (fun c47 => ?_)
                    · have gc47 := ai_le c47
                      have u47t_a1_0 : a1_0.toInt ≤ (9 : Int) := ba1_0_u
                      have l47t_j41l4 : (1 : Int) ≤ j41l4.toInt := Int.le_trans l35f_a1_0 gc47
                      obtain ⟨x73, ex73⟩ : ∃ y : Int32, y = j30l3 + Int32.ofInt 1 := ⟨_, rfl⟩
                      have qx73 : x73.toInt = j30l3.toInt + 1 := ai_inc ex73 (by decide) (by decide) u35f_j30l3 (by decide)
                      have bx73 : (1 : Int) ≤ x73.toInt ∧ x73.toInt ≤ 9 := ⟨by rw [qx73]; exact Int.add_le_add bj30l3_l (Int.le_refl _), by rw [qx73]; exact Int.add_le_add u35f_j30l3 (Int.le_refl _)⟩
                      refine lv_iinc (v := x73) (lv' := [(3, .int x73), (0, .ref a0), (1, .ref a1), (2, .int j20l2), (4, .int j41l4)]) hx hb dX2_list_73 hl (k := 3) rfl ex73.symm (by decide) rfl (fun ls hl => ?_)
                      refine lv_goto (tgt := 30) hx hb dX2_list_76 (by decide) ?_
                      exact (hK0 _ _ _).mp (ih30 x73 j41a0_0 j41a0_3_a _ _ _ (by have h0 := qx73; omega) (Int.le_trans zq4 bx73.1) bx73.2 bj41a0_0_l bj41a0_0_u bj41a0_3_a hP hD hS (lv_sub hl [1, 2, 3, 0] rfl))
                    · have gc47 := ai_nle c47
                      have u47f_j41l4 : j41l4.toInt ≤ (8 : Int) := ai_lthi gc47 ba1_0_u
                      have l47f_a1_0 : (1 : Int) ≤ a1_0.toInt := l35f_a1_0
                      refine lv_aload_n hx hb dX2_list_50 rfl (lv_at hl 0 rfl) ?_
                      refine lv_aload_n hx hb dX2_list_51 rfl (lv_at hl 1 rfl) ?_
                      refine lv_bipush (v := 100) hx hb dX2_list_52 zk_bipush_100 ?_
                      refine lv_iload_n hx hb dX2_list_54 rfl (lv_at hl 2 rfl) ?_
                      refine lv_imul hx hb dX2_list_55 ?_
                      refine lv_topi (fun x55 ex55 => ?_)
                      have qx55 : x55.toInt = (100 : Int32).toInt * j20l2.toInt ∧ (0 : Int) ≤ x55.toInt ∧ x55.toInt ≤ 800 := ai_mul ex55 ⟨zq24, zq32⟩ ⟨bj20l2_l, u25f_j20l2⟩ (by decide) (by decide) zq33
                      have wx55 : x55.toInt = 100 * j20l2.toInt := qx55.1
                      refine lv_bipush (v := 10) hx hb dX2_list_56 zk_bipush_10 ?_
                      refine lv_iload_n hx hb dX2_list_58 rfl (lv_at hl 3 rfl) ?_
                      refine lv_imul hx hb dX2_list_59 ?_
                      refine lv_topi (fun x59 ex59 => ?_)
                      have qx59 : x59.toInt = (10 : Int32).toInt * j30l3.toInt ∧ (0 : Int) ≤ x59.toInt ∧ x59.toInt ≤ 80 := ai_mul ex59 ⟨zq26, zq27⟩ ⟨bj30l3_l, u35f_j30l3⟩ (by decide) (by decide) zq34
                      have wx59 : x59.toInt = 10 * j30l3.toInt := qx59.1
                      refine lv_iadd hx hb dX2_list_60 ?_
                      refine lv_topi (fun x60 ex60 => ?_)
                      have qx60 : x60.toInt = x55.toInt + x59.toInt := ai_add ex60 ⟨qx55.2.1, qx55.2.2⟩ ⟨qx59.2.1, qx59.2.2⟩ (by decide) (by decide)
                      have bx60 : (0 : Int) ≤ x60.toInt ∧ x60.toInt ≤ 880 := ⟨by rw [qx60]; exact Int.add_le_add qx55.2.1 qx59.2.1, by rw [qx60]; exact Int.add_le_add qx55.2.2 qx59.2.2⟩
                      refine lv_iload hx hb dX2_list_61 (lv_at hl 4 rfl) ?_
                      refine lv_iadd hx hb dX2_list_63 ?_
                      refine lv_topi (fun x63 ex63 => ?_)
                      have qx63 : x63.toInt = x60.toInt + j41l4.toInt := ai_add ex63 ⟨bx60.1, bx60.2⟩ ⟨bj41l4_l, u47f_j41l4⟩ (by decide) (by decide)
                      have bx63 : (0 : Int) ≤ x63.toInt ∧ x63.toInt ≤ 888 := ⟨by rw [qx63]; exact Int.add_le_add bx60.1 bj41l4_l, by rw [qx63]; exact Int.add_le_add bx60.2 u47f_j41l4⟩
                      have hKc := hK.sub (tys' := [(ka0_3, .int), (ka1_13, .int), (ka1_12, .int)]) [0, 1, 2] rfl
                      refine va_callv (va_runV (As := [.ref a1, .int x63]) (rest := []) ⟨hx, hb, hml, hown, hts⟩ (c_X2_addIfFit l dC dI H.size a0 a1 x63 j41a0_0 a0g_1 a0g_2 a0g_4 (.int 1) a0g_6 a0_3 a1_0 a1_1 a1g_2 a1g_3 a1g_4 a1g_5 a1g_6 a1g_7 a1g_8 a1g_10 a1g_11 a1g_14 a1_9 a1_12 a1_13 ka0_3 j41a0_3_a ka1_13 fa1_13 ka1_12 fa1_12 bx63.1 bx63.2 bj41a0_0_l bj41a0_0_u (Int.le_trans zq4 l47f_a1_0) ba1_0_u ba1_9_l ba1_9_u bj41a0_3_a bfa1_13 (by omega)) (cwV 2 hts gX2_list_X2_addIfFit rfl rfl rfl zd_X2_addIfFit ⟨Nat.le_of_ble_eq_true rfl, Nat.le_of_ble_eq_true rfl⟩) ⟨ax_blind (fun _ _ _ _ hq => va_Nw.same rfl rfl (hq)), zr_2 hKc (zp_P5 hP) (q0 := 0) rfl, ax_pre (zp_P5 hP) hKc (zp_D5 hD) (fun _ hW => va_Nw.warmM hW hE0)⟩ rfl rfl hl.1 rfl (lv_room (Nat.le_of_ble_eq_true rfl)) dX2_list_64 ⟨Nat.le_of_ble_eq_true rfl, Nat.le_of_ble_eq_true rfl⟩) hS (fun q _ h => zp_F5 hD hS hA q h) (zp_F5 hD hS hA) (fun u t H locs ht hvm hw hB hz1 hk1 hS1 => zx_2 hB (fun v64na0_0 v64nfa0_3 hB => zy_2 hB (fun bv64na0_0 bv64nfa0_3 hB => zo5 hB ht hP hD hk1 (zp_F5 hD hS hA) hS1 (fun hP hK1 hD hS => ?_))))
                      obtain ⟨x67, ex67⟩ : ∃ y : Int32, y = j41l4 + Int32.ofInt 1 := ⟨_, rfl⟩
                      have qx67 : x67.toInt = j41l4.toInt + 1 := ai_inc ex67 (by decide) (by decide) u47f_j41l4 (by decide)
                      have bx67 : (1 : Int) ≤ x67.toInt ∧ x67.toInt ≤ 9 := ⟨by rw [qx67]; exact Int.add_le_add bj41l4_l (Int.le_refl _), by rw [qx67]; exact Int.add_le_add u47f_j41l4 (Int.le_refl _)⟩
                      refine lv_iinc (v := x67) (lv' := [(4, .int x67), (0, .ref a0), (1, .ref a1), (2, .int j20l2), (3, .int j30l3)]) hx hb dX2_list_67 hl (k := 4) rfl ex67.symm (by decide) rfl (fun ls hl => ?_)
                      refine lv_goto (tgt := 41) hx hb dX2_list_70 (by decide) ?_
                      exact (hK0 _ _ _).mp (ih41 x67 v64na0_0 v64nfa0_3 _ _ _ (by have h0 := qx67; omega) (Int.le_trans zq4 bx67.1) bx67.2 bv64na0_0.1 bv64na0_0.2 bv64nfa0_3 hP hD hS (lv_sub hl [1, 2, 3, 4, 0] rfl))
                exact (hK0 _ _ _).mp (J41 10 0 j30a0_0 j30a0_3_a _ _ _ (by have h1 : (0 : Int) ≤ (0 : Int32).toInt := zq5; have h2 : (0 : Int32).toInt ≤ (0 : Int) := zq6; omega) zq5 (Int.le_trans zq6 zq7) bj30a0_0_l bj30a0_0_u bj30a0_3_a hP hD hS (lv_sub hl [1, 2, 3, 4, 0] rfl))
          exact (hK0 _ _ _).mp (J30 10 0 j20a0_0 j20a0_3_a _ _ _ (by have h1 : (0 : Int) ≤ (0 : Int32).toInt := zq5; have h2 : (0 : Int32).toInt ≤ (0 : Int) := zq6; omega) zq5 (Int.le_trans zq6 zq7) bj20a0_0_l bj20a0_0_u bj20a0_3_a hP hD hS (lv_sub hl [1, 2, 3, 0] rfl))
    exact (hK0 _ _ _).mp (J20 10 0 0 fa0_3 _ _ _ (by have h1 : (0 : Int) ≤ (0 : Int32).toInt := zq5; have h2 : (0 : Int32).toInt ≤ (0 : Int) := zq6; omega) zq5 (Int.le_trans zq6 zq7) zq5 (Int.le_trans zq6 zq35) bfa0_3 hP hD hS (lv_sub hl [1, 2, 0] rfl))
  · have gc4 := ai_ne c4
    have l4f_a0_5 : (1 : Int) ≤ a0_5.toInt := (by have h1 := ba0_5_l; have h2 : (0 : Int32).toInt = 0 := (by decide); rw [h2] at gc4; omega)
    exact W.vret hx hb hr (fun t ht hW => ⟨⟨(), rfl, trivial, a0_0, a0_5, fa0_3, ⟨ba0_0_l, ba0_0_u⟩, ⟨Int.le_trans (by decide) l4f_a0_5, ba0_5_u⟩, bfa0_3, by rw [ht]; exact hP, va_K.moved hW.alike hK, hD⟩, hS.F ht⟩) hS.2.2 dX2_list_7

set_option maxHeartbeats 4000000 in
set_option maxRecDepth 100000 in
theorem c_X2_mostOf (l : Launch) (dC : Nat → ClassId) (dI : Nat → Nat → Nat) (sz : Nat) (a0 : Nat) (a1 : Int32) (a0g_0 a0g_1 a0g_2 a0g_3 a0g_5 a0g_6 : Value) (a0_4 : Nat) (ka0_4 : ClassId) (fa0_4 : Nat → Int32) (ba1_l : (0 : Int) ≤ a1.toInt) (ba1_u : a1.toInt ≤ (99 : Int)) : zm l yX2_mostOf wsX2_mostOf ({ frames := 1, cells := 0, slots := 0, locals := 24 }) [.ref a0, .int a1] dC dI sz [(a0, .inr (2, [a0g_0, a0g_1, a0g_2, a0g_3, .ref a0_4, a0g_5, a0g_6])), (a0_4, .inl (ka0_4, 900, .inl (fa0_4)))] [(ka0_4, .int)] (fun A _ => True) (fun A => va_Qi (fun (r : Int32) (_ : Unit) => True) (fun (_ : Unit) (t : State) => ax_B dC dI A [(a0, .inr (2, [a0g_0, a0g_1, a0g_2, a0g_3, .ref a0_4, a0g_5, a0g_6])), (a0_4, .inl (ka0_4, 900, .inl (fa0_4)))] [(ka0_4, .int)] t) A) := by
  refine zh (cc := cX2_mostOf) (maxL := 4) (ret := (some .int)) zn_RX2 rfl (Nat.le_of_ble_eq_true rfl) (fun p e s m below meth c A ls hx hb hml hr hts (hown : s.vm.findClass RX2 = some m.cls) hlocks hA hS hP hK hD hE (hl : lv_has ls 4 [(0, .ref a0), (1, .int a1)]) => ?_)
  refine ai_open (fun K hK0 => ?_)
  refine (hK0 _ _ _).mpr ?_
  refine lv_iconst (v := 0) hx hb dX2_mostOf_0 zk_iconst_0 ?_
  refine lv_istore_n (lv' := [(2, .int 0), (0, .ref a0), (1, .int a1)]) hx hb dX2_mostOf_1 rfl hl (by decide) rfl (fun ls hl => ?_)
  refine lv_iconst (v := 0) hx hb dX2_mostOf_2 zk_iconst_0 ?_
  refine lv_istore_n (lv' := [(3, .int 0), (2, .int 0), (0, .ref a0), (1, .int a1)]) hx hb dX2_mostOf_3 rfl hl (by decide) rfl (fun ls hl => ?_)
  have J4 : ∀ (n : Nat) (j4l3 : Int32) (j4l2 : Int32) (H : Heap) (locs : List Loc) (ls : Array Slot), (10 : Int) - j4l3.toInt ≤ (n : Int) → (0 : Int) ≤ j4l3.toInt → j4l3.toInt ≤ (9 : Int) → va_P (dC, dI) vwCl [(a0, .inr (2, [a0g_0, a0g_1, a0g_2, a0g_3, .ref a0_4, a0g_5, a0g_6])), (a0_4, .inl (ka0_4, 900, .inl (fa0_4)))] H → va_D A [(a0, .inr (2, [a0g_0, a0g_1, a0g_2, a0g_3, .ref a0_4, a0g_5, a0g_6])), (a0_4, .inl (ka0_4, 900, .inl (fa0_4)))] → va_S A s.heap H locs → lv_has ls 4 [(0, .ref a0), (1, .int a1), (2, .int j4l2), (3, .int j4l3)] → K H locs (F0 m 4 ls []) := by
    intro n
    induction n with
    | zero =>
      intro j4l3 j4l2 H locs ls hm bj4l3_l bj4l3_u hP hD hS hl
      have h8 := ai_min j4l3
      have h9 := ai_max j4l3
      exact absurd hm (by omega)
    | succ n ih4 =>
      intro j4l3 j4l2 H locs ls hm bj4l3_l bj4l3_u hP hD hS hl
      refine (hK0 _ _ _).mpr ?_
      have hm4 := hm
      refine lv_iload_n hx hb dX2_mostOf_4 rfl (lv_at hl 3 rfl) ?_
      refine lv_bipush (v := 9) hx hb dX2_mostOf_5 zk_bipush_9 ?_
      refine lv_icmp_ge (tgt := 32) hx hb dX2_mostOf_7 (by decide) (fun c7 => ?_) (fun c7 => ?_)
      · have gc7 := ai_le c7
        have l7t_j4l3 : (9 : Int) ≤ j4l3.toInt := Int.le_trans zq2 gc7
        refine lv_iload_n hx hb dX2_mostOf_32 rfl (lv_at hl 2 rfl) ?_
        exact W.iret (v := j4l2) hx hb hr (fun t ht hW => ⟨⟨j4l2, (), rfl, trivial, by rw [ht]; exact hP, va_K.moved hW.alike hK, hD⟩, hS.F ht⟩) hS.2.2 dX2_mostOf_33
      · have gc7 := ai_nle c7
        have u7f_j4l3 : j4l3.toInt ≤ (8 : Int) := ai_lthi gc7 zq3
        refine lv_iload_n hx hb dX2_mostOf_10 rfl (lv_at hl 2 rfl) ?_
        refine lv_aload_n hx hb dX2_mostOf_11 rfl (lv_at hl 0 rfl) ?_
        refine va_get (D := (dC, dI)) (ci := 2) (v := .ref a0_4) (C := RX2) (T := TX2) (N := 7) hx hb hts zi_X2_mostOf_2 hown hK hP 0 rfl rfl 4 (by decide) (hts (.fieldLink RX2 15 "WaxTurns$Laws" "tallies" "[I") (List.mem_cons_of_mem _ (List.mem_append_left _ (List.mem_of_getElem? (i := 0) rfl)))) (fun _ h9 => h9) rfl dX2_mostOf_12 ?_
        refine lv_iload_n hx hb dX2_mostOf_15 rfl (lv_at hl 1 rfl) ?_
        refine lv_bipush (v := 9) hx hb dX2_mostOf_16 zk_bipush_9 ?_
        refine lv_imul hx hb dX2_mostOf_18 ?_
        refine lv_topi (fun x18 ex18 => ?_)
        have qx18 : x18.toInt = a1.toInt * (9 : Int32).toInt ∧ (0 : Int) ≤ x18.toInt ∧ x18.toInt ≤ 891 := ai_mul ex18 ⟨ba1_l, ba1_u⟩ ⟨zq2, zq3⟩ (by decide) (by decide) zq36
        have wx18 : x18.toInt = a1.toInt * 9 := qx18.1
        refine lv_iload_n hx hb dX2_mostOf_19 rfl (lv_at hl 3 rfl) ?_
        refine lv_iadd hx hb dX2_mostOf_20 ?_
        refine lv_topi (fun x20 ex20 => ?_)
        have qx20 : x20.toInt = x18.toInt + j4l3.toInt := ai_add ex20 ⟨qx18.2.1, qx18.2.2⟩ ⟨bj4l3_l, u7f_j4l3⟩ (by decide) (by decide)
        have bx20 : (0 : Int) ≤ x20.toInt ∧ x20.toInt ≤ 899 := ⟨by rw [qx20]; exact Int.add_le_add qx18.2.1 bj4l3_l, by rw [qx20]; exact Int.add_le_add qx18.2.2 u7f_j4l3⟩
        refine va_iald hx hb hK hP 1 0 rfl rfl (ai_in bx20.1 bx20.2 (by decide) (by decide)) dX2_mostOf_21 ?_
        refine lv_topi (fun x21 ex21 => ?_)
        refine va_mmax hx hb (by rw [hml]; exact hl.1.symm) hown (hts (.methodLink RX2 72 Lib.Math.max.name) (List.mem_cons_of_mem _ (List.mem_append_left _ (List.mem_of_getElem? (i := 1) rfl)))) (hts (.static Lib.Math.max.name) (List.mem_cons_of_mem _ (List.mem_append_left _ (List.mem_of_getElem? (i := 2) rfl)))) (hts (.initialized "java/lang/Math") (List.mem_cons_of_mem _ (List.mem_append_left _ (List.mem_of_getElem? (i := 3) rfl)))) (hts _ mxX2_mostOf) (Nat.le_of_ble_eq_true rfl) (Nat.le_of_ble_eq_true rfl) (Nat.le_of_ble_eq_true rfl) (Nat.le_of_ble_eq_true rfl) dX2_mostOf_22 ?_
        refine lv_topi (fun x22 ex22 => ?_)
        refine lv_istore_n (lv' := [(2, .int x22), (0, .ref a0), (1, .int a1), (3, .int j4l3)]) hx hb dX2_mostOf_25 rfl hl (by decide) rfl (fun ls hl => ?_)
        obtain ⟨x26, ex26⟩ : ∃ y : Int32, y = j4l3 + Int32.ofInt 1 := ⟨_, rfl⟩
        have qx26 : x26.toInt = j4l3.toInt + 1 := ai_inc ex26 (by decide) (by decide) u7f_j4l3 (by decide)
        have bx26 : (1 : Int) ≤ x26.toInt ∧ x26.toInt ≤ 9 := ⟨by rw [qx26]; exact Int.add_le_add bj4l3_l (Int.le_refl _), by rw [qx26]; exact Int.add_le_add u7f_j4l3 (Int.le_refl _)⟩
        refine lv_iinc (v := x26) (lv' := [(3, .int x26), (2, .int x22), (0, .ref a0), (1, .int a1)]) hx hb dX2_mostOf_26 hl (k := 3) rfl ex26.symm (by decide) rfl (fun ls hl => ?_)
        refine lv_goto (tgt := 4) hx hb dX2_mostOf_29 (by decide) ?_
        exact (hK0 _ _ _).mp (ih4 x26 x22 _ _ _ (by have h0 := qx26; omega) (Int.le_trans zq4 bx26.1) bx26.2 hP hD hS (lv_sub hl [2, 3, 1, 0] rfl))
  exact (hK0 _ _ _).mp (J4 10 0 0 _ _ _ (by have h1 : (0 : Int) ≤ (0 : Int32).toInt := zq5; have h2 : (0 : Int32).toInt ≤ (0 : Int) := zq6; omega) zq5 (Int.le_trans zq6 zq7) hP hD hS (lv_sub hl [2, 3, 1, 0] rfl))

set_option maxHeartbeats 4000000 in
set_option maxRecDepth 100000 in
theorem c_X2_tally (l : Launch) (dC : Nat → ClassId) (dI : Nat → Nat → Nat) (sz : Nat) (a0 : Nat) (a1 : Int32) (a2 : Int32) (a0_0 : Int32) (a0g_1 a0g_2 a0g_5 a0g_6 : Value) (a0_3 : Nat) (a0_4 : Nat) (ka0_4 : ClassId) (fa0_4 : Nat → Int32) (ka0_3 : ClassId) (fa0_3 : Nat → Int32) (ba1_l : (0 : Int) ≤ a1.toInt) (ba1_u : a1.toInt ≤ (9 : Int)) (ba0_0_l : (0 : Int) ≤ a0_0.toInt) (ba0_0_u : a0_0.toInt ≤ (729 : Int)) (bfa0_3 : (∀ k, (0 : Int) ≤ (fa0_3 k).toInt ∧ (fa0_3 k).toInt ≤ 888 ∧ (fa0_3 k).toInt % 10 ≤ 8)) : zm l yX2_tally wsX2_tally ({ frames := 0, cells := 0, slots := 0, locals := 0 }) [.ref a0, .int a1, .int a2] dC dI sz [(a0, .inr (2, [.int a0_0, a0g_1, a0g_2, .ref a0_3, .ref a0_4, a0g_5, a0g_6])), (a0_4, .inl (ka0_4, 900, .inl (fa0_4))), (a0_3, .inl (ka0_3, 729, .inl (fa0_3)))] [(ka0_4, .int), (ka0_3, .int)] (fun A _ => True) (fun A => va_Qv (fun (_ : Unit) => True) (fun (_ : Unit) (t : State) => ∃ nfa0_4 : Nat → Int32, ax_B dC dI A [(a0, .inr (2, [.int a0_0, a0g_1, a0g_2, .ref a0_3, .ref a0_4, a0g_5, a0g_6])), (a0_4, .inl (ka0_4, 900, .inl (nfa0_4))), (a0_3, .inl (ka0_3, 729, .inl (fa0_3)))] [(ka0_4, .int), (ka0_3, .int)] t) A) := by
  refine zh (cc := cX2_tally) (maxL := 8) (ret := none) zn_RX2 rfl (Nat.le_of_ble_eq_true rfl) (fun p e s m below meth c A ls hx hb hml hr hts (hown : s.vm.findClass RX2 = some m.cls) hlocks hA hS hP hK hD hE (hl : lv_has ls 8 [(0, .ref a0), (1, .int a1), (2, .int a2)]) => ?_)
  refine ai_open (fun K hK0 => ?_)
  refine (hK0 _ _ _).mpr ?_
  refine lv_iconst (v := 0) hx hb dX2_tally_0 zk_iconst_0 ?_
  refine lv_istore_n (lv' := [(3, .int 0), (0, .ref a0), (1, .int a1), (2, .int a2)]) hx hb dX2_tally_1 rfl hl (by decide) rfl (fun ls hl => ?_)
  have J2 : ∀ (n : Nat) (j2l3 : Int32) (j2a0_4_a : Nat → Int32) (H : Heap) (locs : List Loc) (ls : Array Slot), (901 : Int) - j2l3.toInt ≤ (n : Int) → (0 : Int) ≤ j2l3.toInt → j2l3.toInt ≤ (900 : Int) → va_P (dC, dI) vwCl [(a0, .inr (2, [.int a0_0, a0g_1, a0g_2, .ref a0_3, .ref a0_4, a0g_5, a0g_6])), (a0_4, .inl (ka0_4, 900, .inl (j2a0_4_a))), (a0_3, .inl (ka0_3, 729, .inl (fa0_3)))] H → va_D A [(a0, .inr (2, [.int a0_0, a0g_1, a0g_2, .ref a0_3, .ref a0_4, a0g_5, a0g_6])), (a0_4, .inl (ka0_4, 900, .inl (j2a0_4_a))), (a0_3, .inl (ka0_3, 729, .inl (fa0_3)))] → va_S A s.heap H locs → lv_has ls 8 [(0, .ref a0), (1, .int a1), (2, .int a2), (3, .int j2l3)] → K H locs (F0 m 2 ls []) := by
    intro n
    induction n with
    | zero =>
      intro j2l3 j2a0_4_a H locs ls hm bj2l3_l bj2l3_u hP hD hS hl
      have h8 := ai_min j2l3
      have h9 := ai_max j2l3
      exact absurd hm (by omega)
    | succ n ih2 =>
      intro j2l3 j2a0_4_a H locs ls hm bj2l3_l bj2l3_u hP hD hS hl
      refine (hK0 _ _ _).mpr ?_
      have hm2 := hm
      refine lv_iload_n hx hb dX2_tally_2 rfl (lv_at hl 3 rfl) ?_
      refine lv_aload_n hx hb dX2_tally_3 rfl (lv_at hl 0 rfl) ?_
      refine va_get (D := (dC, dI)) (ci := 2) (v := .ref a0_4) (C := RX2) (T := TX2) (N := 7) hx hb hts zi_X2_tally_2 hown hK hP 0 rfl rfl 4 (by decide) (hts (.fieldLink RX2 15 "WaxTurns$Laws" "tallies" "[I") (List.mem_cons_of_mem _ (List.mem_append_left _ (List.mem_of_getElem? (i := 0) rfl)))) (fun _ h9 => h9) rfl dX2_tally_4 ?_
      refine va_alen hx hb hK hP 1 0 rfl rfl (v := 900) rfl dX2_tally_7 ?_
      refine lv_icmp_ge (tgt := 24) hx hb dX2_tally_8 (by decide) (fun c8 => ?_) (fun c8 => ?_)
      · have gc8 := ai_le c8
        have l8t_j2l3 : (900 : Int) ≤ j2l3.toInt := Int.le_trans zq37 gc8
        refine lv_iload_n hx hb dX2_tally_24 rfl (lv_at hl 1 rfl) ?_
        refine lv_if_le (tgt := 34) hx hb dX2_tally_25 (by decide) (fun c25 => ?_) (fun c25 => ?_)
        · have gc25 := ai_le c25
          have u25t_a1 : a1.toInt ≤ (0 : Int) := Int.le_trans gc25 zq6
          exact W.vret hx hb hr (fun t ht hW => ⟨⟨(), rfl, trivial, j2a0_4_a, by rw [ht]; exact hP, va_K.moved hW.alike hK, hD⟩, hS.F ht⟩) hS.2.2 dX2_tally_34
        · have gc25 := ai_nle c25
          have l25f_a1 : (1 : Int) ≤ a1.toInt := ai_ltlo gc25 zq5
          refine lv_iload_n hx hb dX2_tally_28 rfl (lv_at hl 2 rfl) ?_
          refine lv_bipush (v := 100) hx hb dX2_tally_29 zk_bipush_100 ?_
          refine lv_icmp_le (tgt := 35) hx hb dX2_tally_31 (by decide) (fun c31 => ?_) (fun c31 => ?_)
          · have gc31 := ai_le c31
            have u31t_a2 : a2.toInt ≤ (100 : Int) := Int.le_trans gc31 zq32
            refine lv_iconst (v := 0) hx hb dX2_tally_35 zk_iconst_0 ?_
            refine lv_istore_n (lv' := [(3, .int 0), (0, .ref a0), (1, .int a1), (2, .int a2)]) hx hb dX2_tally_36 rfl hl (by decide) rfl (fun ls hl => ?_)
            have J37 : ∀ (n : Nat) (j37l3 : Int32) (j37a0_4_a : Nat → Int32) (H : Heap) (locs : List Loc) (ls : Array Slot), (730 : Int) - j37l3.toInt ≤ (n : Int) → (0 : Int) ≤ j37l3.toInt → j37l3.toInt ≤ (729 : Int) → va_P (dC, dI) vwCl [(a0, .inr (2, [.int a0_0, a0g_1, a0g_2, .ref a0_3, .ref a0_4, a0g_5, a0g_6])), (a0_4, .inl (ka0_4, 900, .inl (j37a0_4_a))), (a0_3, .inl (ka0_3, 729, .inl (fa0_3)))] H → va_D A [(a0, .inr (2, [.int a0_0, a0g_1, a0g_2, .ref a0_3, .ref a0_4, a0g_5, a0g_6])), (a0_4, .inl (ka0_4, 900, .inl (j37a0_4_a))), (a0_3, .inl (ka0_3, 729, .inl (fa0_3)))] → va_S A s.heap H locs → lv_has ls 8 [(0, .ref a0), (1, .int a1), (2, .int a2), (3, .int j37l3)] → K H locs (F0 m 37 ls []) := by
              intro n
              induction n with
              | zero =>
                intro j37l3 j37a0_4_a H locs ls hm bj37l3_l bj37l3_u hP hD hS hl
                have h8 := ai_min j37l3
                have h9 := ai_max j37l3
                exact absurd hm (by omega)
              | succ n ih37 =>
                intro j37l3 j37a0_4_a H locs ls hm bj37l3_l bj37l3_u hP hD hS hl
                refine (hK0 _ _ _).mpr ?_
                have hm37 := hm
                refine lv_iload_n hx hb dX2_tally_37 rfl (lv_at hl 3 rfl) ?_
                refine lv_aload_n hx hb dX2_tally_38 rfl (lv_at hl 0 rfl) ?_
                refine va_get (D := (dC, dI)) (ci := 2) (v := .int a0_0) (C := RX2) (T := TX2) (N := 7) hx hb hts zi_X2_tally_2 hown hK hP 0 rfl rfl 0 (by decide) (hts (.fieldLink RX2 25 "WaxTurns$Laws" "fitCount" "I") (List.mem_cons_of_mem _ (List.mem_append_left _ (List.mem_of_getElem? (i := 1) rfl)))) (fun _ h9 => h9) rfl dX2_tally_39 ?_
                refine lv_icmp_ge (tgt := 131) hx hb dX2_tally_42 (by decide) (fun c42 => ?_) (fun c42 => ?_)
                · have gc42 := ai_le c42
                  have u42t_a0_0 : a0_0.toInt ≤ (729 : Int) := ba0_0_u
                  have l42t_j37l3 : (0 : Int) ≤ j37l3.toInt := bj37l3_l
                  exact W.vret hx hb hr (fun t ht hW => ⟨⟨(), rfl, trivial, j37a0_4_a, by rw [ht]; exact hP, va_K.moved hW.alike hK, hD⟩, hS.F ht⟩) hS.2.2 dX2_tally_131
                · have gc42 := ai_nle c42
                  have u42f_j37l3 : j37l3.toInt ≤ (728 : Int) := ai_lthi gc42 ba0_0_u
                  have l42f_a0_0 : (1 : Int) ≤ a0_0.toInt := ai_ltlo gc42 bj37l3_l
                  refine lv_aload_n hx hb dX2_tally_45 rfl (lv_at hl 0 rfl) ?_
                  refine va_get (D := (dC, dI)) (ci := 2) (v := .ref a0_3) (C := RX2) (T := TX2) (N := 7) hx hb hts zi_X2_tally_2 hown hK hP 0 rfl rfl 3 (by decide) (hts (.fieldLink RX2 9 "WaxTurns$Laws" "fitting" "[I") (List.mem_cons_of_mem _ (List.mem_append_left _ (List.mem_of_getElem? (i := 2) rfl)))) (fun _ h9 => h9) rfl dX2_tally_46 ?_
                  refine lv_iload_n hx hb dX2_tally_49 rfl (lv_at hl 3 rfl) ?_
                  refine va_iald hx hb hK hP 2 1 rfl rfl (ai_in bj37l3_l u42f_j37l3 (by decide) (by decide)) dX2_tally_50 ?_
                  refine lv_topi (fun x50 ex50 => ?_)
                  have bx50 : (0 : Int) ≤ x50.toInt ∧ x50.toInt ≤ 888 ∧ x50.toInt % 10 ≤ 8 := by rw [ex50]; exact bfa0_3 _
                  refine lv_bipush (v := 100) hx hb dX2_tally_51 zk_bipush_100 ?_
                  refine lv_idiv hx hb dX2_tally_53 (by decide +kernel) ?_
                  refine lv_topi (fun x53 ex53 => ?_)
                  have qx53 := ai_div ex53 ⟨bx50.1, bx50.2.1⟩ (Int.lt_of_lt_of_le zq23 zq24)
                  have u53z_x53 : x53.toInt ≤ (8 : Int) := (by have h1 := qx53.1; have h2 := bx50.2.1; have h3 : (100 : Int32).toInt = 100 := (by decide); rw [h3] at h1; omega)
                  refine lv_istore (lv' := [(4, .int x53), (0, .ref a0), (1, .int a1), (2, .int a2), (3, .int j37l3)]) hx hb dX2_tally_54 hl (by decide) rfl (fun ls hl => ?_)
                  refine lv_aload_n hx hb dX2_tally_56 rfl (lv_at hl 1 rfl) ?_
                  refine va_get (D := (dC, dI)) (ci := 2) (v := .ref a0_3) (C := RX2) (T := TX2) (N := 7) hx hb hts zi_X2_tally_2 hown hK hP 0 rfl rfl 3 (by decide) (hts (.fieldLink RX2 9 "WaxTurns$Laws" "fitting" "[I") (List.mem_cons_of_mem _ (List.mem_append_left _ (List.mem_of_getElem? (i := 2) rfl)))) (fun _ h9 => h9) rfl dX2_tally_57 ?_
                  refine lv_iload_n hx hb dX2_tally_60 rfl (lv_at hl 4 rfl) ?_
                  refine va_iald hx hb hK hP 2 1 rfl rfl (ai_in bj37l3_l u42f_j37l3 (by decide) (by decide)) dX2_tally_61 ?_
                  refine ax_ti x50 ex50.symm ?_
                  refine lv_bipush (v := 10) hx hb dX2_tally_62 zk_bipush_10 ?_
                  refine lv_idiv hx hb dX2_tally_64 (by decide +kernel) ?_
                  refine lv_topi (fun x64 ex64 => ?_)
                  have qx64 := ai_div ex64 ⟨bx50.1, bx50.2.1⟩ (Int.lt_of_lt_of_le zq25 zq26)
                  have u64z_x64 : x64.toInt ≤ (88 : Int) := (by have h1 := qx64.1; have h2 := bx50.2.1; have h3 : (10 : Int32).toInt = 10 := (by decide); rw [h3] at h1; omega)
                  refine lv_bipush (v := 10) hx hb dX2_tally_65 zk_bipush_10 ?_
                  refine lv_irem hx hb dX2_tally_67 (by decide +kernel) ?_
                  refine lv_topi (fun x67 ex67 => ?_)
                  have qx67 := ai_rem2 ex67 qx64.2.1 (Int.lt_of_lt_of_le zq25 zq26) zq27
                  have wx67 : x67.toInt = x64.toInt % 10 := qx67.1
                  refine lv_istore (lv' := [(5, .int x67), (4, .int x53), (0, .ref a0), (1, .int a1), (2, .int a2), (3, .int j37l3)]) hx hb dX2_tally_68 hl (by decide) rfl (fun ls hl => ?_)
                  refine lv_aload_n hx hb dX2_tally_70 rfl (lv_at hl 2 rfl) ?_
                  refine va_get (D := (dC, dI)) (ci := 2) (v := .ref a0_3) (C := RX2) (T := TX2) (N := 7) hx hb hts zi_X2_tally_2 hown hK hP 0 rfl rfl 3 (by decide) (hts (.fieldLink RX2 9 "WaxTurns$Laws" "fitting" "[I") (List.mem_cons_of_mem _ (List.mem_append_left _ (List.mem_of_getElem? (i := 2) rfl)))) (fun _ h9 => h9) rfl dX2_tally_71 ?_
                  refine lv_iload_n hx hb dX2_tally_74 rfl (lv_at hl 5 rfl) ?_
                  refine va_iald hx hb hK hP 2 1 rfl rfl (ai_in bj37l3_l u42f_j37l3 (by decide) (by decide)) dX2_tally_75 ?_
                  refine ax_ti x50 ex50.symm ?_
                  refine lv_bipush (v := 10) hx hb dX2_tally_76 zk_bipush_10 ?_
                  refine lv_irem hx hb dX2_tally_78 (by decide +kernel) ?_
                  refine lv_topi (fun x78 ex78 => ?_)
                  have qx78 := ai_rem2 ex78 bx50.1 (Int.lt_of_lt_of_le zq25 zq26) zq27
                  have wx78 : x78.toInt = x50.toInt % 10 := qx78.1
                  have u78z_x78 : x78.toInt ≤ (8 : Int) := by rw [wx78]; exact bx50.2.2
                  refine lv_istore (lv' := [(6, .int x78), (5, .int x67), (4, .int x53), (0, .ref a0), (1, .int a1), (2, .int a2), (3, .int j37l3)]) hx hb dX2_tally_79 hl (by decide) rfl (fun ls hl => ?_)
                  refine lv_iconst (v := 0) hx hb dX2_tally_81 zk_iconst_0 ?_
                  refine lv_istore (lv' := [(7, .int 0), (6, .int x78), (5, .int x67), (4, .int x53), (0, .ref a0), (1, .int a1), (2, .int a2), (3, .int j37l3)]) hx hb dX2_tally_82 hl (by decide) rfl (fun ls hl => ?_)
                  have J84 : ∀ (n : Nat) (j84l7 : Int32) (j84l6 : Int32) (j84a0_4_a : Nat → Int32) (H : Heap) (locs : List Loc) (ls : Array Slot), (101 : Int) - j84l7.toInt ≤ (n : Int) → (0 : Int) ≤ j84l7.toInt → j84l7.toInt ≤ (100 : Int) → (0 : Int) ≤ j84l6.toInt → j84l6.toInt ≤ (8 : Int) → va_P (dC, dI) vwCl [(a0, .inr (2, [.int a0_0, a0g_1, a0g_2, .ref a0_3, .ref a0_4, a0g_5, a0g_6])), (a0_4, .inl (ka0_4, 900, .inl (j84a0_4_a))), (a0_3, .inl (ka0_3, 729, .inl (fa0_3)))] H → va_D A [(a0, .inr (2, [.int a0_0, a0g_1, a0g_2, .ref a0_3, .ref a0_4, a0g_5, a0g_6])), (a0_4, .inl (ka0_4, 900, .inl (j84a0_4_a))), (a0_3, .inl (ka0_3, 729, .inl (fa0_3)))] → va_S A s.heap H locs → lv_has ls 8 [(0, .ref a0), (1, .int a1), (2, .int a2), (3, .int j37l3), (4, .int x53), (5, .int x67), (6, .int j84l6), (7, .int j84l7)] → K H locs (F0 m 84 ls []) := by
                    intro n
                    induction n with
                    | zero =>
                      intro j84l7 j84l6 j84a0_4_a H locs ls hm bj84l7_l bj84l7_u bj84l6_l bj84l6_u hP hD hS hl
                      have h8 := ai_min j84l7
                      have h9 := ai_max j84l7
                      exact absurd hm (by omega)
                    | succ n ih84 =>
                      intro j84l7 j84l6 j84a0_4_a H locs ls hm bj84l7_l bj84l7_u bj84l6_l bj84l6_u hP hD hS hl
                      refine (hK0 _ _ _).mpr ?_
                      have hm84 := hm
                      refine lv_iload hx hb dX2_tally_84 (lv_at hl 7 rfl) ?_
                      refine lv_iload_n hx hb dX2_tally_86 rfl (lv_at hl 2 rfl) ?_
                      refine lv_icmp_ge (tgt := 125) hx hb dX2_tally_87 (by decide) (fun c87 => ?_) (fun c87 => ?_)
                      · have gc87 := ai_le c87
                        have u87t_a2 : a2.toInt ≤ (100 : Int) := u31t_a2
                        obtain ⟨x125, ex125⟩ : ∃ y : Int32, y = j37l3 + Int32.ofInt 1 := ⟨_, rfl⟩
                        have qx125 : x125.toInt = j37l3.toInt + 1 := ai_inc ex125 (by decide) (by decide) u42f_j37l3 (by decide)
                        have bx125 : (1 : Int) ≤ x125.toInt ∧ x125.toInt ≤ 729 := ⟨by rw [qx125]; exact Int.add_le_add bj37l3_l (Int.le_refl _), by rw [qx125]; exact Int.add_le_add u42f_j37l3 (Int.le_refl _)⟩
                        refine lv_iinc (v := x125) (lv' := [(3, .int x125), (0, .ref a0), (1, .int a1), (2, .int a2), (4, .int x53), (5, .int x67), (6, .int j84l6), (7, .int j84l7)]) hx hb dX2_tally_125 hl (k := 3) rfl ex125.symm (by decide) rfl (fun ls hl => ?_)
                        refine lv_goto (tgt := 37) hx hb dX2_tally_128 (by decide) ?_
                        exact (hK0 _ _ _).mp (ih37 x125 j84a0_4_a _ _ _ (by have h0 := qx125; omega) (Int.le_trans zq4 bx125.1) bx125.2 hP hD hS (lv_sub hl [1, 2, 3, 0] rfl))
                      · have gc87 := ai_nle c87
                        have u87f_j84l7 : j84l7.toInt ≤ (99 : Int) := ai_lthi gc87 u31t_a2
                        have l87f_a2 : (1 : Int) ≤ a2.toInt := ai_ltlo gc87 bj84l7_l
                        refine lv_aload_n hx hb dX2_tally_90 rfl (lv_at hl 0 rfl) ?_
                        refine va_get (D := (dC, dI)) (ci := 2) (v := .ref a0_4) (C := RX2) (T := TX2) (N := 7) hx hb hts zi_X2_tally_2 hown hK hP 0 rfl rfl 4 (by decide) (hts (.fieldLink RX2 15 "WaxTurns$Laws" "tallies" "[I") (List.mem_cons_of_mem _ (List.mem_append_left _ (List.mem_of_getElem? (i := 0) rfl)))) (fun _ h9 => h9) rfl dX2_tally_91 ?_
                        refine lv_iload hx hb dX2_tally_94 (lv_at hl 7 rfl) ?_
                        refine lv_bipush (v := 9) hx hb dX2_tally_96 zk_bipush_9 ?_
                        refine lv_imul hx hb dX2_tally_98 ?_
                        refine lv_topi (fun x98 ex98 => ?_)
                        have qx98 : x98.toInt = j84l7.toInt * (9 : Int32).toInt ∧ (0 : Int) ≤ x98.toInt ∧ x98.toInt ≤ 891 := ai_mul ex98 ⟨bj84l7_l, u87f_j84l7⟩ ⟨zq2, zq3⟩ (by decide) (by decide) zq36
                        have wx98 : x98.toInt = j84l7.toInt * 9 := qx98.1
                        refine lv_iload hx hb dX2_tally_99 (lv_at hl 6 rfl) ?_
                        refine lv_iadd hx hb dX2_tally_101 ?_
                        refine lv_topi (fun x101 ex101 => ?_)
                        have qx101 : x101.toInt = x98.toInt + j84l6.toInt := ai_add ex101 ⟨qx98.2.1, qx98.2.2⟩ ⟨bj84l6_l, bj84l6_u⟩ (by decide) (by decide)
                        have bx101 : (0 : Int) ≤ x101.toInt ∧ x101.toInt ≤ 899 := ⟨by rw [qx101]; exact Int.add_le_add qx98.2.1 bj84l6_l, by rw [qx101]; exact Int.add_le_add qx98.2.2 bj84l6_u⟩
                        refine lv_dup2_11 hx hb dX2_tally_102 rfl rfl ?_
                        refine va_iald hx hb hK hP 1 0 rfl rfl (ai_in bx101.1 bx101.2 (by decide) (by decide)) dX2_tally_103 ?_
                        refine lv_topi (fun x103 ex103 => ?_)
                        refine lv_iconst (v := 1) hx hb dX2_tally_104 zk_iconst_1 ?_
                        refine lv_iadd hx hb dX2_tally_105 ?_
                        refine lv_topi (fun x105 ex105 => ?_)
                        refine va_iast hx hb hK hP hD hS 1 0 rfl rfl (ai_in bx101.1 bx101.2 (by decide) (by decide)) dX2_tally_106 (fun H locs hP hD hS => ?_)
                        obtain ⟨f106, hP, hD⟩ : ∃ f106 : Nat → Int32, va_P (dC, dI) vwCl [(a0, .inr (2, [.int a0_0, a0g_1, a0g_2, .ref a0_3, .ref a0_4, a0g_5, a0g_6])), (a0_4, .inl (ka0_4, 900, .inl (f106))), (a0_3, .inl (ka0_3, 729, .inl (fa0_3)))] H ∧ va_D A [(a0, .inr (2, [.int a0_0, a0g_1, a0g_2, .ref a0_3, .ref a0_4, a0g_5, a0g_6])), (a0_4, .inl (ka0_4, 900, .inl (f106))), (a0_3, .inl (ka0_3, 729, .inl (fa0_3)))] := ⟨_, hP, hD⟩
                        refine lv_iload hx hb dX2_tally_107 (lv_at hl 6 rfl) ?_
                        refine lv_iload hx hb dX2_tally_109 (lv_at hl 4 rfl) ?_
                        refine lv_imul hx hb dX2_tally_111 ?_
                        refine lv_topi (fun x111 ex111 => ?_)
                        have qx111 : x111.toInt = j84l6.toInt * x53.toInt ∧ (0 : Int) ≤ x111.toInt ∧ x111.toInt ≤ 64 := ai_mul ex111 ⟨bj84l6_l, bj84l6_u⟩ ⟨qx53.2.1, u53z_x53⟩ (by decide) (by decide) zq18
                        refine lv_iload hx hb dX2_tally_112 (lv_at hl 5 rfl) ?_
                        refine lv_iadd hx hb dX2_tally_114 ?_
                        refine lv_topi (fun x114 ex114 => ?_)
                        have qx114 : x114.toInt = x111.toInt + x67.toInt := ai_add ex114 ⟨qx111.2.1, qx111.2.2⟩ ⟨qx67.2.1, qx67.2.2⟩ (by decide) (by decide)
                        have bx114 : (0 : Int) ≤ x114.toInt ∧ x114.toInt ≤ 73 := ⟨by rw [qx114]; exact Int.add_le_add qx111.2.1 qx67.2.1, by rw [qx114]; exact Int.add_le_add qx111.2.2 qx67.2.2⟩
                        refine lv_iload_n hx hb dX2_tally_115 rfl (lv_at hl 1 rfl) ?_
                        refine lv_irem hx hb dX2_tally_116 (ai_nz l25f_a1 (by decide)) ?_
                        refine lv_topi (fun x116 ex116 => ?_)
                        have qx116 := ai_rem2 ex116 bx114.1 (Int.lt_of_lt_of_le zq19 l25f_a1) ba1_u
                        refine lv_istore (lv' := [(6, .int x116), (0, .ref a0), (1, .int a1), (2, .int a2), (3, .int j37l3), (4, .int x53), (5, .int x67), (7, .int j84l7)]) hx hb dX2_tally_117 hl (by decide) rfl (fun ls hl => ?_)
                        obtain ⟨x119, ex119⟩ : ∃ y : Int32, y = j84l7 + Int32.ofInt 1 := ⟨_, rfl⟩
                        have qx119 : x119.toInt = j84l7.toInt + 1 := ai_inc ex119 (by decide) (by decide) u87f_j84l7 (by decide)
                        have bx119 : (1 : Int) ≤ x119.toInt ∧ x119.toInt ≤ 100 := ⟨by rw [qx119]; exact Int.add_le_add bj84l7_l (Int.le_refl _), by rw [qx119]; exact Int.add_le_add u87f_j84l7 (Int.le_refl _)⟩
                        refine lv_iinc (v := x119) (lv' := [(7, .int x119), (6, .int x116), (0, .ref a0), (1, .int a1), (2, .int a2), (3, .int j37l3), (4, .int x53), (5, .int x67)]) hx hb dX2_tally_119 hl (k := 7) rfl ex119.symm (by decide) rfl (fun ls hl => ?_)
                        refine lv_goto (tgt := 84) hx hb dX2_tally_122 (by decide) ?_
                        exact (hK0 _ _ _).mp (ih84 x119 x116 f106 _ _ _ (by have h0 := qx119; omega) (Int.le_trans zq4 bx119.1) bx119.2 qx116.2.1 qx116.2.2 hP hD hS (lv_sub hl [2, 3, 4, 5, 6, 7, 1, 0] rfl))
                  exact (hK0 _ _ _).mp (J84 101 0 x78 j37a0_4_a _ _ _ (by have h1 : (0 : Int) ≤ (0 : Int32).toInt := zq5; have h2 : (0 : Int32).toInt ≤ (0 : Int) := zq6; omega) zq5 (Int.le_trans zq6 zq38) qx78.2.1 u78z_x78 hP hD hS (lv_sub hl [4, 5, 6, 7, 3, 2, 1, 0] rfl))
            exact (hK0 _ _ _).mp (J37 730 0 j2a0_4_a _ _ _ (by have h1 : (0 : Int) ≤ (0 : Int32).toInt := zq5; have h2 : (0 : Int32).toInt ≤ (0 : Int) := zq6; omega) zq5 (Int.le_trans zq6 zq35) hP hD hS (lv_sub hl [1, 2, 3, 0] rfl))
          · have gc31 := ai_nle c31
            have l31f_a2 : (101 : Int) ≤ a2.toInt := ai_ltlo gc31 zq24
            exact W.vret hx hb hr (fun t ht hW => ⟨⟨(), rfl, trivial, j2a0_4_a, by rw [ht]; exact hP, va_K.moved hW.alike hK, hD⟩, hS.F ht⟩) hS.2.2 dX2_tally_34
      · have gc8 := ai_nle c8
        have u8f_j2l3 : j2l3.toInt ≤ (899 : Int) := ai_lthi gc8 zq39
        refine lv_aload_n hx hb dX2_tally_11 rfl (lv_at hl 0 rfl) ?_
        refine va_get (D := (dC, dI)) (ci := 2) (v := .ref a0_4) (C := RX2) (T := TX2) (N := 7) hx hb hts zi_X2_tally_2 hown hK hP 0 rfl rfl 4 (by decide) (hts (.fieldLink RX2 15 "WaxTurns$Laws" "tallies" "[I") (List.mem_cons_of_mem _ (List.mem_append_left _ (List.mem_of_getElem? (i := 0) rfl)))) (fun _ h9 => h9) rfl dX2_tally_12 ?_
        refine lv_iload_n hx hb dX2_tally_15 rfl (lv_at hl 3 rfl) ?_
        refine lv_iconst (v := 0) hx hb dX2_tally_16 zk_iconst_0 ?_
        refine va_iast hx hb hK hP hD hS 1 0 rfl rfl (ai_in bj2l3_l u8f_j2l3 (by decide) (by decide)) dX2_tally_17 (fun H locs hP hD hS => ?_)
        obtain ⟨f17, hP, hD⟩ : ∃ f17 : Nat → Int32, va_P (dC, dI) vwCl [(a0, .inr (2, [.int a0_0, a0g_1, a0g_2, .ref a0_3, .ref a0_4, a0g_5, a0g_6])), (a0_4, .inl (ka0_4, 900, .inl (f17))), (a0_3, .inl (ka0_3, 729, .inl (fa0_3)))] H ∧ va_D A [(a0, .inr (2, [.int a0_0, a0g_1, a0g_2, .ref a0_3, .ref a0_4, a0g_5, a0g_6])), (a0_4, .inl (ka0_4, 900, .inl (f17))), (a0_3, .inl (ka0_3, 729, .inl (fa0_3)))] := ⟨_, hP, hD⟩
        obtain ⟨x18, ex18⟩ : ∃ y : Int32, y = j2l3 + Int32.ofInt 1 := ⟨_, rfl⟩
        have qx18 : x18.toInt = j2l3.toInt + 1 := ai_inc ex18 (by decide) (by decide) u8f_j2l3 (by decide)
        have bx18 : (1 : Int) ≤ x18.toInt ∧ x18.toInt ≤ 900 := ⟨by rw [qx18]; exact Int.add_le_add bj2l3_l (Int.le_refl _), by rw [qx18]; exact Int.add_le_add u8f_j2l3 (Int.le_refl _)⟩
        refine lv_iinc (v := x18) (lv' := [(3, .int x18), (0, .ref a0), (1, .int a1), (2, .int a2)]) hx hb dX2_tally_18 hl (k := 3) rfl ex18.symm (by decide) rfl (fun ls hl => ?_)
        refine lv_goto (tgt := 2) hx hb dX2_tally_21 (by decide) ?_
        exact (hK0 _ _ _).mp (ih2 x18 f17 _ _ _ (by have h0 := qx18; omega) (Int.le_trans zq4 bx18.1) bx18.2 hP hD hS (lv_sub hl [1, 2, 3, 0] rfl))
  exact (hK0 _ _ _).mp (J2 901 0 fa0_4 _ _ _ (by have h1 : (0 : Int) ≤ (0 : Int32).toInt := zq5; have h2 : (0 : Int32).toInt ≤ (0 : Int) := zq6; omega) zq5 (Int.le_trans zq6 zq40) hP hD hS (lv_sub hl [1, 2, 3, 0] rfl))

set_option maxHeartbeats 4000000 in
set_option maxRecDepth 100000 in
theorem c_X2_chooseLook (l : Launch) (dC : Nat → ClassId) (dI : Nat → Nat → Nat) (sz : Nat) (a0 : Nat) (a1 : Nat) (a0_0 : Int32) (a0_1 : Int32) (a0_2 : Int32) (a0_3 : Nat) (a0_4 : Nat) (a0_5 : Int32) (a0_6 : Int32) (a1_0 : Int32) (a1_1 : Int32) (a1g_2 a1g_3 a1g_4 a1g_5 a1g_6 a1g_7 a1g_8 a1g_10 a1g_11 a1g_14 : Value) (a1_9 : Int32) (a1_12 : Nat) (a1_13 : Nat) (ka0_3 : ClassId) (fa0_3 : Nat → Int32) (ka1_13 : ClassId) (fa1_13 : Nat → Int32) (ka1_12 : ClassId) (fa1_12 : Nat → Int32) (ka0_4 : ClassId) (fa0_4 : Nat → Int32) (ba0_0_l : (0 : Int) ≤ a0_0.toInt) (ba0_0_u : a0_0.toInt ≤ (729 : Int)) (ba0_5_l : (0 : Int) ≤ a0_5.toInt) (ba0_5_u : a0_5.toInt ≤ (1 : Int)) (ba0_6_l : (0 : Int) ≤ a0_6.toInt) (ba0_6_u : a0_6.toInt ≤ (1 : Int)) (ba1_0_l : (0 : Int) ≤ a1_0.toInt) (ba1_0_u : a1_0.toInt ≤ (9 : Int)) (ba1_9_l : (0 : Int) ≤ a1_9.toInt) (ba1_9_u : a1_9.toInt ≤ (6 : Int)) (bfa0_3 : (∀ k, (0 : Int) ≤ (fa0_3 k).toInt ∧ (fa0_3 k).toInt ≤ 888 ∧ (fa0_3 k).toInt % 10 ≤ 8)) (bfa1_13 : (∀ k, (0 : Int) ≤ (fa1_13 k).toInt ∧ (fa1_13 k).toInt ≤ 999)) : zm l yX2_chooseLook wsX2_chooseLook ({ frames := 4, cells := 0, slots := 0, locals := 98 }) [.ref a0, .ref a1] dC dI sz [(a0, .inr (2, [.int a0_0, .int a0_1, .int a0_2, .ref a0_3, .ref a0_4, .int a0_5, .int a0_6])), (a1, .inr (0, [.int a1_0, .int a1_1, a1g_2, a1g_3, a1g_4, a1g_5, a1g_6, a1g_7, a1g_8, .int a1_9, a1g_10, a1g_11, .ref a1_12, .ref a1_13, a1g_14])), (a0_3, .inl (ka0_3, 729, .inl (fa0_3))), (a1_13, .inl (ka1_13, 6, .inl (fa1_13))), (a1_12, .inl (ka1_12, 6, .inl (fa1_12))), (a0_4, .inl (ka0_4, 900, .inl (fa0_4)))] [(ka0_3, .int), (ka1_13, .int), (ka1_12, .int), (ka0_4, .int)] (fun A U => va_Nw (.methodLinkNest RX0 72 yX7_laterTurn RX7) U) (fun A => va_Qv (fun (_ : Unit) => True) (fun (_ : Unit) (t : State) => ∃ na0_0 : Int32, ∃ na0_1 : Int32, ∃ na0_2 : Int32, ∃ na0_5 : Int32, ∃ na0_6 : Int32, ∃ nfa0_3 : Nat → Int32, ∃ nfa0_4 : Nat → Int32, ((0 : Int) ≤ na0_0.toInt ∧ na0_0.toInt ≤ 729) ∧ ((0 : Int) ≤ na0_5.toInt ∧ na0_5.toInt ≤ 1) ∧ ((0 : Int) ≤ na0_6.toInt ∧ na0_6.toInt ≤ 1) ∧ (∀ k, (0 : Int) ≤ (nfa0_3 k).toInt ∧ (nfa0_3 k).toInt ≤ 888 ∧ (nfa0_3 k).toInt % 10 ≤ 8) ∧ ax_B dC dI A [(a0, .inr (2, [.int na0_0, .int na0_1, .int na0_2, .ref a0_3, .ref a0_4, .int na0_5, .int na0_6])), (a1, .inr (0, [.int a1_0, .int a1_1, a1g_2, a1g_3, a1g_4, a1g_5, a1g_6, a1g_7, a1g_8, .int a1_9, a1g_10, a1g_11, .ref a1_12, .ref a1_13, a1g_14])), (a0_3, .inl (ka0_3, 729, .inl (nfa0_3))), (a1_13, .inl (ka1_13, 6, .inl (fa1_13))), (a1_12, .inl (ka1_12, 6, .inl (fa1_12))), (a0_4, .inl (ka0_4, 900, .inl (nfa0_4)))] [(ka0_3, .int), (ka1_13, .int), (ka1_12, .int), (ka0_4, .int)] t) A) := by
  refine zh (cc := cX2_chooseLook) (maxL := 5) (ret := none) zn_RX2 rfl (Nat.le_of_ble_eq_true rfl) (fun p e s m below meth c A ls hx hb hml hr hts (hown : s.vm.findClass RX2 = some m.cls) hlocks hA hS hP hK hD hE (hl : lv_has ls 5 [(0, .ref a0), (1, .ref a1)]) => ?_)
  have hE0 := hE
  refine ai_open (fun K hK0 => ?_)
  refine (hK0 _ _ _).mpr ?_
  refine lv_aload_n hx hb dX2_chooseLook_0 rfl (lv_at hl 0 rfl) ?_
  refine va_get (D := (dC, dI)) (ci := 2) (v := .int a0_6) (C := RX2) (T := TX2) (N := 7) hx hb hts zi_X2_chooseLook_2 hown hK hP 0 rfl rfl 6 (by decide) (hts (.fieldLink RX2 22 "WaxTurns$Laws" "looked" "Z") (zm_X2_chooseLook_r1 (List.mem_of_getElem? (i := 0) rfl))) (fun _ h9 => h9) rfl dX2_chooseLook_1 ?_
  refine lv_if_eq (tgt := 8) hx hb dX2_chooseLook_4 (by decide) (fun c4 => ?_) (fun c4 => ?_)
  · have gc4 := ai_eq c4
    have u4t_a0_6 : a0_6.toInt ≤ (0 : Int) := Int.le_trans (Int.le_of_eq gc4) zq6
    have l4t_a0_6 : (0 : Int) ≤ a0_6.toInt := ba0_6_l
    refine lv_aload_n hx hb dX2_chooseLook_8 rfl (lv_at hl 0 rfl) ?_
    refine lv_aload_n hx hb dX2_chooseLook_9 rfl (lv_at hl 1 rfl) ?_
    have hKc := hK.sub (tys' := [(ka0_3, .int), (ka1_13, .int), (ka1_12, .int)]) [0, 1, 2] rfl
    refine va_callv (va_runV (As := [.ref a1]) (rest := []) ⟨hx, hb, hml, hown, hts⟩ (c_X2_list l dC dI s.heap.size a0 a1 a0_0 (.int a0_1) (.int a0_2) (.ref a0_4) (.int a0_6) a0_3 a0_5 a1_0 a1_1 a1g_2 a1g_3 a1g_4 a1g_5 a1g_6 a1g_7 a1g_8 a1g_10 a1g_11 a1g_14 a1_9 a1_12 a1_13 ka0_3 fa0_3 ka1_13 fa1_13 ka1_12 fa1_12 ba0_0_l ba0_0_u ba0_5_l ba0_5_u ba1_0_l ba1_0_u ba1_9_l ba1_9_u bfa0_3 bfa1_13) (cwV 1 hts gX2_chooseLook_X2_list rfl rfl rfl zd_X2_list ⟨Nat.le_of_ble_eq_true rfl, Nat.le_of_ble_eq_true rfl⟩) ⟨ax_blind (fun _ _ _ _ hq => va_Nw.same rfl rfl (hq)), zr_2 hKc (zp_P5 hP) (q0 := 0) rfl, ax_pre (zp_P5 hP) hKc (zp_D5 hD) (fun _ hW => va_Nw.warmM hW hE0)⟩ rfl rfl hl.1 rfl (lv_room (Nat.le_of_ble_eq_true rfl)) dX2_chooseLook_10 ⟨Nat.le_of_ble_eq_true rfl, Nat.le_of_ble_eq_true rfl⟩) hS (fun q _ h => zp_F5 hD hS hA q h) (zp_F5 hD hS hA) (fun u t H locs ht hvm hw hB hz1 hk1 hS1 => zx_3 hB (fun v10na0_0 v10na0_5 v10nfa0_3 hB => zy_3 hB (fun bv10na0_0 bv10na0_5 bv10nfa0_3 hB => zo5 hB ht hP hD hk1 (zp_F5 hD hS hA) hS1 (fun hP hK1 hD hS => ?_))))
    refine lv_aload_n hx hb dX2_chooseLook_13 rfl (lv_at hl 0 rfl) ?_
    refine lv_iconst (v := 1) hx hb dX2_chooseLook_14 zk_iconst_1 ?_
    refine va_put (D := (dC, dI)) (ci := 2) (v := .int 1) (ty := .boolean) (C := RX2) (T := TX2) (N := 7) hx hb hts zi_X2_chooseLook_2 tyX2 tyX2_ok nmX2 hown hK hP hD hS 0 rfl rfl 6 (by decide) (hts (.fieldLink RX2 22 "WaxTurns$Laws" "looked" "Z") (zm_X2_chooseLook_r1 (List.mem_of_getElem? (i := 0) rfl))) (fun _ h9 => h9) rfl (tyX2_ok 6 (by decide)) rfl rfl (Nat.le_of_ble_eq_true rfl) dX2_chooseLook_15 (fun H locs hP hD hS => ?_)
    refine zs_0 (y := (a0, .inr (2, [.int v10na0_0, .int a0_1, .int a0_2, .ref a0_3, .ref a0_4, .int v10na0_5, .int 1]))) hP hD rfl (fun hP hD => ?_)
    refine lv_aload_n hx hb dX2_chooseLook_18 rfl (lv_at hl 0 rfl) ?_
    refine lv_bipush (v := (-2)) hx hb dX2_chooseLook_19 zk_bipush_n2 ?_
    refine va_put (D := (dC, dI)) (ci := 2) (v := .int (-2)) (ty := .int) (C := RX2) (T := TX2) (N := 7) hx hb hts zi_X2_chooseLook_2 tyX2 tyX2_ok nmX2 hown hK hP hD hS 0 rfl rfl 1 (by decide) (hts (.fieldLink RX2 55 "WaxTurns$Laws" "lookMinute" "I") (zm_X2_chooseLook_r1 (List.mem_of_getElem? (i := 1) rfl))) (fun _ h9 => h9) rfl (tyX2_ok 1 (by decide)) rfl rfl (Nat.le_of_ble_eq_true rfl) dX2_chooseLook_21 (fun H locs hP hD hS => ?_)
    refine zs_0 (y := (a0, .inr (2, [.int v10na0_0, .int (-2), .int a0_2, .ref a0_3, .ref a0_4, .int v10na0_5, .int 1]))) hP hD rfl (fun hP hD => ?_)
    refine lv_aload_n hx hb dX2_chooseLook_24 rfl (lv_at hl 0 rfl) ?_
    refine lv_bipush (v := (-2)) hx hb dX2_chooseLook_25 zk_bipush_n2 ?_
    refine va_put (D := (dC, dI)) (ci := 2) (v := .int (-2)) (ty := .int) (C := RX2) (T := TX2) (N := 7) hx hb hts zi_X2_chooseLook_2 tyX2 tyX2_ok nmX2 hown hK hP hD hS 0 rfl rfl 2 (by decide) (hts (.fieldLink RX2 58 "WaxTurns$Laws" "lookMost" "I") (zm_X2_chooseLook_r1 (List.mem_of_getElem? (i := 2) rfl))) (fun _ h9 => h9) rfl (tyX2_ok 2 (by decide)) rfl rfl (Nat.le_of_ble_eq_true rfl) dX2_chooseLook_27 (fun H locs hP hD hS => ?_)
    refine zs_0 (y := (a0, .inr (2, [.int v10na0_0, .int (-2), .int (-2), .ref a0_3, .ref a0_4, .int v10na0_5, .int 1]))) hP hD rfl (fun hP hD => ?_)
    refine lv_aload_n hx hb dX2_chooseLook_30 rfl (lv_at hl 0 rfl) ?_
    refine va_get (D := (dC, dI)) (ci := 2) (v := .int v10na0_0) (C := RX2) (T := TX2) (N := 7) hx hb hts zi_X2_chooseLook_2 hown hK hP 0 rfl rfl 0 (by decide) (hts (.fieldLink RX2 25 "WaxTurns$Laws" "fitCount" "I") (zm_X2_chooseLook_r1 (List.mem_of_getElem? (i := 3) rfl))) (fun _ h9 => h9) rfl dX2_chooseLook_31 ?_
    refine lv_if_eq (tgt := 44) hx hb dX2_chooseLook_34 (by decide) (fun c34 => ?_) (fun c34 => ?_)
    · have gc34 := ai_eq c34
      have u34t_v10na0_0 : v10na0_0.toInt ≤ (0 : Int) := Int.le_trans (Int.le_of_eq gc34) zq6
      have l34t_v10na0_0 : (0 : Int) ≤ v10na0_0.toInt := bv10na0_0.1
      exact W.vret hx hb hr (fun t ht hW => ⟨⟨(), rfl, trivial, v10na0_0, (-2), (-2), v10na0_5, 1, v10nfa0_3, fa0_4, ⟨l34t_v10na0_0, Int.le_trans u34t_v10na0_0 (by decide)⟩, ⟨bv10na0_5.1, bv10na0_5.2⟩, ⟨Int.le_trans (by decide) zq1, zq0⟩, bv10nfa0_3, by rw [ht]; exact hP, va_K.moved hW.alike hK, hD⟩, hS.F ht⟩) hS.2.2 dX2_chooseLook_44
    · have gc34 := ai_ne c34
      have l34f_v10na0_0 : (1 : Int) ≤ v10na0_0.toInt := (by have h1 := bv10na0_0.1; have h2 : (0 : Int32).toInt = 0 := (by decide); rw [h2] at gc34; omega)
      refine lv_aload_n hx hb dX2_chooseLook_37 rfl (lv_at hl 1 rfl) ?_
      refine va_get (D := (dC, dI)) (ci := 0) (v := .int a1_1) (C := RX0) (T := TX0) (N := 15) hx hb hts zi_X2_chooseLook_0 hown hK hP 1 rfl rfl 1 (by decide) (hts (.fieldLink RX2 61 "WaxTurns$Hall" "span" "I") (zm_X2_chooseLook_r1 (List.mem_of_getElem? (i := 4) rfl))) (fun _ h9 => h9) rfl dX2_chooseLook_38 ?_
      refine lv_if_gt (tgt := 45) hx hb dX2_chooseLook_41 (by decide) (fun c41 => ?_) (fun c41 => ?_)
      · have gc41 := ai_lt c41
        have l41t_a1_1 : (1 : Int) ≤ a1_1.toInt := ai_ltlo gc41 zq5
        refine lv_bipush (v := 99) hx hb dX2_chooseLook_45 zk_bipush_99 ?_
        refine lv_aload_n hx hb dX2_chooseLook_47 rfl (lv_at hl 1 rfl) ?_
        refine va_get (D := (dC, dI)) (ci := 0) (v := .int a1_1) (C := RX0) (T := TX0) (N := 15) hx hb hts zi_X2_chooseLook_0 hown hK hP 1 rfl rfl 1 (by decide) (hts (.fieldLink RX2 61 "WaxTurns$Hall" "span" "I") (zm_X2_chooseLook_r1 (List.mem_of_getElem? (i := 4) rfl))) (fun _ h9 => h9) rfl dX2_chooseLook_48 ?_
        refine lv_idiv hx hb dX2_chooseLook_51 (ai_nz l41t_a1_1 (by decide)) ?_
        refine lv_topi (fun x51 ex51 => ?_)
        have qx51 := ai_div ex51 ⟨(Int.le_trans zq41 zq42), zq43⟩ (Int.lt_of_lt_of_le zq19 l41t_a1_1)
        refine lv_iconst (v := 1) hx hb dX2_chooseLook_52 zk_iconst_1 ?_
        refine lv_iadd hx hb dX2_chooseLook_53 ?_
        refine lv_topi (fun x53 ex53 => ?_)
        have qx53 : x53.toInt = x51.toInt + (1 : Int32).toInt := ai_add ex53 ⟨qx51.2.1, qx51.2.2⟩ ⟨zq1, zq0⟩ (by decide) (by decide)
        have bx53 : (1 : Int) ≤ x53.toInt ∧ x53.toInt ≤ 100 := ⟨by rw [qx53]; exact Int.add_le_add qx51.2.1 zq1, by rw [qx53]; exact Int.add_le_add qx51.2.2 zq0⟩
        have wx53 : x53.toInt = x51.toInt + 1 := qx53
        refine lv_istore_n (lv' := [(2, .int x53), (0, .ref a0), (1, .ref a1)]) hx hb dX2_chooseLook_54 rfl hl (by decide) rfl (fun ls hl => ?_)
        refine lv_aload_n hx hb dX2_chooseLook_55 rfl (lv_at hl 1 rfl) ?_
        refine lv_aload_n hx hb dX2_chooseLook_56 rfl (lv_at hl 2 rfl) ?_
        refine va_get (D := (dC, dI)) (ci := 0) (v := .int a1_0) (C := RX0) (T := TX0) (N := 15) hx hb hts zi_X2_chooseLook_0 hown hK hP 1 rfl rfl 0 (by decide) (hts (.fieldLink RX2 29 "WaxTurns$Hall" "figures" "I") (zm_X2_chooseLook_r1 (List.mem_of_getElem? (i := 5) rfl))) (fun _ h9 => h9) rfl dX2_chooseLook_57 ?_
        refine lv_iload_n hx hb dX2_chooseLook_60 rfl (lv_at hl 0 rfl) ?_
        refine zc_cutc (wc := [(a0, .inr (2, [.int v10na0_0, .int (-2), .int (-2), .ref a0_3, .ref a0_4, .int v10na0_5, .int 1])), (a0_4, .inl (ka0_4, 900, .inl (fa0_4))), (a0_3, .inl (ka0_3, 729, .inl (v10nfa0_3)))]) hP hD hS hA [0, 5, 2] (by decide +kernel) rfl (fun hPc hDc hFc hCc => ?_)
        have hKc := hK.sub (tys' := [(ka0_4, .int), (ka0_3, .int)]) [3, 0] rfl
        refine va_callv (va_runV (As := [.int a1_0, .int x53]) (rest := []) ⟨hx, hb, hml, hown, hts⟩ (c_X2_tally l dC dI H.size a0 a1_0 x53 v10na0_0 (.int (-2)) (.int (-2)) (.int v10na0_5) (.int 1) a0_3 a0_4 ka0_4 fa0_4 ka0_3 v10nfa0_3 ba1_0_l ba1_0_u (Int.le_trans zq4 l34f_v10na0_0) bv10na0_0.2 bv10nfa0_3) (cwV 2 hts gX2_chooseLook_X2_tally rfl rfl rfl zd_X2_tally ⟨Nat.le_of_ble_eq_true rfl, Nat.le_of_ble_eq_true rfl⟩) ⟨ax_blind (fun _ _ _ _ _ => trivial), zr_2 hKc hPc (q0 := 0) rfl, ax_pre hPc hKc hDc (fun _ _ => trivial)⟩ rfl rfl hl.1 rfl (lv_room (Nat.le_of_ble_eq_true rfl)) dX2_chooseLook_61 ⟨Nat.le_of_ble_eq_true rfl, Nat.le_of_ble_eq_true rfl⟩) hS (fun q _ h => hFc q h) hFc (fun u t H locs ht hvm hw hB hz1 hk1 hS => zx_1 hB (fun v61nfa0_4 hB => zo hB ht (fun hP1 hK1 hD1 => ?_)))
        refine zc_backc (w := [(a0, .inr (2, [.int v10na0_0, .int (-2), .int (-2), .ref a0_3, .ref a0_4, .int v10na0_5, .int 1])), (a1, .inr (0, [.int a1_0, .int a1_1, a1g_2, a1g_3, a1g_4, a1g_5, a1g_6, a1g_7, a1g_8, .int a1_9, a1g_10, a1g_11, .ref a1_12, .ref a1_13, a1g_14])), (a0_3, .inl (ka0_3, 729, .inl (v10nfa0_3))), (a1_13, .inl (ka1_13, 6, .inl (fa1_13))), (a1_12, .inl (ka1_12, 6, .inl (fa1_12))), (a0_4, .inl (ka0_4, 900, .inl (v61nfa0_4)))]) hP hD hCc hk1 hFc hP1 hD1 [.inr 0, .inl 1, .inr 2, .inl 3, .inl 4, .inr 1] (by decide +kernel) rfl (fun hP hD => ?_)
        refine lv_iconst (v := 0) hx hb dX2_chooseLook_64 zk_iconst_0 ?_
        refine lv_istore_n (lv' := [(3, .int 0), (2, .int x53), (0, .ref a0), (1, .ref a1)]) hx hb dX2_chooseLook_65 rfl hl (by decide) rfl (fun ls hl => ?_)
        have J66 : ∀ (n : Nat) (j66l3 : Int32) (j66a0_1 : Int32) (j66a0_2 : Int32) (H : Heap) (locs : List Loc) (ls : Array Slot), (101 : Int) - j66l3.toInt ≤ (n : Int) → (0 : Int) ≤ j66l3.toInt → j66l3.toInt ≤ (100 : Int) → va_P (dC, dI) vwCl [(a0, .inr (2, [.int v10na0_0, .int j66a0_1, .int j66a0_2, .ref a0_3, .ref a0_4, .int v10na0_5, .int 1])), (a1, .inr (0, [.int a1_0, .int a1_1, a1g_2, a1g_3, a1g_4, a1g_5, a1g_6, a1g_7, a1g_8, .int a1_9, a1g_10, a1g_11, .ref a1_12, .ref a1_13, a1g_14])), (a0_3, .inl (ka0_3, 729, .inl (v10nfa0_3))), (a1_13, .inl (ka1_13, 6, .inl (fa1_13))), (a1_12, .inl (ka1_12, 6, .inl (fa1_12))), (a0_4, .inl (ka0_4, 900, .inl (v61nfa0_4)))] H → va_D A [(a0, .inr (2, [.int v10na0_0, .int j66a0_1, .int j66a0_2, .ref a0_3, .ref a0_4, .int v10na0_5, .int 1])), (a1, .inr (0, [.int a1_0, .int a1_1, a1g_2, a1g_3, a1g_4, a1g_5, a1g_6, a1g_7, a1g_8, .int a1_9, a1g_10, a1g_11, .ref a1_12, .ref a1_13, a1g_14])), (a0_3, .inl (ka0_3, 729, .inl (v10nfa0_3))), (a1_13, .inl (ka1_13, 6, .inl (fa1_13))), (a1_12, .inl (ka1_12, 6, .inl (fa1_12))), (a0_4, .inl (ka0_4, 900, .inl (v61nfa0_4)))] → va_S A s.heap H locs → lv_has ls 5 [(0, .ref a0), (1, .ref a1), (2, .int x53), (3, .int j66l3)] → K H locs (F0 m 66 ls []) := by
          intro n
          induction n with
          | zero =>
            intro j66l3 j66a0_1 j66a0_2 H locs ls hm bj66l3_l bj66l3_u hP hD hS hl
            have h8 := ai_min j66l3
            have h9 := ai_max j66l3
            exact absurd hm (by omega)
          | succ n ih66 =>
            intro j66l3 j66a0_1 j66a0_2 H locs ls hm bj66l3_l bj66l3_u hP hD hS hl
            refine (hK0 _ _ _).mpr ?_
            have hm66 := hm
            refine lv_iload_n hx hb dX2_chooseLook_66 rfl (lv_at hl 3 rfl) ?_
            refine lv_iload_n hx hb dX2_chooseLook_67 rfl (lv_at hl 2 rfl) ?_
            refine lv_icmp_ge (tgt := 118) hx hb dX2_chooseLook_68 (by decide) (fun c68 => ?_) (fun c68 => ?_)
            · have gc68 := ai_le c68
              have u68t_x53 : x53.toInt ≤ (100 : Int) := bx53.2
              have l68t_j66l3 : (1 : Int) ≤ j66l3.toInt := Int.le_trans bx53.1 gc68
              exact W.vret hx hb hr (fun t ht hW => ⟨⟨(), rfl, trivial, v10na0_0, j66a0_1, j66a0_2, v10na0_5, 1, v10nfa0_3, v61nfa0_4, ⟨Int.le_trans (by decide) l34f_v10na0_0, bv10na0_0.2⟩, ⟨bv10na0_5.1, bv10na0_5.2⟩, ⟨Int.le_trans (by decide) zq1, zq0⟩, bv10nfa0_3, by rw [ht]; exact hP, va_K.moved hW.alike hK, hD⟩, hS.F ht⟩) hS.2.2 dX2_chooseLook_118
            · have gc68 := ai_nle c68
              have u68f_j66l3 : j66l3.toInt ≤ (99 : Int) := ai_lthi gc68 bx53.2
              have l68f_x53 : (1 : Int) ≤ x53.toInt := bx53.1
              refine lv_aload_n hx hb dX2_chooseLook_71 rfl (lv_at hl 0 rfl) ?_
              refine lv_iload_n hx hb dX2_chooseLook_72 rfl (lv_at hl 3 rfl) ?_
              refine zc_cutc (wc := [(a0, .inr (2, [.int v10na0_0, .int j66a0_1, .int j66a0_2, .ref a0_3, .ref a0_4, .int v10na0_5, .int 1])), (a0_4, .inl (ka0_4, 900, .inl (v61nfa0_4)))]) hP hD hS hA [0, 5] (by decide +kernel) rfl (fun hPc hDc hFc hCc => ?_)
              have hKc := hK.sub (tys' := [(ka0_4, .int)]) [3] rfl
              refine va_calli (va_runV (As := [.int j66l3]) (rest := []) ⟨hx, hb, hml, hown, hts⟩ (c_X2_mostOf l dC dI H.size a0 j66l3 (.int v10na0_0) (.int j66a0_1) (.int j66a0_2) (.ref a0_3) (.int v10na0_5) (.int 1) a0_4 ka0_4 v61nfa0_4 bj66l3_l u68f_j66l3) (cwV 1 hts gX2_chooseLook_X2_mostOf rfl rfl rfl zd_X2_mostOf ⟨Nat.le_of_ble_eq_true rfl, Nat.le_of_ble_eq_true rfl⟩) ⟨ax_blind (fun _ _ _ _ _ => trivial), zr_2 hKc hPc (q0 := 0) rfl, ax_pre hPc hKc hDc (fun _ _ => trivial)⟩ rfl rfl hl.1 rfl (lv_room (Nat.le_of_ble_eq_true rfl)) dX2_chooseLook_73 ⟨Nat.le_of_ble_eq_true rfl, Nat.le_of_ble_eq_true rfl⟩) hS (fun q _ h => hFc q h) hFc (fun r73 u t H locs ht hvm hw hB hz1 hk1 hS => zo hB ht (fun hP1 hK1 hD1 => ?_))
              refine zc_backc (w := [(a0, .inr (2, [.int v10na0_0, .int j66a0_1, .int j66a0_2, .ref a0_3, .ref a0_4, .int v10na0_5, .int 1])), (a1, .inr (0, [.int a1_0, .int a1_1, a1g_2, a1g_3, a1g_4, a1g_5, a1g_6, a1g_7, a1g_8, .int a1_9, a1g_10, a1g_11, .ref a1_12, .ref a1_13, a1g_14])), (a0_3, .inl (ka0_3, 729, .inl (v10nfa0_3))), (a1_13, .inl (ka1_13, 6, .inl (fa1_13))), (a1_12, .inl (ka1_12, 6, .inl (fa1_12))), (a0_4, .inl (ka0_4, 900, .inl (v61nfa0_4)))]) hP hD hCc hk1 hFc hP1 hD1 [.inr 0, .inl 1, .inl 2, .inl 3, .inl 4, .inr 1] (by decide +kernel) rfl (fun hP hD => ?_)
              refine lv_istore (lv' := [(4, .int r73), (0, .ref a0), (1, .ref a1), (2, .int x53), (3, .int j66l3)]) hx hb dX2_chooseLook_76 hl (by decide) rfl (fun ls hl => ?_)
              refine lv_aload_n hx hb dX2_chooseLook_78 rfl (lv_at hl 1 rfl) ?_
              refine va_get (D := (dC, dI)) (ci := 2) (v := .int j66a0_2) (C := RX2) (T := TX2) (N := 7) hx hb hts zi_X2_chooseLook_2 hown hK hP 0 rfl rfl 2 (by decide) (hts (.fieldLink RX2 58 "WaxTurns$Laws" "lookMost" "I") (zm_X2_chooseLook_r1 (List.mem_of_getElem? (i := 2) rfl))) (fun _ h9 => h9) rfl dX2_chooseLook_79 ?_
              refine lv_bipush (v := (-2)) hx hb dX2_chooseLook_82 zk_bipush_n2 ?_
              have J112 : ∀ (j112a0_1 : Int32) (j112a0_2 : Int32) (H : Heap) (locs : List Loc) (ls : Array Slot), va_P (dC, dI) vwCl [(a0, .inr (2, [.int v10na0_0, .int j112a0_1, .int j112a0_2, .ref a0_3, .ref a0_4, .int v10na0_5, .int 1])), (a1, .inr (0, [.int a1_0, .int a1_1, a1g_2, a1g_3, a1g_4, a1g_5, a1g_6, a1g_7, a1g_8, .int a1_9, a1g_10, a1g_11, .ref a1_12, .ref a1_13, a1g_14])), (a0_3, .inl (ka0_3, 729, .inl (v10nfa0_3))), (a1_13, .inl (ka1_13, 6, .inl (fa1_13))), (a1_12, .inl (ka1_12, 6, .inl (fa1_12))), (a0_4, .inl (ka0_4, 900, .inl (v61nfa0_4)))] H → va_D A [(a0, .inr (2, [.int v10na0_0, .int j112a0_1, .int j112a0_2, .ref a0_3, .ref a0_4, .int v10na0_5, .int 1])), (a1, .inr (0, [.int a1_0, .int a1_1, a1g_2, a1g_3, a1g_4, a1g_5, a1g_6, a1g_7, a1g_8, .int a1_9, a1g_10, a1g_11, .ref a1_12, .ref a1_13, a1g_14])), (a0_3, .inl (ka0_3, 729, .inl (v10nfa0_3))), (a1_13, .inl (ka1_13, 6, .inl (fa1_13))), (a1_12, .inl (ka1_12, 6, .inl (fa1_12))), (a0_4, .inl (ka0_4, 900, .inl (v61nfa0_4)))] → va_S A s.heap H locs → lv_has ls 5 [(0, .ref a0), (1, .ref a1), (2, .int x53), (3, .int j66l3)] → K H locs (F0 m 112 ls []) := by
                intro j112a0_1 j112a0_2 H locs ls   hP hD hS hl
                refine (hK0 _ _ _).mpr ?_
                obtain ⟨x112, ex112⟩ : ∃ y : Int32, y = j66l3 + Int32.ofInt 1 := ⟨_, rfl⟩
                have qx112 : x112.toInt = j66l3.toInt + 1 := ai_inc ex112 (by decide) (by decide) u68f_j66l3 (by decide)
                have bx112 : (1 : Int) ≤ x112.toInt ∧ x112.toInt ≤ 100 := ⟨by rw [qx112]; exact Int.add_le_add bj66l3_l (Int.le_refl _), by rw [qx112]; exact Int.add_le_add u68f_j66l3 (Int.le_refl _)⟩
                refine lv_iinc (v := x112) (lv' := [(3, .int x112), (0, .ref a0), (1, .ref a1), (2, .int x53)]) hx hb dX2_chooseLook_112 hl (k := 3) rfl ex112.symm (by decide) rfl (fun ls hl => ?_)
                refine lv_goto (tgt := 66) hx hb dX2_chooseLook_115 (by decide) ?_
                exact (hK0 _ _ _).mp (ih66 x112 j112a0_1 j112a0_2 _ _ _ (by have h0 := qx112; omega) (Int.le_trans zq4 bx112.1) bx112.2 hP hD hS (lv_sub hl [1, 2, 3, 0] rfl))
              have J96 : ∀ (H : Heap) (locs : List Loc) (ls : Array Slot), va_P (dC, dI) vwCl [(a0, .inr (2, [.int v10na0_0, .int j66a0_1, .int j66a0_2, .ref a0_3, .ref a0_4, .int v10na0_5, .int 1])), (a1, .inr (0, [.int a1_0, .int a1_1, a1g_2, a1g_3, a1g_4, a1g_5, a1g_6, a1g_7, a1g_8, .int a1_9, a1g_10, a1g_11, .ref a1_12, .ref a1_13, a1g_14])), (a0_3, .inl (ka0_3, 729, .inl (v10nfa0_3))), (a1_13, .inl (ka1_13, 6, .inl (fa1_13))), (a1_12, .inl (ka1_12, 6, .inl (fa1_12))), (a0_4, .inl (ka0_4, 900, .inl (v61nfa0_4)))] H → va_D A [(a0, .inr (2, [.int v10na0_0, .int j66a0_1, .int j66a0_2, .ref a0_3, .ref a0_4, .int v10na0_5, .int 1])), (a1, .inr (0, [.int a1_0, .int a1_1, a1g_2, a1g_3, a1g_4, a1g_5, a1g_6, a1g_7, a1g_8, .int a1_9, a1g_10, a1g_11, .ref a1_12, .ref a1_13, a1g_14])), (a0_3, .inl (ka0_3, 729, .inl (v10nfa0_3))), (a1_13, .inl (ka1_13, 6, .inl (fa1_13))), (a1_12, .inl (ka1_12, 6, .inl (fa1_12))), (a0_4, .inl (ka0_4, 900, .inl (v61nfa0_4)))] → va_S A s.heap H locs → lv_has ls 5 [(0, .ref a0), (1, .ref a1), (2, .int x53), (3, .int j66l3), (4, .int r73)] → K H locs (F0 m 96 ls []) := by
                intro  H locs ls   hP hD hS hl
                refine (hK0 _ _ _).mpr ?_
                refine lv_aload_n hx hb dX2_chooseLook_96 rfl (lv_at hl 0 rfl) ?_
                refine lv_iload hx hb dX2_chooseLook_97 (lv_at hl 4 rfl) ?_
                refine va_put (D := (dC, dI)) (ci := 2) (v := .int r73) (ty := .int) (C := RX2) (T := TX2) (N := 7) hx hb hts zi_X2_chooseLook_2 tyX2 tyX2_ok nmX2 hown hK hP hD hS 0 rfl rfl 2 (by decide) (hts (.fieldLink RX2 58 "WaxTurns$Laws" "lookMost" "I") (zm_X2_chooseLook_r1 (List.mem_of_getElem? (i := 2) rfl))) (fun _ h9 => h9) rfl (tyX2_ok 2 (by decide)) rfl rfl (Nat.le_of_ble_eq_true rfl) dX2_chooseLook_99 (fun H locs hP hD hS => ?_)
                refine zs_0 (y := (a0, .inr (2, [.int v10na0_0, .int j66a0_1, .int r73, .ref a0_3, .ref a0_4, .int v10na0_5, .int 1]))) hP hD rfl (fun hP hD => ?_)
                refine lv_aload_n hx hb dX2_chooseLook_102 rfl (lv_at hl 0 rfl) ?_
                refine lv_iload_n hx hb dX2_chooseLook_103 rfl (lv_at hl 3 rfl) ?_
                refine lv_aload_n hx hb dX2_chooseLook_104 rfl (lv_at hl 1 rfl) ?_
                refine va_get (D := (dC, dI)) (ci := 0) (v := .int a1_1) (C := RX0) (T := TX0) (N := 15) hx hb hts zi_X2_chooseLook_0 hown hK hP 1 rfl rfl 1 (by decide) (hts (.fieldLink RX2 61 "WaxTurns$Hall" "span" "I") (zm_X2_chooseLook_r1 (List.mem_of_getElem? (i := 4) rfl))) (fun _ h9 => h9) rfl dX2_chooseLook_105 ?_
                refine lv_imul hx hb dX2_chooseLook_108 ?_
                refine lv_topi (fun x108 ex108 => ?_)
                refine va_put (D := (dC, dI)) (ci := 2) (v := .int x108) (ty := .int) (C := RX2) (T := TX2) (N := 7) hx hb hts zi_X2_chooseLook_2 tyX2 tyX2_ok nmX2 hown hK hP hD hS 0 rfl rfl 1 (by decide) (hts (.fieldLink RX2 55 "WaxTurns$Laws" "lookMinute" "I") (zm_X2_chooseLook_r1 (List.mem_of_getElem? (i := 1) rfl))) (fun _ h9 => h9) rfl (tyX2_ok 1 (by decide)) rfl rfl (Nat.le_of_ble_eq_true rfl) dX2_chooseLook_109 (fun H locs hP hD hS => ?_)
                refine zs_0 (y := (a0, .inr (2, [.int v10na0_0, .int x108, .int r73, .ref a0_3, .ref a0_4, .int v10na0_5, .int 1]))) hP hD rfl (fun hP hD => ?_)
                exact (hK0 _ _ _).mp (J112 x108 r73 _ _ _   hP hD hS (lv_sub hl [0, 1, 2, 3] rfl))
              refine lv_icmp_eq (tgt := 96) hx hb dX2_chooseLook_84 (by decide) (fun c84 => ?_) (fun c84 => ?_)
              · have gc84 := ai_eq c84
                have u84t_j66a0_2 : j66a0_2.toInt ≤ (-2 : Int) := Int.le_trans (Int.le_of_eq gc84) zq44
                have l84t_j66a0_2 : (-2 : Int) ≤ j66a0_2.toInt := Int.le_trans zq45 (Int.le_of_eq gc84.symm)
                exact (hK0 _ _ _).mp (J96  _ _ _   hP hD hS (lv_sub hl [1, 2, 3, 4, 0] rfl))
              · have gc84 := ai_ne c84
                refine lv_iload hx hb dX2_chooseLook_87 (lv_at hl 0 rfl) ?_
                refine lv_aload_n hx hb dX2_chooseLook_89 rfl (lv_at hl 1 rfl) ?_
                refine va_get (D := (dC, dI)) (ci := 2) (v := .int j66a0_2) (C := RX2) (T := TX2) (N := 7) hx hb hts zi_X2_chooseLook_2 hown hK hP 0 rfl rfl 2 (by decide) (hts (.fieldLink RX2 58 "WaxTurns$Laws" "lookMost" "I") (zm_X2_chooseLook_r1 (List.mem_of_getElem? (i := 2) rfl))) (fun _ h9 => h9) rfl dX2_chooseLook_90 ?_
                refine lv_icmp_ge (tgt := 112) hx hb dX2_chooseLook_93 (by decide) (fun c93 => ?_) (fun c93 => ?_)
                · have gc93 := ai_le c93
                  exact (hK0 _ _ _).mp (J112 j66a0_1 j66a0_2 _ _ _   hP hD hS (lv_sub hl [1, 2, 3, 4] rfl))
                · have gc93 := ai_nle c93
                  have u93f_r73 : r73.toInt ≤ (2147483646 : Int) := ai_lthi gc93 (ai_max j66a0_2)
                  have l93f_j66a0_2 : (-2147483647 : Int) ≤ j66a0_2.toInt := ai_ltlo gc93 (ai_min r73)
                  exact (hK0 _ _ _).mp (J96  _ _ _   hP hD hS (lv_sub hl [1, 2, 3, 4, 0] rfl))
        exact (hK0 _ _ _).mp (J66 101 0 (-2) (-2) _ _ _ (by have h1 : (0 : Int) ≤ (0 : Int32).toInt := zq5; have h2 : (0 : Int32).toInt ≤ (0 : Int) := zq6; omega) zq5 (Int.le_trans zq6 zq38) hP hD hS (lv_sub hl [2, 3, 1, 0] rfl))
      · have gc41 := ai_nlt c41
        have u41f_a1_1 : a1_1.toInt ≤ (0 : Int) := Int.le_trans gc41 zq6
        exact W.vret hx hb hr (fun t ht hW => ⟨⟨(), rfl, trivial, v10na0_0, (-2), (-2), v10na0_5, 1, v10nfa0_3, fa0_4, ⟨Int.le_trans (by decide) l34f_v10na0_0, bv10na0_0.2⟩, ⟨bv10na0_5.1, bv10na0_5.2⟩, ⟨Int.le_trans (by decide) zq1, zq0⟩, bv10nfa0_3, by rw [ht]; exact hP, va_K.moved hW.alike hK, hD⟩, hS.F ht⟩) hS.2.2 dX2_chooseLook_44
  · have gc4 := ai_ne c4
    have l4f_a0_6 : (1 : Int) ≤ a0_6.toInt := (by have h1 := ba0_6_l; have h2 : (0 : Int32).toInt = 0 := (by decide); rw [h2] at gc4; omega)
    exact W.vret hx hb hr (fun t ht hW => ⟨⟨(), rfl, trivial, a0_0, a0_1, a0_2, a0_5, a0_6, fa0_3, fa0_4, ⟨ba0_0_l, ba0_0_u⟩, ⟨ba0_5_l, ba0_5_u⟩, ⟨Int.le_trans (by decide) l4f_a0_6, ba0_6_u⟩, bfa0_3, by rw [ht]; exact hP, va_K.moved hW.alike hK, hD⟩, hS.F ht⟩) hS.2.2 dX2_chooseLook_7
end P103_safe
