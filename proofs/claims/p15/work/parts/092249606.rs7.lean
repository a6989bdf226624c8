section P092249606_rs7
section RSG
theorem rs_L_cg {fg sp : Int} {kd gI gI1 row : Nat → Int} {gF gF1 : Nat → Nat → Int} {j n : Nat} (hj : j < n) (hI : ∀ k : Nat, k < 5 * n → gI1 k = gI k) (hF : ∀ k : Nat, k < 2 * n → gF1 k = gF k) (h : rs_L fg sp kd gI gF j row) : rs_L fg sp kd gI1 gF1 j row := by
  unfold rs_L at h ⊢
  rw [hI (5 * j) (by omega), hI (5 * j + 1) (by omega), hI (5 * j + 2) (by omega), hI (5 * j + 3) (by omega), hI (5 * j + 4) (by omega), hF (2 * j) (by omega), hF (2 * j + 1) (by omega)]
  exact h
theorem rs_H_cg {fg sp U L : Int} {kd gI gI1 und : Nat → Int} {gF gF1 : Nat → Nat → Int} (hI : ∀ k : Nat, k < 80 → gI1 k = gI k) (hF : ∀ k : Nat, k < 32 → gF1 k = gF k) (h : rs_H fg sp kd U L gI gF und) : rs_H fg sp kd U L gI1 gF1 und := by
  obtain ⟨a, b, c⟩ := h
  exact ⟨a, b, fun i hi => rs_L_cg (n := 16) (Nat.mod_lt _ (by decide)) hI hF (c i hi)⟩
theorem rs_I_cg {fg sp N : Int} {kd gI gI1 kp : Nat → Int} {gF gF1 : Nat → Nat → Int} (hI : ∀ k : Nat, k < 15 → gI1 k = gI k) (hF : ∀ k : Nat, k < 6 → gF1 k = gF k) (h : rs_I fg sp kd N gI gF kp) : rs_I fg sp kd N gI1 gF1 kp := by
  obtain ⟨a, c⟩ := h
  exact ⟨a, fun i hi => rs_L_cg (n := 3) (by omega) hI hF (c i hi)⟩
theorem fl_nI_r (f : Nat → Int) {n k : Nat} (h : k < n) : fl_nI ((List.range n).map f) k = f k := by
  unfold fl_nI
  rw [List.getD_eq_getElem?_getD, List.getElem?_map, List.getElem?_range h]
  rfl
theorem fl_nF_r (f : Nat → Nat → Int) {n k : Nat} (h : k < n) : fl_nF ((List.range n).map f) k = f k := by
  unfold fl_nF
  rw [List.getD_eq_getElem?_getD, List.getElem?_map, List.getElem?_range h]
  rfl
theorem kp_out {l : List Nat} {a b k : Nat} (h : l.all (fun x => decide (x < a) || decide (b ≤ x)) = true) (h1 : a ≤ k) (h2 : k < b) : k ∉ l := by
  intro hm
  have h3 := List.all_eq_true.mp h k hm
  rw [Bool.or_eq_true, decide_eq_true_eq, decide_eq_true_eq] at h3
  omega
/-- the kept scenes and images as the object has them -/
def lr_g3 (vi : Nat → Int32) : Nat → Int := fun k => (vi (57 + k)).toInt
def lr_f3 (vf : Nat → Nat → Int32) : Nat → Nat → Int := fun k => fl_A (vf (23 + k))
def lr_g4 (vi : Nat → Int32) : Nat → Int := fun k => (vi (137 + k)).toInt
def lr_f4 (vf : Nat → Nat → Int32) : Nat → Nat → Int := fun k => fl_A (vf (55 + k))
set_option maxRecDepth 100000 in
theorem lr_g3e (vi : Nat → Int32) {k : Nat} (h : k < 80) : (fl_nI [(vi 57).toInt, (vi 58).toInt, (vi 59).toInt, (vi 60).toInt, (vi 61).toInt, (vi 62).toInt, (vi 63).toInt, (vi 64).toInt, (vi 65).toInt, (vi 66).toInt, (vi 67).toInt, (vi 68).toInt, (vi 69).toInt, (vi 70).toInt, (vi 71).toInt, (vi 72).toInt, (vi 73).toInt, (vi 74).toInt, (vi 75).toInt, (vi 76).toInt, (vi 77).toInt, (vi 78).toInt, (vi 79).toInt, (vi 80).toInt, (vi 81).toInt, (vi 82).toInt, (vi 83).toInt, (vi 84).toInt, (vi 85).toInt, (vi 86).toInt, (vi 87).toInt, (vi 88).toInt, (vi 89).toInt, (vi 90).toInt, (vi 91).toInt, (vi 92).toInt, (vi 93).toInt, (vi 94).toInt, (vi 95).toInt, (vi 96).toInt, (vi 97).toInt, (vi 98).toInt, (vi 99).toInt, (vi 100).toInt, (vi 101).toInt, (vi 102).toInt, (vi 103).toInt, (vi 104).toInt, (vi 105).toInt, (vi 106).toInt, (vi 107).toInt, (vi 108).toInt, (vi 109).toInt, (vi 110).toInt, (vi 111).toInt, (vi 112).toInt, (vi 113).toInt, (vi 114).toInt, (vi 115).toInt, (vi 116).toInt, (vi 117).toInt, (vi 118).toInt, (vi 119).toInt, (vi 120).toInt, (vi 121).toInt, (vi 122).toInt, (vi 123).toInt, (vi 124).toInt, (vi 125).toInt, (vi 126).toInt, (vi 127).toInt, (vi 128).toInt, (vi 129).toInt, (vi 130).toInt, (vi 131).toInt, (vi 132).toInt, (vi 133).toInt, (vi 134).toInt, (vi 135).toInt, (vi 136).toInt]) k = lr_g3 vi k := (congrFun (show (fl_nI [(vi 57).toInt, (vi 58).toInt, (vi 59).toInt, (vi 60).toInt, (vi 61).toInt, (vi 62).toInt, (vi 63).toInt, (vi 64).toInt, (vi 65).toInt, (vi 66).toInt, (vi 67).toInt, (vi 68).toInt, (vi 69).toInt, (vi 70).toInt, (vi 71).toInt, (vi 72).toInt, (vi 73).toInt, (vi 74).toInt, (vi 75).toInt, (vi 76).toInt, (vi 77).toInt, (vi 78).toInt, (vi 79).toInt, (vi 80).toInt, (vi 81).toInt, (vi 82).toInt, (vi 83).toInt, (vi 84).toInt, (vi 85).toInt, (vi 86).toInt, (vi 87).toInt, (vi 88).toInt, (vi 89).toInt, (vi 90).toInt, (vi 91).toInt, (vi 92).toInt, (vi 93).toInt, (vi 94).toInt, (vi 95).toInt, (vi 96).toInt, (vi 97).toInt, (vi 98).toInt, (vi 99).toInt, (vi 100).toInt, (vi 101).toInt, (vi 102).toInt, (vi 103).toInt, (vi 104).toInt, (vi 105).toInt, (vi 106).toInt, (vi 107).toInt, (vi 108).toInt, (vi 109).toInt, (vi 110).toInt, (vi 111).toInt, (vi 112).toInt, (vi 113).toInt, (vi 114).toInt, (vi 115).toInt, (vi 116).toInt, (vi 117).toInt, (vi 118).toInt, (vi 119).toInt, (vi 120).toInt, (vi 121).toInt, (vi 122).toInt, (vi 123).toInt, (vi 124).toInt, (vi 125).toInt, (vi 126).toInt, (vi 127).toInt, (vi 128).toInt, (vi 129).toInt, (vi 130).toInt, (vi 131).toInt, (vi 132).toInt, (vi 133).toInt, (vi 134).toInt, (vi 135).toInt, (vi 136).toInt]) = fl_nI ((List.range 80).map (fun k => (vi (57 + k)).toInt)) from rfl) k).trans (fl_nI_r _ h)
set_option maxRecDepth 100000 in
theorem lr_f3e (vi : Nat → Nat → Int32) {k : Nat} (h : k < 32) : (fl_nF [(fl_A (vi 23)), (fl_A (vi 24)), (fl_A (vi 25)), (fl_A (vi 26)), (fl_A (vi 27)), (fl_A (vi 28)), (fl_A (vi 29)), (fl_A (vi 30)), (fl_A (vi 31)), (fl_A (vi 32)), (fl_A (vi 33)), (fl_A (vi 34)), (fl_A (vi 35)), (fl_A (vi 36)), (fl_A (vi 37)), (fl_A (vi 38)), (fl_A (vi 39)), (fl_A (vi 40)), (fl_A (vi 41)), (fl_A (vi 42)), (fl_A (vi 43)), (fl_A (vi 44)), (fl_A (vi 45)), (fl_A (vi 46)), (fl_A (vi 47)), (fl_A (vi 48)), (fl_A (vi 49)), (fl_A (vi 50)), (fl_A (vi 51)), (fl_A (vi 52)), (fl_A (vi 53)), (fl_A (vi 54))]) k = lr_f3 vi k := (congrFun (show (fl_nF [(fl_A (vi 23)), (fl_A (vi 24)), (fl_A (vi 25)), (fl_A (vi 26)), (fl_A (vi 27)), (fl_A (vi 28)), (fl_A (vi 29)), (fl_A (vi 30)), (fl_A (vi 31)), (fl_A (vi 32)), (fl_A (vi 33)), (fl_A (vi 34)), (fl_A (vi 35)), (fl_A (vi 36)), (fl_A (vi 37)), (fl_A (vi 38)), (fl_A (vi 39)), (fl_A (vi 40)), (fl_A (vi 41)), (fl_A (vi 42)), (fl_A (vi 43)), (fl_A (vi 44)), (fl_A (vi 45)), (fl_A (vi 46)), (fl_A (vi 47)), (fl_A (vi 48)), (fl_A (vi 49)), (fl_A (vi 50)), (fl_A (vi 51)), (fl_A (vi 52)), (fl_A (vi 53)), (fl_A (vi 54))]) = fl_nF ((List.range 32).map (fun k => fl_A (vi (23 + k)))) from rfl) k).trans (fl_nF_r _ h)
set_option maxRecDepth 100000 in
theorem lr_g4e (vi : Nat → Int32) {k : Nat} (h : k < 15) : (fl_nI [(vi 137).toInt, (vi 138).toInt, (vi 139).toInt, (vi 140).toInt, (vi 141).toInt, (vi 142).toInt, (vi 143).toInt, (vi 144).toInt, (vi 145).toInt, (vi 146).toInt, (vi 147).toInt, (vi 148).toInt, (vi 149).toInt, (vi 150).toInt, (vi 151).toInt]) k = lr_g4 vi k := (congrFun (show (fl_nI [(vi 137).toInt, (vi 138).toInt, (vi 139).toInt, (vi 140).toInt, (vi 141).toInt, (vi 142).toInt, (vi 143).toInt, (vi 144).toInt, (vi 145).toInt, (vi 146).toInt, (vi 147).toInt, (vi 148).toInt, (vi 149).toInt, (vi 150).toInt, (vi 151).toInt]) = fl_nI ((List.range 15).map (fun k => (vi (137 + k)).toInt)) from rfl) k).trans (fl_nI_r _ h)
set_option maxRecDepth 100000 in
theorem lr_f4e (vi : Nat → Nat → Int32) {k : Nat} (h : k < 6) : (fl_nF [(fl_A (vi 55)), (fl_A (vi 56)), (fl_A (vi 57)), (fl_A (vi 58)), (fl_A (vi 59)), (fl_A (vi 60))]) k = lr_f4 vi k := (congrFun (show (fl_nF [(fl_A (vi 55)), (fl_A (vi 56)), (fl_A (vi 57)), (fl_A (vi 58)), (fl_A (vi 59)), (fl_A (vi 60))]) = fl_nF ((List.range 6).map (fun k => fl_A (vi (55 + k)))) from rfl) k).trans (fl_nF_r _ h)
end RSG
end P092249606_rs7
section P09403_rel
section REL
/-- the halls alike: none, here and there, or what was told, here and there -/
def lr_H (vi : Nat → Int32) (vf : Nat → Nat → Int32) (vm : Nat → Int32) (vn : Nat → Nat → Int32) : Prop := (vm 11 = 0 ∧ vi 33 = 0 ∧ vi 34 = 0 ∧ vi 35 = 0 ∧ vi 36 = 0 ∧ vi 38 = 0 ∧ vi 39 = 0 ∧ vi 40 = 0 ∧ vi 41 = 0 ∧ vi 42 = 0 ∧ vi 53 = 0) ∨ (vm 11 = 1 ∧ (2 ≤ (vi 33).toInt ∧ (vi 33).toInt ≤ 9 ∧ (vi 37).toInt = 1) ∧ rp_Dh (vi 33).toInt (vi 34).toInt (vi 35).toInt (vi 36).toInt (vi 37).toInt (vi 38).toInt (vi 39).toInt (vi 40).toInt (fl_A (vn 2)) ∧ rp_Df (vi 41).toInt (fl_A (vf 11)) (fl_A (vf 12)) (fl_A (vn 2)) ∧ rp_Dw (vi 53).toInt (fl_A (vf 19)) (fl_A (vf 20)) (fl_A (vn 2)) ∧ rp_Ds (vi 42).toInt (fl_A (vf 13)) (fl_A (vf 14)) (fl_A (vn 2)))
/-- scenes alike: now, what can be undone, images -/
def lr_V (vi : Nat → Int32) (vf : Nat → Nat → Int32) (vm : Nat → Int32) (vn : Nat → Nat → Int32) : Prop := (vi 54 = 0 ∧ vi 56 = 0) ∧ ((vm 11 = 0 ∧ vi 12 = 0 ∧ vi 24 = 0 ∧ vi 25 = 0 ∧ vm 12 = 0 ∧ vm 13 = 0) ∨ (vm 11 = 1 ∧ rs_S (vi 33).toInt (vi 34).toInt (fl_A (vf 11)) (vi 12).toInt (vi 13).toInt (vi 14).toInt (vi 15).toInt (vi 16).toInt (fl_A (vf 1)) (fl_A (vf 2)) (fl_A (vn 4)) ∧ (vi 12).toInt ≤ 9999 ∧ (vi 24).toInt = (vm 12).toInt ∧ (vi 25).toInt = (vm 13).toInt ∧ rs_H (vi 33).toInt (vi 34).toInt (fl_A (vf 11)) (vi 24).toInt (vi 26).toInt (lr_g3 vi) (lr_f3 vf) (fl_A (vn 6)) ∧ rs_I (vi 33).toInt (vi 34).toInt (fl_A (vf 11)) (vi 25).toInt (lr_g4 vi) (lr_f4 vf) (fl_A (vn 7))))
/-- all but the tapes -/
def lr_Q (vi : Nat → Int32) (vf : Nat → Nat → Int32) (vm : Nat → Int32) (vn : Nat → Nat → Int32) : Prop := (vi 1).toInt = (vm 7).toInt ∧ lr_H vi vf vm vn ∧ lr_V vi vf vm vn
def lr_R (tp : Int32) (vi : Nat → Int32) (vf : Nat → Nat → Int32) (vm : Nat → Int32) (vn : Nat → Nat → Int32) : Prop := rp_T (fl_A (vf 0)) (fl_A (vn 0)) tp.toInt ∧ lr_Q vi vf vm vn
theorem rs_b0 : ∀ k : Fin 9, Ff_X7_hasBit 0 (k.val : Int) = 0 := by decide +kernel
theorem lr_H_keep {vi vi1 vm vm1 : Nat → Int32} {vf vf1 vn vn1 : Nat → Nat → Int32} (i33 : vi1 33 = vi 33) (i34 : vi1 34 = vi 34) (i35 : vi1 35 = vi 35) (i36 : vi1 36 = vi 36) (i37 : vi1 37 = vi 37) (i38 : vi1 38 = vi 38) (i39 : vi1 39 = vi 39) (i40 : vi1 40 = vi 40) (i41 : vi1 41 = vi 41) (i42 : vi1 42 = vi 42) (i53 : vi1 53 = vi 53) (f11 : vf1 11 = vf 11) (f12 : vf1 12 = vf 12) (f13 : vf1 13 = vf 13) (f14 : vf1 14 = vf 14) (f19 : vf1 19 = vf 19) (f20 : vf1 20 = vf 20) (m11 : vm1 11 = vm 11) (n2 : fl_A (vn1 2) = fl_A (vn 2)) (h : lr_H vi vf vm vn) : lr_H vi1 vf1 vm1 vn1 := by
  unfold lr_H at h ⊢
  rw [i33, i34, i35, i36, i37, i38, i39, i40, i41, i42, i53, f11, f12, f13, f14, f19, f20, m11, n2]
  exact h
theorem lr_keep {vi vi1 vm vm1 : Nat → Int32} {vf vf1 vn vn1 : Nat → Nat → Int32} (ki : ∀ k : Nat, k ∈ ([1, 33, 34, 35, 36, 37, 38, 39, 40, 41, 42, 53, 12, 13, 14, 15, 16, 24, 25, 26, 54, 56] : List Nat) → vi1 k = vi k) (kj : ∀ k : Nat, 57 ≤ k → k < 152 → vi1 k = vi k) (kf : ∀ k : Nat, k ∈ ([11, 12, 13, 14, 19, 20, 1, 2] : List Nat) → vf1 k = vf k) (kg : ∀ k : Nat, 23 ≤ k → k < 61 → vf1 k = vf k) (km : ∀ k : Nat, k ∈ ([7, 11, 12, 13] : List Nat) → vm1 k = vm k) (kn : ∀ k : Nat, k ∈ ([2, 4, 6, 7] : List Nat) → vn1 k = vn k) (h : lr_Q vi vf vm vn) : lr_Q vi1 vf1 vm1 vn1 := by
  obtain ⟨h1, h2, h3, h4⟩ := h
  refine ⟨by rw [ki 1 (by decide), km 7 (by decide)]; exact h1, lr_H_keep (ki 33 (by decide)) (ki 34 (by decide)) (ki 35 (by decide)) (ki 36 (by decide)) (ki 37 (by decide)) (ki 38 (by decide)) (ki 39 (by decide)) (ki 40 (by decide)) (ki 41 (by decide)) (ki 42 (by decide)) (ki 53 (by decide)) (kf 11 (by decide)) (kf 12 (by decide)) (kf 13 (by decide)) (kf 14 (by decide)) (kf 19 (by decide)) (kf 20 (by decide)) (km 11 (by decide)) (by rw [kn 2 (by decide)]) h2, ⟨by rw [ki 54 (by decide)]; exact h3.1, by rw [ki 56 (by decide)]; exact h3.2⟩, ?_⟩
  rw [km 11 (by decide), km 12 (by decide), km 13 (by decide), ki 12 (by decide), ki 13 (by decide), ki 14 (by decide), ki 15 (by decide), ki 16 (by decide), ki 24 (by decide), ki 25 (by decide), ki 26 (by decide), ki 33 (by decide), ki 34 (by decide), kf 1 (by decide), kf 2 (by decide), kf 11 (by decide), kn 4 (by decide), kn 6 (by decide), kn 7 (by decide)]
  rcases h4 with h4 | ⟨a, b, c, d, e, f, g⟩
  · exact Or.inl h4
  · exact Or.inr ⟨a, b, c, d, e, rs_H_cg (fun k h9 => by show (vi1 (57 + k)).toInt = (vi (57 + k)).toInt; rw [kj (57 + k) (by omega) (by omega)]) (fun k h9 => by show fl_A (vf1 (23 + k)) = fl_A (vf (23 + k)); rw [kg (23 + k) (by omega) (by omega)]) f, rs_I_cg (fun k h9 => by show (vi1 (137 + k)).toInt = (vi (137 + k)).toInt; rw [kj (137 + k) (by omega) (by omega)]) (fun k h9 => by show fl_A (vf1 (55 + k)) = fl_A (vf (55 + k)); rw [kg (55 + k) (by omega) (by omega)]) g⟩
theorem lr_D_cg {fg sp sa sh lw ti pu fi tb sc wc : Int} {kd me sf sm wf wt fr fr' : Nat → Int} (q : ∀ i : Nat, i < 156 → fr' i = fr i) (h : rp_Dh fg sp sa sh lw ti pu fi fr ∧ rp_Df tb kd me fr ∧ rp_Dw wc wf wt fr ∧ rp_Ds sc sf sm fr) : rp_Dh fg sp sa sh lw ti pu fi fr' ∧ rp_Df tb kd me fr' ∧ rp_Dw wc wf wt fr' ∧ rp_Ds sc sf sm fr' := by
  obtain ⟨h1, h2, h3, h4⟩ := h
  refine ⟨?_, rp_Df_cg h2 (fun i hi => q i (by omega)), rp_Dw_cg h3 (fun i hi => q i (by omega)), rp_Ds_cg h4 (fun i hi => q i (by omega))⟩
  unfold rp_Dh at h1 ⊢
  rw [q 0 (by decide), q 1 (by decide), q 2 (by decide), q 3 (by decide), q 4 (by decide), q 5 (by decide), q 6 (by decide), q 7 (by decide), q 8 (by decide), q 9 (by decide), q 10 (by decide), q 11 (by decide)]
  exact h1
theorem lr_cpy {f g : Nat → Int} (i : Nat) (h : i < 156) : va_cpy f g 0 0 156 i = f i := by
  unfold va_cpy
  rw [if_pos (by omega)]
  congr 1
  omega
theorem lr_init : lr_R 0 (ux (fun _ => 0) [(2, -1)]) (fun _ _ => 0) (ux (fun _ => 0) [(8, -1)]) (fun _ _ => 0) := by
  refine ⟨fun i9 h9 => absurd h9 (by have h8 : (0 : Int32).toInt = 0 := (by decide); omega), rfl, Or.inl ⟨rfl, rfl, rfl, rfl, rfl, rfl, rfl, rfl, rfl, rfl, rfl⟩, ⟨rfl, rfl⟩, Or.inl ⟨rfl, rfl, rfl, rfl, rfl, rfl⟩⟩
theorem rp_bg0 (f : Int) (a b : Nat → Int) : Sf_X5_begin_17_1 f 0 a b = .inl (1, fl_up a 0 0, fl_up b 0 0) := rfl
theorem rp_bg1 (f : Int) (a b : Nat → Int) : Sf_X5_begin_17_1 f 1 a b = .inl (2, fl_up a 1 1, fl_up b 1 0) := rfl
theorem rp_bg2 (f : Int) (a b : Nat → Int) : Sf_X5_begin_17_1 f 2 a b = .inl (3, fl_up a 2 2, fl_up b 2 0) := rfl
theorem rp_bg3 (f : Int) (a b : Nat → Int) : Sf_X5_begin_17_1 f 3 a b = .inl (4, fl_up a 3 3, fl_up b 3 0) := rfl
theorem rp_bg4 (f : Int) (a b : Nat → Int) : Sf_X5_begin_17_1 f 4 a b = .inl (5, fl_up a 4 4, fl_up b 4 0) := rfl
theorem rp_bg5 (f : Int) (a b : Nat → Int) : Sf_X5_begin_17_1 f 5 a b = .inl (6, fl_up a 5 5, fl_up b 5 0) := rfl
theorem rp_bg6 (f : Int) (a b : Nat → Int) : Sf_X5_begin_17_1 f 6 a b = .inl (7, fl_up a 6 6, fl_up b 6 0) := rfl
theorem rp_bg7 (f : Int) (a b : Nat → Int) : Sf_X5_begin_17_1 f 7 a b = .inl (8, fl_up a 7 7, fl_up b 7 0) := rfl
theorem rp_bg8 (f : Int) (a b : Nat → Int) : Sf_X5_begin_17_1 f 8 a b = .inl (9, fl_up a 8 8, fl_up b 8 0) := rfl
theorem rp_begin (f : Int) (a b : Nat → Int) : ∃ pl he, Ff_X5_begin f a b = (0, f, 0, 0, 0, pl, he) ∧ ∀ k : Nat, k < 9 → pl k = (k : Int) ∧ he k = 0 := by
  refine ⟨(fl_up (fl_up (fl_up (fl_up (fl_up (fl_up (fl_up (fl_up (fl_up a 0 0) 1 1) 2 2) 3 3) 4 4) 5 5) 6 6) 7 7) 8 8), (fl_up (fl_up (fl_up (fl_up (fl_up (fl_up (fl_up (fl_up (fl_up b 0 0) 1 0) 2 0) 3 0) 4 0) 5 0) 6 0) 7 0) 8 0), ?_, ?_⟩
  · unfold Ff_X5_begin
    rw [fl_wh_l (step := (fun t9 : Int × (Nat → Int) × (Nat → Int) => Sf_X5_begin_17_1 f t9.1 t9.2.1 t9.2.2)) (rp_bg0 f _ _)]
    rw [fl_wh_l (step := (fun t9 : Int × (Nat → Int) × (Nat → Int) => Sf_X5_begin_17_1 f t9.1 t9.2.1 t9.2.2)) (rp_bg1 f _ _)]
    rw [fl_wh_l (step := (fun t9 : Int × (Nat → Int) × (Nat → Int) => Sf_X5_begin_17_1 f t9.1 t9.2.1 t9.2.2)) (rp_bg2 f _ _)]
    rw [fl_wh_l (step := (fun t9 : Int × (Nat → Int) × (Nat → Int) => Sf_X5_begin_17_1 f t9.1 t9.2.1 t9.2.2)) (rp_bg3 f _ _)]
    rw [fl_wh_l (step := (fun t9 : Int × (Nat → Int) × (Nat → Int) => Sf_X5_begin_17_1 f t9.1 t9.2.1 t9.2.2)) (rp_bg4 f _ _)]
    rw [fl_wh_l (step := (fun t9 : Int × (Nat → Int) × (Nat → Int) => Sf_X5_begin_17_1 f t9.1 t9.2.1 t9.2.2)) (rp_bg5 f _ _)]
    rw [fl_wh_l (step := (fun t9 : Int × (Nat → Int) × (Nat → Int) => Sf_X5_begin_17_1 f t9.1 t9.2.1 t9.2.2)) (rp_bg6 f _ _)]
    rw [fl_wh_l (step := (fun t9 : Int × (Nat → Int) × (Nat → Int) => Sf_X5_begin_17_1 f t9.1 t9.2.1 t9.2.2)) (rp_bg7 f _ _)]
    rw [fl_wh_l (step := (fun t9 : Int × (Nat → Int) × (Nat → Int) => Sf_X5_begin_17_1 f t9.1 t9.2.1 t9.2.2)) (rp_bg8 f _ _)]
    exact fl_wh_r (step := (fun t9 : Int × (Nat → Int) × (Nat → Int) => Sf_X5_begin_17_1 f t9.1 t9.2.1 t9.2.2)) (s := (9, (fl_up (fl_up (fl_up (fl_up (fl_up (fl_up (fl_up (fl_up (fl_up a 0 0) 1 1) 2 2) 3 3) 4 4) 5 5) 6 6) 7 7) 8 8), (fl_up (fl_up (fl_up (fl_up (fl_up (fl_up (fl_up (fl_up (fl_up b 0 0) 1 0) 2 0) 3 0) 4 0) 5 0) 6 0) 7 0) 8 0))) rfl
  · intro k hk
    have h : k = 0 ∨ k = 1 ∨ k = 2 ∨ k = 3 ∨ k = 4 ∨ k = 5 ∨ k = 6 ∨ k = 7 ∨ k = 8 := by omega
    rcases h with h | h | h | h | h | h | h | h | h <;> (subst h; exact ⟨rfl, rfl⟩)
/-- the halls as minutes want them -/
theorem lr_G {vi vm : Nat → Int32} {vf vn : Nat → Nat → Int32} (hH : lr_H vi vf vm vn) (h1 : vm 11 = 1) (hr : ((∀ k : Nat, 0 ≤ k → k ≤ 0 → (2 : Int) ≤ ((vn 2) k).toInt ∧ ((vn 2) k).toInt ≤ 9) ∧ (∀ k : Nat, 1 ≤ k → k ≤ 1 → (1 : Int) ≤ ((vn 2) k).toInt ∧ ((vn 2) k).toInt ≤ 20) ∧ (∀ k : Nat, 2 ≤ k → k ≤ 2 → (0 : Int) ≤ ((vn 2) k).toInt ∧ ((vn 2) k).toInt ≤ 8) ∧ (∀ k : Nat, 3 ≤ k → k ≤ 3 → (0 : Int) ≤ ((vn 2) k).toInt ∧ ((vn 2) k).toInt ≤ 100) ∧ (∀ k : Nat, 4 ≤ k → k ≤ 4 → (0 : Int) ≤ ((vn 2) k).toInt ∧ ((vn 2) k).toInt ≤ 9) ∧ (∀ k : Nat, 5 ≤ k → k ≤ 5 → (0 : Int) ≤ ((vn 2) k).toInt ∧ ((vn 2) k).toInt ≤ 3) ∧ (∀ k : Nat, 6 ≤ k → k ≤ 6 → (0 : Int) ≤ ((vn 2) k).toInt ∧ ((vn 2) k).toInt ≤ 6) ∧ (∀ k : Nat, 7 ≤ k → k ≤ 9 → (0 : Int) ≤ ((vn 2) k).toInt ∧ ((vn 2) k).toInt ≤ 8) ∧ (∀ k : Nat, 12 ≤ k → k ≤ 29 → (0 : Int) ≤ ((vn 2) k).toInt ∧ ((vn 2) k).toInt ≤ 20) ∧ (∀ k : Nat, 30 ≤ k → k ≤ 35 → (0 : Int) ≤ ((vn 2) k).toInt ∧ ((vn 2) k).toInt ≤ 8) ∧ (∀ k : Nat, 36 ≤ k → k ≤ 47 → (0 : Int) ≤ ((vn 2) k).toInt ∧ ((vn 2) k).toInt ≤ 999))) (hk : ((∀ (j i0 i : Int32), (0 : Int) ≤ j.toInt → j.toInt ≤ 8 → i0.toInt = 12 + 2 * j.toInt → i.toInt = 13 + 2 * j.toInt → ((vn 2) i0.toNatClampNeg).toInt = (1 : Int32).toInt → (1 : Int) ≤ ((vn 2) i.toNatClampNeg).toInt))) : rs_G (vi 33).toInt (vi 34).toInt (vi 35).toInt (vi 38).toInt (vi 39).toInt (fl_A (vf 11)) (fl_A (vf 12)) (fl_A (vn 2)) ∧ (vi 54 = 0 → rs_D (vi 53).toInt (vi 54).toInt (fl_A (vf 19)) (fl_A (vf 20)) (fl_A (vn 2))) ∧ (0 ≤ (vi 40).toInt ∧ (vi 40).toInt < (vi 33).toInt) := by
  rcases hH with ⟨z, -⟩ | ⟨-, ⟨f2, f9, f37⟩, ⟨⟨d1, d2, d3, d4⟩, d5, d6, d7⟩, ⟨e1, e2, e3, -⟩, ⟨w1, w2, w3, w4⟩, -⟩
  · rw [z] at h1; exact absurd h1 (by decide)
  obtain ⟨g7, g8, g9, g10⟩ := d7 f37
  have d11 : fl_A (vn 2) 11 = 1 := by
    rcases d2 with q | q
    · have := d3 q; omega
    · exact q
  obtain ⟨-, -, s1, s2, s3⟩ := d4 d11
  obtain ⟨r0, r1, r2, r3, r4, r5, r6, r7, r12, r30, r36⟩ := hr
  have rng : ∀ k : Nat, k < 9 → 0 ≤ fl_A (vn 2) (13 + 2 * k) ∧ fl_A (vn 2) (13 + 2 * k) ≤ 20 := fun k hk' => r12 (13 + 2 * k) (by omega) (by omega)
  have hkd : ∀ k : Nat, k < 9 → fl_A (vn 2) (12 + 2 * k) = 1 → 1 ≤ fl_A (vn 2) (13 + 2 * k) := by
    intro k hk' h9
    have a1 : (Int32.ofNat k).toInt = (k : Int) := by rw [Int32.toInt_ofNat_of_lt (by omega)]
    have a2 : (Int32.ofNat (12 + 2 * k)).toInt = 12 + 2 * (k : Int) := by rw [Int32.toInt_ofNat_of_lt (by omega)]; omega
    have a3 : (Int32.ofNat (13 + 2 * k)).toInt = 13 + 2 * (k : Int) := by rw [Int32.toInt_ofNat_of_lt (by omega)]; omega
    have b2 : (Int32.ofNat (12 + 2 * k)).toNatClampNeg = 12 + 2 * k := by show (Int32.ofNat (12 + 2 * k)).toInt.toNat = _; rw [a2]; omega
    have b3 : (Int32.ofNat (13 + 2 * k)).toNatClampNeg = 13 + 2 * k := by show (Int32.ofNat (13 + 2 * k)).toInt.toNat = _; rw [a3]; omega
    have q := hk (Int32.ofNat k) (Int32.ofNat (12 + 2 * k)) (Int32.ofNat (13 + 2 * k)) (by omega) (by omega) (by omega) (by omega) (by rw [b2]; exact h9.trans (by decide))
    rw [b3] at q
    exact q
  refine ⟨⟨⟨d1, f2, f9⟩, ⟨s1, ?_, ?_⟩, ⟨s2, ?_, ?_⟩, ⟨g7, ?_, ?_⟩, ⟨g8, ?_, ?_⟩, fun k hk' => ?_⟩, fun hp => ⟨w1, w2, w3, by rw [hp]; decide, fun w hw => ?_⟩, g10.1, by omega⟩
  · rw [s1]; exact (r1 1 (by decide) (by decide)).1
  · rw [s1]; exact (r1 1 (by decide) (by decide)).2
  · rw [s2]; exact (r2 2 (by decide) (by decide)).1
  · rw [s2]; exact (r2 2 (by decide) (by decide)).2
  · rw [g7]; exact (r7 7 (by decide) (by decide)).1
  · rw [g7]; exact (r7 7 (by decide) (by decide)).2
  · rw [g8]; exact (r7 8 (by decide) (by decide)).1
  · rw [g8]; exact (r7 8 (by decide) (by decide)).2
  · obtain ⟨q1, q2, -⟩ := e3 k hk'
    rw [q1, q2]
    exact ⟨rfl, rfl, (rng k hk').1, (rng k hk').2, hkd k hk'⟩
  · obtain ⟨q1, q2⟩ := w4 w hw
    exact ⟨q1, q2, r30 (30 + 2 * w) (by omega) (by omega), r30 (31 + 2 * w) (by omega) (by omega)⟩
end REL
end P09403_rel
section P094031_rel
section RELG
theorem lr_gal {tp tp9 tpm : Int32} {vi vi1 vm vm1 : Nat → Int32} {vf vf1 vn vn1 : Nat → Nat → Int32} (hR : lr_R tp vi vf vm vn) (h0 : 0 ≤ tp.toInt) (h9 : tp.toInt ≤ 900) (n : Int32) (kx1 : (∀ k9 : Nat, k9 ∉ ([0, 1, 2, 3, 4, 5, 6, 7, 8, 9, 10, 11, 12, 13, 14, 15, 16, 24, 25, 30, 31, 33, 34, 35, 36, 37, 38, 39, 40, 41, 42, 43, 44, 45, 46, 47, 48, 49, 50, 51, 52, 53, 54, 55, 56] : List Nat) → vi1 k9 = vi k9)) (kx2 : (∀ k9 : Nat, k9 ∉ ([1, 2, 11, 12, 13, 14, 15, 16, 17, 18, 19, 20, 21, 22] : List Nat) → vf1 k9 = vf k9)) (km1 : (∀ k9 : Nat, k9 ∉ ([0, 1, 2, 3, 4, 5, 6, 7, 8, 9, 10, 11, 12, 13] : List Nat) → vm1 k9 = vm k9)) (km2 : (∀ k9 : Nat, k9 ∉ ([1, 2, 3, 4] : List Nat) → vn1 k9 = vn k9)) (hM : vm1 11 = 0 ∨ (vm1 11 = 1 ∧ ((∀ k : Nat, 0 ≤ k → k ≤ 0 → (2 : Int) ≤ ((vn1 2) k).toInt ∧ ((vn1 2) k).toInt ≤ 9) ∧ (∀ k : Nat, 1 ≤ k → k ≤ 1 → (1 : Int) ≤ ((vn1 2) k).toInt ∧ ((vn1 2) k).toInt ≤ 20) ∧ (∀ k : Nat, 2 ≤ k → k ≤ 2 → (0 : Int) ≤ ((vn1 2) k).toInt ∧ ((vn1 2) k).toInt ≤ 8) ∧ (∀ k : Nat, 3 ≤ k → k ≤ 3 → (0 : Int) ≤ ((vn1 2) k).toInt ∧ ((vn1 2) k).toInt ≤ 100) ∧ (∀ k : Nat, 4 ≤ k → k ≤ 4 → (0 : Int) ≤ ((vn1 2) k).toInt ∧ ((vn1 2) k).toInt ≤ 9) ∧ (∀ k : Nat, 5 ≤ k → k ≤ 5 → (0 : Int) ≤ ((vn1 2) k).toInt ∧ ((vn1 2) k).toInt ≤ 3) ∧ (∀ k : Nat, 6 ≤ k → k ≤ 6 → (0 : Int) ≤ ((vn1 2) k).toInt ∧ ((vn1 2) k).toInt ≤ 6) ∧ (∀ k : Nat, 7 ≤ k → k ≤ 9 → (0 : Int) ≤ ((vn1 2) k).toInt ∧ ((vn1 2) k).toInt ≤ 8) ∧ (∀ k : Nat, 12 ≤ k → k ≤ 29 → (0 : Int) ≤ ((vn1 2) k).toInt ∧ ((vn1 2) k).toInt ≤ 20) ∧ (∀ k : Nat, 30 ≤ k → k ≤ 35 → (0 : Int) ≤ ((vn1 2) k).toInt ∧ ((vn1 2) k).toInt ≤ 8) ∧ (∀ k : Nat, 36 ≤ k → k ≤ 47 → (0 : Int) ≤ ((vn1 2) k).toInt ∧ ((vn1 2) k).toInt ≤ 999)) ∧ ((∀ (j i0 i : Int32), (0 : Int) ≤ j.toInt → j.toInt ≤ 8 → i0.toInt = 12 + 2 * j.toInt → i.toInt = 13 + 2 * j.toInt → ((vn1 2) i0.toNatClampNeg).toInt = (1 : Int32).toInt → (1 : Int) ≤ ((vn1 2) i.toNatClampNeg).toInt)))) (hL : 0 ≤ (vi1 26).toInt ∧ (vi1 26).toInt ≤ 15) (gx : (∃ (vl : Int64) (fl : Nat → Int64) (vl9 : Int64) (fl9 : Nat → Int64), ((Ff_X7_gallery n.toInt (vi 1).toInt (vi 2).toInt tp.toInt (vi 3).toInt (vi 4).toInt (vi 5).toInt (vi 6).toInt (vi 7).toInt (vi 8).toInt (vi 9).toInt vl.toInt (vi 10).toInt (vi 11).toInt (vi 43).toInt (vi 44).toInt (vi 45).toInt (vi 46).toInt (vi 47).toInt (vi 48).toInt (vi 49).toInt (vi 50).toInt (vi 51).toInt (vi 52).toInt (vi 55).toInt (fl_A (vf 15)) (fl_A (vf 16)) (fl_A (vf 0)) (fl_L fl) (fl_A (vf 21)) (fl_A (vf 22)) (fl_A (vf 18)) (fl_A (vf 17)) (vi 12).toInt (vi 13).toInt (vi 14).toInt (vi 15).toInt (vi 16).toInt (fl_A (vf 1)) (fl_A (vf 2)) (vi 24).toInt (vi 25).toInt (vi 30).toInt (vi 31).toInt).2 = ((vi1 0).toInt, (vi1 1).toInt, (vi1 2).toInt, tp9.toInt, (vi1 3).toInt, (vi1 4).toInt, (vi1 5).toInt, (vi1 6).toInt, (vi1 7).toInt, (vi1 8).toInt, (vi1 9).toInt, vl9.toInt, (vi1 10).toInt, (vi1 11).toInt, (vi1 33).toInt, (vi1 34).toInt, (vi1 35).toInt, (vi1 36).toInt, (vi1 37).toInt, (vi1 38).toInt, (vi1 39).toInt, (vi1 40).toInt, (vi1 41).toInt, (vi1 42).toInt, (vi1 53).toInt, fl_A (vf1 11), fl_A (vf1 12), fl_L fl9, fl_A (vf1 19), fl_A (vf1 20), fl_A (vf1 14), fl_A (vf1 13), (vi1 12).toInt, (vi1 13).toInt, (vi1 14).toInt, (vi1 15).toInt, (vi1 16).toInt, fl_A (vf1 1), fl_A (vf1 2), (vi1 24).toInt, (vi1 25).toInt, (vi1 30).toInt, (vi1 31).toInt, 0) ∧ vi1 54 = vi 56 ∧ vi1 56 = vi 54) ∨ ((Ff_X7_gallery n.toInt (vi 1).toInt (vi 2).toInt tp.toInt (vi 3).toInt (vi 4).toInt (vi 5).toInt (vi 6).toInt (vi 7).toInt (vi 8).toInt (vi 9).toInt vl.toInt (vi 10).toInt (vi 11).toInt (vi 43).toInt (vi 44).toInt (vi 45).toInt (vi 46).toInt (vi 47).toInt (vi 48).toInt (vi 49).toInt (vi 50).toInt (vi 51).toInt (vi 52).toInt (vi 55).toInt (fl_A (vf 15)) (fl_A (vf 16)) (fl_A (vf 0)) (fl_L fl) (fl_A (vf 21)) (fl_A (vf 22)) (fl_A (vf 18)) (fl_A (vf 17)) (vi 12).toInt (vi 13).toInt (vi 14).toInt (vi 15).toInt (vi 16).toInt (fl_A (vf 1)) (fl_A (vf 2)) (vi 24).toInt (vi 25).toInt (vi 30).toInt (vi 31).toInt).2 = ((vi1 0).toInt, (vi1 1).toInt, (vi1 2).toInt, tp9.toInt, (vi1 3).toInt, (vi1 4).toInt, (vi1 5).toInt, (vi1 6).toInt, (vi1 7).toInt, (vi1 8).toInt, (vi1 9).toInt, vl9.toInt, (vi1 10).toInt, (vi1 11).toInt, (vi1 43).toInt, (vi1 44).toInt, (vi1 45).toInt, (vi1 46).toInt, (vi1 47).toInt, (vi1 48).toInt, (vi1 49).toInt, (vi1 50).toInt, (vi1 51).toInt, (vi1 52).toInt, (vi1 55).toInt, fl_A (vf1 15), fl_A (vf1 16), fl_L fl9, fl_A (vf1 21), fl_A (vf1 22), fl_A (vf1 18), fl_A (vf1 17), (vi1 12).toInt, (vi1 13).toInt, (vi1 14).toInt, (vi1 15).toInt, (vi1 16).toInt, fl_A (vf1 1), fl_A (vf1 2), (vi1 24).toInt, (vi1 25).toInt, (vi1 30).toInt, (vi1 31).toInt, 1) ∧ (∀ k9 : Nat, k9 ∈ ([33, 34, 35, 36, 37, 38, 39, 40, 41, 42, 53, 54] : List Nat) → vi1 k9 = vi k9) ∧ (∀ k9 : Nat, k9 ∈ ([11, 12, 13, 14, 19, 20] : List Nat) → vf1 k9 = vf k9) ∧ vi1 56 = vi 56))) (gm : ((Ff_X8_gallery n.toInt tp.toInt (vm 1).toInt (vm 2).toInt (vm 3).toInt (vm 4).toInt (vm 5).toInt (vm 6).toInt (vm 7).toInt (vm 8).toInt (vm 10).toInt (vm 11).toInt (vm 12).toInt (vm 13).toInt (fl_A (vn 3)) (fl_A (vn 0)) (fl_A (vn 1)) (fl_A (vn 2)) (fl_A (vn 4))).2 = ((vm1 0).toInt, tpm.toInt, (vm1 1).toInt, (vm1 2).toInt, (vm1 3).toInt, (vm1 4).toInt, (vm1 5).toInt, (vm1 6).toInt, (vm1 7).toInt, (vm1 8).toInt, (vm1 9).toInt, (vm1 10).toInt, (vm1 11).toInt, (vm1 12).toInt, (vm1 13).toInt, fl_A (vn1 3), fl_A (vn1 1), fl_A (vn1 2), fl_A (vn1 4)))) : lr_Q vi1 vf1 vm1 vn1 := by
  obtain ⟨hT, hF, hH, hV⟩ := hR
  obtain ⟨vl, fl, vl9, fl9, gx⟩ := gx
  have n01 : ¬ (0 : Int) = 1 := by decide
  by_cases h : 0 ≤ n.toInt ∧ n.toInt ≤ tp.toInt
  · rcases rp_gal h.1 h.2 h9 (tp := fl_A (vf 0)) (tm := fl_A (vn 0)) (fun i hi => hT i (by omega)) vl.toInt (vi 10).toInt (vi 11).toInt (vi 44).toInt (vi 45).toInt (vi 46).toInt (vi 48).toInt (vi 49).toInt (vi 50).toInt (fl_A (vf 15)) (fl_A (vf 16)) (fl_L fl) (fl_A (vf 21)) (fl_A (vf 22)) (fl_A (vf 18)) (fl_A (vf 17)) (vm 1).toInt (vm 2).toInt (vm 3).toInt (vm 4).toInt (vm 5).toInt (vm 6).toInt (vm 7).toInt (vm 8).toInt (vm 10).toInt (vm 11).toInt (vm 12).toInt (vm 13).toInt (fl_A (vn 3)) (fl_A (vn 1)) (fl_A (vn 2)) (fl_A (vn 4)) with ⟨q_c, q_st, q_be, q_tk, q_wd, q_wh, q_ta, q_fg, q_sp, q_sa, q_sh, q_lw, q_ti, q_pu, q_fi, q_tb, q_sc, q_wc, q_kd, q_me, q_nm, q_wf, q_wt, q_sm, q_sf, fr3, lt3, at3, en3, tk6, wm3, ns3, s1, b1, b2, b3, b4, b5, b6, b7⟩ | ⟨q, p, b1, y1, y2, y3, y4, y5, y6, y7, b2⟩
    · obtain ⟨b_pl, b_he, hbg, hbk⟩ := rp_begin q_fi (fl_A (vf 1)) (fl_A (vf 2))
      have ex : Ff_X7_gallery n.toInt (vi 1).toInt (vi 2).toInt tp.toInt (vi 3).toInt (vi 4).toInt (vi 5).toInt (vi 6).toInt (vi 7).toInt (vi 8).toInt (vi 9).toInt vl.toInt (vi 10).toInt (vi 11).toInt (vi 43).toInt (vi 44).toInt (vi 45).toInt (vi 46).toInt (vi 47).toInt (vi 48).toInt (vi 49).toInt (vi 50).toInt (vi 51).toInt (vi 52).toInt (vi 55).toInt (fl_A (vf 15)) (fl_A (vf 16)) (fl_A (vf 0)) (fl_L fl) (fl_A (vf 21)) (fl_A (vf 22)) (fl_A (vf 18)) (fl_A (vf 17)) (vi 12).toInt (vi 13).toInt (vi 14).toInt (vi 15).toInt (vi 16).toInt (fl_A (vf 1)) (fl_A (vf 2)) (vi 24).toInt (vi 25).toInt (vi 30).toInt (vi 31).toInt = (q_fg, 0, 0, (-1), 0, 0, (-1), q_c, n.toInt, q_st, q_be, q_tk, q_wd, q_wh, q_ta, q_fg, q_sp, q_sa, q_sh, q_lw, q_ti, q_pu, q_fi, q_tb, q_sc, q_wc, q_kd, q_me, q_nm, q_wf, q_wt, q_sm, q_sf, 0, q_fi, 0, 0, 0, b_pl, b_he, 0, 0, 0, 0, 0) := by
        unfold Ff_X7_gallery
        rw [fl_lt_eq ((rp_in n.toInt 0 tp.toInt).trans (rp_in1 h.1 h.2)).symm, if_pos rfl, b1, fl_c29_eq rfl, if_pos rfl, hbg, fl_c7_eq rfl]; rfl
      rw [ex] at gx
      rcases gx with ⟨g1, g2, g3⟩ | ⟨g1, g2, g3, g4⟩
      · clear ex hbg b1
        have e0 : q_fg = (vi1 33).toInt := congrArg (fun z9 => z9.2.2.2.2.2.2.2.2.2.2.2.2.2.2.1) g1
        have e1 : q_sp = (vi1 34).toInt := congrArg (fun z9 => z9.2.2.2.2.2.2.2.2.2.2.2.2.2.2.2.1) g1
        have e2 : q_sa = (vi1 35).toInt := congrArg (fun z9 => z9.2.2.2.2.2.2.2.2.2.2.2.2.2.2.2.2.1) g1
        have e3 : q_sh = (vi1 36).toInt := congrArg (fun z9 => z9.2.2.2.2.2.2.2.2.2.2.2.2.2.2.2.2.2.1) g1
        have e4 : q_lw = (vi1 37).toInt := congrArg (fun z9 => z9.2.2.2.2.2.2.2.2.2.2.2.2.2.2.2.2.2.2.1) g1
        have e5 : q_ti = (vi1 38).toInt := congrArg (fun z9 => z9.2.2.2.2.2.2.2.2.2.2.2.2.2.2.2.2.2.2.2.1) g1
        have e6 : q_pu = (vi1 39).toInt := congrArg (fun z9 => z9.2.2.2.2.2.2.2.2.2.2.2.2.2.2.2.2.2.2.2.2.1) g1
        have e7 : q_fi = (vi1 40).toInt := congrArg (fun z9 => z9.2.2.2.2.2.2.2.2.2.2.2.2.2.2.2.2.2.2.2.2.2.1) g1
        have e8 : q_tb = (vi1 41).toInt := congrArg (fun z9 => z9.2.2.2.2.2.2.2.2.2.2.2.2.2.2.2.2.2.2.2.2.2.2.1) g1
        have e9 : q_sc = (vi1 42).toInt := congrArg (fun z9 => z9.2.2.2.2.2.2.2.2.2.2.2.2.2.2.2.2.2.2.2.2.2.2.2.1) g1
        have e10 : q_wc = (vi1 53).toInt := congrArg (fun z9 => z9.2.2.2.2.2.2.2.2.2.2.2.2.2.2.2.2.2.2.2.2.2.2.2.2.1) g1
        have e11 : q_kd = fl_A (vf1 11) := congrArg (fun z9 => z9.2.2.2.2.2.2.2.2.2.2.2.2.2.2.2.2.2.2.2.2.2.2.2.2.2.1) g1
        have e12 : q_me = fl_A (vf1 12) := congrArg (fun z9 => z9.2.2.2.2.2.2.2.2.2.2.2.2.2.2.2.2.2.2.2.2.2.2.2.2.2.2.1) g1
        have e13 : q_sf = fl_A (vf1 13) := congrArg (fun z9 => z9.2.2.2.2.2.2.2.2.2.2.2.2.2.2.2.2.2.2.2.2.2.2.2.2.2.2.2.2.2.2.2.1) g1
        have e14 : q_sm = fl_A (vf1 14) := congrArg (fun z9 => z9.2.2.2.2.2.2.2.2.2.2.2.2.2.2.2.2.2.2.2.2.2.2.2.2.2.2.2.2.2.2.1) g1
        have e15 : q_wf = fl_A (vf1 19) := congrArg (fun z9 => z9.2.2.2.2.2.2.2.2.2.2.2.2.2.2.2.2.2.2.2.2.2.2.2.2.2.2.2.2.1) g1
        have e16 : q_wt = fl_A (vf1 20) := congrArg (fun z9 => z9.2.2.2.2.2.2.2.2.2.2.2.2.2.2.2.2.2.2.2.2.2.2.2.2.2.2.2.2.2.1) g1
        have ef : (0 : Int) = (vi1 1).toInt := congrArg (fun z9 => z9.2.1) g1
        have p_mi : (0 : Int) = (vi1 12).toInt := congrArg (fun z9 => z9.2.2.2.2.2.2.2.2.2.2.2.2.2.2.2.2.2.2.2.2.2.2.2.2.2.2.2.2.2.2.2.2.1) g1
        have p_tu : (q_fi : Int) = (vi1 13).toInt := congrArg (fun z9 => z9.2.2.2.2.2.2.2.2.2.2.2.2.2.2.2.2.2.2.2.2.2.2.2.2.2.2.2.2.2.2.2.2.2.1) g1
        have p_sn : (0 : Int) = (vi1 14).toInt := congrArg (fun z9 => z9.2.2.2.2.2.2.2.2.2.2.2.2.2.2.2.2.2.2.2.2.2.2.2.2.2.2.2.2.2.2.2.2.2.2.1) g1
        have p_go : (0 : Int) = (vi1 15).toInt := congrArg (fun z9 => z9.2.2.2.2.2.2.2.2.2.2.2.2.2.2.2.2.2.2.2.2.2.2.2.2.2.2.2.2.2.2.2.2.2.2.2.1) g1
        have p_ca : (0 : Int) = (vi1 16).toInt := congrArg (fun z9 => z9.2.2.2.2.2.2.2.2.2.2.2.2.2.2.2.2.2.2.2.2.2.2.2.2.2.2.2.2.2.2.2.2.2.2.2.2.1) g1
        have p_pl : (b_pl : Nat → Int) = fl_A (vf1 1) := congrArg (fun z9 => z9.2.2.2.2.2.2.2.2.2.2.2.2.2.2.2.2.2.2.2.2.2.2.2.2.2.2.2.2.2.2.2.2.2.2.2.2.2.1) g1
        have p_he : (b_he : Nat → Int) = fl_A (vf1 2) := congrArg (fun z9 => z9.2.2.2.2.2.2.2.2.2.2.2.2.2.2.2.2.2.2.2.2.2.2.2.2.2.2.2.2.2.2.2.2.2.2.2.2.2.2.1) g1
        have p_U : (0 : Int) = (vi1 24).toInt := congrArg (fun z9 => z9.2.2.2.2.2.2.2.2.2.2.2.2.2.2.2.2.2.2.2.2.2.2.2.2.2.2.2.2.2.2.2.2.2.2.2.2.2.2.2.1) g1
        have p_N : (0 : Int) = (vi1 25).toInt := congrArg (fun z9 => z9.2.2.2.2.2.2.2.2.2.2.2.2.2.2.2.2.2.2.2.2.2.2.2.2.2.2.2.2.2.2.2.2.2.2.2.2.2.2.2.2.1) g1
        rw [b2] at gm
        have mf : (0 : Int) = (vm1 7).toInt := congrArg (fun z9 => z9.2.2.2.2.2.2.2.2.1) gm
        have mh : (1 : Int) = (vm1 11).toInt := congrArg (fun z9 => z9.2.2.2.2.2.2.2.2.2.2.2.2.1) gm
        have mr : va_cpy fr3 (fl_A (vn 2)) 0 0 156 = fl_A (vn1 2) := congrArg (fun z9 => z9.2.2.2.2.2.2.2.2.2.2.2.2.2.2.2.2.2.1) gm
        have r_st : s1 = fl_A (vn1 4) := congrArg (fun z9 => z9.2.2.2.2.2.2.2.2.2.2.2.2.2.2.2.2.2.2) gm
        have r_U : (0 : Int) = (vm1 12).toInt := congrArg (fun z9 => z9.2.2.2.2.2.2.2.2.2.2.2.2.2.1) gm
        have r_N : (0 : Int) = (vm1 13).toInt := congrArg (fun z9 => z9.2.2.2.2.2.2.2.2.2.2.2.2.2.2.1) gm
        clear g1 gm
        subst e0
        subst e1
        subst e2
        subst e3
        subst e4
        subst e5
        subst e6
        subst e7
        subst e8
        subst e9
        subst e10
        subst e11
        subst e12
        subst e13
        subst e14
        subst e15
        subst e16
        have m11 : vm1 11 = 1 := Int32.toInt_inj.mp mh.symm
        have hHn : lr_H vi1 vf1 vm1 vn1 := by
          refine Or.inr ⟨m11, ⟨b4, b5, b3⟩, ?_⟩
          rw [← mr]
          exact lr_D_cg (fun i hi => lr_cpy i hi) ⟨b6.1, b6.2.1, b6.2.2.1, b6.2.2.2.1⟩
        rcases hM with z9 | ⟨-, hrs, hkm⟩
        · rw [m11] at z9; exact absurd z9 (by decide)
        obtain ⟨hG, -, hfi⟩ := lr_G hHn m11 hrs hkm
        obtain ⟨⟨-, h2, h9'⟩, ⟨-, hsp, -⟩, -⟩ := id hG
        have e0 : (vi1 33).toInt = fr3 0 := b6.1.1.1
        have e9 : (vi1 40).toInt = fr3 9 := (b6.1.2.2.2 b3).2.2.1
        have k21 : s1 21 = 0 := by rw [b7 21 (by decide), if_neg (by decide), if_neg (by omega)]
        have k20 : s1 20 = 0 := by rw [b7 20 (by decide), if_neg (by decide), if_neg (by omega)]
        have k18 : s1 18 = 0 := by rw [b7 18 (by decide), if_neg (by decide), if_neg (by omega)]
        have k22 : s1 22 = 0 := by rw [b7 22 (by decide), if_neg (by decide), if_neg (by omega)]
        have k19 : s1 19 = fr3 9 := by rw [b7 19 (by decide), if_pos rfl]
        have hSn : rs_S (vi1 33).toInt (vi1 34).toInt (fl_A (vf1 11)) 0 (vi1 40).toInt 0 0 0 b_pl b_he s1 := by
          refine ⟨⟨k21.symm, e9.trans k19.symm, k20.symm, k18.symm, k22.symm⟩, by omega, hfi, ⟨by omega, by omega⟩, ⟨by omega, by omega⟩, fun k hk' => ?_⟩
          obtain ⟨c1, c2⟩ := hbk k (by omega)
          have d1 : s1 k = (k : Int) := by rw [b7 k (by omega), if_neg (by omega), if_pos (by omega)]
          have d2 : s1 (9 + k) = 0 := by rw [b7 (9 + k) (by omega), if_neg (by omega), if_neg (by omega)]
          refine ⟨by rw [c1, d1], by rw [c2, d2], by rw [c1]; omega, fun h9 => ?_⟩
          have b0 := rs_b0 ⟨k, by omega⟩
          simp only at b0
          omega
        refine ⟨ef.symm.trans mf, hHn, ⟨by rw [g2]; exact hV.1.2, by rw [g3]; exact hV.1.1⟩, Or.inr ⟨m11, ?_, ?_, ?_, ?_, ?_, ?_⟩⟩
        · rw [← p_mi, ← p_tu, ← p_sn, ← p_go, ← p_ca, ← p_pl, ← p_he, ← r_st]
          exact hSn
        · rw [← p_mi]; omega
        · rw [← p_U, ← r_U]
        · rw [← p_N, ← r_N]
        · rw [← p_U]
          exact ⟨⟨by omega, by omega⟩, hL, fun i hi => by omega⟩
        · rw [← p_N]
          exact ⟨⟨by omega, by omega⟩, fun i hi => by omega⟩
      · exact absurd (congrArg (fun z9 => z9.2.2.2.2.2.2.2.2.2.2.2.2.2.2.2.2.2.2.2.2.2.2.2.2.2.2.2.2.2.2.2.2.2.2.2.2.2.2.2.2.2.2.2) g1 : (0 : Int) = 1) n01
    · generalize hG : Ff_X3_read n.toInt tp.toInt vl.toInt (vi 10).toInt (vi 11).toInt (vi 44).toInt (vi 45).toInt (vi 46).toInt (vi 48).toInt (vi 49).toInt (vi 50).toInt (fl_A (vf 15)) (fl_A (vf 16)) (fl_A (vf 0)) (fl_L fl) (fl_A (vf 21)) (fl_A (vf 22)) (fl_A (vf 18)) (fl_A (vf 17)) = G at b1
      obtain ⟨g1_, g2_, g3_, g4_, g5_, g6_, g7_, g8_, g9_, g10_, g11_, g12_, g13_, g14_, g15_, g16_, g17_, g18_, g19_, g20_, g21_, g22_, g23_, g24_, g25_, g26_, g27_, g28_, g29_⟩ := G
      have e1 : g1_ = 0 := b1.1
      subst e1
      have ex : Ff_X7_gallery n.toInt (vi 1).toInt (vi 2).toInt tp.toInt (vi 3).toInt (vi 4).toInt (vi 5).toInt (vi 6).toInt (vi 7).toInt (vi 8).toInt (vi 9).toInt vl.toInt (vi 10).toInt (vi 11).toInt (vi 43).toInt (vi 44).toInt (vi 45).toInt (vi 46).toInt (vi 47).toInt (vi 48).toInt (vi 49).toInt (vi 50).toInt (vi 51).toInt (vi 52).toInt (vi 55).toInt (fl_A (vf 15)) (fl_A (vf 16)) (fl_A (vf 0)) (fl_L fl) (fl_A (vf 21)) (fl_A (vf 22)) (fl_A (vf 18)) (fl_A (vf 17)) (vi 12).toInt (vi 13).toInt (vi 14).toInt (vi 15).toInt (vi 16).toInt (fl_A (vf 1)) (fl_A (vf 2)) (vi 24).toInt (vi 25).toInt (vi 30).toInt (vi 31).toInt = ((-1), 4, g2_, g3_, 0, g2_, g3_, g4_, g5_, g6_, g7_, g8_, g9_, g10_, g11_, g12_, g13_, g14_, g15_, g16_, g17_, g18_, g19_, g20_, g21_, g22_, g23_, g24_, g25_, g26_, g27_, g28_, g29_, (vi 12).toInt, (vi 13).toInt, (vi 14).toInt, (vi 15).toInt, (vi 16).toInt, (fl_A (vf 1)), (fl_A (vf 2)), (vi 24).toInt, (vi 25).toInt, (vi 30).toInt, (vi 31).toInt, 1) := by
        unfold Ff_X7_gallery
        rw [fl_lt_eq ((rp_in n.toInt 0 tp.toInt).trans (rp_in1 h.1 h.2)).symm, if_pos rfl, hG, fl_c29_eq rfl, if_neg n01]; rfl
      rw [ex] at gx
      rcases gx with ⟨g1, g2, g3⟩ | ⟨g1, g2, g3, g4⟩
      · exact absurd (congrArg (fun z9 => z9.2.2.2.2.2.2.2.2.2.2.2.2.2.2.2.2.2.2.2.2.2.2.2.2.2.2.2.2.2.2.2.2.2.2.2.2.2.2.2.2.2.2.2) g1 : (1 : Int) = 0).symm n01
      · rw [b2] at gm
        have ef : g2_ = (vi1 1).toInt := congrArg (fun z9 => z9.2.1) g1
        have mf : q = (vm1 7).toInt := congrArg (fun z9 => z9.2.2.2.2.2.2.2.2.1) gm
        have e2 : g2_ = q := b1.2.1
        have mh : (vm 11).toInt = (vm1 11).toInt := congrArg (fun z9 => z9.2.2.2.2.2.2.2.2.2.2.2.2.1) gm
        have mr : (fl_A (vn 2)) = fl_A (vn1 2) := congrArg (fun z9 => z9.2.2.2.2.2.2.2.2.2.2.2.2.2.2.2.2.2.1) gm
        have p_mi : (vi 12).toInt = (vi1 12).toInt := congrArg (fun z9 => z9.2.2.2.2.2.2.2.2.2.2.2.2.2.2.2.2.2.2.2.2.2.2.2.2.2.2.2.2.2.2.2.2.1) g1
        have p_tu : (vi 13).toInt = (vi1 13).toInt := congrArg (fun z9 => z9.2.2.2.2.2.2.2.2.2.2.2.2.2.2.2.2.2.2.2.2.2.2.2.2.2.2.2.2.2.2.2.2.2.1) g1
        have p_sn : (vi 14).toInt = (vi1 14).toInt := congrArg (fun z9 => z9.2.2.2.2.2.2.2.2.2.2.2.2.2.2.2.2.2.2.2.2.2.2.2.2.2.2.2.2.2.2.2.2.2.2.1) g1
        have p_go : (vi 15).toInt = (vi1 15).toInt := congrArg (fun z9 => z9.2.2.2.2.2.2.2.2.2.2.2.2.2.2.2.2.2.2.2.2.2.2.2.2.2.2.2.2.2.2.2.2.2.2.2.1) g1
        have p_ca : (vi 16).toInt = (vi1 16).toInt := congrArg (fun z9 => z9.2.2.2.2.2.2.2.2.2.2.2.2.2.2.2.2.2.2.2.2.2.2.2.2.2.2.2.2.2.2.2.2.2.2.2.2.1) g1
        have p_pl : (fl_A (vf 1)) = fl_A (vf1 1) := congrArg (fun z9 => z9.2.2.2.2.2.2.2.2.2.2.2.2.2.2.2.2.2.2.2.2.2.2.2.2.2.2.2.2.2.2.2.2.2.2.2.2.2.1) g1
        have p_he : (fl_A (vf 2)) = fl_A (vf1 2) := congrArg (fun z9 => z9.2.2.2.2.2.2.2.2.2.2.2.2.2.2.2.2.2.2.2.2.2.2.2.2.2.2.2.2.2.2.2.2.2.2.2.2.2.2.1) g1
        have p_U : (vi 24).toInt = (vi1 24).toInt := congrArg (fun z9 => z9.2.2.2.2.2.2.2.2.2.2.2.2.2.2.2.2.2.2.2.2.2.2.2.2.2.2.2.2.2.2.2.2.2.2.2.2.2.2.2.1) g1
        have p_N : (vi 25).toInt = (vi1 25).toInt := congrArg (fun z9 => z9.2.2.2.2.2.2.2.2.2.2.2.2.2.2.2.2.2.2.2.2.2.2.2.2.2.2.2.2.2.2.2.2.2.2.2.2.2.2.2.2.1) g1
        have r_st : (fl_A (vn 4)) = fl_A (vn1 4) := congrArg (fun z9 => z9.2.2.2.2.2.2.2.2.2.2.2.2.2.2.2.2.2.2) gm
        have r_U : (vm 12).toInt = (vm1 12).toInt := congrArg (fun z9 => z9.2.2.2.2.2.2.2.2.2.2.2.2.2.1) gm
        have r_N : (vm 13).toInt = (vm1 13).toInt := congrArg (fun z9 => z9.2.2.2.2.2.2.2.2.2.2.2.2.2.2.1) gm
        have hVn : lr_V vi1 vf1 vm1 vn1 := by
          refine ⟨⟨by rw [g2 54 (by decide)]; exact hV.1.1, by rw [g4]; exact hV.1.2⟩, ?_⟩
          have m11 : vm1 11 = vm 11 := Int32.toInt_inj.mp mh.symm
          rw [m11, g2 33 (by decide), g2 34 (by decide), g3 11 (by decide), ← p_mi, ← p_tu, ← p_sn, ← p_go, ← p_ca, ← p_pl, ← p_he, ← p_U, ← p_N, ← r_st, ← r_U, ← r_N, kx1 26 (by decide), km2 6 (by decide), km2 7 (by decide)]
          have i12 : vi1 12 = vi 12 := Int32.toInt_inj.mp p_mi.symm
          have i24 : vi1 24 = vi 24 := Int32.toInt_inj.mp p_U.symm
          have i25 : vi1 25 = vi 25 := Int32.toInt_inj.mp p_N.symm
          have j12 : vm1 12 = vm 12 := Int32.toInt_inj.mp r_U.symm
          have j13 : vm1 13 = vm 13 := Int32.toInt_inj.mp r_N.symm
          rw [i12, i24, i25, j12, j13]
          rcases hV.2 with h4 | ⟨a, b, c, d, e, f, g⟩
          · exact Or.inl h4
          · exact Or.inr ⟨a, b, c, d, e, rs_H_cg (fun k h9 => by show (vi1 (57 + k)).toInt = (vi (57 + k)).toInt; rw [kx1 (57 + k) (kp_out (a := 57) (b := 137) (by decide) (by omega) (by omega))]) (fun k h9 => by show fl_A (vf1 (23 + k)) = fl_A (vf (23 + k)); rw [kx2 (23 + k) (kp_out (a := 23) (b := 55) (by decide) (by omega) (by omega))]) f, rs_I_cg (fun k h9 => by show (vi1 (137 + k)).toInt = (vi (137 + k)).toInt; rw [kx1 (137 + k) (kp_out (a := 137) (b := 152) (by decide) (by omega) (by omega))]) (fun k h9 => by show fl_A (vf1 (55 + k)) = fl_A (vf (55 + k)); rw [kx2 (55 + k) (kp_out (a := 55) (b := 61) (by decide) (by omega) (by omega))]) g⟩
        exact ⟨by rw [← ef, ← mf, e2], lr_H_keep (g2 33 (by decide)) (g2 34 (by decide)) (g2 35 (by decide)) (g2 36 (by decide)) (g2 37 (by decide)) (g2 38 (by decide)) (g2 39 (by decide)) (g2 40 (by decide)) (g2 41 (by decide)) (g2 42 (by decide)) (g2 53 (by decide)) (g3 11 (by decide)) (g3 12 (by decide)) (g3 13 (by decide)) (g3 14 (by decide)) (g3 19 (by decide)) (g3 20 (by decide)) (Int32.toInt_inj.mp mh.symm) mr.symm hH, hVn⟩
  · have ex : Ff_X7_gallery n.toInt (vi 1).toInt (vi 2).toInt tp.toInt (vi 3).toInt (vi 4).toInt (vi 5).toInt (vi 6).toInt (vi 7).toInt (vi 8).toInt (vi 9).toInt vl.toInt (vi 10).toInt (vi 11).toInt (vi 43).toInt (vi 44).toInt (vi 45).toInt (vi 46).toInt (vi 47).toInt (vi 48).toInt (vi 49).toInt (vi 50).toInt (vi 51).toInt (vi 52).toInt (vi 55).toInt (fl_A (vf 15)) (fl_A (vf 16)) (fl_A (vf 0)) (fl_L fl) (fl_A (vf 21)) (fl_A (vf 22)) (fl_A (vf 18)) (fl_A (vf 17)) (vi 12).toInt (vi 13).toInt (vi 14).toInt (vi 15).toInt (vi 16).toInt (fl_A (vf 1)) (fl_A (vf 2)) (vi 24).toInt (vi 25).toInt (vi 30).toInt (vi 31).toInt = ((-1), 2, (vi 1).toInt, (vi 2).toInt, tp.toInt, (vi 3).toInt, (vi 4).toInt, (vi 5).toInt, (vi 6).toInt, (vi 7).toInt, (vi 8).toInt, (vi 9).toInt, vl.toInt, (vi 10).toInt, (vi 11).toInt, (vi 43).toInt, (vi 44).toInt, (vi 45).toInt, (vi 46).toInt, (vi 47).toInt, (vi 48).toInt, (vi 49).toInt, (vi 50).toInt, (vi 51).toInt, (vi 52).toInt, (vi 55).toInt, (fl_A (vf 15)), (fl_A (vf 16)), (fl_L fl), (fl_A (vf 21)), (fl_A (vf 22)), (fl_A (vf 18)), (fl_A (vf 17)), (vi 12).toInt, (vi 13).toInt, (vi 14).toInt, (vi 15).toInt, (vi 16).toInt, (fl_A (vf 1)), (fl_A (vf 2)), (vi 24).toInt, (vi 25).toInt, (vi 30).toInt, (vi 31).toInt, 1) := by
      unfold Ff_X7_gallery
      rw [fl_lt_eq ((rp_in n.toInt 0 tp.toInt).trans (rp_in0 h)).symm, if_neg n01]; rfl
    have b2 : Ff_X8_gallery n.toInt tp.toInt (vm 1).toInt (vm 2).toInt (vm 3).toInt (vm 4).toInt (vm 5).toInt (vm 6).toInt (vm 7).toInt (vm 8).toInt (vm 10).toInt (vm 11).toInt (vm 12).toInt (vm 13).toInt (fl_A (vn 3)) (fl_A (vn 0)) (fl_A (vn 1)) (fl_A (vn 2)) (fl_A (vn 4)) = ((-1), 0, tp.toInt, (vm 1).toInt, (vm 2).toInt, (vm 3).toInt, (vm 4).toInt, (vm 5).toInt, (vm 6).toInt, (vm 7).toInt, (vm 8).toInt, 2, (vm 10).toInt, (vm 11).toInt, (vm 12).toInt, (vm 13).toInt, (fl_A (vn 3)), (fl_A (vn 1)), (fl_A (vn 2)), (fl_A (vn 4))) := by
      unfold Ff_X8_gallery Ff_X8_good
      rw [fl_c2_eq rfl, fl_lt_eq (rp_in0 h).symm, if_neg n01]; rfl
    rw [ex] at gx
    rcases gx with ⟨g1, g2, g3⟩ | ⟨g1, g2, g3, g4⟩
    · exact absurd (congrArg (fun z9 => z9.2.2.2.2.2.2.2.2.2.2.2.2.2.2.2.2.2.2.2.2.2.2.2.2.2.2.2.2.2.2.2.2.2.2.2.2.2.2.2.2.2.2.2) g1 : (1 : Int) = 0).symm n01
    · rw [b2] at gm
      have ef : (vi 1).toInt = (vi1 1).toInt := congrArg (fun z9 => z9.2.1) g1
      have mf : (vm 7).toInt = (vm1 7).toInt := congrArg (fun z9 => z9.2.2.2.2.2.2.2.2.1) gm
      have mh : (vm 11).toInt = (vm1 11).toInt := congrArg (fun z9 => z9.2.2.2.2.2.2.2.2.2.2.2.2.1) gm
      have mr : (fl_A (vn 2)) = fl_A (vn1 2) := congrArg (fun z9 => z9.2.2.2.2.2.2.2.2.2.2.2.2.2.2.2.2.2.1) gm
      have p_mi : (vi 12).toInt = (vi1 12).toInt := congrArg (fun z9 => z9.2.2.2.2.2.2.2.2.2.2.2.2.2.2.2.2.2.2.2.2.2.2.2.2.2.2.2.2.2.2.2.2.1) g1
      have p_tu : (vi 13).toInt = (vi1 13).toInt := congrArg (fun z9 => z9.2.2.2.2.2.2.2.2.2.2.2.2.2.2.2.2.2.2.2.2.2.2.2.2.2.2.2.2.2.2.2.2.2.1) g1
      have p_sn : (vi 14).toInt = (vi1 14).toInt := congrArg (fun z9 => z9.2.2.2.2.2.2.2.2.2.2.2.2.2.2.2.2.2.2.2.2.2.2.2.2.2.2.2.2.2.2.2.2.2.2.1) g1
      have p_go : (vi 15).toInt = (vi1 15).toInt := congrArg (fun z9 => z9.2.2.2.2.2.2.2.2.2.2.2.2.2.2.2.2.2.2.2.2.2.2.2.2.2.2.2.2.2.2.2.2.2.2.2.1) g1
      have p_ca : (vi 16).toInt = (vi1 16).toInt := congrArg (fun z9 => z9.2.2.2.2.2.2.2.2.2.2.2.2.2.2.2.2.2.2.2.2.2.2.2.2.2.2.2.2.2.2.2.2.2.2.2.2.1) g1
      have p_pl : (fl_A (vf 1)) = fl_A (vf1 1) := congrArg (fun z9 => z9.2.2.2.2.2.2.2.2.2.2.2.2.2.2.2.2.2.2.2.2.2.2.2.2.2.2.2.2.2.2.2.2.2.2.2.2.2.1) g1
      have p_he : (fl_A (vf 2)) = fl_A (vf1 2) := congrArg (fun z9 => z9.2.2.2.2.2.2.2.2.2.2.2.2.2.2.2.2.2.2.2.2.2.2.2.2.2.2.2.2.2.2.2.2.2.2.2.2.2.2.1) g1
      have p_U : (vi 24).toInt = (vi1 24).toInt := congrArg (fun z9 => z9.2.2.2.2.2.2.2.2.2.2.2.2.2.2.2.2.2.2.2.2.2.2.2.2.2.2.2.2.2.2.2.2.2.2.2.2.2.2.2.1) g1
      have p_N : (vi 25).toInt = (vi1 25).toInt := congrArg (fun z9 => z9.2.2.2.2.2.2.2.2.2.2.2.2.2.2.2.2.2.2.2.2.2.2.2.2.2.2.2.2.2.2.2.2.2.2.2.2.2.2.2.2.1) g1
      have r_st : (fl_A (vn 4)) = fl_A (vn1 4) := congrArg (fun z9 => z9.2.2.2.2.2.2.2.2.2.2.2.2.2.2.2.2.2.2) gm
      have r_U : (vm 12).toInt = (vm1 12).toInt := congrArg (fun z9 => z9.2.2.2.2.2.2.2.2.2.2.2.2.2.1) gm
      have r_N : (vm 13).toInt = (vm1 13).toInt := congrArg (fun z9 => z9.2.2.2.2.2.2.2.2.2.2.2.2.2.2.1) gm
      have hVn : lr_V vi1 vf1 vm1 vn1 := by
        refine ⟨⟨by rw [g2 54 (by decide)]; exact hV.1.1, by rw [g4]; exact hV.1.2⟩, ?_⟩
        have m11 : vm1 11 = vm 11 := Int32.toInt_inj.mp mh.symm
        rw [m11, g2 33 (by decide), g2 34 (by decide), g3 11 (by decide), ← p_mi, ← p_tu, ← p_sn, ← p_go, ← p_ca, ← p_pl, ← p_he, ← p_U, ← p_N, ← r_st, ← r_U, ← r_N, kx1 26 (by decide), km2 6 (by decide), km2 7 (by decide)]
        have i12 : vi1 12 = vi 12 := Int32.toInt_inj.mp p_mi.symm
        have i24 : vi1 24 = vi 24 := Int32.toInt_inj.mp p_U.symm
        have i25 : vi1 25 = vi 25 := Int32.toInt_inj.mp p_N.symm
        have j12 : vm1 12 = vm 12 := Int32.toInt_inj.mp r_U.symm
        have j13 : vm1 13 = vm 13 := Int32.toInt_inj.mp r_N.symm
        rw [i12, i24, i25, j12, j13]
        rcases hV.2 with h4 | ⟨a, b, c, d, e, f, g⟩
        · exact Or.inl h4
        · exact Or.inr ⟨a, b, c, d, e, rs_H_cg (fun k h9 => by show (vi1 (57 + k)).toInt = (vi (57 + k)).toInt; rw [kx1 (57 + k) (kp_out (a := 57) (b := 137) (by decide) (by omega) (by omega))]) (fun k h9 => by show fl_A (vf1 (23 + k)) = fl_A (vf (23 + k)); rw [kx2 (23 + k) (kp_out (a := 23) (b := 55) (by decide) (by omega) (by omega))]) f, rs_I_cg (fun k h9 => by show (vi1 (137 + k)).toInt = (vi (137 + k)).toInt; rw [kx1 (137 + k) (kp_out (a := 137) (b := 152) (by decide) (by omega) (by omega))]) (fun k h9 => by show fl_A (vf1 (55 + k)) = fl_A (vf (55 + k)); rw [kx2 (55 + k) (kp_out (a := 55) (b := 61) (by decide) (by omega) (by omega))]) g⟩
      exact ⟨by rw [← ef, ← mf]; exact hF, lr_H_keep (g2 33 (by decide)) (g2 34 (by decide)) (g2 35 (by decide)) (g2 36 (by decide)) (g2 37 (by decide)) (g2 38 (by decide)) (g2 39 (by decide)) (g2 40 (by decide)) (g2 41 (by decide)) (g2 42 (by decide)) (g2 53 (by decide)) (g3 11 (by decide)) (g3 12 (by decide)) (g3 13 (by decide)) (g3 14 (by decide)) (g3 19 (by decide)) (g3 20 (by decide)) (Int32.toInt_inj.mp mh.symm) mr.symm hH, hVn⟩
end RELG
end P094031_rel
section P094032_rel
section RELA
theorem lr_put {tp : Int32} {vi vi1 vm vm1 : Nat → Int32} {vf vf1 vn vn1 : Nat → Nat → Int32} (hR : lr_R tp vi vf vm vn) (hM : vm 11 = 0 ∨ (vm 11 = 1 ∧ ((∀ k : Nat, 0 ≤ k → k ≤ 0 → (2 : Int) ≤ ((vn 2) k).toInt ∧ ((vn 2) k).toInt ≤ 9) ∧ (∀ k : Nat, 1 ≤ k → k ≤ 1 → (1 : Int) ≤ ((vn 2) k).toInt ∧ ((vn 2) k).toInt ≤ 20) ∧ (∀ k : Nat, 2 ≤ k → k ≤ 2 → (0 : Int) ≤ ((vn 2) k).toInt ∧ ((vn 2) k).toInt ≤ 8) ∧ (∀ k : Nat, 3 ≤ k → k ≤ 3 → (0 : Int) ≤ ((vn 2) k).toInt ∧ ((vn 2) k).toInt ≤ 100) ∧ (∀ k : Nat, 4 ≤ k → k ≤ 4 → (0 : Int) ≤ ((vn 2) k).toInt ∧ ((vn 2) k).toInt ≤ 9) ∧ (∀ k : Nat, 5 ≤ k → k ≤ 5 → (0 : Int) ≤ ((vn 2) k).toInt ∧ ((vn 2) k).toInt ≤ 3) ∧ (∀ k : Nat, 6 ≤ k → k ≤ 6 → (0 : Int) ≤ ((vn 2) k).toInt ∧ ((vn 2) k).toInt ≤ 6) ∧ (∀ k : Nat, 7 ≤ k → k ≤ 9 → (0 : Int) ≤ ((vn 2) k).toInt ∧ ((vn 2) k).toInt ≤ 8) ∧ (∀ k : Nat, 12 ≤ k → k ≤ 29 → (0 : Int) ≤ ((vn 2) k).toInt ∧ ((vn 2) k).toInt ≤ 20) ∧ (∀ k : Nat, 30 ≤ k → k ≤ 35 → (0 : Int) ≤ ((vn 2) k).toInt ∧ ((vn 2) k).toInt ≤ 8) ∧ (∀ k : Nat, 36 ≤ k → k ≤ 47 → (0 : Int) ≤ ((vn 2) k).toInt ∧ ((vn 2) k).toInt ≤ 999)) ∧ ((∀ (j i0 i : Int32), (0 : Int) ≤ j.toInt → j.toInt ≤ 8 → i0.toInt = 12 + 2 * j.toInt → i.toInt = 13 + 2 * j.toInt → ((vn 2) i0.toNatClampNeg).toInt = (1 : Int32).toInt → (1 : Int) ≤ ((vn 2) i.toNatClampNeg).toInt)))) (a : Int32) (kx1 : (∀ k9 : Nat, k9 ∉ ([0, 24, 26, 57, 58, 59, 60, 61, 62, 63, 64, 65, 66, 67, 68, 69, 70, 71, 72, 73, 74, 75, 76, 77, 78, 79, 80, 81, 82, 83, 84, 85, 86, 87, 88, 89, 90, 91, 92, 93, 94, 95, 96, 97, 98, 99, 100, 101, 102, 103, 104, 105, 106, 107, 108, 109, 110, 111, 112, 113, 114, 115, 116, 117, 118, 119, 120, 121, 122, 123, 124, 125, 126, 127, 128, 129, 130, 131, 132, 133, 134, 135, 136] : List Nat) → vi1 k9 = vi k9)) (kx2 : (∀ k9 : Nat, k9 ∉ ([1, 23, 24, 25, 26, 27, 28, 29, 30, 31, 32, 33, 34, 35, 36, 37, 38, 39, 40, 41, 42, 43, 44, 45, 46, 47, 48, 49, 50, 51, 52, 53, 54] : List Nat) → vf1 k9 = vf k9)) (km1 : (∀ k9 : Nat, k9 ∉ ([0, 9, 12] : List Nat) → vm1 k9 = vm k9)) (km2 : (∀ k9 : Nat, k9 ∉ ([4, 6] : List Nat) → vn1 k9 = vn k9)) (gx : (Ff_X7_put a.toInt (vi 33).toInt (vi 12).toInt (vi 13).toInt (vi 14).toInt (vi 15).toInt (vi 16).toInt (fl_A (vf 1)) (vi 24).toInt (vi 26).toInt (fl_nI [(vi 57).toInt, (vi 58).toInt, (vi 59).toInt, (vi 60).toInt, (vi 61).toInt, (vi 62).toInt, (vi 63).toInt, (vi 64).toInt, (vi 65).toInt, (vi 66).toInt, (vi 67).toInt, (vi 68).toInt, (vi 69).toInt, (vi 70).toInt, (vi 71).toInt, (vi 72).toInt, (vi 73).toInt, (vi 74).toInt, (vi 75).toInt, (vi 76).toInt, (vi 77).toInt, (vi 78).toInt, (vi 79).toInt, (vi 80).toInt, (vi 81).toInt, (vi 82).toInt, (vi 83).toInt, (vi 84).toInt, (vi 85).toInt, (vi 86).toInt, (vi 87).toInt, (vi 88).toInt, (vi 89).toInt, (vi 90).toInt, (vi 91).toInt, (vi 92).toInt, (vi 93).toInt, (vi 94).toInt, (vi 95).toInt, (vi 96).toInt, (vi 97).toInt, (vi 98).toInt, (vi 99).toInt, (vi 100).toInt, (vi 101).toInt, (vi 102).toInt, (vi 103).toInt, (vi 104).toInt, (vi 105).toInt, (vi 106).toInt, (vi 107).toInt, (vi 108).toInt, (vi 109).toInt, (vi 110).toInt, (vi 111).toInt, (vi 112).toInt, (vi 113).toInt, (vi 114).toInt, (vi 115).toInt, (vi 116).toInt, (vi 117).toInt, (vi 118).toInt, (vi 119).toInt, (vi 120).toInt, (vi 121).toInt, (vi 122).toInt, (vi 123).toInt, (vi 124).toInt, (vi 125).toInt, (vi 126).toInt, (vi 127).toInt, (vi 128).toInt, (vi 129).toInt, (vi 130).toInt, (vi 131).toInt, (vi 132).toInt, (vi 133).toInt, (vi 134).toInt, (vi 135).toInt, (vi 136).toInt]) (fl_nF [(fl_A (vf 23)), (fl_A (vf 24)), (fl_A (vf 25)), (fl_A (vf 26)), (fl_A (vf 27)), (fl_A (vf 28)), (fl_A (vf 29)), (fl_A (vf 30)), (fl_A (vf 31)), (fl_A (vf 32)), (fl_A (vf 33)), (fl_A (vf 34)), (fl_A (vf 35)), (fl_A (vf 36)), (fl_A (vf 37)), (fl_A (vf 38)), (fl_A (vf 39)), (fl_A (vf 40)), (fl_A (vf 41)), (fl_A (vf 42)), (fl_A (vf 43)), (fl_A (vf 44)), (fl_A (vf 45)), (fl_A (vf 46)), (fl_A (vf 47)), (fl_A (vf 48)), (fl_A (vf 49)), (fl_A (vf 50)), (fl_A (vf 51)), (fl_A (vf 52)), (fl_A (vf 53)), (fl_A (vf 54))]) (fl_A (vf 2))).2 = ((vi1 0).toInt, (fl_A (vf1 1)), (vi1 24).toInt, (vi1 26).toInt, (fl_nI [(vi1 57).toInt, (vi1 58).toInt, (vi1 59).toInt, (vi1 60).toInt, (vi1 61).toInt, (vi1 62).toInt, (vi1 63).toInt, (vi1 64).toInt, (vi1 65).toInt, (vi1 66).toInt, (vi1 67).toInt, (vi1 68).toInt, (vi1 69).toInt, (vi1 70).toInt, (vi1 71).toInt, (vi1 72).toInt, (vi1 73).toInt, (vi1 74).toInt, (vi1 75).toInt, (vi1 76).toInt, (vi1 77).toInt, (vi1 78).toInt, (vi1 79).toInt, (vi1 80).toInt, (vi1 81).toInt, (vi1 82).toInt, (vi1 83).toInt, (vi1 84).toInt, (vi1 85).toInt, (vi1 86).toInt, (vi1 87).toInt, (vi1 88).toInt, (vi1 89).toInt, (vi1 90).toInt, (vi1 91).toInt, (vi1 92).toInt, (vi1 93).toInt, (vi1 94).toInt, (vi1 95).toInt, (vi1 96).toInt, (vi1 97).toInt, (vi1 98).toInt, (vi1 99).toInt, (vi1 100).toInt, (vi1 101).toInt, (vi1 102).toInt, (vi1 103).toInt, (vi1 104).toInt, (vi1 105).toInt, (vi1 106).toInt, (vi1 107).toInt, (vi1 108).toInt, (vi1 109).toInt, (vi1 110).toInt, (vi1 111).toInt, (vi1 112).toInt, (vi1 113).toInt, (vi1 114).toInt, (vi1 115).toInt, (vi1 116).toInt, (vi1 117).toInt, (vi1 118).toInt, (vi1 119).toInt, (vi1 120).toInt, (vi1 121).toInt, (vi1 122).toInt, (vi1 123).toInt, (vi1 124).toInt, (vi1 125).toInt, (vi1 126).toInt, (vi1 127).toInt, (vi1 128).toInt, (vi1 129).toInt, (vi1 130).toInt, (vi1 131).toInt, (vi1 132).toInt, (vi1 133).toInt, (vi1 134).toInt, (vi1 135).toInt, (vi1 136).toInt]), (fl_nF [(fl_A (vf1 23)), (fl_A (vf1 24)), (fl_A (vf1 25)), (fl_A (vf1 26)), (fl_A (vf1 27)), (fl_A (vf1 28)), (fl_A (vf1 29)), (fl_A (vf1 30)), (fl_A (vf1 31)), (fl_A (vf1 32)), (fl_A (vf1 33)), (fl_A (vf1 34)), (fl_A (vf1 35)), (fl_A (vf1 36)), (fl_A (vf1 37)), (fl_A (vf1 38)), (fl_A (vf1 39)), (fl_A (vf1 40)), (fl_A (vf1 41)), (fl_A (vf1 42)), (fl_A (vf1 43)), (fl_A (vf1 44)), (fl_A (vf1 45)), (fl_A (vf1 46)), (fl_A (vf1 47)), (fl_A (vf1 48)), (fl_A (vf1 49)), (fl_A (vf1 50)), (fl_A (vf1 51)), (fl_A (vf1 52)), (fl_A (vf1 53)), (fl_A (vf1 54))]))) (gm : ((vm 11 = 0 ∧ (∀ k9 : Nat, k9 ∉ ([0, 9] : List Nat) → vm1 k9 = vm k9) ∧ (∀ k9 : Nat, k9 ∉ ([] : List Nat) → vn1 k9 = vn k9)) ∨ (vm 11 = 1 ∧ (Ff_X8_put a.toInt (vm 11).toInt (vm 12).toInt (fl_A (vn 2)) (fl_A (vn 4)) (fl_A (vn 6))).2 = ((vm1 0).toInt, (vm1 9).toInt, (vm1 12).toInt, (fl_A (vn1 4)), (fl_A (vn1 6)))))) : lr_Q vi1 vf1 vm1 vn1 := by
  obtain ⟨hT, hF, hH, hV⟩ := hR
  rcases hM with hM0 | ⟨hM1, hrs, hkm⟩
  · rcases hH with hH | ⟨z9, -⟩
    rotate_left
    · rw [hM0] at z9; exact absurd z9 (by decide)
    have hH9 : lr_H vi vf vm vn := Or.inl hH
    obtain ⟨-, h33, -⟩ := hH
    obtain ⟨⟨v54, v56⟩, hV⟩ := hV
    rcases hV with ⟨-, v12, v24, v25, u12, u13⟩ | ⟨z9, -⟩
    rotate_left
    · rw [hM0] at z9; exact absurd z9 (by decide)
    have e33 : (vi 33).toInt = 0 := by rw [h33]; decide
    have ex : Ff_X7_put a.toInt (vi 33).toInt (vi 12).toInt (vi 13).toInt (vi 14).toInt (vi 15).toInt (vi 16).toInt (fl_A (vf 1)) (vi 24).toInt (vi 26).toInt (fl_nI [(vi 57).toInt, (vi 58).toInt, (vi 59).toInt, (vi 60).toInt, (vi 61).toInt, (vi 62).toInt, (vi 63).toInt, (vi 64).toInt, (vi 65).toInt, (vi 66).toInt, (vi 67).toInt, (vi 68).toInt, (vi 69).toInt, (vi 70).toInt, (vi 71).toInt, (vi 72).toInt, (vi 73).toInt, (vi 74).toInt, (vi 75).toInt, (vi 76).toInt, (vi 77).toInt, (vi 78).toInt, (vi 79).toInt, (vi 80).toInt, (vi 81).toInt, (vi 82).toInt, (vi 83).toInt, (vi 84).toInt, (vi 85).toInt, (vi 86).toInt, (vi 87).toInt, (vi 88).toInt, (vi 89).toInt, (vi 90).toInt, (vi 91).toInt, (vi 92).toInt, (vi 93).toInt, (vi 94).toInt, (vi 95).toInt, (vi 96).toInt, (vi 97).toInt, (vi 98).toInt, (vi 99).toInt, (vi 100).toInt, (vi 101).toInt, (vi 102).toInt, (vi 103).toInt, (vi 104).toInt, (vi 105).toInt, (vi 106).toInt, (vi 107).toInt, (vi 108).toInt, (vi 109).toInt, (vi 110).toInt, (vi 111).toInt, (vi 112).toInt, (vi 113).toInt, (vi 114).toInt, (vi 115).toInt, (vi 116).toInt, (vi 117).toInt, (vi 118).toInt, (vi 119).toInt, (vi 120).toInt, (vi 121).toInt, (vi 122).toInt, (vi 123).toInt, (vi 124).toInt, (vi 125).toInt, (vi 126).toInt, (vi 127).toInt, (vi 128).toInt, (vi 129).toInt, (vi 130).toInt, (vi 131).toInt, (vi 132).toInt, (vi 133).toInt, (vi 134).toInt, (vi 135).toInt, (vi 136).toInt]) (fl_nF [(fl_A (vf 23)), (fl_A (vf 24)), (fl_A (vf 25)), (fl_A (vf 26)), (fl_A (vf 27)), (fl_A (vf 28)), (fl_A (vf 29)), (fl_A (vf 30)), (fl_A (vf 31)), (fl_A (vf 32)), (fl_A (vf 33)), (fl_A (vf 34)), (fl_A (vf 35)), (fl_A (vf 36)), (fl_A (vf 37)), (fl_A (vf 38)), (fl_A (vf 39)), (fl_A (vf 40)), (fl_A (vf 41)), (fl_A (vf 42)), (fl_A (vf 43)), (fl_A (vf 44)), (fl_A (vf 45)), (fl_A (vf 46)), (fl_A (vf 47)), (fl_A (vf 48)), (fl_A (vf 49)), (fl_A (vf 50)), (fl_A (vf 51)), (fl_A (vf 52)), (fl_A (vf 53)), (fl_A (vf 54))]) (fl_A (vf 2)) = ((-1), 1, (fl_A (vf 1)), (vi 24).toInt, (vi 26).toInt, (fl_nI [(vi 57).toInt, (vi 58).toInt, (vi 59).toInt, (vi 60).toInt, (vi 61).toInt, (vi 62).toInt, (vi 63).toInt, (vi 64).toInt, (vi 65).toInt, (vi 66).toInt, (vi 67).toInt, (vi 68).toInt, (vi 69).toInt, (vi 70).toInt, (vi 71).toInt, (vi 72).toInt, (vi 73).toInt, (vi 74).toInt, (vi 75).toInt, (vi 76).toInt, (vi 77).toInt, (vi 78).toInt, (vi 79).toInt, (vi 80).toInt, (vi 81).toInt, (vi 82).toInt, (vi 83).toInt, (vi 84).toInt, (vi 85).toInt, (vi 86).toInt, (vi 87).toInt, (vi 88).toInt, (vi 89).toInt, (vi 90).toInt, (vi 91).toInt, (vi 92).toInt, (vi 93).toInt, (vi 94).toInt, (vi 95).toInt, (vi 96).toInt, (vi 97).toInt, (vi 98).toInt, (vi 99).toInt, (vi 100).toInt, (vi 101).toInt, (vi 102).toInt, (vi 103).toInt, (vi 104).toInt, (vi 105).toInt, (vi 106).toInt, (vi 107).toInt, (vi 108).toInt, (vi 109).toInt, (vi 110).toInt, (vi 111).toInt, (vi 112).toInt, (vi 113).toInt, (vi 114).toInt, (vi 115).toInt, (vi 116).toInt, (vi 117).toInt, (vi 118).toInt, (vi 119).toInt, (vi 120).toInt, (vi 121).toInt, (vi 122).toInt, (vi 123).toInt, (vi 124).toInt, (vi 125).toInt, (vi 126).toInt, (vi 127).toInt, (vi 128).toInt, (vi 129).toInt, (vi 130).toInt, (vi 131).toInt, (vi 132).toInt, (vi 133).toInt, (vi 134).toInt, (vi 135).toInt, (vi 136).toInt]), (fl_nF [(fl_A (vf 23)), (fl_A (vf 24)), (fl_A (vf 25)), (fl_A (vf 26)), (fl_A (vf 27)), (fl_A (vf 28)), (fl_A (vf 29)), (fl_A (vf 30)), (fl_A (vf 31)), (fl_A (vf 32)), (fl_A (vf 33)), (fl_A (vf 34)), (fl_A (vf 35)), (fl_A (vf 36)), (fl_A (vf 37)), (fl_A (vf 38)), (fl_A (vf 39)), (fl_A (vf 40)), (fl_A (vf 41)), (fl_A (vf 42)), (fl_A (vf 43)), (fl_A (vf 44)), (fl_A (vf 45)), (fl_A (vf 46)), (fl_A (vf 47)), (fl_A (vf 48)), (fl_A (vf 49)), (fl_A (vf 50)), (fl_A (vf 51)), (fl_A (vf 52)), (fl_A (vf 53)), (fl_A (vf 54))])) := by
      unfold Ff_X7_put
      rw [e33, rs_isf, if_neg (by omega)]
      rfl
    rw [ex] at gx
    have p_U : (vi 24).toInt = (vi1 24).toInt := congrArg (fun z9 => z9.2.2.1) gx
    rcases gm with ⟨-, k01, k02⟩ | ⟨z9, -⟩
    rotate_left
    · rw [hM0] at z9; exact absurd z9 (by decide)
    refine ⟨by rw [kx1 1 (by decide), k01 7 (by decide)]; exact hF, lr_H_keep (kx1 33 (by decide)) (kx1 34 (by decide)) (kx1 35 (by decide)) (kx1 36 (by decide)) (kx1 37 (by decide)) (kx1 38 (by decide)) (kx1 39 (by decide)) (kx1 40 (by decide)) (kx1 41 (by decide)) (kx1 42 (by decide)) (kx1 53 (by decide)) (kx2 11 (by decide)) (kx2 12 (by decide)) (kx2 13 (by decide)) (kx2 14 (by decide)) (kx2 19 (by decide)) (kx2 20 (by decide)) (k01 11 (by decide)) (by rw [k02 2 (by decide)]) hH9, ⟨by rw [kx1 54 (by decide)]; exact v54, by rw [kx1 56 (by decide)]; exact v56⟩, Or.inl ⟨by rw [k01 11 (by decide)]; exact hM0, by rw [kx1 12 (by decide)]; exact v12, by rw [← Int32.toInt_inj, ← p_U, v24], by rw [kx1 25 (by decide)]; exact v25, by rw [k01 12 (by decide)]; exact u12, by rw [k01 13 (by decide)]; exact u13⟩⟩
  · obtain ⟨hG, hD, -⟩ := lr_G hH hM1 hrs hkm
    have hf9 : 2 ≤ (vi 33).toInt ∧ (vi 33).toInt ≤ 9 := ⟨hG.1.2.1, hG.1.2.2⟩
    have f9 := hf9.2
    have hV4 := hV.2
    rcases hV4 with ⟨z9, -⟩ | ⟨-, hS, hm, hU, hN, hHi, hIm⟩
    · rw [hM1] at z9; exact absurd z9 (by decide)
    have e11 : (vm 11).toInt = 1 := by rw [hM1]; decide
    have hHi := rs_H_cg (gI1 := fl_nI [(vi 57).toInt, (vi 58).toInt, (vi 59).toInt, (vi 60).toInt, (vi 61).toInt, (vi 62).toInt, (vi 63).toInt, (vi 64).toInt, (vi 65).toInt, (vi 66).toInt, (vi 67).toInt, (vi 68).toInt, (vi 69).toInt, (vi 70).toInt, (vi 71).toInt, (vi 72).toInt, (vi 73).toInt, (vi 74).toInt, (vi 75).toInt, (vi 76).toInt, (vi 77).toInt, (vi 78).toInt, (vi 79).toInt, (vi 80).toInt, (vi 81).toInt, (vi 82).toInt, (vi 83).toInt, (vi 84).toInt, (vi 85).toInt, (vi 86).toInt, (vi 87).toInt, (vi 88).toInt, (vi 89).toInt, (vi 90).toInt, (vi 91).toInt, (vi 92).toInt, (vi 93).toInt, (vi 94).toInt, (vi 95).toInt, (vi 96).toInt, (vi 97).toInt, (vi 98).toInt, (vi 99).toInt, (vi 100).toInt, (vi 101).toInt, (vi 102).toInt, (vi 103).toInt, (vi 104).toInt, (vi 105).toInt, (vi 106).toInt, (vi 107).toInt, (vi 108).toInt, (vi 109).toInt, (vi 110).toInt, (vi 111).toInt, (vi 112).toInt, (vi 113).toInt, (vi 114).toInt, (vi 115).toInt, (vi 116).toInt, (vi 117).toInt, (vi 118).toInt, (vi 119).toInt, (vi 120).toInt, (vi 121).toInt, (vi 122).toInt, (vi 123).toInt, (vi 124).toInt, (vi 125).toInt, (vi 126).toInt, (vi 127).toInt, (vi 128).toInt, (vi 129).toInt, (vi 130).toInt, (vi 131).toInt, (vi 132).toInt, (vi 133).toInt, (vi 134).toInt, (vi 135).toInt, (vi 136).toInt]) (gF1 := fl_nF [(fl_A (vf 23)), (fl_A (vf 24)), (fl_A (vf 25)), (fl_A (vf 26)), (fl_A (vf 27)), (fl_A (vf 28)), (fl_A (vf 29)), (fl_A (vf 30)), (fl_A (vf 31)), (fl_A (vf 32)), (fl_A (vf 33)), (fl_A (vf 34)), (fl_A (vf 35)), (fl_A (vf 36)), (fl_A (vf 37)), (fl_A (vf 38)), (fl_A (vf 39)), (fl_A (vf 40)), (fl_A (vf 41)), (fl_A (vf 42)), (fl_A (vf 43)), (fl_A (vf 44)), (fl_A (vf 45)), (fl_A (vf 46)), (fl_A (vf 47)), (fl_A (vf 48)), (fl_A (vf 49)), (fl_A (vf 50)), (fl_A (vf 51)), (fl_A (vf 52)), (fl_A (vf 53)), (fl_A (vf 54))]) (fun k h9 => lr_g3e vi h9) (fun k h9 => lr_f3e vf h9) hHi
    have hIm := rs_I_cg (gI1 := fl_nI [(vi 137).toInt, (vi 138).toInt, (vi 139).toInt, (vi 140).toInt, (vi 141).toInt, (vi 142).toInt, (vi 143).toInt, (vi 144).toInt, (vi 145).toInt, (vi 146).toInt, (vi 147).toInt, (vi 148).toInt, (vi 149).toInt, (vi 150).toInt, (vi 151).toInt]) (gF1 := fl_nF [(fl_A (vf 55)), (fl_A (vf 56)), (fl_A (vf 57)), (fl_A (vf 58)), (fl_A (vf 59)), (fl_A (vf 60))]) (fun k h9 => lr_g4e vi h9) (fun k h9 => lr_f4e vf h9) hIm
    obtain ⟨R, tr, U1, L1, gI1, pl1, gF1, st1, und1, e1, e2, e3, e5⟩ := rs_put hG hS hm hHi a.toInt
    rcases gm with ⟨z9, -⟩ | ⟨-, gm⟩
    · rw [hM1] at z9; exact absurd z9 (by decide)
    rw [e11, ← hU] at gm
    rw [e1] at gx
    rw [e2] at gm
    have p_pl : pl1 = (fl_A (vf1 1)) := congrArg (fun z9 => z9.2.1) gx
    have p_U : U1 = (vi1 24).toInt := congrArg (fun z9 => z9.2.2.1) gx
    have p_L : L1 = (vi1 26).toInt := congrArg (fun z9 => z9.2.2.2.1) gx
    have p_gI : gI1 = (fl_nI [(vi1 57).toInt, (vi1 58).toInt, (vi1 59).toInt, (vi1 60).toInt, (vi1 61).toInt, (vi1 62).toInt, (vi1 63).toInt, (vi1 64).toInt, (vi1 65).toInt, (vi1 66).toInt, (vi1 67).toInt, (vi1 68).toInt, (vi1 69).toInt, (vi1 70).toInt, (vi1 71).toInt, (vi1 72).toInt, (vi1 73).toInt, (vi1 74).toInt, (vi1 75).toInt, (vi1 76).toInt, (vi1 77).toInt, (vi1 78).toInt, (vi1 79).toInt, (vi1 80).toInt, (vi1 81).toInt, (vi1 82).toInt, (vi1 83).toInt, (vi1 84).toInt, (vi1 85).toInt, (vi1 86).toInt, (vi1 87).toInt, (vi1 88).toInt, (vi1 89).toInt, (vi1 90).toInt, (vi1 91).toInt, (vi1 92).toInt, (vi1 93).toInt, (vi1 94).toInt, (vi1 95).toInt, (vi1 96).toInt, (vi1 97).toInt, (vi1 98).toInt, (vi1 99).toInt, (vi1 100).toInt, (vi1 101).toInt, (vi1 102).toInt, (vi1 103).toInt, (vi1 104).toInt, (vi1 105).toInt, (vi1 106).toInt, (vi1 107).toInt, (vi1 108).toInt, (vi1 109).toInt, (vi1 110).toInt, (vi1 111).toInt, (vi1 112).toInt, (vi1 113).toInt, (vi1 114).toInt, (vi1 115).toInt, (vi1 116).toInt, (vi1 117).toInt, (vi1 118).toInt, (vi1 119).toInt, (vi1 120).toInt, (vi1 121).toInt, (vi1 122).toInt, (vi1 123).toInt, (vi1 124).toInt, (vi1 125).toInt, (vi1 126).toInt, (vi1 127).toInt, (vi1 128).toInt, (vi1 129).toInt, (vi1 130).toInt, (vi1 131).toInt, (vi1 132).toInt, (vi1 133).toInt, (vi1 134).toInt, (vi1 135).toInt, (vi1 136).toInt]) := congrArg (fun z9 => z9.2.2.2.2.1) gx
    have p_gF : gF1 = (fl_nF [(fl_A (vf1 23)), (fl_A (vf1 24)), (fl_A (vf1 25)), (fl_A (vf1 26)), (fl_A (vf1 27)), (fl_A (vf1 28)), (fl_A (vf1 29)), (fl_A (vf1 30)), (fl_A (vf1 31)), (fl_A (vf1 32)), (fl_A (vf1 33)), (fl_A (vf1 34)), (fl_A (vf1 35)), (fl_A (vf1 36)), (fl_A (vf1 37)), (fl_A (vf1 38)), (fl_A (vf1 39)), (fl_A (vf1 40)), (fl_A (vf1 41)), (fl_A (vf1 42)), (fl_A (vf1 43)), (fl_A (vf1 44)), (fl_A (vf1 45)), (fl_A (vf1 46)), (fl_A (vf1 47)), (fl_A (vf1 48)), (fl_A (vf1 49)), (fl_A (vf1 50)), (fl_A (vf1 51)), (fl_A (vf1 52)), (fl_A (vf1 53)), (fl_A (vf1 54))]) := congrArg (fun z9 => z9.2.2.2.2.2) gx
    have r_U : U1 = (vm1 12).toInt := congrArg (fun z9 => z9.2.2.1) gm
    have r_st : st1 = (fl_A (vn1 4)) := congrArg (fun z9 => z9.2.2.2.1) gm
    have r_und : und1 = (fl_A (vn1 6)) := congrArg (fun z9 => z9.2.2.2.2) gm
    have w1 : rs_S (vi1 33).toInt (vi1 34).toInt (fl_A (vf1 11)) (vi1 12).toInt (vi1 13).toInt (vi1 14).toInt (vi1 15).toInt (vi1 16).toInt (fl_A (vf1 1)) (fl_A (vf1 2)) (fl_A (vn1 4)) := by
      rw [kx1 33 (by decide), kx1 34 (by decide), kx2 11 (by decide), kx1 12 (by decide), kx1 13 (by decide), kx1 14 (by decide), kx1 15 (by decide), kx1 16 (by decide), ← p_pl, kx2 2 (by decide), ← r_st]
      exact e3
    have w2 : (vi1 12).toInt ≤ 9999 := by
      rw [kx1 12 (by decide)]
      exact hm
    have w3 : (vi1 24).toInt = (vm1 12).toInt := by
      rw [← p_U, ← r_U]
    have w4 : (vi1 25).toInt = (vm1 13).toInt := by
      rw [kx1 25 (by decide), km1 13 (by decide)]
      exact hN
    have w5 : rs_H (vi1 33).toInt (vi1 34).toInt (fl_A (vf1 11)) (vi1 24).toInt (vi1 26).toInt (lr_g3 vi1) (lr_f3 vf1) (fl_A (vn1 6)) := by
      rw [kx1 33 (by decide), kx1 34 (by decide), kx2 11 (by decide), ← p_U, ← p_L, ← r_und]
      exact rs_H_cg (fun k h9 => by rw [p_gI]; exact (lr_g3e vi1 h9).symm) (fun k h9 => by rw [p_gF]; exact (lr_f3e vf1 h9).symm) e5
    have w6 : rs_I (vi1 33).toInt (vi1 34).toInt (fl_A (vf1 11)) (vi1 25).toInt (lr_g4 vi1) (lr_f4 vf1) (fl_A (vn1 7)) := by
      rw [kx1 33 (by decide), kx1 34 (by decide), kx2 11 (by decide), kx1 25 (by decide), km2 7 (by decide)]
      exact rs_I_cg (fun k h9 => by rw [lr_g4e vi h9]; show (vi1 (137 + k)).toInt = (vi (137 + k)).toInt; rw [kx1 (137 + k) (kp_out (a := 137) (b := 152) (by decide) (by omega) (by omega))]) (fun k h9 => by rw [lr_f4e vf h9]; show fl_A (vf1 (55 + k)) = fl_A (vf (55 + k)); rw [kx2 (55 + k) (kp_out (a := 55) (b := 61) (by decide) (by omega) (by omega))]) hIm
    exact ⟨by rw [kx1 1 (by decide), km1 7 (by decide)]; exact hF, lr_H_keep (kx1 33 (by decide)) (kx1 34 (by decide)) (kx1 35 (by decide)) (kx1 36 (by decide)) (kx1 37 (by decide)) (kx1 38 (by decide)) (kx1 39 (by decide)) (kx1 40 (by decide)) (kx1 41 (by decide)) (kx1 42 (by decide)) (kx1 53 (by decide)) (kx2 11 (by decide)) (kx2 12 (by decide)) (kx2 13 (by decide)) (kx2 14 (by decide)) (kx2 19 (by decide)) (kx2 20 (by decide)) (km1 11 (by decide)) (by rw [km2 2 (by decide)]) hH, ⟨by rw [kx1 54 (by decide)]; exact hV.1.1, by rw [kx1 56 (by decide)]; exact hV.1.2⟩, Or.inr ⟨by rw [km1 11 (by decide)]; exact hM1, w1, w2, w3, w4, w5, w6⟩⟩

theorem lr_wind {tp : Int32} {vi vi1 vm vm1 : Nat → Int32} {vf vf1 vn vn1 : Nat → Nat → Int32} (hR : lr_R tp vi vf vm vn) (hM : vm 11 = 0 ∨ (vm 11 = 1 ∧ ((∀ k : Nat, 0 ≤ k → k ≤ 0 → (2 : Int) ≤ ((vn 2) k).toInt ∧ ((vn 2) k).toInt ≤ 9) ∧ (∀ k : Nat, 1 ≤ k → k ≤ 1 → (1 : Int) ≤ ((vn 2) k).toInt ∧ ((vn 2) k).toInt ≤ 20) ∧ (∀ k : Nat, 2 ≤ k → k ≤ 2 → (0 : Int) ≤ ((vn 2) k).toInt ∧ ((vn 2) k).toInt ≤ 8) ∧ (∀ k : Nat, 3 ≤ k → k ≤ 3 → (0 : Int) ≤ ((vn 2) k).toInt ∧ ((vn 2) k).toInt ≤ 100) ∧ (∀ k : Nat, 4 ≤ k → k ≤ 4 → (0 : Int) ≤ ((vn 2) k).toInt ∧ ((vn 2) k).toInt ≤ 9) ∧ (∀ k : Nat, 5 ≤ k → k ≤ 5 → (0 : Int) ≤ ((vn 2) k).toInt ∧ ((vn 2) k).toInt ≤ 3) ∧ (∀ k : Nat, 6 ≤ k → k ≤ 6 → (0 : Int) ≤ ((vn 2) k).toInt ∧ ((vn 2) k).toInt ≤ 6) ∧ (∀ k : Nat, 7 ≤ k → k ≤ 9 → (0 : Int) ≤ ((vn 2) k).toInt ∧ ((vn 2) k).toInt ≤ 8) ∧ (∀ k : Nat, 12 ≤ k → k ≤ 29 → (0 : Int) ≤ ((vn 2) k).toInt ∧ ((vn 2) k).toInt ≤ 20) ∧ (∀ k : Nat, 30 ≤ k → k ≤ 35 → (0 : Int) ≤ ((vn 2) k).toInt ∧ ((vn 2) k).toInt ≤ 8) ∧ (∀ k : Nat, 36 ≤ k → k ≤ 47 → (0 : Int) ≤ ((vn 2) k).toInt ∧ ((vn 2) k).toInt ≤ 999)) ∧ ((∀ (j i0 i : Int32), (0 : Int) ≤ j.toInt → j.toInt ≤ 8 → i0.toInt = 12 + 2 * j.toInt → i.toInt = 13 + 2 * j.toInt → ((vn 2) i0.toNatClampNeg).toInt = (1 : Int32).toInt → (1 : Int) ≤ ((vn 2) i.toNatClampNeg).toInt)))) (a : Int32) (kx1 : (∀ k9 : Nat, k9 ∉ ([0, 13, 14, 24, 26, 57, 58, 59, 60, 61, 62, 63, 64, 65, 66, 67, 68, 69, 70, 71, 72, 73, 74, 75, 76, 77, 78, 79, 80, 81, 82, 83, 84, 85, 86, 87, 88, 89, 90, 91, 92, 93, 94, 95, 96, 97, 98, 99, 100, 101, 102, 103, 104, 105, 106, 107, 108, 109, 110, 111, 112, 113, 114, 115, 116, 117, 118, 119, 120, 121, 122, 123, 124, 125, 126, 127, 128, 129, 130, 131, 132, 133, 134, 135, 136] : List Nat) → vi1 k9 = vi k9)) (kx2 : (∀ k9 : Nat, k9 ∉ ([23, 24, 25, 26, 27, 28, 29, 30, 31, 32, 33, 34, 35, 36, 37, 38, 39, 40, 41, 42, 43, 44, 45, 46, 47, 48, 49, 50, 51, 52, 53, 54] : List Nat) → vf1 k9 = vf k9)) (km1 : (∀ k9 : Nat, k9 ∉ ([0, 9, 12] : List Nat) → vm1 k9 = vm k9)) (km2 : (∀ k9 : Nat, k9 ∉ ([4, 6] : List Nat) → vn1 k9 = vn k9)) (gx : (Ff_X7_wind a.toInt (vi 33).toInt (vi 12).toInt (vi 13).toInt (vi 14).toInt (vi 15).toInt (vi 16).toInt (vi 24).toInt (vi 26).toInt (fl_nI [(vi 57).toInt, (vi 58).toInt, (vi 59).toInt, (vi 60).toInt, (vi 61).toInt, (vi 62).toInt, (vi 63).toInt, (vi 64).toInt, (vi 65).toInt, (vi 66).toInt, (vi 67).toInt, (vi 68).toInt, (vi 69).toInt, (vi 70).toInt, (vi 71).toInt, (vi 72).toInt, (vi 73).toInt, (vi 74).toInt, (vi 75).toInt, (vi 76).toInt, (vi 77).toInt, (vi 78).toInt, (vi 79).toInt, (vi 80).toInt, (vi 81).toInt, (vi 82).toInt, (vi 83).toInt, (vi 84).toInt, (vi 85).toInt, (vi 86).toInt, (vi 87).toInt, (vi 88).toInt, (vi 89).toInt, (vi 90).toInt, (vi 91).toInt, (vi 92).toInt, (vi 93).toInt, (vi 94).toInt, (vi 95).toInt, (vi 96).toInt, (vi 97).toInt, (vi 98).toInt, (vi 99).toInt, (vi 100).toInt, (vi 101).toInt, (vi 102).toInt, (vi 103).toInt, (vi 104).toInt, (vi 105).toInt, (vi 106).toInt, (vi 107).toInt, (vi 108).toInt, (vi 109).toInt, (vi 110).toInt, (vi 111).toInt, (vi 112).toInt, (vi 113).toInt, (vi 114).toInt, (vi 115).toInt, (vi 116).toInt, (vi 117).toInt, (vi 118).toInt, (vi 119).toInt, (vi 120).toInt, (vi 121).toInt, (vi 122).toInt, (vi 123).toInt, (vi 124).toInt, (vi 125).toInt, (vi 126).toInt, (vi 127).toInt, (vi 128).toInt, (vi 129).toInt, (vi 130).toInt, (vi 131).toInt, (vi 132).toInt, (vi 133).toInt, (vi 134).toInt, (vi 135).toInt, (vi 136).toInt]) (fl_A (vf 1)) (fl_nF [(fl_A (vf 23)), (fl_A (vf 24)), (fl_A (vf 25)), (fl_A (vf 26)), (fl_A (vf 27)), (fl_A (vf 28)), (fl_A (vf 29)), (fl_A (vf 30)), (fl_A (vf 31)), (fl_A (vf 32)), (fl_A (vf 33)), (fl_A (vf 34)), (fl_A (vf 35)), (fl_A (vf 36)), (fl_A (vf 37)), (fl_A (vf 38)), (fl_A (vf 39)), (fl_A (vf 40)), (fl_A (vf 41)), (fl_A (vf 42)), (fl_A (vf 43)), (fl_A (vf 44)), (fl_A (vf 45)), (fl_A (vf 46)), (fl_A (vf 47)), (fl_A (vf 48)), (fl_A (vf 49)), (fl_A (vf 50)), (fl_A (vf 51)), (fl_A (vf 52)), (fl_A (vf 53)), (fl_A (vf 54))]) (fl_A (vf 2))).2 = ((vi1 0).toInt, (vi1 13).toInt, (vi1 14).toInt, (vi1 24).toInt, (vi1 26).toInt, (fl_nI [(vi1 57).toInt, (vi1 58).toInt, (vi1 59).toInt, (vi1 60).toInt, (vi1 61).toInt, (vi1 62).toInt, (vi1 63).toInt, (vi1 64).toInt, (vi1 65).toInt, (vi1 66).toInt, (vi1 67).toInt, (vi1 68).toInt, (vi1 69).toInt, (vi1 70).toInt, (vi1 71).toInt, (vi1 72).toInt, (vi1 73).toInt, (vi1 74).toInt, (vi1 75).toInt, (vi1 76).toInt, (vi1 77).toInt, (vi1 78).toInt, (vi1 79).toInt, (vi1 80).toInt, (vi1 81).toInt, (vi1 82).toInt, (vi1 83).toInt, (vi1 84).toInt, (vi1 85).toInt, (vi1 86).toInt, (vi1 87).toInt, (vi1 88).toInt, (vi1 89).toInt, (vi1 90).toInt, (vi1 91).toInt, (vi1 92).toInt, (vi1 93).toInt, (vi1 94).toInt, (vi1 95).toInt, (vi1 96).toInt, (vi1 97).toInt, (vi1 98).toInt, (vi1 99).toInt, (vi1 100).toInt, (vi1 101).toInt, (vi1 102).toInt, (vi1 103).toInt, (vi1 104).toInt, (vi1 105).toInt, (vi1 106).toInt, (vi1 107).toInt, (vi1 108).toInt, (vi1 109).toInt, (vi1 110).toInt, (vi1 111).toInt, (vi1 112).toInt, (vi1 113).toInt, (vi1 114).toInt, (vi1 115).toInt, (vi1 116).toInt, (vi1 117).toInt, (vi1 118).toInt, (vi1 119).toInt, (vi1 120).toInt, (vi1 121).toInt, (vi1 122).toInt, (vi1 123).toInt, (vi1 124).toInt, (vi1 125).toInt, (vi1 126).toInt, (vi1 127).toInt, (vi1 128).toInt, (vi1 129).toInt, (vi1 130).toInt, (vi1 131).toInt, (vi1 132).toInt, (vi1 133).toInt, (vi1 134).toInt, (vi1 135).toInt, (vi1 136).toInt]), (fl_nF [(fl_A (vf1 23)), (fl_A (vf1 24)), (fl_A (vf1 25)), (fl_A (vf1 26)), (fl_A (vf1 27)), (fl_A (vf1 28)), (fl_A (vf1 29)), (fl_A (vf1 30)), (fl_A (vf1 31)), (fl_A (vf1 32)), (fl_A (vf1 33)), (fl_A (vf1 34)), (fl_A (vf1 35)), (fl_A (vf1 36)), (fl_A (vf1 37)), (fl_A (vf1 38)), (fl_A (vf1 39)), (fl_A (vf1 40)), (fl_A (vf1 41)), (fl_A (vf1 42)), (fl_A (vf1 43)), (fl_A (vf1 44)), (fl_A (vf1 45)), (fl_A (vf1 46)), (fl_A (vf1 47)), (fl_A (vf1 48)), (fl_A (vf1 49)), (fl_A (vf1 50)), (fl_A (vf1 51)), (fl_A (vf1 52)), (fl_A (vf1 53)), (fl_A (vf1 54))]))) (gm : ((vm 11 = 0 ∧ (∀ k9 : Nat, k9 ∉ ([0, 9] : List Nat) → vm1 k9 = vm k9) ∧ (∀ k9 : Nat, k9 ∉ ([] : List Nat) → vn1 k9 = vn k9)) ∨ (vm 11 = 1 ∧ (Ff_X8_wind a.toInt (vm 11).toInt (vm 12).toInt (fl_A (vn 2)) (fl_A (vn 4)) (fl_A (vn 6))).2 = ((vm1 0).toInt, (vm1 9).toInt, (vm1 12).toInt, (fl_A (vn1 4)), (fl_A (vn1 6)))))) : lr_Q vi1 vf1 vm1 vn1 := by
  obtain ⟨hT, hF, hH, hV⟩ := hR
  rcases hM with hM0 | ⟨hM1, hrs, hkm⟩
  · rcases hH with hH | ⟨z9, -⟩
    rotate_left
    · rw [hM0] at z9; exact absurd z9 (by decide)
    have hH9 : lr_H vi vf vm vn := Or.inl hH
    obtain ⟨-, h33, -⟩ := hH
    obtain ⟨⟨v54, v56⟩, hV⟩ := hV
    rcases hV with ⟨-, v12, v24, v25, u12, u13⟩ | ⟨z9, -⟩
    rotate_left
    · rw [hM0] at z9; exact absurd z9 (by decide)
    have e33 : (vi 33).toInt = 0 := by rw [h33]; decide
    have ex : Ff_X7_wind a.toInt (vi 33).toInt (vi 12).toInt (vi 13).toInt (vi 14).toInt (vi 15).toInt (vi 16).toInt (vi 24).toInt (vi 26).toInt (fl_nI [(vi 57).toInt, (vi 58).toInt, (vi 59).toInt, (vi 60).toInt, (vi 61).toInt, (vi 62).toInt, (vi 63).toInt, (vi 64).toInt, (vi 65).toInt, (vi 66).toInt, (vi 67).toInt, (vi 68).toInt, (vi 69).toInt, (vi 70).toInt, (vi 71).toInt, (vi 72).toInt, (vi 73).toInt, (vi 74).toInt, (vi 75).toInt, (vi 76).toInt, (vi 77).toInt, (vi 78).toInt, (vi 79).toInt, (vi 80).toInt, (vi 81).toInt, (vi 82).toInt, (vi 83).toInt, (vi 84).toInt, (vi 85).toInt, (vi 86).toInt, (vi 87).toInt, (vi 88).toInt, (vi 89).toInt, (vi 90).toInt, (vi 91).toInt, (vi 92).toInt, (vi 93).toInt, (vi 94).toInt, (vi 95).toInt, (vi 96).toInt, (vi 97).toInt, (vi 98).toInt, (vi 99).toInt, (vi 100).toInt, (vi 101).toInt, (vi 102).toInt, (vi 103).toInt, (vi 104).toInt, (vi 105).toInt, (vi 106).toInt, (vi 107).toInt, (vi 108).toInt, (vi 109).toInt, (vi 110).toInt, (vi 111).toInt, (vi 112).toInt, (vi 113).toInt, (vi 114).toInt, (vi 115).toInt, (vi 116).toInt, (vi 117).toInt, (vi 118).toInt, (vi 119).toInt, (vi 120).toInt, (vi 121).toInt, (vi 122).toInt, (vi 123).toInt, (vi 124).toInt, (vi 125).toInt, (vi 126).toInt, (vi 127).toInt, (vi 128).toInt, (vi 129).toInt, (vi 130).toInt, (vi 131).toInt, (vi 132).toInt, (vi 133).toInt, (vi 134).toInt, (vi 135).toInt, (vi 136).toInt]) (fl_A (vf 1)) (fl_nF [(fl_A (vf 23)), (fl_A (vf 24)), (fl_A (vf 25)), (fl_A (vf 26)), (fl_A (vf 27)), (fl_A (vf 28)), (fl_A (vf 29)), (fl_A (vf 30)), (fl_A (vf 31)), (fl_A (vf 32)), (fl_A (vf 33)), (fl_A (vf 34)), (fl_A (vf 35)), (fl_A (vf 36)), (fl_A (vf 37)), (fl_A (vf 38)), (fl_A (vf 39)), (fl_A (vf 40)), (fl_A (vf 41)), (fl_A (vf 42)), (fl_A (vf 43)), (fl_A (vf 44)), (fl_A (vf 45)), (fl_A (vf 46)), (fl_A (vf 47)), (fl_A (vf 48)), (fl_A (vf 49)), (fl_A (vf 50)), (fl_A (vf 51)), (fl_A (vf 52)), (fl_A (vf 53)), (fl_A (vf 54))]) (fl_A (vf 2)) = ((-1), 1, (vi 13).toInt, (vi 14).toInt, (vi 24).toInt, (vi 26).toInt, (fl_nI [(vi 57).toInt, (vi 58).toInt, (vi 59).toInt, (vi 60).toInt, (vi 61).toInt, (vi 62).toInt, (vi 63).toInt, (vi 64).toInt, (vi 65).toInt, (vi 66).toInt, (vi 67).toInt, (vi 68).toInt, (vi 69).toInt, (vi 70).toInt, (vi 71).toInt, (vi 72).toInt, (vi 73).toInt, (vi 74).toInt, (vi 75).toInt, (vi 76).toInt, (vi 77).toInt, (vi 78).toInt, (vi 79).toInt, (vi 80).toInt, (vi 81).toInt, (vi 82).toInt, (vi 83).toInt, (vi 84).toInt, (vi 85).toInt, (vi 86).toInt, (vi 87).toInt, (vi 88).toInt, (vi 89).toInt, (vi 90).toInt, (vi 91).toInt, (vi 92).toInt, (vi 93).toInt, (vi 94).toInt, (vi 95).toInt, (vi 96).toInt, (vi 97).toInt, (vi 98).toInt, (vi 99).toInt, (vi 100).toInt, (vi 101).toInt, (vi 102).toInt, (vi 103).toInt, (vi 104).toInt, (vi 105).toInt, (vi 106).toInt, (vi 107).toInt, (vi 108).toInt, (vi 109).toInt, (vi 110).toInt, (vi 111).toInt, (vi 112).toInt, (vi 113).toInt, (vi 114).toInt, (vi 115).toInt, (vi 116).toInt, (vi 117).toInt, (vi 118).toInt, (vi 119).toInt, (vi 120).toInt, (vi 121).toInt, (vi 122).toInt, (vi 123).toInt, (vi 124).toInt, (vi 125).toInt, (vi 126).toInt, (vi 127).toInt, (vi 128).toInt, (vi 129).toInt, (vi 130).toInt, (vi 131).toInt, (vi 132).toInt, (vi 133).toInt, (vi 134).toInt, (vi 135).toInt, (vi 136).toInt]), (fl_nF [(fl_A (vf 23)), (fl_A (vf 24)), (fl_A (vf 25)), (fl_A (vf 26)), (fl_A (vf 27)), (fl_A (vf 28)), (fl_A (vf 29)), (fl_A (vf 30)), (fl_A (vf 31)), (fl_A (vf 32)), (fl_A (vf 33)), (fl_A (vf 34)), (fl_A (vf 35)), (fl_A (vf 36)), (fl_A (vf 37)), (fl_A (vf 38)), (fl_A (vf 39)), (fl_A (vf 40)), (fl_A (vf 41)), (fl_A (vf 42)), (fl_A (vf 43)), (fl_A (vf 44)), (fl_A (vf 45)), (fl_A (vf 46)), (fl_A (vf 47)), (fl_A (vf 48)), (fl_A (vf 49)), (fl_A (vf 50)), (fl_A (vf 51)), (fl_A (vf 52)), (fl_A (vf 53)), (fl_A (vf 54))])) := by
      unfold Ff_X7_wind
      rw [e33, rs_isf, if_neg (by omega)]
      rfl
    rw [ex] at gx
    have p_U : (vi 24).toInt = (vi1 24).toInt := congrArg (fun z9 => z9.2.2.2.1) gx
    rcases gm with ⟨-, k01, k02⟩ | ⟨z9, -⟩
    rotate_left
    · rw [hM0] at z9; exact absurd z9 (by decide)
    refine ⟨by rw [kx1 1 (by decide), k01 7 (by decide)]; exact hF, lr_H_keep (kx1 33 (by decide)) (kx1 34 (by decide)) (kx1 35 (by decide)) (kx1 36 (by decide)) (kx1 37 (by decide)) (kx1 38 (by decide)) (kx1 39 (by decide)) (kx1 40 (by decide)) (kx1 41 (by decide)) (kx1 42 (by decide)) (kx1 53 (by decide)) (kx2 11 (by decide)) (kx2 12 (by decide)) (kx2 13 (by decide)) (kx2 14 (by decide)) (kx2 19 (by decide)) (kx2 20 (by decide)) (k01 11 (by decide)) (by rw [k02 2 (by decide)]) hH9, ⟨by rw [kx1 54 (by decide)]; exact v54, by rw [kx1 56 (by decide)]; exact v56⟩, Or.inl ⟨by rw [k01 11 (by decide)]; exact hM0, by rw [kx1 12 (by decide)]; exact v12, by rw [← Int32.toInt_inj, ← p_U, v24], by rw [kx1 25 (by decide)]; exact v25, by rw [k01 12 (by decide)]; exact u12, by rw [k01 13 (by decide)]; exact u13⟩⟩
  · obtain ⟨hG, hD, -⟩ := lr_G hH hM1 hrs hkm
    have hf9 : 2 ≤ (vi 33).toInt ∧ (vi 33).toInt ≤ 9 := ⟨hG.1.2.1, hG.1.2.2⟩
    have f9 := hf9.2
    have hV4 := hV.2
    rcases hV4 with ⟨z9, -⟩ | ⟨-, hS, hm, hU, hN, hHi, hIm⟩
    · rw [hM1] at z9; exact absurd z9 (by decide)
    have e11 : (vm 11).toInt = 1 := by rw [hM1]; decide
    have hHi := rs_H_cg (gI1 := fl_nI [(vi 57).toInt, (vi 58).toInt, (vi 59).toInt, (vi 60).toInt, (vi 61).toInt, (vi 62).toInt, (vi 63).toInt, (vi 64).toInt, (vi 65).toInt, (vi 66).toInt, (vi 67).toInt, (vi 68).toInt, (vi 69).toInt, (vi 70).toInt, (vi 71).toInt, (vi 72).toInt, (vi 73).toInt, (vi 74).toInt, (vi 75).toInt, (vi 76).toInt, (vi 77).toInt, (vi 78).toInt, (vi 79).toInt, (vi 80).toInt, (vi 81).toInt, (vi 82).toInt, (vi 83).toInt, (vi 84).toInt, (vi 85).toInt, (vi 86).toInt, (vi 87).toInt, (vi 88).toInt, (vi 89).toInt, (vi 90).toInt, (vi 91).toInt, (vi 92).toInt, (vi 93).toInt, (vi 94).toInt, (vi 95).toInt, (vi 96).toInt, (vi 97).toInt, (vi 98).toInt, (vi 99).toInt, (vi 100).toInt, (vi 101).toInt, (vi 102).toInt, (vi 103).toInt, (vi 104).toInt, (vi 105).toInt, (vi 106).toInt, (vi 107).toInt, (vi 108).toInt, (vi 109).toInt, (vi 110).toInt, (vi 111).toInt, (vi 112).toInt, (vi 113).toInt, (vi 114).toInt, (vi 115).toInt, (vi 116).toInt, (vi 117).toInt, (vi 118).toInt, (vi 119).toInt, (vi 120).toInt, (vi 121).toInt, (vi 122).toInt, (vi 123).toInt, (vi 124).toInt, (vi 125).toInt, (vi 126).toInt, (vi 127).toInt, (vi 128).toInt, (vi 129).toInt, (vi 130).toInt, (vi 131).toInt, (vi 132).toInt, (vi 133).toInt, (vi 134).toInt, (vi 135).toInt, (vi 136).toInt]) (gF1 := fl_nF [(fl_A (vf 23)), (fl_A (vf 24)), (fl_A (vf 25)), (fl_A (vf 26)), (fl_A (vf 27)), (fl_A (vf 28)), (fl_A (vf 29)), (fl_A (vf 30)), (fl_A (vf 31)), (fl_A (vf 32)), (fl_A (vf 33)), (fl_A (vf 34)), (fl_A (vf 35)), (fl_A (vf 36)), (fl_A (vf 37)), (fl_A (vf 38)), (fl_A (vf 39)), (fl_A (vf 40)), (fl_A (vf 41)), (fl_A (vf 42)), (fl_A (vf 43)), (fl_A (vf 44)), (fl_A (vf 45)), (fl_A (vf 46)), (fl_A (vf 47)), (fl_A (vf 48)), (fl_A (vf 49)), (fl_A (vf 50)), (fl_A (vf 51)), (fl_A (vf 52)), (fl_A (vf 53)), (fl_A (vf 54))]) (fun k h9 => lr_g3e vi h9) (fun k h9 => lr_f3e vf h9) hHi
    have hIm := rs_I_cg (gI1 := fl_nI [(vi 137).toInt, (vi 138).toInt, (vi 139).toInt, (vi 140).toInt, (vi 141).toInt, (vi 142).toInt, (vi 143).toInt, (vi 144).toInt, (vi 145).toInt, (vi 146).toInt, (vi 147).toInt, (vi 148).toInt, (vi 149).toInt, (vi 150).toInt, (vi 151).toInt]) (gF1 := fl_nF [(fl_A (vf 55)), (fl_A (vf 56)), (fl_A (vf 57)), (fl_A (vf 58)), (fl_A (vf 59)), (fl_A (vf 60))]) (fun k h9 => lr_g4e vi h9) (fun k h9 => lr_f4e vf h9) hIm
    obtain ⟨R, tr, tu1, sn1, U1, L1, gI1, gF1, st1, und1, e1, e2, e3, e5⟩ := rs_wind hG hS hm hHi a.toInt
    rcases gm with ⟨z9, -⟩ | ⟨-, gm⟩
    · rw [hM1] at z9; exact absurd z9 (by decide)
    rw [e11, ← hU] at gm
    rw [e1] at gx
    rw [e2] at gm
    have p_tu : tu1 = (vi1 13).toInt := congrArg (fun z9 => z9.2.1) gx
    have p_sn : sn1 = (vi1 14).toInt := congrArg (fun z9 => z9.2.2.1) gx
    have p_U : U1 = (vi1 24).toInt := congrArg (fun z9 => z9.2.2.2.1) gx
    have p_L : L1 = (vi1 26).toInt := congrArg (fun z9 => z9.2.2.2.2.1) gx
    have p_gI : gI1 = (fl_nI [(vi1 57).toInt, (vi1 58).toInt, (vi1 59).toInt, (vi1 60).toInt, (vi1 61).toInt, (vi1 62).toInt, (vi1 63).toInt, (vi1 64).toInt, (vi1 65).toInt, (vi1 66).toInt, (vi1 67).toInt, (vi1 68).toInt, (vi1 69).toInt, (vi1 70).toInt, (vi1 71).toInt, (vi1 72).toInt, (vi1 73).toInt, (vi1 74).toInt, (vi1 75).toInt, (vi1 76).toInt, (vi1 77).toInt, (vi1 78).toInt, (vi1 79).toInt, (vi1 80).toInt, (vi1 81).toInt, (vi1 82).toInt, (vi1 83).toInt, (vi1 84).toInt, (vi1 85).toInt, (vi1 86).toInt, (vi1 87).toInt, (vi1 88).toInt, (vi1 89).toInt, (vi1 90).toInt, (vi1 91).toInt, (vi1 92).toInt, (vi1 93).toInt, (vi1 94).toInt, (vi1 95).toInt, (vi1 96).toInt, (vi1 97).toInt, (vi1 98).toInt, (vi1 99).toInt, (vi1 100).toInt, (vi1 101).toInt, (vi1 102).toInt, (vi1 103).toInt, (vi1 104).toInt, (vi1 105).toInt, (vi1 106).toInt, (vi1 107).toInt, (vi1 108).toInt, (vi1 109).toInt, (vi1 110).toInt, (vi1 111).toInt, (vi1 112).toInt, (vi1 113).toInt, (vi1 114).toInt, (vi1 115).toInt, (vi1 116).toInt, (vi1 117).toInt, (vi1 118).toInt, (vi1 119).toInt, (vi1 120).toInt, (vi1 121).toInt, (vi1 122).toInt, (vi1 123).toInt, (vi1 124).toInt, (vi1 125).toInt, (vi1 126).toInt, (vi1 127).toInt, (vi1 128).toInt, (vi1 129).toInt, (vi1 130).toInt, (vi1 131).toInt, (vi1 132).toInt, (vi1 133).toInt, (vi1 134).toInt, (vi1 135).toInt, (vi1 136).toInt]) := congrArg (fun z9 => z9.2.2.2.2.2.1) gx
    have p_gF : gF1 = (fl_nF [(fl_A (vf1 23)), (fl_A (vf1 24)), (fl_A (vf1 25)), (fl_A (vf1 26)), (fl_A (vf1 27)), (fl_A (vf1 28)), (fl_A (vf1 29)), (fl_A (vf1 30)), (fl_A (vf1 31)), (fl_A (vf1 32)), (fl_A (vf1 33)), (fl_A (vf1 34)), (fl_A (vf1 35)), (fl_A (vf1 36)), (fl_A (vf1 37)), (fl_A (vf1 38)), (fl_A (vf1 39)), (fl_A (vf1 40)), (fl_A (vf1 41)), (fl_A (vf1 42)), (fl_A (vf1 43)), (fl_A (vf1 44)), (fl_A (vf1 45)), (fl_A (vf1 46)), (fl_A (vf1 47)), (fl_A (vf1 48)), (fl_A (vf1 49)), (fl_A (vf1 50)), (fl_A (vf1 51)), (fl_A (vf1 52)), (fl_A (vf1 53)), (fl_A (vf1 54))]) := congrArg (fun z9 => z9.2.2.2.2.2.2) gx
    have r_U : U1 = (vm1 12).toInt := congrArg (fun z9 => z9.2.2.1) gm
    have r_st : st1 = (fl_A (vn1 4)) := congrArg (fun z9 => z9.2.2.2.1) gm
    have r_und : und1 = (fl_A (vn1 6)) := congrArg (fun z9 => z9.2.2.2.2) gm
    have w1 : rs_S (vi1 33).toInt (vi1 34).toInt (fl_A (vf1 11)) (vi1 12).toInt (vi1 13).toInt (vi1 14).toInt (vi1 15).toInt (vi1 16).toInt (fl_A (vf1 1)) (fl_A (vf1 2)) (fl_A (vn1 4)) := by
      rw [kx1 33 (by decide), kx1 34 (by decide), kx2 11 (by decide), kx1 12 (by decide), ← p_tu, ← p_sn, kx1 15 (by decide), kx1 16 (by decide), kx2 1 (by decide), kx2 2 (by decide), ← r_st]
      exact e3
    have w2 : (vi1 12).toInt ≤ 9999 := by
      rw [kx1 12 (by decide)]
      exact hm
    have w3 : (vi1 24).toInt = (vm1 12).toInt := by
      rw [← p_U, ← r_U]
    have w4 : (vi1 25).toInt = (vm1 13).toInt := by
      rw [kx1 25 (by decide), km1 13 (by decide)]
      exact hN
    have w5 : rs_H (vi1 33).toInt (vi1 34).toInt (fl_A (vf1 11)) (vi1 24).toInt (vi1 26).toInt (lr_g3 vi1) (lr_f3 vf1) (fl_A (vn1 6)) := by
      rw [kx1 33 (by decide), kx1 34 (by decide), kx2 11 (by decide), ← p_U, ← p_L, ← r_und]
      exact rs_H_cg (fun k h9 => by rw [p_gI]; exact (lr_g3e vi1 h9).symm) (fun k h9 => by rw [p_gF]; exact (lr_f3e vf1 h9).symm) e5
    have w6 : rs_I (vi1 33).toInt (vi1 34).toInt (fl_A (vf1 11)) (vi1 25).toInt (lr_g4 vi1) (lr_f4 vf1) (fl_A (vn1 7)) := by
      rw [kx1 33 (by decide), kx1 34 (by decide), kx2 11 (by decide), kx1 25 (by decide), km2 7 (by decide)]
      exact rs_I_cg (fun k h9 => by rw [lr_g4e vi h9]; show (vi1 (137 + k)).toInt = (vi (137 + k)).toInt; rw [kx1 (137 + k) (kp_out (a := 137) (b := 152) (by decide) (by omega) (by omega))]) (fun k h9 => by rw [lr_f4e vf h9]; show fl_A (vf1 (55 + k)) = fl_A (vf (55 + k)); rw [kx2 (55 + k) (kp_out (a := 55) (b := 61) (by decide) (by omega) (by omega))]) hIm
    exact ⟨by rw [kx1 1 (by decide), km1 7 (by decide)]; exact hF, lr_H_keep (kx1 33 (by decide)) (kx1 34 (by decide)) (kx1 35 (by decide)) (kx1 36 (by decide)) (kx1 37 (by decide)) (kx1 38 (by decide)) (kx1 39 (by decide)) (kx1 40 (by decide)) (kx1 41 (by decide)) (kx1 42 (by decide)) (kx1 53 (by decide)) (kx2 11 (by decide)) (kx2 12 (by decide)) (kx2 13 (by decide)) (kx2 14 (by decide)) (kx2 19 (by decide)) (kx2 20 (by decide)) (km1 11 (by decide)) (by rw [km2 2 (by decide)]) hH, ⟨by rw [kx1 54 (by decide)]; exact hV.1.1, by rw [kx1 56 (by decide)]; exact hV.1.2⟩, Or.inr ⟨by rw [km1 11 (by decide)]; exact hM1, w1, w2, w3, w4, w5, w6⟩⟩

theorem lr_go {tp : Int32} {vi vi1 vm vm1 : Nat → Int32} {vf vf1 vn vn1 : Nat → Nat → Int32} (hR : lr_R tp vi vf vm vn) (hM : vm 11 = 0 ∨ (vm 11 = 1 ∧ ((∀ k : Nat, 0 ≤ k → k ≤ 0 → (2 : Int) ≤ ((vn 2) k).toInt ∧ ((vn 2) k).toInt ≤ 9) ∧ (∀ k : Nat, 1 ≤ k → k ≤ 1 → (1 : Int) ≤ ((vn 2) k).toInt ∧ ((vn 2) k).toInt ≤ 20) ∧ (∀ k : Nat, 2 ≤ k → k ≤ 2 → (0 : Int) ≤ ((vn 2) k).toInt ∧ ((vn 2) k).toInt ≤ 8) ∧ (∀ k : Nat, 3 ≤ k → k ≤ 3 → (0 : Int) ≤ ((vn 2) k).toInt ∧ ((vn 2) k).toInt ≤ 100) ∧ (∀ k : Nat, 4 ≤ k → k ≤ 4 → (0 : Int) ≤ ((vn 2) k).toInt ∧ ((vn 2) k).toInt ≤ 9) ∧ (∀ k : Nat, 5 ≤ k → k ≤ 5 → (0 : Int) ≤ ((vn 2) k).toInt ∧ ((vn 2) k).toInt ≤ 3) ∧ (∀ k : Nat, 6 ≤ k → k ≤ 6 → (0 : Int) ≤ ((vn 2) k).toInt ∧ ((vn 2) k).toInt ≤ 6) ∧ (∀ k : Nat, 7 ≤ k → k ≤ 9 → (0 : Int) ≤ ((vn 2) k).toInt ∧ ((vn 2) k).toInt ≤ 8) ∧ (∀ k : Nat, 12 ≤ k → k ≤ 29 → (0 : Int) ≤ ((vn 2) k).toInt ∧ ((vn 2) k).toInt ≤ 20) ∧ (∀ k : Nat, 30 ≤ k → k ≤ 35 → (0 : Int) ≤ ((vn 2) k).toInt ∧ ((vn 2) k).toInt ≤ 8) ∧ (∀ k : Nat, 36 ≤ k → k ≤ 47 → (0 : Int) ≤ ((vn 2) k).toInt ∧ ((vn 2) k).toInt ≤ 999)) ∧ ((∀ (j i0 i : Int32), (0 : Int) ≤ j.toInt → j.toInt ≤ 8 → i0.toInt = 12 + 2 * j.toInt → i.toInt = 13 + 2 * j.toInt → ((vn 2) i0.toNatClampNeg).toInt = (1 : Int32).toInt → (1 : Int) ≤ ((vn 2) i.toNatClampNeg).toInt)))) (a : Int32) (kx1 : (∀ k9 : Nat, k9 ∉ ([0, 12, 13, 14, 15, 16, 24, 26, 57, 58, 59, 60, 61, 62, 63, 64, 65, 66, 67, 68, 69, 70, 71, 72, 73, 74, 75, 76, 77, 78, 79, 80, 81, 82, 83, 84, 85, 86, 87, 88, 89, 90, 91, 92, 93, 94, 95, 96, 97, 98, 99, 100, 101, 102, 103, 104, 105, 106, 107, 108, 109, 110, 111, 112, 113, 114, 115, 116, 117, 118, 119, 120, 121, 122, 123, 124, 125, 126, 127, 128, 129, 130, 131, 132, 133, 134, 135, 136] : List Nat) → vi1 k9 = vi k9)) (kx2 : (∀ k9 : Nat, k9 ∉ ([1, 2, 23, 24, 25, 26, 27, 28, 29, 30, 31, 32, 33, 34, 35, 36, 37, 38, 39, 40, 41, 42, 43, 44, 45, 46, 47, 48, 49, 50, 51, 52, 53, 54] : List Nat) → vf1 k9 = vf k9)) (km1 : (∀ k9 : Nat, k9 ∉ ([0, 9, 12, 14, 15, 16, 17] : List Nat) → vm1 k9 = vm k9)) (km2 : (∀ k9 : Nat, k9 ∉ ([4, 6, 8, 9] : List Nat) → vn1 k9 = vn k9)) (gx : (Ff_X7_go a.toInt (vi 33).toInt (vi 34).toInt (vi 35).toInt (vi 38).toInt (vi 39).toInt (vi 12).toInt (vi 13).toInt (vi 14).toInt (vi 15).toInt (vi 16).toInt (vi 24).toInt (vi 26).toInt (fl_nI [(vi 57).toInt, (vi 58).toInt, (vi 59).toInt, (vi 60).toInt, (vi 61).toInt, (vi 62).toInt, (vi 63).toInt, (vi 64).toInt, (vi 65).toInt, (vi 66).toInt, (vi 67).toInt, (vi 68).toInt, (vi 69).toInt, (vi 70).toInt, (vi 71).toInt, (vi 72).toInt, (vi 73).toInt, (vi 74).toInt, (vi 75).toInt, (vi 76).toInt, (vi 77).toInt, (vi 78).toInt, (vi 79).toInt, (vi 80).toInt, (vi 81).toInt, (vi 82).toInt, (vi 83).toInt, (vi 84).toInt, (vi 85).toInt, (vi 86).toInt, (vi 87).toInt, (vi 88).toInt, (vi 89).toInt, (vi 90).toInt, (vi 91).toInt, (vi 92).toInt, (vi 93).toInt, (vi 94).toInt, (vi 95).toInt, (vi 96).toInt, (vi 97).toInt, (vi 98).toInt, (vi 99).toInt, (vi 100).toInt, (vi 101).toInt, (vi 102).toInt, (vi 103).toInt, (vi 104).toInt, (vi 105).toInt, (vi 106).toInt, (vi 107).toInt, (vi 108).toInt, (vi 109).toInt, (vi 110).toInt, (vi 111).toInt, (vi 112).toInt, (vi 113).toInt, (vi 114).toInt, (vi 115).toInt, (vi 116).toInt, (vi 117).toInt, (vi 118).toInt, (vi 119).toInt, (vi 120).toInt, (vi 121).toInt, (vi 122).toInt, (vi 123).toInt, (vi 124).toInt, (vi 125).toInt, (vi 126).toInt, (vi 127).toInt, (vi 128).toInt, (vi 129).toInt, (vi 130).toInt, (vi 131).toInt, (vi 132).toInt, (vi 133).toInt, (vi 134).toInt, (vi 135).toInt, (vi 136).toInt]) (fl_A (vf 1)) (fl_nF [(fl_A (vf 23)), (fl_A (vf 24)), (fl_A (vf 25)), (fl_A (vf 26)), (fl_A (vf 27)), (fl_A (vf 28)), (fl_A (vf 29)), (fl_A (vf 30)), (fl_A (vf 31)), (fl_A (vf 32)), (fl_A (vf 33)), (fl_A (vf 34)), (fl_A (vf 35)), (fl_A (vf 36)), (fl_A (vf 37)), (fl_A (vf 38)), (fl_A (vf 39)), (fl_A (vf 40)), (fl_A (vf 41)), (fl_A (vf 42)), (fl_A (vf 43)), (fl_A (vf 44)), (fl_A (vf 45)), (fl_A (vf 46)), (fl_A (vf 47)), (fl_A (vf 48)), (fl_A (vf 49)), (fl_A (vf 50)), (fl_A (vf 51)), (fl_A (vf 52)), (fl_A (vf 53)), (fl_A (vf 54))]) (fl_A (vf 2)) (fl_A (vf 11)) (fl_A (vf 12)) (vi 53).toInt (vi 54).toInt (fl_A (vf 20)) (fl_A (vf 19))).2 = ((vi1 0).toInt, (vi1 12).toInt, (vi1 13).toInt, (vi1 14).toInt, (vi1 15).toInt, (vi1 16).toInt, (vi1 24).toInt, (vi1 26).toInt, (fl_nI [(vi1 57).toInt, (vi1 58).toInt, (vi1 59).toInt, (vi1 60).toInt, (vi1 61).toInt, (vi1 62).toInt, (vi1 63).toInt, (vi1 64).toInt, (vi1 65).toInt, (vi1 66).toInt, (vi1 67).toInt, (vi1 68).toInt, (vi1 69).toInt, (vi1 70).toInt, (vi1 71).toInt, (vi1 72).toInt, (vi1 73).toInt, (vi1 74).toInt, (vi1 75).toInt, (vi1 76).toInt, (vi1 77).toInt, (vi1 78).toInt, (vi1 79).toInt, (vi1 80).toInt, (vi1 81).toInt, (vi1 82).toInt, (vi1 83).toInt, (vi1 84).toInt, (vi1 85).toInt, (vi1 86).toInt, (vi1 87).toInt, (vi1 88).toInt, (vi1 89).toInt, (vi1 90).toInt, (vi1 91).toInt, (vi1 92).toInt, (vi1 93).toInt, (vi1 94).toInt, (vi1 95).toInt, (vi1 96).toInt, (vi1 97).toInt, (vi1 98).toInt, (vi1 99).toInt, (vi1 100).toInt, (vi1 101).toInt, (vi1 102).toInt, (vi1 103).toInt, (vi1 104).toInt, (vi1 105).toInt, (vi1 106).toInt, (vi1 107).toInt, (vi1 108).toInt, (vi1 109).toInt, (vi1 110).toInt, (vi1 111).toInt, (vi1 112).toInt, (vi1 113).toInt, (vi1 114).toInt, (vi1 115).toInt, (vi1 116).toInt, (vi1 117).toInt, (vi1 118).toInt, (vi1 119).toInt, (vi1 120).toInt, (vi1 121).toInt, (vi1 122).toInt, (vi1 123).toInt, (vi1 124).toInt, (vi1 125).toInt, (vi1 126).toInt, (vi1 127).toInt, (vi1 128).toInt, (vi1 129).toInt, (vi1 130).toInt, (vi1 131).toInt, (vi1 132).toInt, (vi1 133).toInt, (vi1 134).toInt, (vi1 135).toInt, (vi1 136).toInt]), (fl_A (vf1 1)), (fl_nF [(fl_A (vf1 23)), (fl_A (vf1 24)), (fl_A (vf1 25)), (fl_A (vf1 26)), (fl_A (vf1 27)), (fl_A (vf1 28)), (fl_A (vf1 29)), (fl_A (vf1 30)), (fl_A (vf1 31)), (fl_A (vf1 32)), (fl_A (vf1 33)), (fl_A (vf1 34)), (fl_A (vf1 35)), (fl_A (vf1 36)), (fl_A (vf1 37)), (fl_A (vf1 38)), (fl_A (vf1 39)), (fl_A (vf1 40)), (fl_A (vf1 41)), (fl_A (vf1 42)), (fl_A (vf1 43)), (fl_A (vf1 44)), (fl_A (vf1 45)), (fl_A (vf1 46)), (fl_A (vf1 47)), (fl_A (vf1 48)), (fl_A (vf1 49)), (fl_A (vf1 50)), (fl_A (vf1 51)), (fl_A (vf1 52)), (fl_A (vf1 53)), (fl_A (vf1 54))]), (fl_A (vf1 2)))) (gm : ((vm 11 = 0 ∧ (∀ k9 : Nat, k9 ∉ ([0, 9] : List Nat) → vm1 k9 = vm k9) ∧ (∀ k9 : Nat, k9 ∉ ([] : List Nat) → vn1 k9 = vn k9)) ∨ (vm 11 = 1 ∧ (Ff_X8_go a.toInt (vm 11).toInt (vm 12).toInt (vm 14).toInt (vm 15).toInt (vm 16).toInt (vm 17).toInt (fl_A (vn 4)) (fl_A (vn 6)) (fl_A (vn 2)) (fl_A (vn 8)) (fl_A (vn 9))).2 = ((vm1 0).toInt, (vm1 9).toInt, (vm1 12).toInt, (vm1 14).toInt, (vm1 15).toInt, (vm1 16).toInt, (vm1 17).toInt, (fl_A (vn1 4)), (fl_A (vn1 6)), (fl_A (vn1 8)), (fl_A (vn1 9)))))) : lr_Q vi1 vf1 vm1 vn1 := by
  obtain ⟨hT, hF, hH, hV⟩ := hR
  rcases hM with hM0 | ⟨hM1, hrs, hkm⟩
  · rcases hH with hH | ⟨z9, -⟩
    rotate_left
    · rw [hM0] at z9; exact absurd z9 (by decide)
    have hH9 : lr_H vi vf vm vn := Or.inl hH
    obtain ⟨-, h33, -⟩ := hH
    obtain ⟨⟨v54, v56⟩, hV⟩ := hV
    rcases hV with ⟨-, v12, v24, v25, u12, u13⟩ | ⟨z9, -⟩
    rotate_left
    · rw [hM0] at z9; exact absurd z9 (by decide)
    have e33 : (vi 33).toInt = 0 := by rw [h33]; decide
    have ex : Ff_X7_go a.toInt (vi 33).toInt (vi 34).toInt (vi 35).toInt (vi 38).toInt (vi 39).toInt (vi 12).toInt (vi 13).toInt (vi 14).toInt (vi 15).toInt (vi 16).toInt (vi 24).toInt (vi 26).toInt (fl_nI [(vi 57).toInt, (vi 58).toInt, (vi 59).toInt, (vi 60).toInt, (vi 61).toInt, (vi 62).toInt, (vi 63).toInt, (vi 64).toInt, (vi 65).toInt, (vi 66).toInt, (vi 67).toInt, (vi 68).toInt, (vi 69).toInt, (vi 70).toInt, (vi 71).toInt, (vi 72).toInt, (vi 73).toInt, (vi 74).toInt, (vi 75).toInt, (vi 76).toInt, (vi 77).toInt, (vi 78).toInt, (vi 79).toInt, (vi 80).toInt, (vi 81).toInt, (vi 82).toInt, (vi 83).toInt, (vi 84).toInt, (vi 85).toInt, (vi 86).toInt, (vi 87).toInt, (vi 88).toInt, (vi 89).toInt, (vi 90).toInt, (vi 91).toInt, (vi 92).toInt, (vi 93).toInt, (vi 94).toInt, (vi 95).toInt, (vi 96).toInt, (vi 97).toInt, (vi 98).toInt, (vi 99).toInt, (vi 100).toInt, (vi 101).toInt, (vi 102).toInt, (vi 103).toInt, (vi 104).toInt, (vi 105).toInt, (vi 106).toInt, (vi 107).toInt, (vi 108).toInt, (vi 109).toInt, (vi 110).toInt, (vi 111).toInt, (vi 112).toInt, (vi 113).toInt, (vi 114).toInt, (vi 115).toInt, (vi 116).toInt, (vi 117).toInt, (vi 118).toInt, (vi 119).toInt, (vi 120).toInt, (vi 121).toInt, (vi 122).toInt, (vi 123).toInt, (vi 124).toInt, (vi 125).toInt, (vi 126).toInt, (vi 127).toInt, (vi 128).toInt, (vi 129).toInt, (vi 130).toInt, (vi 131).toInt, (vi 132).toInt, (vi 133).toInt, (vi 134).toInt, (vi 135).toInt, (vi 136).toInt]) (fl_A (vf 1)) (fl_nF [(fl_A (vf 23)), (fl_A (vf 24)), (fl_A (vf 25)), (fl_A (vf 26)), (fl_A (vf 27)), (fl_A (vf 28)), (fl_A (vf 29)), (fl_A (vf 30)), (fl_A (vf 31)), (fl_A (vf 32)), (fl_A (vf 33)), (fl_A (vf 34)), (fl_A (vf 35)), (fl_A (vf 36)), (fl_A (vf 37)), (fl_A (vf 38)), (fl_A (vf 39)), (fl_A (vf 40)), (fl_A (vf 41)), (fl_A (vf 42)), (fl_A (vf 43)), (fl_A (vf 44)), (fl_A (vf 45)), (fl_A (vf 46)), (fl_A (vf 47)), (fl_A (vf 48)), (fl_A (vf 49)), (fl_A (vf 50)), (fl_A (vf 51)), (fl_A (vf 52)), (fl_A (vf 53)), (fl_A (vf 54))]) (fl_A (vf 2)) (fl_A (vf 11)) (fl_A (vf 12)) (vi 53).toInt (vi 54).toInt (fl_A (vf 20)) (fl_A (vf 19)) = ((-1), 1, (vi 12).toInt, (vi 13).toInt, (vi 14).toInt, (vi 15).toInt, (vi 16).toInt, (vi 24).toInt, (vi 26).toInt, (fl_nI [(vi 57).toInt, (vi 58).toInt, (vi 59).toInt, (vi 60).toInt, (vi 61).toInt, (vi 62).toInt, (vi 63).toInt, (vi 64).toInt, (vi 65).toInt, (vi 66).toInt, (vi 67).toInt, (vi 68).toInt, (vi 69).toInt, (vi 70).toInt, (vi 71).toInt, (vi 72).toInt, (vi 73).toInt, (vi 74).toInt, (vi 75).toInt, (vi 76).toInt, (vi 77).toInt, (vi 78).toInt, (vi 79).toInt, (vi 80).toInt, (vi 81).toInt, (vi 82).toInt, (vi 83).toInt, (vi 84).toInt, (vi 85).toInt, (vi 86).toInt, (vi 87).toInt, (vi 88).toInt, (vi 89).toInt, (vi 90).toInt, (vi 91).toInt, (vi 92).toInt, (vi 93).toInt, (vi 94).toInt, (vi 95).toInt, (vi 96).toInt, (vi 97).toInt, (vi 98).toInt, (vi 99).toInt, (vi 100).toInt, (vi 101).toInt, (vi 102).toInt, (vi 103).toInt, (vi 104).toInt, (vi 105).toInt, (vi 106).toInt, (vi 107).toInt, (vi 108).toInt, (vi 109).toInt, (vi 110).toInt, (vi 111).toInt, (vi 112).toInt, (vi 113).toInt, (vi 114).toInt, (vi 115).toInt, (vi 116).toInt, (vi 117).toInt, (vi 118).toInt, (vi 119).toInt, (vi 120).toInt, (vi 121).toInt, (vi 122).toInt, (vi 123).toInt, (vi 124).toInt, (vi 125).toInt, (vi 126).toInt, (vi 127).toInt, (vi 128).toInt, (vi 129).toInt, (vi 130).toInt, (vi 131).toInt, (vi 132).toInt, (vi 133).toInt, (vi 134).toInt, (vi 135).toInt, (vi 136).toInt]), (fl_A (vf 1)), (fl_nF [(fl_A (vf 23)), (fl_A (vf 24)), (fl_A (vf 25)), (fl_A (vf 26)), (fl_A (vf 27)), (fl_A (vf 28)), (fl_A (vf 29)), (fl_A (vf 30)), (fl_A (vf 31)), (fl_A (vf 32)), (fl_A (vf 33)), (fl_A (vf 34)), (fl_A (vf 35)), (fl_A (vf 36)), (fl_A (vf 37)), (fl_A (vf 38)), (fl_A (vf 39)), (fl_A (vf 40)), (fl_A (vf 41)), (fl_A (vf 42)), (fl_A (vf 43)), (fl_A (vf 44)), (fl_A (vf 45)), (fl_A (vf 46)), (fl_A (vf 47)), (fl_A (vf 48)), (fl_A (vf 49)), (fl_A (vf 50)), (fl_A (vf 51)), (fl_A (vf 52)), (fl_A (vf 53)), (fl_A (vf 54))]), (fl_A (vf 2))) := by
      unfold Ff_X7_go
      rw [e33, rs_tn, if_pos (by decide)]
      rfl
    rw [ex] at gx
    have p_mi : (vi 12).toInt = (vi1 12).toInt := congrArg (fun z9 => z9.2.1) gx
    have p_U : (vi 24).toInt = (vi1 24).toInt := congrArg (fun z9 => z9.2.2.2.2.2.2.1) gx
    rcases gm with ⟨-, k01, k02⟩ | ⟨z9, -⟩
    rotate_left
    · rw [hM0] at z9; exact absurd z9 (by decide)
    refine ⟨by rw [kx1 1 (by decide), k01 7 (by decide)]; exact hF, lr_H_keep (kx1 33 (by decide)) (kx1 34 (by decide)) (kx1 35 (by decide)) (kx1 36 (by decide)) (kx1 37 (by decide)) (kx1 38 (by decide)) (kx1 39 (by decide)) (kx1 40 (by decide)) (kx1 41 (by decide)) (kx1 42 (by decide)) (kx1 53 (by decide)) (kx2 11 (by decide)) (kx2 12 (by decide)) (kx2 13 (by decide)) (kx2 14 (by decide)) (kx2 19 (by decide)) (kx2 20 (by decide)) (k01 11 (by decide)) (by rw [k02 2 (by decide)]) hH9, ⟨by rw [kx1 54 (by decide)]; exact v54, by rw [kx1 56 (by decide)]; exact v56⟩, Or.inl ⟨by rw [k01 11 (by decide)]; exact hM0, by rw [← Int32.toInt_inj, ← p_mi, v12], by rw [← Int32.toInt_inj, ← p_U, v24], by rw [kx1 25 (by decide)]; exact v25, by rw [k01 12 (by decide)]; exact u12, by rw [k01 13 (by decide)]; exact u13⟩⟩
  · obtain ⟨hG, hD, -⟩ := lr_G hH hM1 hrs hkm
    have hf9 : 2 ≤ (vi 33).toInt ∧ (vi 33).toInt ≤ 9 := ⟨hG.1.2.1, hG.1.2.2⟩
    have f9 := hf9.2
    have hV4 := hV.2
    rcases hV4 with ⟨z9, -⟩ | ⟨-, hS, hm, hU, hN, hHi, hIm⟩
    · rw [hM1] at z9; exact absurd z9 (by decide)
    have e11 : (vm 11).toInt = 1 := by rw [hM1]; decide
    have hHi := rs_H_cg (gI1 := fl_nI [(vi 57).toInt, (vi 58).toInt, (vi 59).toInt, (vi 60).toInt, (vi 61).toInt, (vi 62).toInt, (vi 63).toInt, (vi 64).toInt, (vi 65).toInt, (vi 66).toInt, (vi 67).toInt, (vi 68).toInt, (vi 69).toInt, (vi 70).toInt, (vi 71).toInt, (vi 72).toInt, (vi 73).toInt, (vi 74).toInt, (vi 75).toInt, (vi 76).toInt, (vi 77).toInt, (vi 78).toInt, (vi 79).toInt, (vi 80).toInt, (vi 81).toInt, (vi 82).toInt, (vi 83).toInt, (vi 84).toInt, (vi 85).toInt, (vi 86).toInt, (vi 87).toInt, (vi 88).toInt, (vi 89).toInt, (vi 90).toInt, (vi 91).toInt, (vi 92).toInt, (vi 93).toInt, (vi 94).toInt, (vi 95).toInt, (vi 96).toInt, (vi 97).toInt, (vi 98).toInt, (vi 99).toInt, (vi 100).toInt, (vi 101).toInt, (vi 102).toInt, (vi 103).toInt, (vi 104).toInt, (vi 105).toInt, (vi 106).toInt, (vi 107).toInt, (vi 108).toInt, (vi 109).toInt, (vi 110).toInt, (vi 111).toInt, (vi 112).toInt, (vi 113).toInt, (vi 114).toInt, (vi 115).toInt, (vi 116).toInt, (vi 117).toInt, (vi 118).toInt, (vi 119).toInt, (vi 120).toInt, (vi 121).toInt, (vi 122).toInt, (vi 123).toInt, (vi 124).toInt, (vi 125).toInt, (vi 126).toInt, (vi 127).toInt, (vi 128).toInt, (vi 129).toInt, (vi 130).toInt, (vi 131).toInt, (vi 132).toInt, (vi 133).toInt, (vi 134).toInt, (vi 135).toInt, (vi 136).toInt]) (gF1 := fl_nF [(fl_A (vf 23)), (fl_A (vf 24)), (fl_A (vf 25)), (fl_A (vf 26)), (fl_A (vf 27)), (fl_A (vf 28)), (fl_A (vf 29)), (fl_A (vf 30)), (fl_A (vf 31)), (fl_A (vf 32)), (fl_A (vf 33)), (fl_A (vf 34)), (fl_A (vf 35)), (fl_A (vf 36)), (fl_A (vf 37)), (fl_A (vf 38)), (fl_A (vf 39)), (fl_A (vf 40)), (fl_A (vf 41)), (fl_A (vf 42)), (fl_A (vf 43)), (fl_A (vf 44)), (fl_A (vf 45)), (fl_A (vf 46)), (fl_A (vf 47)), (fl_A (vf 48)), (fl_A (vf 49)), (fl_A (vf 50)), (fl_A (vf 51)), (fl_A (vf 52)), (fl_A (vf 53)), (fl_A (vf 54))]) (fun k h9 => lr_g3e vi h9) (fun k h9 => lr_f3e vf h9) hHi
    have hIm := rs_I_cg (gI1 := fl_nI [(vi 137).toInt, (vi 138).toInt, (vi 139).toInt, (vi 140).toInt, (vi 141).toInt, (vi 142).toInt, (vi 143).toInt, (vi 144).toInt, (vi 145).toInt, (vi 146).toInt, (vi 147).toInt, (vi 148).toInt, (vi 149).toInt, (vi 150).toInt, (vi 151).toInt]) (gF1 := fl_nF [(fl_A (vf 55)), (fl_A (vf 56)), (fl_A (vf 57)), (fl_A (vf 58)), (fl_A (vf 59)), (fl_A (vf 60))]) (fun k h9 => lr_g4e vi h9) (fun k h9 => lr_f4e vf h9) hIm
    obtain ⟨R, tr, mi1, tu1, sn1, go1, ca1, U1, L1, z5, z6, z7, z8, gI1, pl1, gF1, he1, st1, und1, ff1, tt1, e1, e2, e3, e4, e5⟩ := rs_go hG (hD hV.1.1) hS hm hHi a.toInt (vm 14).toInt (vm 15).toInt (vm 16).toInt (vm 17).toInt (fl_A (vn 8)) (fl_A (vn 9))
    rcases gm with ⟨z9, -⟩ | ⟨-, gm⟩
    · rw [hM1] at z9; exact absurd z9 (by decide)
    rw [e11, ← hU] at gm
    rw [e1] at gx
    rw [e2] at gm
    have p_mi : mi1 = (vi1 12).toInt := congrArg (fun z9 => z9.2.1) gx
    have p_tu : tu1 = (vi1 13).toInt := congrArg (fun z9 => z9.2.2.1) gx
    have p_sn : sn1 = (vi1 14).toInt := congrArg (fun z9 => z9.2.2.2.1) gx
    have p_go : go1 = (vi1 15).toInt := congrArg (fun z9 => z9.2.2.2.2.1) gx
    have p_ca : ca1 = (vi1 16).toInt := congrArg (fun z9 => z9.2.2.2.2.2.1) gx
    have p_U : U1 = (vi1 24).toInt := congrArg (fun z9 => z9.2.2.2.2.2.2.1) gx
    have p_L : L1 = (vi1 26).toInt := congrArg (fun z9 => z9.2.2.2.2.2.2.2.1) gx
    have p_gI : gI1 = (fl_nI [(vi1 57).toInt, (vi1 58).toInt, (vi1 59).toInt, (vi1 60).toInt, (vi1 61).toInt, (vi1 62).toInt, (vi1 63).toInt, (vi1 64).toInt, (vi1 65).toInt, (vi1 66).toInt, (vi1 67).toInt, (vi1 68).toInt, (vi1 69).toInt, (vi1 70).toInt, (vi1 71).toInt, (vi1 72).toInt, (vi1 73).toInt, (vi1 74).toInt, (vi1 75).toInt, (vi1 76).toInt, (vi1 77).toInt, (vi1 78).toInt, (vi1 79).toInt, (vi1 80).toInt, (vi1 81).toInt, (vi1 82).toInt, (vi1 83).toInt, (vi1 84).toInt, (vi1 85).toInt, (vi1 86).toInt, (vi1 87).toInt, (vi1 88).toInt, (vi1 89).toInt, (vi1 90).toInt, (vi1 91).toInt, (vi1 92).toInt, (vi1 93).toInt, (vi1 94).toInt, (vi1 95).toInt, (vi1 96).toInt, (vi1 97).toInt, (vi1 98).toInt, (vi1 99).toInt, (vi1 100).toInt, (vi1 101).toInt, (vi1 102).toInt, (vi1 103).toInt, (vi1 104).toInt, (vi1 105).toInt, (vi1 106).toInt, (vi1 107).toInt, (vi1 108).toInt, (vi1 109).toInt, (vi1 110).toInt, (vi1 111).toInt, (vi1 112).toInt, (vi1 113).toInt, (vi1 114).toInt, (vi1 115).toInt, (vi1 116).toInt, (vi1 117).toInt, (vi1 118).toInt, (vi1 119).toInt, (vi1 120).toInt, (vi1 121).toInt, (vi1 122).toInt, (vi1 123).toInt, (vi1 124).toInt, (vi1 125).toInt, (vi1 126).toInt, (vi1 127).toInt, (vi1 128).toInt, (vi1 129).toInt, (vi1 130).toInt, (vi1 131).toInt, (vi1 132).toInt, (vi1 133).toInt, (vi1 134).toInt, (vi1 135).toInt, (vi1 136).toInt]) := congrArg (fun z9 => z9.2.2.2.2.2.2.2.2.1) gx
    have p_pl : pl1 = (fl_A (vf1 1)) := congrArg (fun z9 => z9.2.2.2.2.2.2.2.2.2.1) gx
    have p_gF : gF1 = (fl_nF [(fl_A (vf1 23)), (fl_A (vf1 24)), (fl_A (vf1 25)), (fl_A (vf1 26)), (fl_A (vf1 27)), (fl_A (vf1 28)), (fl_A (vf1 29)), (fl_A (vf1 30)), (fl_A (vf1 31)), (fl_A (vf1 32)), (fl_A (vf1 33)), (fl_A (vf1 34)), (fl_A (vf1 35)), (fl_A (vf1 36)), (fl_A (vf1 37)), (fl_A (vf1 38)), (fl_A (vf1 39)), (fl_A (vf1 40)), (fl_A (vf1 41)), (fl_A (vf1 42)), (fl_A (vf1 43)), (fl_A (vf1 44)), (fl_A (vf1 45)), (fl_A (vf1 46)), (fl_A (vf1 47)), (fl_A (vf1 48)), (fl_A (vf1 49)), (fl_A (vf1 50)), (fl_A (vf1 51)), (fl_A (vf1 52)), (fl_A (vf1 53)), (fl_A (vf1 54))]) := congrArg (fun z9 => z9.2.2.2.2.2.2.2.2.2.2.1) gx
    have p_he : he1 = (fl_A (vf1 2)) := congrArg (fun z9 => z9.2.2.2.2.2.2.2.2.2.2.2) gx
    have r_U : U1 = (vm1 12).toInt := congrArg (fun z9 => z9.2.2.1) gm
    have r_st : st1 = (fl_A (vn1 4)) := congrArg (fun z9 => z9.2.2.2.2.2.2.2.1) gm
    have r_und : und1 = (fl_A (vn1 6)) := congrArg (fun z9 => z9.2.2.2.2.2.2.2.2.1) gm
    have w1 : rs_S (vi1 33).toInt (vi1 34).toInt (fl_A (vf1 11)) (vi1 12).toInt (vi1 13).toInt (vi1 14).toInt (vi1 15).toInt (vi1 16).toInt (fl_A (vf1 1)) (fl_A (vf1 2)) (fl_A (vn1 4)) := by
      rw [kx1 33 (by decide), kx1 34 (by decide), kx2 11 (by decide), ← p_mi, ← p_tu, ← p_sn, ← p_go, ← p_ca, ← p_pl, ← p_he, ← r_st]
      exact e3
    have w2 : (vi1 12).toInt ≤ 9999 := by
      rw [← p_mi]
      exact e4
    have w3 : (vi1 24).toInt = (vm1 12).toInt := by
      rw [← p_U, ← r_U]
    have w4 : (vi1 25).toInt = (vm1 13).toInt := by
      rw [kx1 25 (by decide), km1 13 (by decide)]
      exact hN
    have w5 : rs_H (vi1 33).toInt (vi1 34).toInt (fl_A (vf1 11)) (vi1 24).toInt (vi1 26).toInt (lr_g3 vi1) (lr_f3 vf1) (fl_A (vn1 6)) := by
      rw [kx1 33 (by decide), kx1 34 (by decide), kx2 11 (by decide), ← p_U, ← p_L, ← r_und]
      exact rs_H_cg (fun k h9 => by rw [p_gI]; exact (lr_g3e vi1 h9).symm) (fun k h9 => by rw [p_gF]; exact (lr_f3e vf1 h9).symm) e5
    have w6 : rs_I (vi1 33).toInt (vi1 34).toInt (fl_A (vf1 11)) (vi1 25).toInt (lr_g4 vi1) (lr_f4 vf1) (fl_A (vn1 7)) := by
      rw [kx1 33 (by decide), kx1 34 (by decide), kx2 11 (by decide), kx1 25 (by decide), km2 7 (by decide)]
      exact rs_I_cg (fun k h9 => by rw [lr_g4e vi h9]; show (vi1 (137 + k)).toInt = (vi (137 + k)).toInt; rw [kx1 (137 + k) (kp_out (a := 137) (b := 152) (by decide) (by omega) (by omega))]) (fun k h9 => by rw [lr_f4e vf h9]; show fl_A (vf1 (55 + k)) = fl_A (vf (55 + k)); rw [kx2 (55 + k) (kp_out (a := 55) (b := 61) (by decide) (by omega) (by omega))]) hIm
    exact ⟨by rw [kx1 1 (by decide), km1 7 (by decide)]; exact hF, lr_H_keep (kx1 33 (by decide)) (kx1 34 (by decide)) (kx1 35 (by decide)) (kx1 36 (by decide)) (kx1 37 (by decide)) (kx1 38 (by decide)) (kx1 39 (by decide)) (kx1 40 (by decide)) (kx1 41 (by decide)) (kx1 42 (by decide)) (kx1 53 (by decide)) (kx2 11 (by decide)) (kx2 12 (by decide)) (kx2 13 (by decide)) (kx2 14 (by decide)) (kx2 19 (by decide)) (kx2 20 (by decide)) (km1 11 (by decide)) (by rw [km2 2 (by decide)]) hH, ⟨by rw [kx1 54 (by decide)]; exact hV.1.1, by rw [kx1 56 (by decide)]; exact hV.1.2⟩, Or.inr ⟨by rw [km1 11 (by decide)]; exact hM1, w1, w2, w3, w4, w5, w6⟩⟩

theorem lr_undo {tp : Int32} {vi vi1 vm vm1 : Nat → Int32} {vf vf1 vn vn1 : Nat → Nat → Int32} (hR : lr_R tp vi vf vm vn) (hM : vm 11 = 0 ∨ (vm 11 = 1 ∧ ((∀ k : Nat, 0 ≤ k → k ≤ 0 → (2 : Int) ≤ ((vn 2) k).toInt ∧ ((vn 2) k).toInt ≤ 9) ∧ (∀ k : Nat, 1 ≤ k → k ≤ 1 → (1 : Int) ≤ ((vn 2) k).toInt ∧ ((vn 2) k).toInt ≤ 20) ∧ (∀ k : Nat, 2 ≤ k → k ≤ 2 → (0 : Int) ≤ ((vn 2) k).toInt ∧ ((vn 2) k).toInt ≤ 8) ∧ (∀ k : Nat, 3 ≤ k → k ≤ 3 → (0 : Int) ≤ ((vn 2) k).toInt ∧ ((vn 2) k).toInt ≤ 100) ∧ (∀ k : Nat, 4 ≤ k → k ≤ 4 → (0 : Int) ≤ ((vn 2) k).toInt ∧ ((vn 2) k).toInt ≤ 9) ∧ (∀ k : Nat, 5 ≤ k → k ≤ 5 → (0 : Int) ≤ ((vn 2) k).toInt ∧ ((vn 2) k).toInt ≤ 3) ∧ (∀ k : Nat, 6 ≤ k → k ≤ 6 → (0 : Int) ≤ ((vn 2) k).toInt ∧ ((vn 2) k).toInt ≤ 6) ∧ (∀ k : Nat, 7 ≤ k → k ≤ 9 → (0 : Int) ≤ ((vn 2) k).toInt ∧ ((vn 2) k).toInt ≤ 8) ∧ (∀ k : Nat, 12 ≤ k → k ≤ 29 → (0 : Int) ≤ ((vn 2) k).toInt ∧ ((vn 2) k).toInt ≤ 20) ∧ (∀ k : Nat, 30 ≤ k → k ≤ 35 → (0 : Int) ≤ ((vn 2) k).toInt ∧ ((vn 2) k).toInt ≤ 8) ∧ (∀ k : Nat, 36 ≤ k → k ≤ 47 → (0 : Int) ≤ ((vn 2) k).toInt ∧ ((vn 2) k).toInt ≤ 999)) ∧ ((∀ (j i0 i : Int32), (0 : Int) ≤ j.toInt → j.toInt ≤ 8 → i0.toInt = 12 + 2 * j.toInt → i.toInt = 13 + 2 * j.toInt → ((vn 2) i0.toNatClampNeg).toInt = (1 : Int32).toInt → (1 : Int) ≤ ((vn 2) i.toNatClampNeg).toInt)))) (kx1 : (∀ k9 : Nat, k9 ∉ ([0, 12, 13, 14, 15, 16, 24, 26] : List Nat) → vi1 k9 = vi k9)) (kx2 : (∀ k9 : Nat, k9 ∉ ([1, 2] : List Nat) → vf1 k9 = vf k9)) (km1 : (∀ k9 : Nat, k9 ∉ ([0, 9, 12] : List Nat) → vm1 k9 = vm k9)) (km2 : (∀ k9 : Nat, k9 ∉ ([4] : List Nat) → vn1 k9 = vn k9)) (gx : (Ff_X7_undo (vi 24).toInt (vi 26).toInt (vi 12).toInt (vi 13).toInt (vi 14).toInt (vi 15).toInt (vi 16).toInt (fl_nI [(vi 57).toInt, (vi 58).toInt, (vi 59).toInt, (vi 60).toInt, (vi 61).toInt, (vi 62).toInt, (vi 63).toInt, (vi 64).toInt, (vi 65).toInt, (vi 66).toInt, (vi 67).toInt, (vi 68).toInt, (vi 69).toInt, (vi 70).toInt, (vi 71).toInt, (vi 72).toInt, (vi 73).toInt, (vi 74).toInt, (vi 75).toInt, (vi 76).toInt, (vi 77).toInt, (vi 78).toInt, (vi 79).toInt, (vi 80).toInt, (vi 81).toInt, (vi 82).toInt, (vi 83).toInt, (vi 84).toInt, (vi 85).toInt, (vi 86).toInt, (vi 87).toInt, (vi 88).toInt, (vi 89).toInt, (vi 90).toInt, (vi 91).toInt, (vi 92).toInt, (vi 93).toInt, (vi 94).toInt, (vi 95).toInt, (vi 96).toInt, (vi 97).toInt, (vi 98).toInt, (vi 99).toInt, (vi 100).toInt, (vi 101).toInt, (vi 102).toInt, (vi 103).toInt, (vi 104).toInt, (vi 105).toInt, (vi 106).toInt, (vi 107).toInt, (vi 108).toInt, (vi 109).toInt, (vi 110).toInt, (vi 111).toInt, (vi 112).toInt, (vi 113).toInt, (vi 114).toInt, (vi 115).toInt, (vi 116).toInt, (vi 117).toInt, (vi 118).toInt, (vi 119).toInt, (vi 120).toInt, (vi 121).toInt, (vi 122).toInt, (vi 123).toInt, (vi 124).toInt, (vi 125).toInt, (vi 126).toInt, (vi 127).toInt, (vi 128).toInt, (vi 129).toInt, (vi 130).toInt, (vi 131).toInt, (vi 132).toInt, (vi 133).toInt, (vi 134).toInt, (vi 135).toInt, (vi 136).toInt]) (fl_nF [(fl_A (vf 23)), (fl_A (vf 24)), (fl_A (vf 25)), (fl_A (vf 26)), (fl_A (vf 27)), (fl_A (vf 28)), (fl_A (vf 29)), (fl_A (vf 30)), (fl_A (vf 31)), (fl_A (vf 32)), (fl_A (vf 33)), (fl_A (vf 34)), (fl_A (vf 35)), (fl_A (vf 36)), (fl_A (vf 37)), (fl_A (vf 38)), (fl_A (vf 39)), (fl_A (vf 40)), (fl_A (vf 41)), (fl_A (vf 42)), (fl_A (vf 43)), (fl_A (vf 44)), (fl_A (vf 45)), (fl_A (vf 46)), (fl_A (vf 47)), (fl_A (vf 48)), (fl_A (vf 49)), (fl_A (vf 50)), (fl_A (vf 51)), (fl_A (vf 52)), (fl_A (vf 53)), (fl_A (vf 54))]) (fl_A (vf 1)) (fl_A (vf 2))).2 = ((vi1 0).toInt, (vi1 24).toInt, (vi1 26).toInt, (vi1 12).toInt, (vi1 13).toInt, (vi1 14).toInt, (vi1 15).toInt, (vi1 16).toInt, (fl_A (vf1 1)), (fl_A (vf1 2)))) (gm : (Ff_X8_undo (vm 12).toInt (fl_A (vn 6)) (fl_A (vn 4))).2 = ((vm1 0).toInt, (vm1 9).toInt, (vm1 12).toInt, (fl_A (vn1 4)))) : lr_Q vi1 vf1 vm1 vn1 := by
  obtain ⟨hT, hF, hH, hV⟩ := hR
  rcases hM with hM0 | ⟨hM1, hrs, hkm⟩
  · rcases hH with hH | ⟨z9, -⟩
    rotate_left
    · rw [hM0] at z9; exact absurd z9 (by decide)
    have hH9 : lr_H vi vf vm vn := Or.inl hH
    obtain ⟨-, h33, -⟩ := hH
    obtain ⟨⟨v54, v56⟩, hV⟩ := hV
    rcases hV with ⟨-, v12, v24, v25, u12, u13⟩ | ⟨z9, -⟩
    rotate_left
    · rw [hM0] at z9; exact absurd z9 (by decide)
    have e33 : (vi 33).toInt = 0 := by rw [h33]; decide
    have e24 : (vi 24).toInt = 0 := by rw [v24]; decide
    have e12 : (vm 12).toInt = 0 := by rw [u12]; decide
    have ex : Ff_X7_undo (vi 24).toInt (vi 26).toInt (vi 12).toInt (vi 13).toInt (vi 14).toInt (vi 15).toInt (vi 16).toInt (fl_nI [(vi 57).toInt, (vi 58).toInt, (vi 59).toInt, (vi 60).toInt, (vi 61).toInt, (vi 62).toInt, (vi 63).toInt, (vi 64).toInt, (vi 65).toInt, (vi 66).toInt, (vi 67).toInt, (vi 68).toInt, (vi 69).toInt, (vi 70).toInt, (vi 71).toInt, (vi 72).toInt, (vi 73).toInt, (vi 74).toInt, (vi 75).toInt, (vi 76).toInt, (vi 77).toInt, (vi 78).toInt, (vi 79).toInt, (vi 80).toInt, (vi 81).toInt, (vi 82).toInt, (vi 83).toInt, (vi 84).toInt, (vi 85).toInt, (vi 86).toInt, (vi 87).toInt, (vi 88).toInt, (vi 89).toInt, (vi 90).toInt, (vi 91).toInt, (vi 92).toInt, (vi 93).toInt, (vi 94).toInt, (vi 95).toInt, (vi 96).toInt, (vi 97).toInt, (vi 98).toInt, (vi 99).toInt, (vi 100).toInt, (vi 101).toInt, (vi 102).toInt, (vi 103).toInt, (vi 104).toInt, (vi 105).toInt, (vi 106).toInt, (vi 107).toInt, (vi 108).toInt, (vi 109).toInt, (vi 110).toInt, (vi 111).toInt, (vi 112).toInt, (vi 113).toInt, (vi 114).toInt, (vi 115).toInt, (vi 116).toInt, (vi 117).toInt, (vi 118).toInt, (vi 119).toInt, (vi 120).toInt, (vi 121).toInt, (vi 122).toInt, (vi 123).toInt, (vi 124).toInt, (vi 125).toInt, (vi 126).toInt, (vi 127).toInt, (vi 128).toInt, (vi 129).toInt, (vi 130).toInt, (vi 131).toInt, (vi 132).toInt, (vi 133).toInt, (vi 134).toInt, (vi 135).toInt, (vi 136).toInt]) (fl_nF [(fl_A (vf 23)), (fl_A (vf 24)), (fl_A (vf 25)), (fl_A (vf 26)), (fl_A (vf 27)), (fl_A (vf 28)), (fl_A (vf 29)), (fl_A (vf 30)), (fl_A (vf 31)), (fl_A (vf 32)), (fl_A (vf 33)), (fl_A (vf 34)), (fl_A (vf 35)), (fl_A (vf 36)), (fl_A (vf 37)), (fl_A (vf 38)), (fl_A (vf 39)), (fl_A (vf 40)), (fl_A (vf 41)), (fl_A (vf 42)), (fl_A (vf 43)), (fl_A (vf 44)), (fl_A (vf 45)), (fl_A (vf 46)), (fl_A (vf 47)), (fl_A (vf 48)), (fl_A (vf 49)), (fl_A (vf 50)), (fl_A (vf 51)), (fl_A (vf 52)), (fl_A (vf 53)), (fl_A (vf 54))]) (fl_A (vf 1)) (fl_A (vf 2)) = (0, 6, (vi 24).toInt, (vi 26).toInt, (vi 12).toInt, (vi 13).toInt, (vi 14).toInt, (vi 15).toInt, (vi 16).toInt, (fl_A (vf 1)), (fl_A (vf 2))) := by
      unfold Ff_X7_undo Ff_X1_takeLatest
      rw [if_pos e24, fl_c10_eq rfl]
      rfl
    rw [ex] at gx
    have p_U : (vi 24).toInt = (vi1 24).toInt := congrArg (fun z9 => z9.2.1) gx
    have p_mi : (vi 12).toInt = (vi1 12).toInt := congrArg (fun z9 => z9.2.2.2.1) gx
    have em : Ff_X8_undo (vm 12).toInt (fl_A (vn 6)) (fl_A (vn 4)) = (0, 0, 6, (vm 12).toInt, (fl_A (vn 4))) := by
      unfold Ff_X8_undo Ff_X8_good
      rw [fl_c2_eq rfl, if_pos e12]
      rfl
    rw [em] at gm
    have p_Um : (vm 12).toInt = (vm1 12).toInt := congrArg (fun z9 => z9.2.2.1) gm
    refine ⟨by rw [kx1 1 (by decide), km1 7 (by decide)]; exact hF, lr_H_keep (kx1 33 (by decide)) (kx1 34 (by decide)) (kx1 35 (by decide)) (kx1 36 (by decide)) (kx1 37 (by decide)) (kx1 38 (by decide)) (kx1 39 (by decide)) (kx1 40 (by decide)) (kx1 41 (by decide)) (kx1 42 (by decide)) (kx1 53 (by decide)) (kx2 11 (by decide)) (kx2 12 (by decide)) (kx2 13 (by decide)) (kx2 14 (by decide)) (kx2 19 (by decide)) (kx2 20 (by decide)) (km1 11 (by decide)) (by rw [km2 2 (by decide)]) hH9, ⟨by rw [kx1 54 (by decide)]; exact v54, by rw [kx1 56 (by decide)]; exact v56⟩, Or.inl ⟨by rw [km1 11 (by decide)]; exact hM0, by rw [← Int32.toInt_inj, ← p_mi, v12], by rw [← Int32.toInt_inj, ← p_U, v24], by rw [kx1 25 (by decide)]; exact v25, by rw [← Int32.toInt_inj, ← p_Um, u12], by rw [km1 13 (by decide)]; exact u13⟩⟩
  · obtain ⟨hG, hD, -⟩ := lr_G hH hM1 hrs hkm
    have hf9 : 2 ≤ (vi 33).toInt ∧ (vi 33).toInt ≤ 9 := ⟨hG.1.2.1, hG.1.2.2⟩
    have f9 := hf9.2
    have hV4 := hV.2
    rcases hV4 with ⟨z9, -⟩ | ⟨-, hS, hm, hU, hN, hHi, hIm⟩
    · rw [hM1] at z9; exact absurd z9 (by decide)
    have e11 : (vm 11).toInt = 1 := by rw [hM1]; decide
    have hHi := rs_H_cg (gI1 := fl_nI [(vi 57).toInt, (vi 58).toInt, (vi 59).toInt, (vi 60).toInt, (vi 61).toInt, (vi 62).toInt, (vi 63).toInt, (vi 64).toInt, (vi 65).toInt, (vi 66).toInt, (vi 67).toInt, (vi 68).toInt, (vi 69).toInt, (vi 70).toInt, (vi 71).toInt, (vi 72).toInt, (vi 73).toInt, (vi 74).toInt, (vi 75).toInt, (vi 76).toInt, (vi 77).toInt, (vi 78).toInt, (vi 79).toInt, (vi 80).toInt, (vi 81).toInt, (vi 82).toInt, (vi 83).toInt, (vi 84).toInt, (vi 85).toInt, (vi 86).toInt, (vi 87).toInt, (vi 88).toInt, (vi 89).toInt, (vi 90).toInt, (vi 91).toInt, (vi 92).toInt, (vi 93).toInt, (vi 94).toInt, (vi 95).toInt, (vi 96).toInt, (vi 97).toInt, (vi 98).toInt, (vi 99).toInt, (vi 100).toInt, (vi 101).toInt, (vi 102).toInt, (vi 103).toInt, (vi 104).toInt, (vi 105).toInt, (vi 106).toInt, (vi 107).toInt, (vi 108).toInt, (vi 109).toInt, (vi 110).toInt, (vi 111).toInt, (vi 112).toInt, (vi 113).toInt, (vi 114).toInt, (vi 115).toInt, (vi 116).toInt, (vi 117).toInt, (vi 118).toInt, (vi 119).toInt, (vi 120).toInt, (vi 121).toInt, (vi 122).toInt, (vi 123).toInt, (vi 124).toInt, (vi 125).toInt, (vi 126).toInt, (vi 127).toInt, (vi 128).toInt, (vi 129).toInt, (vi 130).toInt, (vi 131).toInt, (vi 132).toInt, (vi 133).toInt, (vi 134).toInt, (vi 135).toInt, (vi 136).toInt]) (gF1 := fl_nF [(fl_A (vf 23)), (fl_A (vf 24)), (fl_A (vf 25)), (fl_A (vf 26)), (fl_A (vf 27)), (fl_A (vf 28)), (fl_A (vf 29)), (fl_A (vf 30)), (fl_A (vf 31)), (fl_A (vf 32)), (fl_A (vf 33)), (fl_A (vf 34)), (fl_A (vf 35)), (fl_A (vf 36)), (fl_A (vf 37)), (fl_A (vf 38)), (fl_A (vf 39)), (fl_A (vf 40)), (fl_A (vf 41)), (fl_A (vf 42)), (fl_A (vf 43)), (fl_A (vf 44)), (fl_A (vf 45)), (fl_A (vf 46)), (fl_A (vf 47)), (fl_A (vf 48)), (fl_A (vf 49)), (fl_A (vf 50)), (fl_A (vf 51)), (fl_A (vf 52)), (fl_A (vf 53)), (fl_A (vf 54))]) (fun k h9 => lr_g3e vi h9) (fun k h9 => lr_f3e vf h9) hHi
    have hIm := rs_I_cg (gI1 := fl_nI [(vi 137).toInt, (vi 138).toInt, (vi 139).toInt, (vi 140).toInt, (vi 141).toInt, (vi 142).toInt, (vi 143).toInt, (vi 144).toInt, (vi 145).toInt, (vi 146).toInt, (vi 147).toInt, (vi 148).toInt, (vi 149).toInt, (vi 150).toInt, (vi 151).toInt]) (gF1 := fl_nF [(fl_A (vf 55)), (fl_A (vf 56)), (fl_A (vf 57)), (fl_A (vf 58)), (fl_A (vf 59)), (fl_A (vf 60))]) (fun k h9 => lr_g4e vi h9) (fun k h9 => lr_f4e vf h9) hIm
    obtain ⟨R, tr, U1, L1, mi1, tu1, sn1, go1, ca1, pl1, he1, st1, e1, e2, e3, e4, e5⟩ := rs_undo f9 hS hm hHi
    rw [← hU] at gm
    rw [e1] at gx
    rw [e2] at gm
    have p_U : U1 = (vi1 24).toInt := congrArg (fun z9 => z9.2.1) gx
    have p_L : L1 = (vi1 26).toInt := congrArg (fun z9 => z9.2.2.1) gx
    have p_mi : mi1 = (vi1 12).toInt := congrArg (fun z9 => z9.2.2.2.1) gx
    have p_tu : tu1 = (vi1 13).toInt := congrArg (fun z9 => z9.2.2.2.2.1) gx
    have p_sn : sn1 = (vi1 14).toInt := congrArg (fun z9 => z9.2.2.2.2.2.1) gx
    have p_go : go1 = (vi1 15).toInt := congrArg (fun z9 => z9.2.2.2.2.2.2.1) gx
    have p_ca : ca1 = (vi1 16).toInt := congrArg (fun z9 => z9.2.2.2.2.2.2.2.1) gx
    have p_pl : pl1 = (fl_A (vf1 1)) := congrArg (fun z9 => z9.2.2.2.2.2.2.2.2.1) gx
    have p_he : he1 = (fl_A (vf1 2)) := congrArg (fun z9 => z9.2.2.2.2.2.2.2.2.2) gx
    have r_U : U1 = (vm1 12).toInt := congrArg (fun z9 => z9.2.2.1) gm
    have r_st : st1 = (fl_A (vn1 4)) := congrArg (fun z9 => z9.2.2.2) gm
    have w1 : rs_S (vi1 33).toInt (vi1 34).toInt (fl_A (vf1 11)) (vi1 12).toInt (vi1 13).toInt (vi1 14).toInt (vi1 15).toInt (vi1 16).toInt (fl_A (vf1 1)) (fl_A (vf1 2)) (fl_A (vn1 4)) := by
      rw [kx1 33 (by decide), kx1 34 (by decide), kx2 11 (by decide), ← p_mi, ← p_tu, ← p_sn, ← p_go, ← p_ca, ← p_pl, ← p_he, ← r_st]
      exact e3
    have w2 : (vi1 12).toInt ≤ 9999 := by
      rw [← p_mi]
      exact e4
    have w3 : (vi1 24).toInt = (vm1 12).toInt := by
      rw [← p_U, ← r_U]
    have w4 : (vi1 25).toInt = (vm1 13).toInt := by
      rw [kx1 25 (by decide), km1 13 (by decide)]
      exact hN
    have w5 : rs_H (vi1 33).toInt (vi1 34).toInt (fl_A (vf1 11)) (vi1 24).toInt (vi1 26).toInt (lr_g3 vi1) (lr_f3 vf1) (fl_A (vn1 6)) := by
      rw [kx1 33 (by decide), kx1 34 (by decide), kx2 11 (by decide), ← p_U, ← p_L, km2 6 (by decide)]
      exact rs_H_cg (fun k h9 => by rw [lr_g3e vi h9]; show (vi1 (57 + k)).toInt = (vi (57 + k)).toInt; rw [kx1 (57 + k) (kp_out (a := 57) (b := 137) (by decide) (by omega) (by omega))]) (fun k h9 => by rw [lr_f3e vf h9]; show fl_A (vf1 (23 + k)) = fl_A (vf (23 + k)); rw [kx2 (23 + k) (kp_out (a := 23) (b := 55) (by decide) (by omega) (by omega))]) e5
    have w6 : rs_I (vi1 33).toInt (vi1 34).toInt (fl_A (vf1 11)) (vi1 25).toInt (lr_g4 vi1) (lr_f4 vf1) (fl_A (vn1 7)) := by
      rw [kx1 33 (by decide), kx1 34 (by decide), kx2 11 (by decide), kx1 25 (by decide), km2 7 (by decide)]
      exact rs_I_cg (fun k h9 => by rw [lr_g4e vi h9]; show (vi1 (137 + k)).toInt = (vi (137 + k)).toInt; rw [kx1 (137 + k) (kp_out (a := 137) (b := 152) (by decide) (by omega) (by omega))]) (fun k h9 => by rw [lr_f4e vf h9]; show fl_A (vf1 (55 + k)) = fl_A (vf (55 + k)); rw [kx2 (55 + k) (kp_out (a := 55) (b := 61) (by decide) (by omega) (by omega))]) hIm
    exact ⟨by rw [kx1 1 (by decide), km1 7 (by decide)]; exact hF, lr_H_keep (kx1 33 (by decide)) (kx1 34 (by decide)) (kx1 35 (by decide)) (kx1 36 (by decide)) (kx1 37 (by decide)) (kx1 38 (by decide)) (kx1 39 (by decide)) (kx1 40 (by decide)) (kx1 41 (by decide)) (kx1 42 (by decide)) (kx1 53 (by decide)) (kx2 11 (by decide)) (kx2 12 (by decide)) (kx2 13 (by decide)) (kx2 14 (by decide)) (kx2 19 (by decide)) (kx2 20 (by decide)) (km1 11 (by decide)) (by rw [km2 2 (by decide)]) hH, ⟨by rw [kx1 54 (by decide)]; exact hV.1.1, by rw [kx1 56 (by decide)]; exact hV.1.2⟩, Or.inr ⟨by rw [km1 11 (by decide)]; exact hM1, w1, w2, w3, w4, w5, w6⟩⟩

theorem lr_image {tp : Int32} {vi vi1 vm vm1 : Nat → Int32} {vf vf1 vn vn1 : Nat → Nat → Int32} (hR : lr_R tp vi vf vm vn) (hM : vm 11 = 0 ∨ (vm 11 = 1 ∧ ((∀ k : Nat, 0 ≤ k → k ≤ 0 → (2 : Int) ≤ ((vn 2) k).toInt ∧ ((vn 2) k).toInt ≤ 9) ∧ (∀ k : Nat, 1 ≤ k → k ≤ 1 → (1 : Int) ≤ ((vn 2) k).toInt ∧ ((vn 2) k).toInt ≤ 20) ∧ (∀ k : Nat, 2 ≤ k → k ≤ 2 → (0 : Int) ≤ ((vn 2) k).toInt ∧ ((vn 2) k).toInt ≤ 8) ∧ (∀ k : Nat, 3 ≤ k → k ≤ 3 → (0 : Int) ≤ ((vn 2) k).toInt ∧ ((vn 2) k).toInt ≤ 100) ∧ (∀ k : Nat, 4 ≤ k → k ≤ 4 → (0 : Int) ≤ ((vn 2) k).toInt ∧ ((vn 2) k).toInt ≤ 9) ∧ (∀ k : Nat, 5 ≤ k → k ≤ 5 → (0 : Int) ≤ ((vn 2) k).toInt ∧ ((vn 2) k).toInt ≤ 3) ∧ (∀ k : Nat, 6 ≤ k → k ≤ 6 → (0 : Int) ≤ ((vn 2) k).toInt ∧ ((vn 2) k).toInt ≤ 6) ∧ (∀ k : Nat, 7 ≤ k → k ≤ 9 → (0 : Int) ≤ ((vn 2) k).toInt ∧ ((vn 2) k).toInt ≤ 8) ∧ (∀ k : Nat, 12 ≤ k → k ≤ 29 → (0 : Int) ≤ ((vn 2) k).toInt ∧ ((vn 2) k).toInt ≤ 20) ∧ (∀ k : Nat, 30 ≤ k → k ≤ 35 → (0 : Int) ≤ ((vn 2) k).toInt ∧ ((vn 2) k).toInt ≤ 8) ∧ (∀ k : Nat, 36 ≤ k → k ≤ 47 → (0 : Int) ≤ ((vn 2) k).toInt ∧ ((vn 2) k).toInt ≤ 999)) ∧ ((∀ (j i0 i : Int32), (0 : Int) ≤ j.toInt → j.toInt ≤ 8 → i0.toInt = 12 + 2 * j.toInt → i.toInt = 13 + 2 * j.toInt → ((vn 2) i0.toNatClampNeg).toInt = (1 : Int32).toInt → (1 : Int) ≤ ((vn 2) i.toNatClampNeg).toInt)))) (kx1 : (∀ k9 : Nat, k9 ∉ ([0, 25, 137, 138, 139, 140, 141, 142, 143, 144, 145, 146, 147, 148, 149, 150, 151] : List Nat) → vi1 k9 = vi k9)) (kx2 : (∀ k9 : Nat, k9 ∉ ([55, 56, 57, 58, 59, 60] : List Nat) → vf1 k9 = vf k9)) (km1 : (∀ k9 : Nat, k9 ∉ ([0, 9, 13] : List Nat) → vm1 k9 = vm k9)) (km2 : (∀ k9 : Nat, k9 ∉ ([7] : List Nat) → vn1 k9 = vn k9)) (gx : (Ff_X7_image (vi 33).toInt (vi 25).toInt (fl_nI [(vi 137).toInt, (vi 138).toInt, (vi 139).toInt, (vi 140).toInt, (vi 141).toInt, (vi 142).toInt, (vi 143).toInt, (vi 144).toInt, (vi 145).toInt, (vi 146).toInt, (vi 147).toInt, (vi 148).toInt, (vi 149).toInt, (vi 150).toInt, (vi 151).toInt]) (vi 12).toInt (vi 13).toInt (vi 14).toInt (vi 15).toInt (vi 16).toInt (fl_A (vf 1)) (fl_nF [(fl_A (vf 55)), (fl_A (vf 56)), (fl_A (vf 57)), (fl_A (vf 58)), (fl_A (vf 59)), (fl_A (vf 60))]) (fl_A (vf 2))).2 = ((vi1 0).toInt, (vi1 25).toInt, (fl_nI [(vi1 137).toInt, (vi1 138).toInt, (vi1 139).toInt, (vi1 140).toInt, (vi1 141).toInt, (vi1 142).toInt, (vi1 143).toInt, (vi1 144).toInt, (vi1 145).toInt, (vi1 146).toInt, (vi1 147).toInt, (vi1 148).toInt, (vi1 149).toInt, (vi1 150).toInt, (vi1 151).toInt]), (fl_nF [(fl_A (vf1 55)), (fl_A (vf1 56)), (fl_A (vf1 57)), (fl_A (vf1 58)), (fl_A (vf1 59)), (fl_A (vf1 60))]))) (gm : ((vm 11 = 0 ∧ (∀ k9 : Nat, k9 ∉ ([0, 9] : List Nat) → vm1 k9 = vm k9) ∧ (∀ k9 : Nat, k9 ∉ ([] : List Nat) → vn1 k9 = vn k9)) ∨ (vm 11 = 1 ∧ (Ff_X8_image (vm 11).toInt (vm 13).toInt (fl_A (vn 4)) (fl_A (vn 7))).2 = ((vm1 0).toInt, (vm1 9).toInt, (vm1 13).toInt, (fl_A (vn1 7)))))) : lr_Q vi1 vf1 vm1 vn1 := by
  obtain ⟨hT, hF, hH, hV⟩ := hR
  rcases hM with hM0 | ⟨hM1, hrs, hkm⟩
  · rcases hH with hH | ⟨z9, -⟩
    rotate_left
    · rw [hM0] at z9; exact absurd z9 (by decide)
    have hH9 : lr_H vi vf vm vn := Or.inl hH
    obtain ⟨-, h33, -⟩ := hH
    obtain ⟨⟨v54, v56⟩, hV⟩ := hV
    rcases hV with ⟨-, v12, v24, v25, u12, u13⟩ | ⟨z9, -⟩
    rotate_left
    · rw [hM0] at z9; exact absurd z9 (by decide)
    have e33 : (vi 33).toInt = 0 := by rw [h33]; decide
    have ex : Ff_X7_image (vi 33).toInt (vi 25).toInt (fl_nI [(vi 137).toInt, (vi 138).toInt, (vi 139).toInt, (vi 140).toInt, (vi 141).toInt, (vi 142).toInt, (vi 143).toInt, (vi 144).toInt, (vi 145).toInt, (vi 146).toInt, (vi 147).toInt, (vi 148).toInt, (vi 149).toInt, (vi 150).toInt, (vi 151).toInt]) (vi 12).toInt (vi 13).toInt (vi 14).toInt (vi 15).toInt (vi 16).toInt (fl_A (vf 1)) (fl_nF [(fl_A (vf 55)), (fl_A (vf 56)), (fl_A (vf 57)), (fl_A (vf 58)), (fl_A (vf 59)), (fl_A (vf 60))]) (fl_A (vf 2)) = ((-1), 1, (vi 25).toInt, (fl_nI [(vi 137).toInt, (vi 138).toInt, (vi 139).toInt, (vi 140).toInt, (vi 141).toInt, (vi 142).toInt, (vi 143).toInt, (vi 144).toInt, (vi 145).toInt, (vi 146).toInt, (vi 147).toInt, (vi 148).toInt, (vi 149).toInt, (vi 150).toInt, (vi 151).toInt]), (fl_nF [(fl_A (vf 55)), (fl_A (vf 56)), (fl_A (vf 57)), (fl_A (vf 58)), (fl_A (vf 59)), (fl_A (vf 60))])) := by
      unfold Ff_X7_image Ff_X7_hasGallery
      rw [e33, if_pos (by decide)]
      rfl
    rw [ex] at gx
    have p_N : (vi 25).toInt = (vi1 25).toInt := congrArg (fun z9 => z9.2.1) gx
    rcases gm with ⟨-, k01, k02⟩ | ⟨z9, -⟩
    rotate_left
    · rw [hM0] at z9; exact absurd z9 (by decide)
    refine ⟨by rw [kx1 1 (by decide), k01 7 (by decide)]; exact hF, lr_H_keep (kx1 33 (by decide)) (kx1 34 (by decide)) (kx1 35 (by decide)) (kx1 36 (by decide)) (kx1 37 (by decide)) (kx1 38 (by decide)) (kx1 39 (by decide)) (kx1 40 (by decide)) (kx1 41 (by decide)) (kx1 42 (by decide)) (kx1 53 (by decide)) (kx2 11 (by decide)) (kx2 12 (by decide)) (kx2 13 (by decide)) (kx2 14 (by decide)) (kx2 19 (by decide)) (kx2 20 (by decide)) (k01 11 (by decide)) (by rw [k02 2 (by decide)]) hH9, ⟨by rw [kx1 54 (by decide)]; exact v54, by rw [kx1 56 (by decide)]; exact v56⟩, Or.inl ⟨by rw [k01 11 (by decide)]; exact hM0, by rw [kx1 12 (by decide)]; exact v12, by rw [kx1 24 (by decide)]; exact v24, by rw [← Int32.toInt_inj, ← p_N, v25], by rw [k01 12 (by decide)]; exact u12, by rw [k01 13 (by decide)]; exact u13⟩⟩
  · obtain ⟨hG, hD, -⟩ := lr_G hH hM1 hrs hkm
    have hf9 : 2 ≤ (vi 33).toInt ∧ (vi 33).toInt ≤ 9 := ⟨hG.1.2.1, hG.1.2.2⟩
    have f9 := hf9.2
    have hV4 := hV.2
    rcases hV4 with ⟨z9, -⟩ | ⟨-, hS, hm, hU, hN, hHi, hIm⟩
    · rw [hM1] at z9; exact absurd z9 (by decide)
    have e11 : (vm 11).toInt = 1 := by rw [hM1]; decide
    have hHi := rs_H_cg (gI1 := fl_nI [(vi 57).toInt, (vi 58).toInt, (vi 59).toInt, (vi 60).toInt, (vi 61).toInt, (vi 62).toInt, (vi 63).toInt, (vi 64).toInt, (vi 65).toInt, (vi 66).toInt, (vi 67).toInt, (vi 68).toInt, (vi 69).toInt, (vi 70).toInt, (vi 71).toInt, (vi 72).toInt, (vi 73).toInt, (vi 74).toInt, (vi 75).toInt, (vi 76).toInt, (vi 77).toInt, (vi 78).toInt, (vi 79).toInt, (vi 80).toInt, (vi 81).toInt, (vi 82).toInt, (vi 83).toInt, (vi 84).toInt, (vi 85).toInt, (vi 86).toInt, (vi 87).toInt, (vi 88).toInt, (vi 89).toInt, (vi 90).toInt, (vi 91).toInt, (vi 92).toInt, (vi 93).toInt, (vi 94).toInt, (vi 95).toInt, (vi 96).toInt, (vi 97).toInt, (vi 98).toInt, (vi 99).toInt, (vi 100).toInt, (vi 101).toInt, (vi 102).toInt, (vi 103).toInt, (vi 104).toInt, (vi 105).toInt, (vi 106).toInt, (vi 107).toInt, (vi 108).toInt, (vi 109).toInt, (vi 110).toInt, (vi 111).toInt, (vi 112).toInt, (vi 113).toInt, (vi 114).toInt, (vi 115).toInt, (vi 116).toInt, (vi 117).toInt, (vi 118).toInt, (vi 119).toInt, (vi 120).toInt, (vi 121).toInt, (vi 122).toInt, (vi 123).toInt, (vi 124).toInt, (vi 125).toInt, (vi 126).toInt, (vi 127).toInt, (vi 128).toInt, (vi 129).toInt, (vi 130).toInt, (vi 131).toInt, (vi 132).toInt, (vi 133).toInt, (vi 134).toInt, (vi 135).toInt, (vi 136).toInt]) (gF1 := fl_nF [(fl_A (vf 23)), (fl_A (vf 24)), (fl_A (vf 25)), (fl_A (vf 26)), (fl_A (vf 27)), (fl_A (vf 28)), (fl_A (vf 29)), (fl_A (vf 30)), (fl_A (vf 31)), (fl_A (vf 32)), (fl_A (vf 33)), (fl_A (vf 34)), (fl_A (vf 35)), (fl_A (vf 36)), (fl_A (vf 37)), (fl_A (vf 38)), (fl_A (vf 39)), (fl_A (vf 40)), (fl_A (vf 41)), (fl_A (vf 42)), (fl_A (vf 43)), (fl_A (vf 44)), (fl_A (vf 45)), (fl_A (vf 46)), (fl_A (vf 47)), (fl_A (vf 48)), (fl_A (vf 49)), (fl_A (vf 50)), (fl_A (vf 51)), (fl_A (vf 52)), (fl_A (vf 53)), (fl_A (vf 54))]) (fun k h9 => lr_g3e vi h9) (fun k h9 => lr_f3e vf h9) hHi
    have hIm := rs_I_cg (gI1 := fl_nI [(vi 137).toInt, (vi 138).toInt, (vi 139).toInt, (vi 140).toInt, (vi 141).toInt, (vi 142).toInt, (vi 143).toInt, (vi 144).toInt, (vi 145).toInt, (vi 146).toInt, (vi 147).toInt, (vi 148).toInt, (vi 149).toInt, (vi 150).toInt, (vi 151).toInt]) (gF1 := fl_nF [(fl_A (vf 55)), (fl_A (vf 56)), (fl_A (vf 57)), (fl_A (vf 58)), (fl_A (vf 59)), (fl_A (vf 60))]) (fun k h9 => lr_g4e vi h9) (fun k h9 => lr_f4e vf h9) hIm
    obtain ⟨R, tr, N1, iI1, iF1, kp1, e1, e2, e6⟩ := rs_image f9 (by omega) hS hm hIm
    rcases gm with ⟨z9, -⟩ | ⟨-, gm⟩
    · rw [hM1] at z9; exact absurd z9 (by decide)
    rw [e11, ← hN] at gm
    rw [e1] at gx
    rw [e2] at gm
    have p_N : N1 = (vi1 25).toInt := congrArg (fun z9 => z9.2.1) gx
    have p_iI : iI1 = (fl_nI [(vi1 137).toInt, (vi1 138).toInt, (vi1 139).toInt, (vi1 140).toInt, (vi1 141).toInt, (vi1 142).toInt, (vi1 143).toInt, (vi1 144).toInt, (vi1 145).toInt, (vi1 146).toInt, (vi1 147).toInt, (vi1 148).toInt, (vi1 149).toInt, (vi1 150).toInt, (vi1 151).toInt]) := congrArg (fun z9 => z9.2.2.1) gx
    have p_iF : iF1 = (fl_nF [(fl_A (vf1 55)), (fl_A (vf1 56)), (fl_A (vf1 57)), (fl_A (vf1 58)), (fl_A (vf1 59)), (fl_A (vf1 60))]) := congrArg (fun z9 => z9.2.2.2) gx
    have r_N : N1 = (vm1 13).toInt := congrArg (fun z9 => z9.2.2.1) gm
    have r_kp : kp1 = (fl_A (vn1 7)) := congrArg (fun z9 => z9.2.2.2) gm
    have w1 : rs_S (vi1 33).toInt (vi1 34).toInt (fl_A (vf1 11)) (vi1 12).toInt (vi1 13).toInt (vi1 14).toInt (vi1 15).toInt (vi1 16).toInt (fl_A (vf1 1)) (fl_A (vf1 2)) (fl_A (vn1 4)) := by
      rw [kx1 33 (by decide), kx1 34 (by decide), kx2 11 (by decide), kx1 12 (by decide), kx1 13 (by decide), kx1 14 (by decide), kx1 15 (by decide), kx1 16 (by decide), kx2 1 (by decide), kx2 2 (by decide), km2 4 (by decide)]
      exact hS
    have w2 : (vi1 12).toInt ≤ 9999 := by
      rw [kx1 12 (by decide)]
      exact hm
    have w3 : (vi1 24).toInt = (vm1 12).toInt := by
      rw [kx1 24 (by decide), km1 12 (by decide)]
      exact hU
    have w4 : (vi1 25).toInt = (vm1 13).toInt := by
      rw [← p_N, ← r_N]
    have w5 : rs_H (vi1 33).toInt (vi1 34).toInt (fl_A (vf1 11)) (vi1 24).toInt (vi1 26).toInt (lr_g3 vi1) (lr_f3 vf1) (fl_A (vn1 6)) := by
      rw [kx1 33 (by decide), kx1 34 (by decide), kx2 11 (by decide), kx1 24 (by decide), kx1 26 (by decide), km2 6 (by decide)]
      exact rs_H_cg (fun k h9 => by rw [lr_g3e vi h9]; show (vi1 (57 + k)).toInt = (vi (57 + k)).toInt; rw [kx1 (57 + k) (kp_out (a := 57) (b := 137) (by decide) (by omega) (by omega))]) (fun k h9 => by rw [lr_f3e vf h9]; show fl_A (vf1 (23 + k)) = fl_A (vf (23 + k)); rw [kx2 (23 + k) (kp_out (a := 23) (b := 55) (by decide) (by omega) (by omega))]) hHi
    have w6 : rs_I (vi1 33).toInt (vi1 34).toInt (fl_A (vf1 11)) (vi1 25).toInt (lr_g4 vi1) (lr_f4 vf1) (fl_A (vn1 7)) := by
      rw [kx1 33 (by decide), kx1 34 (by decide), kx2 11 (by decide), ← p_N, ← r_kp]
      exact rs_I_cg (fun k h9 => by rw [p_iI]; exact (lr_g4e vi1 h9).symm) (fun k h9 => by rw [p_iF]; exact (lr_f4e vf1 h9).symm) e6
    exact ⟨by rw [kx1 1 (by decide), km1 7 (by decide)]; exact hF, lr_H_keep (kx1 33 (by decide)) (kx1 34 (by decide)) (kx1 35 (by decide)) (kx1 36 (by decide)) (kx1 37 (by decide)) (kx1 38 (by decide)) (kx1 39 (by decide)) (kx1 40 (by decide)) (kx1 41 (by decide)) (kx1 42 (by decide)) (kx1 53 (by decide)) (kx2 11 (by decide)) (kx2 12 (by decide)) (kx2 13 (by decide)) (kx2 14 (by decide)) (kx2 19 (by decide)) (kx2 20 (by decide)) (km1 11 (by decide)) (by rw [km2 2 (by decide)]) hH, ⟨by rw [kx1 54 (by decide)]; exact hV.1.1, by rw [kx1 56 (by decide)]; exact hV.1.2⟩, Or.inr ⟨by rw [km1 11 (by decide)]; exact hM1, w1, w2, w3, w4, w5, w6⟩⟩

theorem lr_back {tp : Int32} {vi vi1 vm vm1 : Nat → Int32} {vf vf1 vn vn1 : Nat → Nat → Int32} (hR : lr_R tp vi vf vm vn) (hM : vm 11 = 0 ∨ (vm 11 = 1 ∧ ((∀ k : Nat, 0 ≤ k → k ≤ 0 → (2 : Int) ≤ ((vn 2) k).toInt ∧ ((vn 2) k).toInt ≤ 9) ∧ (∀ k : Nat, 1 ≤ k → k ≤ 1 → (1 : Int) ≤ ((vn 2) k).toInt ∧ ((vn 2) k).toInt ≤ 20) ∧ (∀ k : Nat, 2 ≤ k → k ≤ 2 → (0 : Int) ≤ ((vn 2) k).toInt ∧ ((vn 2) k).toInt ≤ 8) ∧ (∀ k : Nat, 3 ≤ k → k ≤ 3 → (0 : Int) ≤ ((vn 2) k).toInt ∧ ((vn 2) k).toInt ≤ 100) ∧ (∀ k : Nat, 4 ≤ k → k ≤ 4 → (0 : Int) ≤ ((vn 2) k).toInt ∧ ((vn 2) k).toInt ≤ 9) ∧ (∀ k : Nat, 5 ≤ k → k ≤ 5 → (0 : Int) ≤ ((vn 2) k).toInt ∧ ((vn 2) k).toInt ≤ 3) ∧ (∀ k : Nat, 6 ≤ k → k ≤ 6 → (0 : Int) ≤ ((vn 2) k).toInt ∧ ((vn 2) k).toInt ≤ 6) ∧ (∀ k : Nat, 7 ≤ k → k ≤ 9 → (0 : Int) ≤ ((vn 2) k).toInt ∧ ((vn 2) k).toInt ≤ 8) ∧ (∀ k : Nat, 12 ≤ k → k ≤ 29 → (0 : Int) ≤ ((vn 2) k).toInt ∧ ((vn 2) k).toInt ≤ 20) ∧ (∀ k : Nat, 30 ≤ k → k ≤ 35 → (0 : Int) ≤ ((vn 2) k).toInt ∧ ((vn 2) k).toInt ≤ 8) ∧ (∀ k : Nat, 36 ≤ k → k ≤ 47 → (0 : Int) ≤ ((vn 2) k).toInt ∧ ((vn 2) k).toInt ≤ 999)) ∧ ((∀ (j i0 i : Int32), (0 : Int) ≤ j.toInt → j.toInt ≤ 8 → i0.toInt = 12 + 2 * j.toInt → i.toInt = 13 + 2 * j.toInt → ((vn 2) i0.toNatClampNeg).toInt = (1 : Int32).toInt → (1 : Int) ≤ ((vn 2) i.toNatClampNeg).toInt)))) (a : Int32) (kx1 : (∀ k9 : Nat, k9 ∉ ([0, 12, 13, 14, 15, 16, 24] : List Nat) → vi1 k9 = vi k9)) (kx2 : (∀ k9 : Nat, k9 ∉ ([1, 2] : List Nat) → vf1 k9 = vf k9)) (km1 : (∀ k9 : Nat, k9 ∉ ([0, 9, 12] : List Nat) → vm1 k9 = vm k9)) (km2 : (∀ k9 : Nat, k9 ∉ ([4] : List Nat) → vn1 k9 = vn k9)) (gx : (Ff_X7_back a.toInt (vi 24).toInt (vi 25).toInt (vi 12).toInt (vi 13).toInt (vi 14).toInt (vi 15).toInt (vi 16).toInt (fl_nI [(vi 137).toInt, (vi 138).toInt, (vi 139).toInt, (vi 140).toInt, (vi 141).toInt, (vi 142).toInt, (vi 143).toInt, (vi 144).toInt, (vi 145).toInt, (vi 146).toInt, (vi 147).toInt, (vi 148).toInt, (vi 149).toInt, (vi 150).toInt, (vi 151).toInt]) (fl_nF [(fl_A (vf 55)), (fl_A (vf 56)), (fl_A (vf 57)), (fl_A (vf 58)), (fl_A (vf 59)), (fl_A (vf 60))]) (fl_A (vf 1)) (fl_A (vf 2))).2 = ((vi1 0).toInt, (vi1 24).toInt, (vi1 12).toInt, (vi1 13).toInt, (vi1 14).toInt, (vi1 15).toInt, (vi1 16).toInt, (fl_A (vf1 1)), (fl_A (vf1 2)))) (gm : (Ff_X8_back a.toInt (vm 12).toInt (vm 13).toInt (fl_A (vn 7)) (fl_A (vn 4))).2 = ((vm1 0).toInt, (vm1 9).toInt, (vm1 12).toInt, (fl_A (vn1 4)))) : lr_Q vi1 vf1 vm1 vn1 := by
  obtain ⟨hT, hF, hH, hV⟩ := hR
  rcases hM with hM0 | ⟨hM1, hrs, hkm⟩
  · rcases hH with hH | ⟨z9, -⟩
    rotate_left
    · rw [hM0] at z9; exact absurd z9 (by decide)
    have hH9 : lr_H vi vf vm vn := Or.inl hH
    obtain ⟨-, h33, -⟩ := hH
    obtain ⟨⟨v54, v56⟩, hV⟩ := hV
    rcases hV with ⟨-, v12, v24, v25, u12, u13⟩ | ⟨z9, -⟩
    rotate_left
    · rw [hM0] at z9; exact absurd z9 (by decide)
    have e33 : (vi 33).toInt = 0 := by rw [h33]; decide
    have e25 : (vi 25).toInt = 0 := by rw [v25]; decide
    have e13 : (vm 13).toInt = 0 := by rw [u13]; decide
    have ex : Ff_X7_back a.toInt (vi 24).toInt (vi 25).toInt (vi 12).toInt (vi 13).toInt (vi 14).toInt (vi 15).toInt (vi 16).toInt (fl_nI [(vi 137).toInt, (vi 138).toInt, (vi 139).toInt, (vi 140).toInt, (vi 141).toInt, (vi 142).toInt, (vi 143).toInt, (vi 144).toInt, (vi 145).toInt, (vi 146).toInt, (vi 147).toInt, (vi 148).toInt, (vi 149).toInt, (vi 150).toInt, (vi 151).toInt]) (fl_nF [(fl_A (vf 55)), (fl_A (vf 56)), (fl_A (vf 57)), (fl_A (vf 58)), (fl_A (vf 59)), (fl_A (vf 60))]) (fl_A (vf 1)) (fl_A (vf 2)) = (0, 1, (vi 24).toInt, (vi 12).toInt, (vi 13).toInt, (vi 14).toInt, (vi 15).toInt, (vi 16).toInt, (fl_A (vf 1)), (fl_A (vf 2))) := by
      unfold Ff_X7_back Ff_X1_goBack
      rw [fl_lt_eq rfl, e25, rp_in, rp_in0 (by omega), fl_lt_eq rfl, if_neg (by decide), fl_c9_eq rfl]
      rfl
    rw [ex] at gx
    have p_U : (vi 24).toInt = (vi1 24).toInt := congrArg (fun z9 => z9.2.1) gx
    have p_mi : (vi 12).toInt = (vi1 12).toInt := congrArg (fun z9 => z9.2.2.1) gx
    have em : Ff_X8_back a.toInt (vm 12).toInt (vm 13).toInt (fl_A (vn 7)) (fl_A (vn 4)) = (0, 0, 1, (vm 12).toInt, (fl_A (vn 4))) := by
      unfold Ff_X8_back Ff_X8_good
      rw [fl_c2_eq rfl, fl_lt_eq rfl, e13, rp_in0 (by omega)]
      rfl
    rw [em] at gm
    have p_Um : (vm 12).toInt = (vm1 12).toInt := congrArg (fun z9 => z9.2.2.1) gm
    refine ⟨by rw [kx1 1 (by decide), km1 7 (by decide)]; exact hF, lr_H_keep (kx1 33 (by decide)) (kx1 34 (by decide)) (kx1 35 (by decide)) (kx1 36 (by decide)) (kx1 37 (by decide)) (kx1 38 (by decide)) (kx1 39 (by decide)) (kx1 40 (by decide)) (kx1 41 (by decide)) (kx1 42 (by decide)) (kx1 53 (by decide)) (kx2 11 (by decide)) (kx2 12 (by decide)) (kx2 13 (by decide)) (kx2 14 (by decide)) (kx2 19 (by decide)) (kx2 20 (by decide)) (km1 11 (by decide)) (by rw [km2 2 (by decide)]) hH9, ⟨by rw [kx1 54 (by decide)]; exact v54, by rw [kx1 56 (by decide)]; exact v56⟩, Or.inl ⟨by rw [km1 11 (by decide)]; exact hM0, by rw [← Int32.toInt_inj, ← p_mi, v12], by rw [← Int32.toInt_inj, ← p_U, v24], by rw [kx1 25 (by decide)]; exact v25, by rw [← Int32.toInt_inj, ← p_Um, u12], by rw [km1 13 (by decide)]; exact u13⟩⟩
  · obtain ⟨hG, hD, -⟩ := lr_G hH hM1 hrs hkm
    have hf9 : 2 ≤ (vi 33).toInt ∧ (vi 33).toInt ≤ 9 := ⟨hG.1.2.1, hG.1.2.2⟩
    have f9 := hf9.2
    have hV4 := hV.2
    rcases hV4 with ⟨z9, -⟩ | ⟨-, hS, hm, hU, hN, hHi, hIm⟩
    · rw [hM1] at z9; exact absurd z9 (by decide)
    have e11 : (vm 11).toInt = 1 := by rw [hM1]; decide
    have hHi := rs_H_cg (gI1 := fl_nI [(vi 57).toInt, (vi 58).toInt, (vi 59).toInt, (vi 60).toInt, (vi 61).toInt, (vi 62).toInt, (vi 63).toInt, (vi 64).toInt, (vi 65).toInt, (vi 66).toInt, (vi 67).toInt, (vi 68).toInt, (vi 69).toInt, (vi 70).toInt, (vi 71).toInt, (vi 72).toInt, (vi 73).toInt, (vi 74).toInt, (vi 75).toInt, (vi 76).toInt, (vi 77).toInt, (vi 78).toInt, (vi 79).toInt, (vi 80).toInt, (vi 81).toInt, (vi 82).toInt, (vi 83).toInt, (vi 84).toInt, (vi 85).toInt, (vi 86).toInt, (vi 87).toInt, (vi 88).toInt, (vi 89).toInt, (vi 90).toInt, (vi 91).toInt, (vi 92).toInt, (vi 93).toInt, (vi 94).toInt, (vi 95).toInt, (vi 96).toInt, (vi 97).toInt, (vi 98).toInt, (vi 99).toInt, (vi 100).toInt, (vi 101).toInt, (vi 102).toInt, (vi 103).toInt, (vi 104).toInt, (vi 105).toInt, (vi 106).toInt, (vi 107).toInt, (vi 108).toInt, (vi 109).toInt, (vi 110).toInt, (vi 111).toInt, (vi 112).toInt, (vi 113).toInt, (vi 114).toInt, (vi 115).toInt, (vi 116).toInt, (vi 117).toInt, (vi 118).toInt, (vi 119).toInt, (vi 120).toInt, (vi 121).toInt, (vi 122).toInt, (vi 123).toInt, (vi 124).toInt, (vi 125).toInt, (vi 126).toInt, (vi 127).toInt, (vi 128).toInt, (vi 129).toInt, (vi 130).toInt, (vi 131).toInt, (vi 132).toInt, (vi 133).toInt, (vi 134).toInt, (vi 135).toInt, (vi 136).toInt]) (gF1 := fl_nF [(fl_A (vf 23)), (fl_A (vf 24)), (fl_A (vf 25)), (fl_A (vf 26)), (fl_A (vf 27)), (fl_A (vf 28)), (fl_A (vf 29)), (fl_A (vf 30)), (fl_A (vf 31)), (fl_A (vf 32)), (fl_A (vf 33)), (fl_A (vf 34)), (fl_A (vf 35)), (fl_A (vf 36)), (fl_A (vf 37)), (fl_A (vf 38)), (fl_A (vf 39)), (fl_A (vf 40)), (fl_A (vf 41)), (fl_A (vf 42)), (fl_A (vf 43)), (fl_A (vf 44)), (fl_A (vf 45)), (fl_A (vf 46)), (fl_A (vf 47)), (fl_A (vf 48)), (fl_A (vf 49)), (fl_A (vf 50)), (fl_A (vf 51)), (fl_A (vf 52)), (fl_A (vf 53)), (fl_A (vf 54))]) (fun k h9 => lr_g3e vi h9) (fun k h9 => lr_f3e vf h9) hHi
    have hIm := rs_I_cg (gI1 := fl_nI [(vi 137).toInt, (vi 138).toInt, (vi 139).toInt, (vi 140).toInt, (vi 141).toInt, (vi 142).toInt, (vi 143).toInt, (vi 144).toInt, (vi 145).toInt, (vi 146).toInt, (vi 147).toInt, (vi 148).toInt, (vi 149).toInt, (vi 150).toInt, (vi 151).toInt]) (gF1 := fl_nF [(fl_A (vf 55)), (fl_A (vf 56)), (fl_A (vf 57)), (fl_A (vf 58)), (fl_A (vf 59)), (fl_A (vf 60))]) (fun k h9 => lr_g4e vi h9) (fun k h9 => lr_f4e vf h9) hIm
    obtain ⟨R, tr, U1, mi1, tu1, sn1, go1, ca1, pl1, he1, st1, e1, e2, e3, e4, e5⟩ := rs_back f9 hS hm hHi hIm a.toInt
    rw [← hU, ← hN] at gm
    rw [e1] at gx
    rw [e2] at gm
    have p_U : U1 = (vi1 24).toInt := congrArg (fun z9 => z9.2.1) gx
    have p_mi : mi1 = (vi1 12).toInt := congrArg (fun z9 => z9.2.2.1) gx
    have p_tu : tu1 = (vi1 13).toInt := congrArg (fun z9 => z9.2.2.2.1) gx
    have p_sn : sn1 = (vi1 14).toInt := congrArg (fun z9 => z9.2.2.2.2.1) gx
    have p_go : go1 = (vi1 15).toInt := congrArg (fun z9 => z9.2.2.2.2.2.1) gx
    have p_ca : ca1 = (vi1 16).toInt := congrArg (fun z9 => z9.2.2.2.2.2.2.1) gx
    have p_pl : pl1 = (fl_A (vf1 1)) := congrArg (fun z9 => z9.2.2.2.2.2.2.2.1) gx
    have p_he : he1 = (fl_A (vf1 2)) := congrArg (fun z9 => z9.2.2.2.2.2.2.2.2) gx
    have r_U : U1 = (vm1 12).toInt := congrArg (fun z9 => z9.2.2.1) gm
    have r_st : st1 = (fl_A (vn1 4)) := congrArg (fun z9 => z9.2.2.2) gm
    have w1 : rs_S (vi1 33).toInt (vi1 34).toInt (fl_A (vf1 11)) (vi1 12).toInt (vi1 13).toInt (vi1 14).toInt (vi1 15).toInt (vi1 16).toInt (fl_A (vf1 1)) (fl_A (vf1 2)) (fl_A (vn1 4)) := by
      rw [kx1 33 (by decide), kx1 34 (by decide), kx2 11 (by decide), ← p_mi, ← p_tu, ← p_sn, ← p_go, ← p_ca, ← p_pl, ← p_he, ← r_st]
      exact e3
    have w2 : (vi1 12).toInt ≤ 9999 := by
      rw [← p_mi]
      exact e4
    have w3 : (vi1 24).toInt = (vm1 12).toInt := by
      rw [← p_U, ← r_U]
    have w4 : (vi1 25).toInt = (vm1 13).toInt := by
      rw [kx1 25 (by decide), km1 13 (by decide)]
      exact hN
    have w5 : rs_H (vi1 33).toInt (vi1 34).toInt (fl_A (vf1 11)) (vi1 24).toInt (vi1 26).toInt (lr_g3 vi1) (lr_f3 vf1) (fl_A (vn1 6)) := by
      rw [kx1 33 (by decide), kx1 34 (by decide), kx2 11 (by decide), ← p_U, kx1 26 (by decide), km2 6 (by decide)]
      exact rs_H_cg (fun k h9 => by rw [lr_g3e vi h9]; show (vi1 (57 + k)).toInt = (vi (57 + k)).toInt; rw [kx1 (57 + k) (kp_out (a := 57) (b := 137) (by decide) (by omega) (by omega))]) (fun k h9 => by rw [lr_f3e vf h9]; show fl_A (vf1 (23 + k)) = fl_A (vf (23 + k)); rw [kx2 (23 + k) (kp_out (a := 23) (b := 55) (by decide) (by omega) (by omega))]) e5
    have w6 : rs_I (vi1 33).toInt (vi1 34).toInt (fl_A (vf1 11)) (vi1 25).toInt (lr_g4 vi1) (lr_f4 vf1) (fl_A (vn1 7)) := by
      rw [kx1 33 (by decide), kx1 34 (by decide), kx2 11 (by decide), kx1 25 (by decide), km2 7 (by decide)]
      exact rs_I_cg (fun k h9 => by rw [lr_g4e vi h9]; show (vi1 (137 + k)).toInt = (vi (137 + k)).toInt; rw [kx1 (137 + k) (kp_out (a := 137) (b := 152) (by decide) (by omega) (by omega))]) (fun k h9 => by rw [lr_f4e vf h9]; show fl_A (vf1 (55 + k)) = fl_A (vf (55 + k)); rw [kx2 (55 + k) (kp_out (a := 55) (b := 61) (by decide) (by omega) (by omega))]) hIm
    exact ⟨by rw [kx1 1 (by decide), km1 7 (by decide)]; exact hF, lr_H_keep (kx1 33 (by decide)) (kx1 34 (by decide)) (kx1 35 (by decide)) (kx1 36 (by decide)) (kx1 37 (by decide)) (kx1 38 (by decide)) (kx1 39 (by decide)) (kx1 40 (by decide)) (kx1 41 (by decide)) (kx1 42 (by decide)) (kx1 53 (by decide)) (kx2 11 (by decide)) (kx2 12 (by decide)) (kx2 13 (by decide)) (kx2 14 (by decide)) (kx2 19 (by decide)) (kx2 20 (by decide)) (km1 11 (by decide)) (by rw [km2 2 (by decide)]) hH, ⟨by rw [kx1 54 (by decide)]; exact hV.1.1, by rw [kx1 56 (by decide)]; exact hV.1.2⟩, Or.inr ⟨by rw [km1 11 (by decide)]; exact hM1, w1, w2, w3, w4, w5, w6⟩⟩
end RELA
end P094032_rel
section P094034_rel
section RELP
section RT
/-- the n-th turn from one of x on, by N -/
def rt_T (N : Int → Int) (x : Int) : Nat → Int
  | 0 => x
  | n + 1 => N (rt_T N x n)
theorem rt_mem {N : Int → Int} {x fg : Int} (hN : ∀ y, 0 ≤ N y ∧ N y < fg) (hx : 0 ≤ x ∧ x < fg) : ∀ n, 0 ≤ rt_T N x n ∧ rt_T N x n < fg
  | 0 => hx
  | _ + 1 => hN _
theorem rt_add (N : Int → Int) (x : Int) (n : Nat) : ∀ m, rt_T N x (n + m) = rt_T N (rt_T N x n) m
  | 0 => rfl
  | m + 1 => congrArg N (rt_add N x n m)
theorem rt_eq {N : Int → Int} {x : Int} {a b : Nat} (h : rt_T N x a = rt_T N x b) (d : Nat) : rt_T N x (a + d) = rt_T N x (b + d) := by
  rw [rt_add, rt_add, h]
theorem rt_pig : ∀ (m n : Nat) (f : Nat → Int), (∀ k, k < n → 0 ≤ f k ∧ f k < (m : Int)) → (∀ i j, i < n → j < n → f i = f j → i = j) → n ≤ m := by
  intro m
  induction m with
  | zero =>
    intro n f h1 _
    by_cases h : n = 0
    · omega
    · have h2 := h1 0 (by omega); omega
  | succ m ih =>
    intro n f h1 h2
    by_cases hk : ∃ k, k < n ∧ f k = (m : Int)
    · obtain ⟨k, hk, ek⟩ := hk
      have q : n - 1 ≤ m := ih (n - 1) (fun i => if i = k then f (n - 1) else f i) (fun i hi => by
        by_cases e : i = k
        · rw [if_pos e]
          have q1 := h1 (n - 1) (by omega)
          have q2 : f (n - 1) ≠ (m : Int) := fun q3 => by
            have q4 := h2 (n - 1) k (by omega) hk (q3.trans ek.symm)
            omega
          omega
        · rw [if_neg e]
          have q1 := h1 i (by omega)
          have q2 : f i ≠ (m : Int) := fun q3 => e (h2 i k (by omega) hk (q3.trans ek.symm))
          omega) (fun i j hi hj => by
        by_cases e1 : i = k
        · rw [if_pos e1]
          by_cases e2 : j = k
          · intro _; omega
          · rw [if_neg e2]; intro q1
            have q2 := h2 (n - 1) j (by omega) (by omega) q1
            omega
        · rw [if_neg e1]
          by_cases e2 : j = k
          · rw [if_pos e2]; intro q1
            have q2 := h2 i (n - 1) (by omega) (by omega) q1
            omega
          · rw [if_neg e2]; intro q1
            exact h2 i j (by omega) (by omega) q1)
      omega
    · have q := ih n f (fun i hi => by
        have q1 := h1 i hi
        have q2 : f i ≠ (m : Int) := fun q3 => hk ⟨i, hi, q3⟩
        omega) h2
      omega
/-- from the s-th on they come again, g of them -/
def rt_C (N : Int → Int) (x : Int) (s g : Nat) : Prop := 1 ≤ g ∧ (∀ i j, i < s + g → j < s + g → rt_T N x i = rt_T N x j → i = j) ∧ rt_T N x (s + g) = rt_T N x s
theorem rt_per {N : Int → Int} {x : Int} {s g : Nat} (h : rt_C N x s g) (j : Nat) : ∀ q : Nat, rt_T N x (s + j + g * q) = rt_T N x (s + j)
  | 0 => rfl
  | q + 1 => by
    have e : s + j + g * (q + 1) = (s + g) + (j + g * q) := by rw [Nat.mul_add, Nat.mul_one]; omega
    rw [e, rt_eq h.2.2 (j + g * q), ← Nat.add_assoc]
    exact rt_per h j q
theorem rt_mod {N : Int → Int} {x : Int} {s g : Nat} (h : rt_C N x s g) {n : Nat} (hn : s ≤ n) : rt_T N x n = rt_T N x (s + (n - s) % g) := by
  have e : n = s + (n - s) % g + g * ((n - s) / g) := by
    have := Nat.mod_add_div (n - s) g
    omega
  have q := rt_per h ((n - s) % g) ((n - s) / g)
  rw [← e] at q
  exact q
/-- each turn is one of the first s + g -/
theorem rt_old {N : Int → Int} {x : Int} {s g : Nat} (h : rt_C N x s g) (n : Nat) : ∃ k, k < s + g ∧ rt_T N x k = rt_T N x n := by
  by_cases hn : s ≤ n
  · refine ⟨s + (n - s) % g, ?_, (rt_mod h hn).symm⟩
    have := Nat.mod_lt (n - s) h.1
    omega
  · exact ⟨n, by have := h.1; omega, rfl⟩
/-- the place found in a row -/
def rt_fd (row : Nat → Int) (f : Int) : Nat → Nat → Int → Int
  | 0, _, st => st
  | d + 1, j, st => rt_fd row f d (j + 1) (if row j = f then (j : Int) else st)
theorem rt_fd0 {row : Nat → Int} {f : Int} : ∀ (d j : Nat) (st : Int), (∀ k, j ≤ k → k < j + d → row k ≠ f) → rt_fd row f d j st = st
  | 0, _, _, _ => rfl
  | d + 1, j, st, h => by
    show rt_fd row f d (j + 1) (if row j = f then (j : Int) else st) = st
    rw [if_neg (h j (Nat.le_refl _) (by omega))]
    exact rt_fd0 d (j + 1) st (fun k h1 h2 => h k (by omega) (by omega))
theorem rt_fd1 {row : Nat → Int} {f : Int} {s : Nat} (hs : row s = f) : ∀ (d j : Nat) (st : Int), j ≤ s → s < j + d → (∀ k, j ≤ k → k < j + d → k ≠ s → row k ≠ f) → rt_fd row f d j st = (s : Int)
  | 0, _, _, _, _, _ => by omega
  | d + 1, j, st, h1, h2, h => by
    show rt_fd row f d (j + 1) (if row j = f then (j : Int) else st) = (s : Int)
    by_cases e : j = s
    · subst e
      rw [if_pos hs]
      exact rt_fd0 d (j + 1) (j : Int) (fun k q1 q2 => h k (by omega) (by omega) (by omega))
    · rw [if_neg (h j (Nat.le_refl _) (by omega) e)]
      exact rt_fd1 hs d (j + 1) st (by omega) (by omega) (fun k q1 q2 q3 => h k (by omega) (by omega) q3)
/-- goRound's inner loop -/
theorem rt_in (r row : Nat → Int) (f : Int) (n : Nat) : ∀ (d m j : Nat) (st : Int), j + d = n → d + 1 ≤ m →
    fl_wh (fun t9 : Int × Int => Sf_X8_goRound_24_1 r f (n : Int) row t9.1 t9.2) (Sum.inr (0, 0, (fun _ => 0))) m ((j : Int), st) =
      (if rt_fd row f d j st < 0 then Sum.inl (Ff_X8_nextOf f r, (n : Int) + 1, rt_fd row f d j st, fl_up row n f) else Sum.inr (rt_fd row f d j st, (n : Int) - rt_fd row f d j st, row)) := by
  intro d
  induction d with
  | zero =>
    intro m j st hj hm
    obtain ⟨m, rfl⟩ : ∃ q, m = q + 1 := ⟨m - 1, by omega⟩
    refine fl_wh_r (step := (fun t9 : Int × Int => Sf_X8_goRound_24_1 r f (n : Int) row t9.1 t9.2)) (s := ((j : Int), st)) ?_
    show Sf_X8_goRound_24_1 r f (n : Int) row (j : Int) st = _
    unfold Sf_X8_goRound_24_1
    rw [if_pos (by omega)]
    show Sum.inr (if st < 0 then _ else _) = Sum.inr (if st < 0 then _ else _)
    by_cases h : st < 0
    · rw [if_pos h, if_pos h]
      rfl
    · rw [if_neg h, if_neg h, if_pos (by omega)]
      rfl
  | succ d ih =>
    intro m j st hj hm
    obtain ⟨m, rfl⟩ : ∃ q, m = q + 1 := ⟨m - 1, by omega⟩
    have q := ih m (j + 1) (if row j = f then (j : Int) else st) (by omega) (by omega)
    refine (fl_wh_l (step := (fun t9 : Int × Int => Sf_X8_goRound_24_1 r f (n : Int) row t9.1 t9.2)) (s := ((j : Int), st)) (s' := (((j + 1 : Nat) : Int), if row j = f then (j : Int) else st)) ?_).trans q
    show Sf_X8_goRound_24_1 r f (n : Int) row (j : Int) st = _
    unfold Sf_X8_goRound_24_1
    rw [if_neg (by omega)]
    show (if row j = f then _ else _) = _
    by_cases h : row j = f
    · rw [if_pos h, if_pos h]
      rfl
    · rw [if_neg h, if_neg h]
      rfl
/-- goRound's outer loop -/
theorem rt_out {r : Nat → Int} {N : Int → Int} {x fg : Int} (hf : fg ≤ 9) (hN : ∀ y, 0 ≤ N y ∧ N y < fg) (hr : ∀ y, Ff_X8_nextOf y r = N y) (hx : 0 ≤ x ∧ x < fg) : ∀ (d m n : Nat) (row : Nat → Int), (n : Int) + (d : Int) = fg → d + 2 ≤ m → (∀ k, k < n → row k = rt_T N x k) → (∀ i j, i < n → j < n → rt_T N x i = rt_T N x j → i = j) →
    ∃ (s g : Nat) (row1 : Nat → Int), fl_wh (fun t9 : Int × Int × Int × (Nat → Int) => Sf_X8_goRound_15_1 r t9.1 t9.2.1 t9.2.2.1 t9.2.2.2) (0, 0, (fun _ => 0)) m (rt_T N x n, (n : Int), (-1), row) = ((s : Int), (g : Int), row1) ∧ rt_C N x s g ∧ ((s + g : Nat) : Int) ≤ fg ∧ ∀ k, k < s + g → row1 k = rt_T N x k := by
  intro d
  induction d with
  | zero =>
    intro m n row hd hm h1 h2
    obtain ⟨m, rfl⟩ : ∃ q, m = q + 1 := ⟨m - 1, by omega⟩
    have hs : ∃ s, s < n ∧ rt_T N x s = rt_T N x n := by
      by_cases h : ∃ s, s < n ∧ rt_T N x s = rt_T N x n
      · exact h
      · have q := rt_pig n (n + 1) (rt_T N x) (fun k _ => by have := rt_mem hN hx k; omega) (fun i j hi hj e => by
          by_cases e1 : i = n
          · by_cases e2 : j = n
            · omega
            · exact absurd ⟨j, by omega, by rw [← e, e1]⟩ h
          · by_cases e2 : j = n
            · exact absurd ⟨i, by omega, by rw [e, e2]⟩ h
            · exact h2 i j (by omega) (by omega) e)
        omega
    obtain ⟨s, hs1, hs2⟩ := hs
    refine ⟨s, n - s, row, ?_, ⟨by omega, fun i j hi hj e => h2 i j (by omega) (by omega) e, by rw [show s + (n - s) = n from by omega]; exact hs2.symm⟩, by omega, fun k hk => h1 k (by omega)⟩
    refine fl_wh_r (step := (fun t9 : Int × Int × Int × (Nat → Int) => Sf_X8_goRound_15_1 r t9.1 t9.2.1 t9.2.2.1 t9.2.2.2)) (s := (rt_T N x n, (n : Int), (-1), row)) ?_
    show Sf_X8_goRound_15_1 r (rt_T N x n) (n : Int) (-1) row = _
    unfold Sf_X8_goRound_15_1
    rw [if_neg (by decide)]
    have q := rt_in r row (rt_T N x n) n n 10 0 (-1) (by omega) (by omega)
    have q1 := rt_fd1 (row := row) (f := rt_T N x n) (s := s) ((h1 s hs1).trans hs2) n 0 (-1) (by omega) (by omega) (fun k _ q2 q3 q4 => q3 (h2 k s (by omega) hs1 (by rw [← h1 k (by omega), q4, hs2])))
    rw [q1, if_neg (by omega)] at q
    refine q.trans ?_
    show Sum.inr ((s : Int), (n : Int) - (s : Int), row) = Sum.inr ((s : Int), ((n - s : Nat) : Int), row)
    rw [show ((n - s : Nat) : Int) = (n : Int) - (s : Int) from by omega]
  | succ d ih =>
    intro m n row hd hm h1 h2
    obtain ⟨m, rfl⟩ : ∃ q, m = q + 1 := ⟨m - 1, by omega⟩
    have q := rt_in r row (rt_T N x n) n n 10 0 (-1) (by omega) (by omega)
    by_cases hs : ∃ s, s < n ∧ rt_T N x s = rt_T N x n
    · obtain ⟨s, hs1, hs2⟩ := hs
      refine ⟨s, n - s, row, ?_, ⟨by omega, fun i j hi hj e => h2 i j (by omega) (by omega) e, by rw [show s + (n - s) = n from by omega]; exact hs2.symm⟩, by omega, fun k hk => h1 k (by omega)⟩
      refine fl_wh_r (step := (fun t9 : Int × Int × Int × (Nat → Int) => Sf_X8_goRound_15_1 r t9.1 t9.2.1 t9.2.2.1 t9.2.2.2)) (s := (rt_T N x n, (n : Int), (-1), row)) ?_
      show Sf_X8_goRound_15_1 r (rt_T N x n) (n : Int) (-1) row = _
      unfold Sf_X8_goRound_15_1
      rw [if_neg (by decide)]
      have q1 := rt_fd1 (row := row) (f := rt_T N x n) (s := s) ((h1 s hs1).trans hs2) n 0 (-1) (by omega) (by omega) (fun k _ q2 q3 q4 => q3 (h2 k s (by omega) hs1 (by rw [← h1 k (by omega), q4, hs2])))
      rw [q1, if_neg (by omega)] at q
      refine q.trans ?_
      show Sum.inr ((s : Int), (n : Int) - (s : Int), row) = Sum.inr ((s : Int), ((n - s : Nat) : Int), row)
      rw [show ((n - s : Nat) : Int) = (n : Int) - (s : Int) from by omega]
    · have q1 := rt_fd0 (row := row) (f := rt_T N x n) n 0 (-1) (fun k _ q2 q3 => hs ⟨k, by omega, by rw [← h1 k (by omega), q3]⟩)
      rw [q1, if_pos (by decide)] at q
      obtain ⟨s, g, row1, e1, e2, e3, e4⟩ := ih m (n + 1) (fl_up row n (rt_T N x n)) (by omega) (by omega) (fun k hk => by
        unfold fl_up
        by_cases e : k = n
        · rw [if_pos e, e]
        · rw [if_neg e]; exact h1 k (by omega)) (fun i j hi hj e => by
        by_cases e1 : i = n
        · by_cases e2 : j = n
          · omega
          · exact absurd ⟨j, by omega, by rw [← e, e1]⟩ hs
        · by_cases e2 : j = n
          · exact absurd ⟨i, by omega, by rw [e, e2]⟩ hs
          · exact h2 i j (by omega) (by omega) e)
      refine ⟨s, g, row1, (fl_wh_l (step := (fun t9 : Int × Int × Int × (Nat → Int) => Sf_X8_goRound_15_1 r t9.1 t9.2.1 t9.2.2.1 t9.2.2.2)) (s := (rt_T N x n, (n : Int), (-1), row)) (s' := (rt_T N x (n + 1), ((n + 1 : Nat) : Int), (-1), fl_up row n (rt_T N x n))) ?_).trans e1, e2, e3, e4⟩
      show Sf_X8_goRound_15_1 r (rt_T N x n) (n : Int) (-1) row = _
      unfold Sf_X8_goRound_15_1
      rw [if_neg (by decide)]
      refine q.trans ?_
      rw [hr]
      rfl
theorem rt_go {r st row : Nat → Int} {N : Int → Int} {x fg : Int} (h2 : 2 ≤ fg) (hf : fg ≤ 9) (hN : ∀ y, 0 ≤ N y ∧ N y < fg) (hr : ∀ y, Ff_X8_nextOf y r = N y) (hx : 0 ≤ x ∧ x < fg) (h19 : x = st 19) :
    ∃ (s g : Nat) (row1 : Nat → Int), Ff_X8_goRound st row r = ((s : Int), (g : Int), row1) ∧ rt_C N x s g ∧ ((s + g : Nat) : Int) ≤ fg ∧ ∀ k, k < s + g → row1 k = rt_T N x k := by
  obtain ⟨s, g, row1, e1, e⟩ := rt_out hf hN hr hx fg.toNat 13 0 row (by omega) (by omega) (fun k hk => absurd hk (by omega)) (fun i j hi => absurd hi (by omega))
  refine ⟨s, g, row1, ?_, e⟩
  unfold Ff_X8_goRound
  rw [← h19]
  exact e1
end RT
section RT2
end RT2
section RT3
/-- bits of those in a row from j on -/
def rt_bits (F : Nat → Int) : Nat → Nat → Int → Int
  | 0, _, b => b
  | d + 1, j, b => rt_bits F d (j + 1) (fl_or b (fl_shl 1 (F j)))
theorem rt_bits_add (F : Nat → Int) : ∀ (d e j : Nat) (b : Int), rt_bits F (d + e) j b = rt_bits F e (j + d) (rt_bits F d j b)
  | 0, e, j, b => by rw [Nat.zero_add]; rfl
  | d + 1, e, j, b => by
    rw [show d + 1 + e = (d + e) + 1 from by omega]
    show rt_bits F (d + e) (j + 1) _ = rt_bits F e (j + (d + 1)) (rt_bits F d (j + 1) _)
    rw [rt_bits_add F d e (j + 1), show j + 1 + d = j + (d + 1) from by omega]
theorem rt_bitsc {F G : Nat → Int} : ∀ (d j : Nat) (b : Int), (∀ k, j ≤ k → k < j + d → F k = G k) → rt_bits F d j b = rt_bits G d j b
  | 0, _, _, _ => rfl
  | d + 1, j, b, h => by
    show rt_bits F d (j + 1) (fl_or b (fl_shl 1 (F j))) = rt_bits G d (j + 1) (fl_or b (fl_shl 1 (G j)))
    rw [h j (Nat.le_refl _) (by omega)]
    exact rt_bitsc d (j + 1) _ (fun k h1 h2 => h k (by omega) (by omega))
set_option maxRecDepth 20000 in
theorem rt_zid : ∀ tb : Fin 512, ∀ f : Fin 9, (tb.val >>> f.val) % 2 = 1 → tb.val ||| (1 <<< f.val) = tb.val := by decide +kernel
theorem rt_hit {b x : Int} (h0 : 0 ≤ b) (h1 : b ≤ 511) (hx : 0 ≤ x ∧ x ≤ 8) (h : Ff_X7_hasBit b x = 1) : fl_or b (fl_shl 1 x) = b := by
  obtain ⟨n, rfl⟩ : ∃ n : Nat, b = (n : Int) := ⟨b.toNat, by omega⟩
  obtain ⟨f, rfl⟩ : ∃ f : Nat, x = (f : Int) := ⟨x.toNat, by omega⟩
  have q1 := rp_z1 ⟨n, by omega⟩ ⟨f, by omega⟩
  have q2 := rp_z2 ⟨n, by omega⟩ ⟨f, by omega⟩
  have q3 := rt_zid ⟨n, by omega⟩ ⟨f, by omega⟩
  have e1 : Ff_X7_hasBit (n : Int) (f : Int) = if (n >>> f) % 2 = 1 then 1 else 0 := q1
  rw [e1] at h
  have q4 : n ||| (1 <<< f) = n := q3 (rp_zi.mp h)
  exact (show fl_or (n : Int) (fl_shl 1 (f : Int)) = ((n ||| (1 <<< f) : Nat) : Int) from q2).trans (by rw [q4])
/-- bits of a row: within 511, and each of the row is there -/
theorem rt_bits_in {F : Nat → Int} (hF : ∀ k, 0 ≤ F k ∧ F k ≤ 8) : ∀ (d j : Nat) (b : Int), 0 ≤ b → b ≤ 511 → (0 ≤ rt_bits F d j b ∧ rt_bits F d j b ≤ 511) ∧ (∀ x, 0 ≤ x ∧ x ≤ 8 → Ff_X7_hasBit b x = 1 → Ff_X7_hasBit (rt_bits F d j b) x = 1) ∧ ∀ k, j ≤ k → k < j + d → Ff_X7_hasBit (rt_bits F d j b) (F k) = 1
  | 0, j, b, h0, h1 => ⟨⟨h0, h1⟩, fun _ _ h => h, fun k q1 q2 => absurd q2 (by omega)⟩
  | d + 1, j, b, h0, h1 => by
    obtain ⟨n, rfl⟩ : ∃ n : Nat, b = (n : Int) := ⟨b.toNat, by omega⟩
    obtain ⟨f, ef⟩ : ∃ f : Nat, F j = (f : Int) := ⟨(F j).toNat, by have := hF j; omega⟩
    have hf := hF j
    have q := rp_bits ⟨n, by omega⟩ ⟨f, by omega⟩
    obtain ⟨⟨q1, q2⟩, -, q3⟩ := q
    have e : rt_bits F (d + 1) j (n : Int) = rt_bits F d (j + 1) (fl_or (n : Int) (fl_shl 1 (f : Int))) := by
      show rt_bits F d (j + 1) (fl_or (n : Int) (fl_shl 1 (F j))) = _
      rw [ef]
    obtain ⟨r1, r2, r3⟩ := rt_bits_in hF d (j + 1) (fl_or (n : Int) (fl_shl 1 (f : Int))) q1 q2
    rw [e]
    refine ⟨r1, fun x hx h => ?_, fun k k1 k2 => ?_⟩
    · refine r2 x hx ?_
      obtain ⟨y, rfl⟩ : ∃ y : Nat, x = (y : Int) := ⟨x.toNat, by omega⟩
      exact (q3 ⟨y, by omega⟩).mpr (Or.inl h)
    · by_cases ek : k = j
      · rw [ek, ef]
        exact r2 (f : Int) (by omega) ((q3 ⟨f, by omega⟩).mpr (Or.inr rfl))
      · exact r3 k (by omega) (by omega)
theorem rt_bits_stay {F : Nat → Int} (hF : ∀ k, 0 ≤ F k ∧ F k ≤ 8) {b : Int} (h0 : 0 ≤ b) (h1 : b ≤ 511) : ∀ (e j : Nat), (∀ k, j ≤ k → k < j + e → Ff_X7_hasBit b (F k) = 1) → rt_bits F e j b = b
  | 0, _, _ => rfl
  | e + 1, j, h => by
    show rt_bits F e (j + 1) (fl_or b (fl_shl 1 (F j))) = b
    rw [rt_hit h0 h1 (hF j) (h j (Nat.le_refl _) (by omega))]
    exact rt_bits_stay hF h0 h1 e (j + 1) (fun k q1 q2 => h k (by omega) (by omega))
theorem rt_bitso {N : Int → Int} {x : Int} {s g : Nat} (h : rt_C N x s g) (hT : ∀ k, 0 ≤ rt_T N x k ∧ rt_T N x k ≤ 8) {D : Nat} (hD : s + g ≤ D) : rt_bits (rt_T N x) D 0 0 = rt_bits (rt_T N x) (s + g) 0 0 := by
  obtain ⟨e, rfl⟩ : ∃ e, D = (s + g) + e := ⟨D - (s + g), by omega⟩
  obtain ⟨⟨r0, r1⟩, -, r3⟩ := rt_bits_in hT (s + g) 0 0 (by decide) (by decide)
  rw [rt_bits_add]
  refine rt_bits_stay hT r0 r1 e _ (fun k q1 q2 => ?_)
  obtain ⟨k', p1, p2⟩ := rt_old h k
  have := r3 k' (by omega) (by omega)
  rw [p2] at this
  exact this
/-- called's loop: here -/
theorem rt_cac {F : Nat} {ti pu tu : Int} : ∀ (d m j : Nat) (b : Int), j + d = F → d + 1 ≤ m →
    (fl_wh (fun t9 : Int × Int × Int => Sf_X7_called_25_1 (F : Int) ti pu t9.1 t9.2.1 t9.2.2) (0, 0) m ((j : Int), rt_T (fun y => Ff_X0_next y (F : Int) ti pu) tu j, b)).1 = rt_bits (rt_T (fun y => Ff_X0_next y (F : Int) ti pu) tu) d j b := by
  intro d
  induction d with
  | zero =>
    intro m j b hj hm
    obtain ⟨m, rfl⟩ : ∃ q, m = q + 1 := ⟨m - 1, by omega⟩
    have c : Sf_X7_called_25_1 (F : Int) ti pu (j : Int) (rt_T (fun y => Ff_X0_next y (F : Int) ti pu) tu j) b = .inr (b, 0) := by
      unfold Sf_X7_called_25_1
      rw [if_pos (by omega)]
      rfl
    exact congrArg Prod.fst (fl_wh_r (step := (fun t9 : Int × Int × Int => Sf_X7_called_25_1 (F : Int) ti pu t9.1 t9.2.1 t9.2.2)) (s := ((j : Int), rt_T (fun y => Ff_X0_next y (F : Int) ti pu) tu j, b)) (d := (0, 0)) (n := m) c)
  | succ d ih =>
    intro m j b hj hm
    obtain ⟨m, rfl⟩ : ∃ q, m = q + 1 := ⟨m - 1, by omega⟩
    have c : Sf_X7_called_25_1 (F : Int) ti pu (j : Int) (rt_T (fun y => Ff_X0_next y (F : Int) ti pu) tu j) b = .inl (((j + 1 : Nat) : Int), rt_T (fun y => Ff_X0_next y (F : Int) ti pu) tu (j + 1), fl_or b (fl_shl 1 (rt_T (fun y => Ff_X0_next y (F : Int) ti pu) tu j))) := by
      unfold Sf_X7_called_25_1
      rw [if_neg (by omega)]
      rfl
    exact (congrArg Prod.fst (fl_wh_l (step := (fun t9 : Int × Int × Int => Sf_X7_called_25_1 (F : Int) ti pu t9.1 t9.2.1 t9.2.2)) (s := ((j : Int), rt_T (fun y => Ff_X0_next y (F : Int) ti pu) tu j, b)) (d := (0, 0)) (n := m) c)).trans (ih m (j + 1) _ (by omega) (by omega))
/-- called's loop: there -/
theorem rt_cam {s g : Nat} {row : Nat → Int} {v0 v11 : Int} : ∀ (d m j : Nat) (b : Int), j + d = s + g → d + 1 ≤ m →
    (fl_wh (fun t9 : Int × Int => Sf_X8_called_25_1 v0 v11 (s : Int) (g : Int) row t9.1 t9.2) (0, 0, 0, 0, 0, (fun _ => 0)) m ((j : Int), b)).1 = rt_bits row d j b := by
  intro d
  induction d with
  | zero =>
    intro m j b hj hm
    obtain ⟨m, rfl⟩ : ∃ q, m = q + 1 := ⟨m - 1, by omega⟩
    have c : Sf_X8_called_25_1 v0 v11 (s : Int) (g : Int) row (j : Int) b = .inr (b, v0, v11, (s : Int), (g : Int), row) := by
      unfold Sf_X8_called_25_1
      rw [fl_lt_eq rfl, if_pos (by omega)]
    exact congrArg Prod.fst (fl_wh_r (step := (fun t9 : Int × Int => Sf_X8_called_25_1 v0 v11 (s : Int) (g : Int) row t9.1 t9.2)) (s := ((j : Int), b)) (d := (0, 0, 0, 0, 0, (fun _ => 0))) (n := m) c)
  | succ d ih =>
    intro m j b hj hm
    obtain ⟨m, rfl⟩ : ∃ q, m = q + 1 := ⟨m - 1, by omega⟩
    have c : Sf_X8_called_25_1 v0 v11 (s : Int) (g : Int) row (j : Int) b = .inl (((j + 1 : Nat) : Int), fl_or b (fl_shl 1 (row j))) := by
      unfold Sf_X8_called_25_1
      rw [fl_lt_eq rfl, if_neg (by omega)]
      rfl
    exact (congrArg Prod.fst (fl_wh_l (step := (fun t9 : Int × Int => Sf_X8_called_25_1 v0 v11 (s : Int) (g : Int) row t9.1 t9.2)) (s := ((j : Int), b)) (d := (0, 0, 0, 0, 0, (fun _ => 0))) (n := m) c)).trans (ih m (j + 1) _ (by omega) (by omega))
end RT3
section RT4
end RT4
section RT5
section WITH
variable {fg ti pu tu : Int} {r st : Nat → Int}
theorem rt_0_called (ti pu tu : Int) : (Ff_X7_called 0 ti pu tu).1 = (Ff0_X8_called 0).1 := rfl
theorem rt_a_called (h2 : 2 ≤ fg) (h9 : fg ≤ 9) (hN : ∀ y, 0 ≤ Ff_X0_next y fg ti pu ∧ Ff_X0_next y fg ti pu < fg) (hr : ∀ y, Ff_X8_nextOf y r = Ff_X0_next y fg ti pu) (ht : 0 ≤ tu ∧ tu < fg) (h19 : tu = st 19) (row : Nat → Int) : (Ff_X7_called fg ti pu tu).1 = (Ff_X8_called 1 st row r).1 := by
  obtain ⟨s, g, row1, q1, q2, q3, q4⟩ := rt_go (row := row) h2 h9 hN hr ht h19
  obtain ⟨F, rfl⟩ : ∃ F : Nat, fg = (F : Int) := ⟨fg.toNat, by omega⟩
  unfold Ff_X7_called Ff_X7_hasGallery Ff_X8_called Ff_X8_good
  rw [if_neg (show ¬ (F : Int) ≤ 0 by omega), fl_lt_eq rfl, if_pos rfl, fl_c2_eq (t := ((0 : Int), (0 : Int))) rfl, if_neg (by decide), q1, fl_c3_eq rfl]
  refine (rt_cac F 10 0 0 (by omega) (by omega)).trans ?_
  refine Eq.trans ?_ (rt_cam (s + g) 10 0 0 (by omega) (by omega)).symm
  rw [rt_bitso q2 (fun k => by have := rt_mem hN ht k; omega) (by omega)]
  exact rt_bitsc (s + g) 0 0 (fun k _ hk => (q4 k (by omega)).symm)
end WITH
end RT5
theorem lr_0 {vi vm : Nat → Int32} {vf vn : Nat → Nat → Int32} (h : lr_H vi vf vm vn) (z : vm 11 = 0) : (vm 11).toInt = 0 ∧ (vi 33).toInt = 0 ∧ (vi 53).toInt = 0 := by
  rcases h with ⟨h1, h2, -, -, -, -, -, -, -, -, h3⟩ | ⟨h1, h2, -⟩
  · exact ⟨by rw [h1]; decide, by rw [h2]; decide, by rw [h3]; decide⟩
  · rw [z] at h1; exact absurd h1 (by decide)
theorem lr_1 {vi vm : Nat → Int32} {vf vn : Nat → Nat → Int32} (h : lr_H vi vf vm vn) (z : vm 11 = 1) : (vm 11).toInt = 1 ∧ 2 ≤ (vi 33).toInt ∧ (vi 33).toInt ≤ 9 := by
  rcases h with ⟨h1, h2, -⟩ | ⟨h1, h2, -⟩
  · rw [z] at h1; exact absurd h1 (by decide)
  · exact ⟨by rw [z]; decide, h2.1, h2.2.1⟩
theorem lr_called {vi vm : Nat → Int32} {vf vn : Nat → Nat → Int32} (hH : lr_H vi vf vm vn) (hV : lr_V vi vf vm vn) (hMo : vm 11 = 0 ∨ (vm 11 = 1 ∧ ((∀ k : Nat, 0 ≤ k → k ≤ 0 → (2 : Int) ≤ ((vn 2) k).toInt ∧ ((vn 2) k).toInt ≤ 9) ∧ (∀ k : Nat, 1 ≤ k → k ≤ 1 → (1 : Int) ≤ ((vn 2) k).toInt ∧ ((vn 2) k).toInt ≤ 20) ∧ (∀ k : Nat, 2 ≤ k → k ≤ 2 → (0 : Int) ≤ ((vn 2) k).toInt ∧ ((vn 2) k).toInt ≤ 8) ∧ (∀ k : Nat, 3 ≤ k → k ≤ 3 → (0 : Int) ≤ ((vn 2) k).toInt ∧ ((vn 2) k).toInt ≤ 100) ∧ (∀ k : Nat, 4 ≤ k → k ≤ 4 → (0 : Int) ≤ ((vn 2) k).toInt ∧ ((vn 2) k).toInt ≤ 9) ∧ (∀ k : Nat, 5 ≤ k → k ≤ 5 → (0 : Int) ≤ ((vn 2) k).toInt ∧ ((vn 2) k).toInt ≤ 3) ∧ (∀ k : Nat, 6 ≤ k → k ≤ 6 → (0 : Int) ≤ ((vn 2) k).toInt ∧ ((vn 2) k).toInt ≤ 6) ∧ (∀ k : Nat, 7 ≤ k → k ≤ 9 → (0 : Int) ≤ ((vn 2) k).toInt ∧ ((vn 2) k).toInt ≤ 8) ∧ (∀ k : Nat, 12 ≤ k → k ≤ 29 → (0 : Int) ≤ ((vn 2) k).toInt ∧ ((vn 2) k).toInt ≤ 20) ∧ (∀ k : Nat, 30 ≤ k → k ≤ 35 → (0 : Int) ≤ ((vn 2) k).toInt ∧ ((vn 2) k).toInt ≤ 8) ∧ (∀ k : Nat, 36 ≤ k → k ≤ 47 → (0 : Int) ≤ ((vn 2) k).toInt ∧ ((vn 2) k).toInt ≤ 999)) ∧ ((∀ (j i0 i : Int32), (0 : Int) ≤ j.toInt → j.toInt ≤ 8 → i0.toInt = 12 + 2 * j.toInt → i.toInt = 13 + 2 * j.toInt → ((vn 2) i0.toNatClampNeg).toInt = (1 : Int32).toInt → (1 : Int) ≤ ((vn 2) i.toNatClampNeg).toInt)))) {b : Int} (hb : (vm 11 = 0 ∧ b = (Ff0_X8_called (vm 11).toInt).1) ∨ (vm 11 = 1 ∧ b = (Ff_X8_called (vm 11).toInt (fl_A (vn 4)) (fl_A (vn 10)) (fl_A (vn 2))).1)) : (Ff_X7_called (vi 33).toInt (vi 38).toInt (vi 39).toInt (vi 13).toInt).1 = b := by
  rcases hb with ⟨z, hb⟩ | ⟨z, hb⟩
  · obtain ⟨e1, e2, e3⟩ := lr_0 hH z
    obtain ⟨v54, v⟩ := hV
    rcases v with ⟨-, v12, v24, v25, u12, u13⟩ | ⟨z0, -⟩
    rotate_left
    · rw [z] at z0; exact absurd z0 (by decide)
    rw [hb, e1, e2]
    exact rt_0_called _ _ _
  · obtain ⟨e1, e2, e3⟩ := lr_1 hH z
    rcases hMo with z0 | ⟨-, hrs, hkm⟩
    · rw [z] at z0; exact absurd z0 (by decide)
    obtain ⟨hG, hD, -⟩ := lr_G hH z hrs hkm
    obtain ⟨v54, v⟩ := hV
    have hD := hD v54.1
    rcases v with ⟨z0, -⟩ | ⟨-, hS, hm, hU, hN, hHi, hIm⟩
    · rw [z] at z0; exact absurd z0 (by decide)
    obtain ⟨⟨s1, s2, s3, s4, s5⟩, m0, ⟨t0, t1⟩, ⟨n0, n1⟩, ⟨g0, g1⟩, hk⟩ := id hS
    obtain ⟨⟨f1, f2, f3⟩, ⟨sp1, sp2, sp3⟩, ⟨sa1, sa2, sa3⟩, ⟨ti1, ti2, ti3⟩, ⟨pu1, pu2, pu3⟩, hkd⟩ := id hG
    rw [hb, e1]
    exact rt_a_called f2 f3 (fun y => (rs_next hG y).2) (fun y => (rs_next hG y).1) ⟨t0, t1⟩ s2 _
end RELP
end P094034_rel
section P100_safe
set_option maxHeartbeats 4000000 in
set_option maxRecDepth 100000 in
theorem c_X7_within (l : Launch) (dC : Nat → ClassId) (dI : Nat → Nat → Nat) (sz : Nat) (a1 : Int32) (a2 : Int32) (a3 : Int32)  : zm l yX7_within wsX7_within ({ frames := 0, cells := 0, slots := 0, locals := 0 }) [.int a1, .int a2, .int a3] dC dI sz [] [] (fun A _ => True) (fun A => va_Qi (fun (r : Int32) (_ : Unit) => (r = 1 ∧ a2.toInt ≤ a1.toInt ∧ a1.toInt ≤ a3.toInt) ∨ (r = 0 ∧ (a1.toInt < a2.toInt ∨ a3.toInt < a1.toInt))) (fun (_ : Unit) (t : State) => ax_B dC dI A [] [] t) A) := by
  refine zh (cc := cX7_within) (maxL := 3) (ret := (some .boolean)) zn_RX7 rfl (Nat.le_of_ble_eq_true rfl) (fun p e s m below meth c A ls hx hb hml hr hts (hown : s.vm.findClass RX7 = some m.cls) hlocks hA hS hP hK hD hE (hl : lv_has ls 3 [(0, .int a1), (1, .int a2), (2, .int a3)]) => ?_)
  refine lv_iload_n hx hb dX7_within_0 rfl (lv_at hl 0 rfl) ?_
  refine lv_iload_n hx hb dX7_within_1 rfl (lv_at hl 1 rfl) ?_
  refine lv_icmp_lt (tgt := 14) hx hb dX7_within_2 (by decide) (fun c2 => ?_) (fun c2 => ?_)
  · have gc2 := ai_lt c2
    have u2t_a1 : a1.toInt ≤ (2147483646 : Int) := ai_lthi gc2 (ai_max a2)
    have l2t_a2 : (-2147483647 : Int) ≤ a2.toInt := ai_ltlo gc2 (ai_min a1)
    refine lv_iconst (v := 0) hx hb dX7_within_14 zk_iconst_0 ?_
    exact W.zret (v := 0) hx hb hr rfl (fun t ht hW => ⟨⟨0, (), rfl, (Or.inr ⟨rfl, Or.inl gc2⟩), by rw [ht]; exact hP, va_K.moved hW.alike hK, hD⟩, hS.F ht⟩) hS.2.2 dX7_within_15
  · have gc2 := ai_nlt c2
    refine lv_iload_n hx hb dX7_within_5 rfl (lv_at hl 0 rfl) ?_
    refine lv_iload_n hx hb dX7_within_6 rfl (lv_at hl 2 rfl) ?_
    refine lv_icmp_gt (tgt := 14) hx hb dX7_within_7 (by decide) (fun c7 => ?_) (fun c7 => ?_)
    · have gc7 := ai_lt c7
      have u7t_a3 : a3.toInt ≤ (2147483646 : Int) := ai_lthi gc7 (ai_max a1)
      have l7t_a1 : (-2147483647 : Int) ≤ a1.toInt := ai_ltlo gc7 (ai_min a3)
      refine lv_iconst (v := 0) hx hb dX7_within_14 zk_iconst_0 ?_
      exact W.zret (v := 0) hx hb hr rfl (fun t ht hW => ⟨⟨0, (), rfl, (Or.inr ⟨rfl, Or.inr gc7⟩), by rw [ht]; exact hP, va_K.moved hW.alike hK, hD⟩, hS.F ht⟩) hS.2.2 dX7_within_15
    · have gc7 := ai_nlt c7
      refine lv_iconst (v := 1) hx hb dX7_within_10 zk_iconst_1 ?_
      refine lv_goto (tgt := 15) hx hb dX7_within_11 (by decide) ?_
      exact W.zret (v := 1) hx hb hr rfl (fun t ht hW => ⟨⟨1, (), rfl, (Or.inl ⟨rfl, gc2, gc7⟩), by rw [ht]; exact hP, va_K.moved hW.alike hK, hD⟩, hS.F ht⟩) hS.2.2 dX7_within_15

set_option maxHeartbeats 4000000 in
set_option maxRecDepth 100000 in
theorem c_X7_hasBit (l : Launch) (dC : Nat → ClassId) (dI : Nat → Nat → Nat) (sz : Nat) (a1 : Int32) (a2 : Int32)  : zm l yX7_hasBit wsX7_hasBit ({ frames := 0, cells := 0, slots := 0, locals := 0 }) [.int a1, .int a2] dC dI sz [] [] (fun A _ => True) (fun A => va_Qi (fun (r : Int32) (_ : Unit) => (r = 1) ∨ (r = 0)) (fun (_ : Unit) (t : State) => ax_B dC dI A [] [] t) A) := by
  refine zh (cc := cX7_hasBit) (maxL := 2) (ret := (some .boolean)) zn_RX7 rfl (Nat.le_of_ble_eq_true rfl) (fun p e s m below meth c A ls hx hb hml hr hts (hown : s.vm.findClass RX7 = some m.cls) hlocks hA hS hP hK hD hE (hl : lv_has ls 2 [(0, .int a1), (1, .int a2)]) => ?_)
  refine lv_iload_n hx hb dX7_hasBit_0 rfl (lv_at hl 0 rfl) ?_
  refine lv_iload_n hx hb dX7_hasBit_1 rfl (lv_at hl 1 rfl) ?_
  refine lv_ishr hx hb dX7_hasBit_2 ?_
  refine lv_topi (fun x2 ex2 => ?_)
  refine lv_iconst (v := 1) hx hb dX7_hasBit_3 zk_iconst_1 ?_
  refine lv_iand hx hb dX7_hasBit_4 ?_
  refine lv_topi (fun x4 ex4 => ?_)
  refine lv_iconst (v := 1) hx hb dX7_hasBit_5 zk_iconst_1 ?_
  refine lv_icmp_ne (tgt := 13) hx hb dX7_hasBit_6 (by decide) (fun c6 => ?_) (fun c6 => ?_)
  · have gc6 := ai_ne c6
    refine lv_iconst (v := 0) hx hb dX7_hasBit_13 zk_iconst_0 ?_
    exact W.zret (v := 0) hx hb hr rfl (fun t ht hW => ⟨⟨0, (), rfl, (Or.inr (rfl)), by rw [ht]; exact hP, va_K.moved hW.alike hK, hD⟩, hS.F ht⟩) hS.2.2 dX7_hasBit_14
  · have gc6 := ai_eq c6
    have u6f_x4 : x4.toInt ≤ (1 : Int) := Int.le_trans (Int.le_of_eq gc6) zq0
    have l6f_x4 : (1 : Int) ≤ x4.toInt := Int.le_trans zq1 (Int.le_of_eq gc6.symm)
    refine lv_iconst (v := 1) hx hb dX7_hasBit_9 zk_iconst_1 ?_
    refine lv_goto (tgt := 14) hx hb dX7_hasBit_10 (by decide) ?_
    exact W.zret (v := 1) hx hb hr rfl (fun t ht hW => ⟨⟨1, (), rfl, (Or.inl (rfl)), by rw [ht]; exact hP, va_K.moved hW.alike hK, hD⟩, hS.F ht⟩) hS.2.2 dX7_hasBit_14

set_option maxHeartbeats 4000000 in
set_option maxRecDepth 100000 in
theorem c_X5_startTurn (l : Launch) (dC : Nat → ClassId) (dI : Nat → Nat → Nat) (sz : Nat) (a0 : Nat) (a1 : Int32) (a0g_0 a0g_3 a0g_4 a0g_5 a0g_6 : Value) (a0_1 : Int32) (a0_2 : Int32) (ba1_l : (0 : Int) ≤ a1.toInt) (ba1_u : a1.toInt ≤ (8 : Int)) (ba0_1_l : (0 : Int) ≤ a0_1.toInt) (ba0_1_u : a0_1.toInt ≤ (8 : Int)) : zm l yX5_startTurn wsX5_startTurn ({ frames := 0, cells := 0, slots := 0, locals := 0 }) [.ref a0, .int a1] dC dI sz [(a0, .inr (5, [a0g_0, .int a0_1, .int a0_2, a0g_3, a0g_4, a0g_5, a0g_6]))] [] (fun A _ => True) (fun A => va_Qv (fun (_ : Unit) => True) (fun (_ : Unit) (t : State) => ∃ na0_1 : Int32, ∃ na0_2 : Int32, ((0 : Int) ≤ na0_1.toInt ∧ na0_1.toInt ≤ 8) ∧ ax_B dC dI A [(a0, .inr (5, [a0g_0, .int na0_1, .int na0_2, a0g_3, a0g_4, a0g_5, a0g_6]))] [] t) A) := by
  refine zh (cc := cX5_startTurn) (maxL := 2) (ret := none) zn_RX5 rfl (Nat.le_of_ble_eq_true rfl) (fun p e s m below meth c A ls hx hb hml hr hts (hown : s.vm.findClass RX5 = some m.cls) hlocks hA hS hP hK hD hE (hl : lv_has ls 2 [(0, .ref a0), (1, .int a1)]) => ?_)
  refine lv_aload_n hx hb dX5_startTurn_0 rfl (lv_at hl 0 rfl) ?_
  refine lv_iload_n hx hb dX5_startTurn_1 rfl (lv_at hl 1 rfl) ?_
  refine va_put (D := (dC, dI)) (ci := 5) (v := .int a1) (ty := .int) (C := RX5) (T := TX5) (N := 7) hx hb hts zi_X5_startTurn_5 tyX5 tyX5_ok nmX5 hown hK hP hD hS 0 rfl rfl 1 (by decide) (hts (.fieldLink RX5 32 "WaxTurns$Scene" "turn" "I") (List.mem_cons_of_mem _ (List.mem_append_left _ (List.mem_of_getElem? (i := 0) rfl)))) (fun _ h9 => h9) rfl (tyX5_ok 1 (by decide)) rfl rfl (Nat.le_of_ble_eq_true rfl) dX5_startTurn_2 (fun H locs hP hD hS => ?_)
  refine zs_0 (y := (a0, .inr (5, [a0g_0, .int a1, .int a0_2, a0g_3, a0g_4, a0g_5, a0g_6]))) hP hD rfl (fun hP hD => ?_)
  refine lv_aload_n hx hb dX5_startTurn_5 rfl (lv_at hl 0 rfl) ?_
  refine lv_iconst (v := 0) hx hb dX5_startTurn_6 zk_iconst_0 ?_
  refine va_put (D := (dC, dI)) (ci := 5) (v := .int 0) (ty := .int) (C := RX5) (T := TX5) (N := 7) hx hb hts zi_X5_startTurn_5 tyX5 tyX5_ok nmX5 hown hK hP hD hS 0 rfl rfl 2 (by decide) (hts (.fieldLink RX5 35 "WaxTurns$Scene" "spent" "I") (List.mem_cons_of_mem _ (List.mem_append_left _ (List.mem_of_getElem? (i := 1) rfl)))) (fun _ h9 => h9) rfl (tyX5_ok 2 (by decide)) rfl rfl (Nat.le_of_ble_eq_true rfl) dX5_startTurn_7 (fun H locs hP hD hS => ?_)
  refine zs_0 (y := (a0, .inr (5, [a0g_0, .int a1, .int 0, a0g_3, a0g_4, a0g_5, a0g_6]))) hP hD rfl (fun hP hD => ?_)
  exact W.vret hx hb hr (fun t ht hW => ⟨⟨(), rfl, trivial, a1, 0, ⟨ba1_l, ba1_u⟩, by rw [ht]; exact hP, va_K.moved hW.alike hK, hD⟩, hS.F ht⟩) hS.2.2 dX5_startTurn_10

set_option maxHeartbeats 4000000 in
set_option maxRecDepth 100000 in
theorem c_X5_isGone (l : Launch) (dC : Nat → ClassId) (dI : Nat → Nat → Nat) (sz : Nat) (a0 : Nat) (a1 : Int32) (a0g_0 a0g_1 a0g_2 a0g_4 a0g_5 a0g_6 : Value) (a0_3 : Int32)  : zm l yX5_isGone wsX5_isGone ({ frames := 1, cells := 0, slots := 0, locals := 21 }) [.ref a0, .int a1] dC dI sz [(a0, .inr (5, [a0g_0, a0g_1, a0g_2, .int a0_3, a0g_4, a0g_5, a0g_6]))] [] (fun A U => va_Nw (.methodLinkNest RX5 38 yX7_hasBit RX7) U) (fun A => va_Qi (fun (r : Int32) (_ : Unit) => (r = 1) ∨ (r = 0)) (fun (_ : Unit) (t : State) => ax_B dC dI A [(a0, .inr (5, [a0g_0, a0g_1, a0g_2, .int a0_3, a0g_4, a0g_5, a0g_6]))] [] t) A) := by
  refine zh (cc := cX5_isGone) (maxL := 2) (ret := (some .boolean)) zn_RX5 rfl (Nat.le_of_ble_eq_true rfl) (fun p e s m below meth c A ls hx hb hml hr hts (hown : s.vm.findClass RX5 = some m.cls) hlocks hA hS hP hK hD hE (hl : lv_has ls 2 [(0, .ref a0), (1, .int a1)]) => ?_)
  have hE0 := hE
  refine lv_aload_n hx hb dX5_isGone_0 rfl (lv_at hl 0 rfl) ?_
  refine va_get (D := (dC, dI)) (ci := 5) (v := .int a0_3) (C := RX5) (T := TX5) (N := 7) hx hb hts zi_X5_isGone_5 hown hK hP 0 rfl rfl 3 (by decide) (hts (.fieldLink RX5 22 "WaxTurns$Scene" "goneBits" "I") (List.mem_cons_of_mem _ (List.mem_append_left _ (List.mem_of_getElem? (i := 0) rfl)))) (fun _ h9 => h9) rfl dX5_isGone_1 ?_
  refine lv_iload_n hx hb dX5_isGone_4 rfl (lv_at hl 1 rfl) ?_
  refine va_calli (va_runSN (As := [.int a0_3, .int a1]) (rest := []) ⟨hx, hb, hml, hown, hts⟩ (c_X7_hasBit l dC dI s.heap.size a0_3 a1 ) ⟨va_cnB 2 hts gX5_isGone_X7_hasBit_n38 rfl rfl rfl hE0 (hts (.initialized RX7) (List.mem_cons_of_mem _ (List.mem_append_left _ (List.mem_of_getElem? (i := 2) rfl)))) zd_X7_hasBit.2 ⟨Nat.le_of_ble_eq_true rfl, Nat.le_of_ble_eq_true rfl⟩, (hts (.static yX7_hasBit) (List.mem_cons_of_mem _ (List.mem_append_left _ (List.mem_of_getElem? (i := 1) rfl)))), trivial⟩ ⟨ax_blind (fun _ _ _ _ _ => trivial), ax_pre (zp_P0 hP) (zp_K hK) (zp_D0 hD) (fun _ _ => trivial)⟩ rfl rfl hl.1 rfl (lv_room (Nat.le_of_ble_eq_true rfl)) dX5_isGone_5 ⟨Nat.le_of_ble_eq_true rfl, Nat.le_of_ble_eq_true rfl⟩) hS (fun q _ h => zp_F0 hD hS hA q h) (zp_F0 hD hS hA) (fun r5 u t H locs ht hvm hw hB hz1 hk1 hS1 => zo0 hB ht hP hD hk1 (zp_F0 hD hS hA) hS1 (fun hP hK1 hD hS => ?_))
  rcases hw with hw | hw
  · subst hw
    exact W.zret (v := 1) hx hb hr rfl (fun t ht hW => ⟨⟨1, (), rfl, (Or.inl (rfl)), by rw [ht]; exact hP, va_K.moved hW.alike hK, hD⟩, hS.F ht⟩) hS.2.2 dX5_isGone_8
  · subst hw
    exact W.zret (v := 0) hx hb hr rfl (fun t ht hW => ⟨⟨0, (), rfl, (Or.inr (rfl)), by rw [ht]; exact hP, va_K.moved hW.alike hK, hD⟩, hS.F ht⟩) hS.2.2 dX5_isGone_8

set_option maxHeartbeats 4000000 in
set_option maxRecDepth 100000 in
theorem c_X5_copyFrom (l : Launch) (dC : Nat → ClassId) (dI : Nat → Nat → Nat) (sz : Nat) (a0 : Nat) (a1 : Nat) (a0_0 : Int32) (a0_1 : Int32) (a0_2 : Int32) (a0_3 : Int32) (a0_4 : Int32) (a0_5 : Nat) (a0_6 : Nat) (a1_0 : Int32) (a1_1 : Int32) (a1_2 : Int32) (a1_3 : Int32) (a1_4 : Int32) (a1_5 : Nat) (a1_6 : Nat) (ka1_5 : ClassId) (fa1_5 : Nat → Int32) (ka0_5 : ClassId) (fa0_5 : Nat → Int32) (ka1_6 : ClassId) (fa1_6 : Nat → Int32) (ka0_6 : ClassId) (fa0_6 : Nat → Int32) (ba0_1_l : (0 : Int) ≤ a0_1.toInt) (ba0_1_u : a0_1.toInt ≤ (8 : Int)) (ba1_1_l : (0 : Int) ≤ a1_1.toInt) (ba1_1_u : a1_1.toInt ≤ (8 : Int)) : zm l yX5_copyFrom wsX5_copyFrom ({ frames := 0, cells := 0, slots := 0, locals := 0 }) [.ref a0, .ref a1] dC dI sz [(a0, .inr (5, [.int a0_0, .int a0_1, .int a0_2, .int a0_3, .int a0_4, .ref a0_5, .ref a0_6])), (a1, .inr (5, [.int a1_0, .int a1_1, .int a1_2, .int a1_3, .int a1_4, .ref a1_5, .ref a1_6])), (a1_5, .inl (ka1_5, 9, .inl (fa1_5))), (a0_5, .inl (ka0_5, 9, .inl (fa0_5))), (a1_6, .inl (ka1_6, 9, .inl (fa1_6))), (a0_6, .inl (ka0_6, 9, .inl (fa0_6)))] [(ka1_5, .int), (ka0_5, .int), (ka1_6, .int), (ka0_6, .int)] (fun A _ => True) (fun A => va_Qv (fun (_ : Unit) => True) (fun (_ : Unit) (t : State) => ∃ na0_0 : Int32, ∃ na0_1 : Int32, ∃ na0_2 : Int32, ∃ na0_3 : Int32, ∃ na0_4 : Int32, ∃ nfa0_5 : Nat → Int32, ∃ nfa0_6 : Nat → Int32, ((0 : Int) ≤ na0_1.toInt ∧ na0_1.toInt ≤ 8) ∧ ax_B dC dI A [(a0, .inr (5, [.int na0_0, .int na0_1, .int na0_2, .int na0_3, .int na0_4, .ref a0_5, .ref a0_6])), (a1, .inr (5, [.int a1_0, .int a1_1, .int a1_2, .int a1_3, .int a1_4, .ref a1_5, .ref a1_6])), (a1_5, .inl (ka1_5, 9, .inl (fa1_5))), (a0_5, .inl (ka0_5, 9, .inl (nfa0_5))), (a1_6, .inl (ka1_6, 9, .inl (fa1_6))), (a0_6, .inl (ka0_6, 9, .inl (nfa0_6)))] [(ka1_5, .int), (ka0_5, .int), (ka1_6, .int), (ka0_6, .int)] t) A) := by
  refine zh (cc := cX5_copyFrom) (maxL := 3) (ret := none) zn_RX5 rfl (Nat.le_of_ble_eq_true rfl) (fun p e s m below meth c A ls hx hb hml hr hts (hown : s.vm.findClass RX5 = some m.cls) hlocks hA hS hP hK hD hE (hl : lv_has ls 3 [(0, .ref a0), (1, .ref a1)]) => ?_)
  refine ai_open (fun K hK0 => ?_)
  refine (hK0 _ _ _).mpr ?_
  refine lv_aload_n hx hb dX5_copyFrom_0 rfl (lv_at hl 0 rfl) ?_
  refine lv_aload_n hx hb dX5_copyFrom_1 rfl (lv_at hl 1 rfl) ?_
  refine va_get (D := (dC, dI)) (ci := 5) (v := .int a1_0) (C := RX5) (T := TX5) (N := 7) hx hb hts zi_X5_copyFrom_5 hown hK hP 1 rfl rfl 0 (by decide) (hts (.fieldLink RX5 18 "WaxTurns$Scene" "minute" "I") (List.mem_cons_of_mem _ (List.mem_append_left _ (List.mem_of_getElem? (i := 0) rfl)))) (fun _ h9 => h9) rfl dX5_copyFrom_2 ?_
  refine va_put (D := (dC, dI)) (ci := 5) (v := .int a1_0) (ty := .int) (C := RX5) (T := TX5) (N := 7) hx hb hts zi_X5_copyFrom_5 tyX5 tyX5_ok nmX5 hown hK hP hD hS 0 rfl rfl 0 (by decide) (hts (.fieldLink RX5 18 "WaxTurns$Scene" "minute" "I") (List.mem_cons_of_mem _ (List.mem_append_left _ (List.mem_of_getElem? (i := 0) rfl)))) (fun _ h9 => h9) rfl (tyX5_ok 0 (by decide)) rfl rfl (Nat.le_of_ble_eq_true rfl) dX5_copyFrom_5 (fun H locs hP hD hS => ?_)
  refine zs_0 (y := (a0, .inr (5, [.int a1_0, .int a0_1, .int a0_2, .int a0_3, .int a0_4, .ref a0_5, .ref a0_6]))) hP hD rfl (fun hP hD => ?_)
  refine lv_aload_n hx hb dX5_copyFrom_8 rfl (lv_at hl 0 rfl) ?_
  refine lv_aload_n hx hb dX5_copyFrom_9 rfl (lv_at hl 1 rfl) ?_
  refine va_get (D := (dC, dI)) (ci := 5) (v := .int a1_1) (C := RX5) (T := TX5) (N := 7) hx hb hts zi_X5_copyFrom_5 hown hK hP 1 rfl rfl 1 (by decide) (hts (.fieldLink RX5 32 "WaxTurns$Scene" "turn" "I") (List.mem_cons_of_mem _ (List.mem_append_left _ (List.mem_of_getElem? (i := 1) rfl)))) (fun _ h9 => h9) rfl dX5_copyFrom_10 ?_
  refine va_put (D := (dC, dI)) (ci := 5) (v := .int a1_1) (ty := .int) (C := RX5) (T := TX5) (N := 7) hx hb hts zi_X5_copyFrom_5 tyX5 tyX5_ok nmX5 hown hK hP hD hS 0 rfl rfl 1 (by decide) (hts (.fieldLink RX5 32 "WaxTurns$Scene" "turn" "I") (List.mem_cons_of_mem _ (List.mem_append_left _ (List.mem_of_getElem? (i := 1) rfl)))) (fun _ h9 => h9) rfl (tyX5_ok 1 (by decide)) rfl rfl (Nat.le_of_ble_eq_true rfl) dX5_copyFrom_13 (fun H locs hP hD hS => ?_)
  refine zs_0 (y := (a0, .inr (5, [.int a1_0, .int a1_1, .int a0_2, .int a0_3, .int a0_4, .ref a0_5, .ref a0_6]))) hP hD rfl (fun hP hD => ?_)
  refine lv_aload_n hx hb dX5_copyFrom_16 rfl (lv_at hl 0 rfl) ?_
  refine lv_aload_n hx hb dX5_copyFrom_17 rfl (lv_at hl 1 rfl) ?_
  refine va_get (D := (dC, dI)) (ci := 5) (v := .int a1_2) (C := RX5) (T := TX5) (N := 7) hx hb hts zi_X5_copyFrom_5 hown hK hP 1 rfl rfl 2 (by decide) (hts (.fieldLink RX5 35 "WaxTurns$Scene" "spent" "I") (List.mem_cons_of_mem _ (List.mem_append_left _ (List.mem_of_getElem? (i := 2) rfl)))) (fun _ h9 => h9) rfl dX5_copyFrom_18 ?_
  refine va_put (D := (dC, dI)) (ci := 5) (v := .int a1_2) (ty := .int) (C := RX5) (T := TX5) (N := 7) hx hb hts zi_X5_copyFrom_5 tyX5 tyX5_ok nmX5 hown hK hP hD hS 0 rfl rfl 2 (by decide) (hts (.fieldLink RX5 35 "WaxTurns$Scene" "spent" "I") (List.mem_cons_of_mem _ (List.mem_append_left _ (List.mem_of_getElem? (i := 2) rfl)))) (fun _ h9 => h9) rfl (tyX5_ok 2 (by decide)) rfl rfl (Nat.le_of_ble_eq_true rfl) dX5_copyFrom_21 (fun H locs hP hD hS => ?_)
  refine zs_0 (y := (a0, .inr (5, [.int a1_0, .int a1_1, .int a1_2, .int a0_3, .int a0_4, .ref a0_5, .ref a0_6]))) hP hD rfl (fun hP hD => ?_)
  refine lv_aload_n hx hb dX5_copyFrom_24 rfl (lv_at hl 0 rfl) ?_
  refine lv_aload_n hx hb dX5_copyFrom_25 rfl (lv_at hl 1 rfl) ?_
  refine va_get (D := (dC, dI)) (ci := 5) (v := .int a1_3) (C := RX5) (T := TX5) (N := 7) hx hb hts zi_X5_copyFrom_5 hown hK hP 1 rfl rfl 3 (by decide) (hts (.fieldLink RX5 22 "WaxTurns$Scene" "goneBits" "I") (List.mem_cons_of_mem _ (List.mem_append_left _ (List.mem_of_getElem? (i := 3) rfl)))) (fun _ h9 => h9) rfl dX5_copyFrom_26 ?_
  refine va_put (D := (dC, dI)) (ci := 5) (v := .int a1_3) (ty := .int) (C := RX5) (T := TX5) (N := 7) hx hb hts zi_X5_copyFrom_5 tyX5 tyX5_ok nmX5 hown hK hP hD hS 0 rfl rfl 3 (by decide) (hts (.fieldLink RX5 22 "WaxTurns$Scene" "goneBits" "I") (List.mem_cons_of_mem _ (List.mem_append_left _ (List.mem_of_getElem? (i := 3) rfl)))) (fun _ h9 => h9) rfl (tyX5_ok 3 (by decide)) rfl rfl (Nat.le_of_ble_eq_true rfl) dX5_copyFrom_29 (fun H locs hP hD hS => ?_)
  refine zs_0 (y := (a0, .inr (5, [.int a1_0, .int a1_1, .int a1_2, .int a1_3, .int a0_4, .ref a0_5, .ref a0_6]))) hP hD rfl (fun hP hD => ?_)
  refine lv_aload_n hx hb dX5_copyFrom_32 rfl (lv_at hl 0 rfl) ?_
  refine lv_aload_n hx hb dX5_copyFrom_33 rfl (lv_at hl 1 rfl) ?_
  refine va_get (D := (dC, dI)) (ci := 5) (v := .int a1_4) (C := RX5) (T := TX5) (N := 7) hx hb hts zi_X5_copyFrom_5 hown hK hP 1 rfl rfl 4 (by decide) (hts (.fieldLink RX5 25 "WaxTurns$Scene" "catchCount" "I") (List.mem_cons_of_mem _ (List.mem_append_left _ (List.mem_of_getElem? (i := 4) rfl)))) (fun _ h9 => h9) rfl dX5_copyFrom_34 ?_
  refine va_put (D := (dC, dI)) (ci := 5) (v := .int a1_4) (ty := .int) (C := RX5) (T := TX5) (N := 7) hx hb hts zi_X5_copyFrom_5 tyX5 tyX5_ok nmX5 hown hK hP hD hS 0 rfl rfl 4 (by decide) (hts (.fieldLink RX5 25 "WaxTurns$Scene" "catchCount" "I") (List.mem_cons_of_mem _ (List.mem_append_left _ (List.mem_of_getElem? (i := 4) rfl)))) (fun _ h9 => h9) rfl (tyX5_ok 4 (by decide)) rfl rfl (Nat.le_of_ble_eq_true rfl) dX5_copyFrom_37 (fun H locs hP hD hS => ?_)
  refine zs_0 (y := (a0, .inr (5, [.int a1_0, .int a1_1, .int a1_2, .int a1_3, .int a1_4, .ref a0_5, .ref a0_6]))) hP hD rfl (fun hP hD => ?_)
  refine lv_iconst (v := 0) hx hb dX5_copyFrom_40 zk_iconst_0 ?_
  refine lv_istore_n (lv' := [(2, .int 0), (0, .ref a0), (1, .ref a1)]) hx hb dX5_copyFrom_41 rfl hl (by decide) rfl (fun ls hl => ?_)
  have J42 : ∀ (n : Nat) (j42l2 : Int32) (j42a0_5_a : Nat → Int32) (j42a0_6_a : Nat → Int32) (H : Heap) (locs : List Loc) (ls : Array Slot), (10 : Int) - j42l2.toInt ≤ (n : Int) → (0 : Int) ≤ j42l2.toInt → j42l2.toInt ≤ (9 : Int) → va_P (dC, dI) vwCl [(a0, .inr (5, [.int a1_0, .int a1_1, .int a1_2, .int a1_3, .int a1_4, .ref a0_5, .ref a0_6])), (a1, .inr (5, [.int a1_0, .int a1_1, .int a1_2, .int a1_3, .int a1_4, .ref a1_5, .ref a1_6])), (a1_5, .inl (ka1_5, 9, .inl (fa1_5))), (a0_5, .inl (ka0_5, 9, .inl (j42a0_5_a))), (a1_6, .inl (ka1_6, 9, .inl (fa1_6))), (a0_6, .inl (ka0_6, 9, .inl (j42a0_6_a)))] H → va_D A [(a0, .inr (5, [.int a1_0, .int a1_1, .int a1_2, .int a1_3, .int a1_4, .ref a0_5, .ref a0_6])), (a1, .inr (5, [.int a1_0, .int a1_1, .int a1_2, .int a1_3, .int a1_4, .ref a1_5, .ref a1_6])), (a1_5, .inl (ka1_5, 9, .inl (fa1_5))), (a0_5, .inl (ka0_5, 9, .inl (j42a0_5_a))), (a1_6, .inl (ka1_6, 9, .inl (fa1_6))), (a0_6, .inl (ka0_6, 9, .inl (j42a0_6_a)))] → va_S A s.heap H locs → lv_has ls 3 [(0, .ref a0), (1, .ref a1), (2, .int j42l2)] → K H locs (F0 m 42 ls []) := by
    intro n
    induction n with
    | zero =>
      intro j42l2 j42a0_5_a j42a0_6_a H locs ls hm bj42l2_l bj42l2_u hP hD hS hl
      first | exact zg_0 hm bj42l2_u (by decide) | (have h8 := ai_min j42l2; have h9 := ai_max j42l2; exact absurd hm (by omega))
    | succ n ih42 =>
      intro j42l2 j42a0_5_a j42a0_6_a H locs ls hm bj42l2_l bj42l2_u hP hD hS hl
      refine (hK0 _ _ _).mpr ?_
      have hm42 := hm
      refine lv_iload_n hx hb dX5_copyFrom_42 rfl (lv_at hl 2 rfl) ?_
      refine lv_bipush (v := 9) hx hb dX5_copyFrom_43 zk_bipush_9 ?_
      refine lv_icmp_ge (tgt := 78) hx hb dX5_copyFrom_45 (by decide) (fun c45 => ?_) (fun c45 => ?_)
      · have gc45 := ai_le c45
        have l45t_j42l2 : (9 : Int) ≤ j42l2.toInt := Int.le_trans zq2 gc45
        exact W.vret hx hb hr (fun t ht hW => ⟨⟨(), rfl, trivial, a1_0, a1_1, a1_2, a1_3, a1_4, j42a0_5_a, j42a0_6_a, ⟨ba1_1_l, ba1_1_u⟩, by rw [ht]; exact hP, va_K.moved hW.alike hK, hD⟩, hS.F ht⟩) hS.2.2 dX5_copyFrom_78
      · have gc45 := ai_nle c45
        have u45f_j42l2 : j42l2.toInt ≤ (8 : Int) := ai_lthi gc45 zq3
        refine lv_aload_n hx hb dX5_copyFrom_48 rfl (lv_at hl 0 rfl) ?_
        refine va_get (D := (dC, dI)) (ci := 5) (v := .ref a0_5) (C := RX5) (T := TX5) (N := 7) hx hb hts zi_X5_copyFrom_5 hown hK hP 0 rfl rfl 5 (by decide) (hts (.fieldLink RX5 9 "WaxTurns$Scene" "places" "[I") (List.mem_cons_of_mem _ (List.mem_append_left _ (List.mem_of_getElem? (i := 5) rfl)))) (fun _ h9 => h9) rfl dX5_copyFrom_49 ?_
        refine lv_iload_n hx hb dX5_copyFrom_52 rfl (lv_at hl 2 rfl) ?_
        refine lv_aload_n hx hb dX5_copyFrom_53 rfl (lv_at hl 1 rfl) ?_
        refine va_get (D := (dC, dI)) (ci := 5) (v := .ref a1_5) (C := RX5) (T := TX5) (N := 7) hx hb hts zi_X5_copyFrom_5 hown hK hP 1 rfl rfl 5 (by decide) (hts (.fieldLink RX5 9 "WaxTurns$Scene" "places" "[I") (List.mem_cons_of_mem _ (List.mem_append_left _ (List.mem_of_getElem? (i := 5) rfl)))) (fun _ h9 => h9) rfl dX5_copyFrom_54 ?_
        refine lv_iload_n hx hb dX5_copyFrom_57 rfl (lv_at hl 2 rfl) ?_
        refine va_iald hx hb hK hP 2 0 rfl rfl (ai_in bj42l2_l u45f_j42l2 (by decide) (by decide)) dX5_copyFrom_58 ?_
        refine lv_topi (fun x58 ex58 => ?_)
        refine va_iast hx hb hK hP hD hS 3 1 rfl rfl (ai_in bj42l2_l u45f_j42l2 (by decide) (by decide)) dX5_copyFrom_59 (fun H locs hP hD hS => ?_)
        obtain ⟨f59, hP, hD⟩ : ∃ f59 : Nat → Int32, va_P (dC, dI) vwCl [(a0, .inr (5, [.int a1_0, .int a1_1, .int a1_2, .int a1_3, .int a1_4, .ref a0_5, .ref a0_6])), (a1, .inr (5, [.int a1_0, .int a1_1, .int a1_2, .int a1_3, .int a1_4, .ref a1_5, .ref a1_6])), (a1_5, .inl (ka1_5, 9, .inl (fa1_5))), (a0_5, .inl (ka0_5, 9, .inl (f59))), (a1_6, .inl (ka1_6, 9, .inl (fa1_6))), (a0_6, .inl (ka0_6, 9, .inl (j42a0_6_a)))] H ∧ va_D A [(a0, .inr (5, [.int a1_0, .int a1_1, .int a1_2, .int a1_3, .int a1_4, .ref a0_5, .ref a0_6])), (a1, .inr (5, [.int a1_0, .int a1_1, .int a1_2, .int a1_3, .int a1_4, .ref a1_5, .ref a1_6])), (a1_5, .inl (ka1_5, 9, .inl (fa1_5))), (a0_5, .inl (ka0_5, 9, .inl (f59))), (a1_6, .inl (ka1_6, 9, .inl (fa1_6))), (a0_6, .inl (ka0_6, 9, .inl (j42a0_6_a)))] := ⟨_, hP, hD⟩
        refine lv_aload_n hx hb dX5_copyFrom_60 rfl (lv_at hl 0 rfl) ?_
        refine va_get (D := (dC, dI)) (ci := 5) (v := .ref a0_6) (C := RX5) (T := TX5) (N := 7) hx hb hts zi_X5_copyFrom_5 hown hK hP 0 rfl rfl 6 (by decide) (hts (.fieldLink RX5 15 "WaxTurns$Scene" "heardBits" "[I") (List.mem_cons_of_mem _ (List.mem_append_left _ (List.mem_of_getElem? (i := 6) rfl)))) (fun _ h9 => h9) rfl dX5_copyFrom_61 ?_
        refine lv_iload_n hx hb dX5_copyFrom_64 rfl (lv_at hl 2 rfl) ?_
        refine lv_aload_n hx hb dX5_copyFrom_65 rfl (lv_at hl 1 rfl) ?_
        refine va_get (D := (dC, dI)) (ci := 5) (v := .ref a1_6) (C := RX5) (T := TX5) (N := 7) hx hb hts zi_X5_copyFrom_5 hown hK hP 1 rfl rfl 6 (by decide) (hts (.fieldLink RX5 15 "WaxTurns$Scene" "heardBits" "[I") (List.mem_cons_of_mem _ (List.mem_append_left _ (List.mem_of_getElem? (i := 6) rfl)))) (fun _ h9 => h9) rfl dX5_copyFrom_66 ?_
        refine lv_iload_n hx hb dX5_copyFrom_69 rfl (lv_at hl 2 rfl) ?_
        refine va_iald hx hb hK hP 4 2 rfl rfl (ai_in bj42l2_l u45f_j42l2 (by decide) (by decide)) dX5_copyFrom_70 ?_
        refine lv_topi (fun x70 ex70 => ?_)
        refine va_iast hx hb hK hP hD hS 5 3 rfl rfl (ai_in bj42l2_l u45f_j42l2 (by decide) (by decide)) dX5_copyFrom_71 (fun H locs hP hD hS => ?_)
        obtain ⟨f71, hP, hD⟩ : ∃ f71 : Nat → Int32, va_P (dC, dI) vwCl [(a0, .inr (5, [.int a1_0, .int a1_1, .int a1_2, .int a1_3, .int a1_4, .ref a0_5, .ref a0_6])), (a1, .inr (5, [.int a1_0, .int a1_1, .int a1_2, .int a1_3, .int a1_4, .ref a1_5, .ref a1_6])), (a1_5, .inl (ka1_5, 9, .inl (fa1_5))), (a0_5, .inl (ka0_5, 9, .inl (f59))), (a1_6, .inl (ka1_6, 9, .inl (fa1_6))), (a0_6, .inl (ka0_6, 9, .inl (f71)))] H ∧ va_D A [(a0, .inr (5, [.int a1_0, .int a1_1, .int a1_2, .int a1_3, .int a1_4, .ref a0_5, .ref a0_6])), (a1, .inr (5, [.int a1_0, .int a1_1, .int a1_2, .int a1_3, .int a1_4, .ref a1_5, .ref a1_6])), (a1_5, .inl (ka1_5, 9, .inl (fa1_5))), (a0_5, .inl (ka0_5, 9, .inl (f59))), (a1_6, .inl (ka1_6, 9, .inl (fa1_6))), (a0_6, .inl (ka0_6, 9, .inl (f71)))] := ⟨_, hP, hD⟩
        obtain ⟨x72, ex72⟩ : ∃ y : Int32, y = j42l2 + Int32.ofInt 1 := ⟨_, rfl⟩
        have qx72 : x72.toInt = j42l2.toInt + 1 := ai_inc ex72 (by decide) (by decide) u45f_j42l2 (by decide)
        have bx72 : (1 : Int) ≤ x72.toInt ∧ x72.toInt ≤ 9 := ⟨by rw [qx72]; exact Int.add_le_add bj42l2_l (Int.le_refl _), by rw [qx72]; exact Int.add_le_add u45f_j42l2 (Int.le_refl _)⟩
        refine lv_iinc (v := x72) (lv' := [(2, .int x72), (0, .ref a0), (1, .ref a1)]) hx hb dX5_copyFrom_72 hl (k := 2) rfl ex72.symm (by decide) rfl (fun ls hl => ?_)
        refine lv_goto (tgt := 42) hx hb dX5_copyFrom_75 (by decide) ?_
        exact (hK0 _ _ _).mp (ih42 x72 f59 f71 _ _ _ (by first | exact zg_s hm42 qx72 | (have h0 := qx72; omega)) (Int.le_trans zq4 bx72.1) bx72.2 hP hD hS (lv_sub hl [1, 2, 0] rfl))
  exact (hK0 _ _ _).mp (J42 10 0 fa0_5 fa0_6 _ _ _ (by first | decide +kernel | (have h1 : (0 : Int) ≤ (0 : Int32).toInt := zq5; have h2 : (0 : Int32).toInt ≤ (0 : Int) := zq6; omega)) zq5 (Int.le_trans zq6 zq7) hP hD hS (lv_sub hl [1, 2, 0] rfl))

set_option maxHeartbeats 4000000 in
set_option maxRecDepth 100000 in
theorem c_X6_copyFrom (l : Launch) (dC : Nat → ClassId) (dI : Nat → Nat → Nat) (sz : Nat) (a0 : Nat) (a1 : Nat) (a0_0 : Int32) (a0_1 : Int32) (a0_2 : Nat) (a0_3 : Nat) (a1_0 : Int32) (a1_1 : Int32) (a1_2 : Nat) (a1_3 : Nat) (ka1_2 : ClassId) (fa1_2 : Nat → Int32) (ka0_2 : ClassId) (fa0_2 : Nat → Int32) (ka1_3 : ClassId) (fa1_3 : Nat → Int32) (ka0_3 : ClassId) (fa0_3 : Nat → Int32) (ba0_0_l : (0 : Int) ≤ a0_0.toInt) (ba0_0_u : a0_0.toInt ≤ (3 : Int)) (ba1_0_l : (0 : Int) ≤ a1_0.toInt) (ba1_0_u : a1_0.toInt ≤ (3 : Int)) (bfa1_2 : (∀ k, (0 : Int) ≤ (fa1_2 k).toInt ∧ (fa1_2 k).toInt ≤ 80)) (bfa0_2 : (∀ k, (0 : Int) ≤ (fa0_2 k).toInt ∧ (fa0_2 k).toInt ≤ 80)) (bfa1_3 : (∀ k, (0 : Int) ≤ (fa1_3 k).toInt ∧ (fa1_3 k).toInt ≤ 80)) (bfa0_3 : (∀ k, (0 : Int) ≤ (fa0_3 k).toInt ∧ (fa0_3 k).toInt ≤ 80)) : zm l yX6_copyFrom wsX6_copyFrom ({ frames := 0, cells := 0, slots := 0, locals := 0 }) [.ref a0, .ref a1] dC dI sz [(a0, .inr (6, [.int a0_0, .int a0_1, .ref a0_2, .ref a0_3])), (a1, .inr (6, [.int a1_0, .int a1_1, .ref a1_2, .ref a1_3])), (a1_2, .inl (ka1_2, 3, .inl (fa1_2))), (a0_2, .inl (ka0_2, 3, .inl (fa0_2))), (a1_3, .inl (ka1_3, 3, .inl (fa1_3))), (a0_3, .inl (ka0_3, 3, .inl (fa0_3)))] [(ka1_2, .int), (ka0_2, .int), (ka1_3, .int), (ka0_3, .int)] (fun A _ => True) (fun A => va_Qv (fun (_ : Unit) => True) (fun (_ : Unit) (t : State) => ∃ na0_0 : Int32, ∃ na0_1 : Int32, ∃ nfa0_2 : Nat → Int32, ∃ nfa0_3 : Nat → Int32, ((0 : Int) ≤ na0_0.toInt ∧ na0_0.toInt ≤ 3) ∧ (∀ k, (0 : Int) ≤ (nfa0_2 k).toInt ∧ (nfa0_2 k).toInt ≤ 80) ∧ (∀ k, (0 : Int) ≤ (nfa0_3 k).toInt ∧ (nfa0_3 k).toInt ≤ 80) ∧ ax_B dC dI A [(a0, .inr (6, [.int na0_0, .int na0_1, .ref a0_2, .ref a0_3])), (a1, .inr (6, [.int a1_0, .int a1_1, .ref a1_2, .ref a1_3])), (a1_2, .inl (ka1_2, 3, .inl (fa1_2))), (a0_2, .inl (ka0_2, 3, .inl (nfa0_2))), (a1_3, .inl (ka1_3, 3, .inl (fa1_3))), (a0_3, .inl (ka0_3, 3, .inl (nfa0_3)))] [(ka1_2, .int), (ka0_2, .int), (ka1_3, .int), (ka0_3, .int)] t) A) := by
  refine zh (cc := cX6_copyFrom) (maxL := 3) (ret := none) zn_RX6 rfl (Nat.le_of_ble_eq_true rfl) (fun p e s m below meth c A ls hx hb hml hr hts (hown : s.vm.findClass RX6 = some m.cls) hlocks hA hS hP hK hD hE (hl : lv_has ls 3 [(0, .ref a0), (1, .ref a1)]) => ?_)
  refine ai_open (fun K hK0 => ?_)
  refine (hK0 _ _ _).mpr ?_
  refine lv_aload_n hx hb dX6_copyFrom_0 rfl (lv_at hl 0 rfl) ?_
  refine lv_aload_n hx hb dX6_copyFrom_1 rfl (lv_at hl 1 rfl) ?_
  refine va_get (D := (dC, dI)) (ci := 6) (v := .int a1_0) (C := RX6) (T := TX6) (N := 4) hx hb hts zi_X6_copyFrom_6 hown hK hP 1 rfl rfl 0 (by decide) (hts (.fieldLink RX6 18 "WaxTurns$Watchers" "count" "I") (List.mem_cons_of_mem _ (List.mem_append_left _ (List.mem_of_getElem? (i := 0) rfl)))) (fun _ h9 => h9) rfl dX6_copyFrom_2 ?_
  refine va_put (D := (dC, dI)) (ci := 6) (v := .int a1_0) (ty := .int) (C := RX6) (T := TX6) (N := 4) hx hb hts zi_X6_copyFrom_6 tyX6 tyX6_ok nmX6 hown hK hP hD hS 0 rfl rfl 0 (by decide) (hts (.fieldLink RX6 18 "WaxTurns$Watchers" "count" "I") (List.mem_cons_of_mem _ (List.mem_append_left _ (List.mem_of_getElem? (i := 0) rfl)))) (fun _ h9 => h9) rfl (tyX6_ok 0 (by decide)) rfl rfl (Nat.le_of_ble_eq_true rfl) dX6_copyFrom_5 (fun H locs hP hD hS => ?_)
  refine zs_0 (y := (a0, .inr (6, [.int a1_0, .int a0_1, .ref a0_2, .ref a0_3]))) hP hD rfl (fun hP hD => ?_)
  refine lv_aload_n hx hb dX6_copyFrom_8 rfl (lv_at hl 0 rfl) ?_
  refine lv_aload_n hx hb dX6_copyFrom_9 rfl (lv_at hl 1 rfl) ?_
  refine va_get (D := (dC, dI)) (ci := 6) (v := .int a1_1) (C := RX6) (T := TX6) (N := 4) hx hb hts zi_X6_copyFrom_6 hown hK hP 1 rfl rfl 1 (by decide) (hts (.fieldLink RX6 22 "WaxTurns$Watchers" "posts" "I") (List.mem_cons_of_mem _ (List.mem_append_left _ (List.mem_of_getElem? (i := 1) rfl)))) (fun _ h9 => h9) rfl dX6_copyFrom_10 ?_
  refine va_put (D := (dC, dI)) (ci := 6) (v := .int a1_1) (ty := .int) (C := RX6) (T := TX6) (N := 4) hx hb hts zi_X6_copyFrom_6 tyX6 tyX6_ok nmX6 hown hK hP hD hS 0 rfl rfl 1 (by decide) (hts (.fieldLink RX6 22 "WaxTurns$Watchers" "posts" "I") (List.mem_cons_of_mem _ (List.mem_append_left _ (List.mem_of_getElem? (i := 1) rfl)))) (fun _ h9 => h9) rfl (tyX6_ok 1 (by decide)) rfl rfl (Nat.le_of_ble_eq_true rfl) dX6_copyFrom_13 (fun H locs hP hD hS => ?_)
  refine zs_0 (y := (a0, .inr (6, [.int a1_0, .int a1_1, .ref a0_2, .ref a0_3]))) hP hD rfl (fun hP hD => ?_)
  refine lv_iconst (v := 0) hx hb dX6_copyFrom_16 zk_iconst_0 ?_
  refine lv_istore_n (lv' := [(2, .int 0), (0, .ref a0), (1, .ref a1)]) hx hb dX6_copyFrom_17 rfl hl (by decide) rfl (fun ls hl => ?_)
  have J18 : ∀ (n : Nat) (j18l2 : Int32) (j18a0_2_a : Nat → Int32) (j18a0_3_a : Nat → Int32) (H : Heap) (locs : List Loc) (ls : Array Slot), (4 : Int) - j18l2.toInt ≤ (n : Int) → (0 : Int) ≤ j18l2.toInt → j18l2.toInt ≤ (3 : Int) → (∀ k, (0 : Int) ≤ (j18a0_2_a k).toInt ∧ (j18a0_2_a k).toInt ≤ 80) → (∀ k, (0 : Int) ≤ (j18a0_3_a k).toInt ∧ (j18a0_3_a k).toInt ≤ 80) → va_P (dC, dI) vwCl [(a0, .inr (6, [.int a1_0, .int a1_1, .ref a0_2, .ref a0_3])), (a1, .inr (6, [.int a1_0, .int a1_1, .ref a1_2, .ref a1_3])), (a1_2, .inl (ka1_2, 3, .inl (fa1_2))), (a0_2, .inl (ka0_2, 3, .inl (j18a0_2_a))), (a1_3, .inl (ka1_3, 3, .inl (fa1_3))), (a0_3, .inl (ka0_3, 3, .inl (j18a0_3_a)))] H → va_D A [(a0, .inr (6, [.int a1_0, .int a1_1, .ref a0_2, .ref a0_3])), (a1, .inr (6, [.int a1_0, .int a1_1, .ref a1_2, .ref a1_3])), (a1_2, .inl (ka1_2, 3, .inl (fa1_2))), (a0_2, .inl (ka0_2, 3, .inl (j18a0_2_a))), (a1_3, .inl (ka1_3, 3, .inl (fa1_3))), (a0_3, .inl (ka0_3, 3, .inl (j18a0_3_a)))] → va_S A s.heap H locs → lv_has ls 3 [(0, .ref a0), (1, .ref a1), (2, .int j18l2)] → K H locs (F0 m 18 ls []) := by
    intro n
    induction n with
    | zero =>
      intro j18l2 j18a0_2_a j18a0_3_a H locs ls hm bj18l2_l bj18l2_u bj18a0_2_a bj18a0_3_a hP hD hS hl
      first | exact zg_0 hm bj18l2_u (by decide) | (have h8 := ai_min j18l2; have h9 := ai_max j18l2; exact absurd hm (by omega))
    | succ n ih18 =>
      intro j18l2 j18a0_2_a j18a0_3_a H locs ls hm bj18l2_l bj18l2_u bj18a0_2_a bj18a0_3_a hP hD hS hl
      refine (hK0 _ _ _).mpr ?_
      have hm18 := hm
      refine lv_iload_n hx hb dX6_copyFrom_18 rfl (lv_at hl 2 rfl) ?_
      refine lv_iconst (v := 3) hx hb dX6_copyFrom_19 zk_iconst_3 ?_
      refine lv_icmp_ge (tgt := 53) hx hb dX6_copyFrom_20 (by decide) (fun c20 => ?_) (fun c20 => ?_)
      · have gc20 := ai_le c20
        have l20t_j18l2 : (3 : Int) ≤ j18l2.toInt := Int.le_trans zq8 gc20
        exact W.vret hx hb hr (fun t ht hW => ⟨⟨(), rfl, trivial, a1_0, a1_1, j18a0_2_a, j18a0_3_a, ⟨ba1_0_l, ba1_0_u⟩, bj18a0_2_a, bj18a0_3_a, by rw [ht]; exact hP, va_K.moved hW.alike hK, hD⟩, hS.F ht⟩) hS.2.2 dX6_copyFrom_53
      · have gc20 := ai_nle c20
        have u20f_j18l2 : j18l2.toInt ≤ (2 : Int) := ai_lthi gc20 zq9
        refine lv_aload_n hx hb dX6_copyFrom_23 rfl (lv_at hl 0 rfl) ?_
        refine va_get (D := (dC, dI)) (ci := 6) (v := .ref a0_2) (C := RX6) (T := TX6) (N := 4) hx hb hts zi_X6_copyFrom_6 hown hK hP 0 rfl rfl 2 (by decide) (hts (.fieldLink RX6 9 "WaxTurns$Watchers" "from" "[I") (List.mem_cons_of_mem _ (List.mem_append_left _ (List.mem_of_getElem? (i := 2) rfl)))) (fun _ h9 => h9) rfl dX6_copyFrom_24 ?_
        refine lv_iload_n hx hb dX6_copyFrom_27 rfl (lv_at hl 2 rfl) ?_
        refine lv_aload_n hx hb dX6_copyFrom_28 rfl (lv_at hl 1 rfl) ?_
        refine va_get (D := (dC, dI)) (ci := 6) (v := .ref a1_2) (C := RX6) (T := TX6) (N := 4) hx hb hts zi_X6_copyFrom_6 hown hK hP 1 rfl rfl 2 (by decide) (hts (.fieldLink RX6 9 "WaxTurns$Watchers" "from" "[I") (List.mem_cons_of_mem _ (List.mem_append_left _ (List.mem_of_getElem? (i := 2) rfl)))) (fun _ h9 => h9) rfl dX6_copyFrom_29 ?_
        refine lv_iload_n hx hb dX6_copyFrom_32 rfl (lv_at hl 2 rfl) ?_
        refine va_iald hx hb hK hP 2 0 rfl rfl (ai_in bj18l2_l u20f_j18l2 (by decide) (by decide)) dX6_copyFrom_33 ?_
        refine lv_topi (fun x33 ex33 => ?_)
        have bx33 : (0 : Int) ≤ x33.toInt ∧ x33.toInt ≤ 80 := by rw [ex33]; exact bfa1_2 _
        refine va_iast hx hb hK hP hD hS 3 1 rfl rfl (ai_in bj18l2_l u20f_j18l2 (by decide) (by decide)) dX6_copyFrom_34 (fun H locs hP hD hS => ?_)
        obtain ⟨f34, bf34, hP, hD⟩ : ∃ f34 : Nat → Int32, (∀ k, (0 : Int) ≤ (f34 k).toInt ∧ (f34 k).toInt ≤ 80) ∧ va_P (dC, dI) vwCl [(a0, .inr (6, [.int a1_0, .int a1_1, .ref a0_2, .ref a0_3])), (a1, .inr (6, [.int a1_0, .int a1_1, .ref a1_2, .ref a1_3])), (a1_2, .inl (ka1_2, 3, .inl (fa1_2))), (a0_2, .inl (ka0_2, 3, .inl (f34))), (a1_3, .inl (ka1_3, 3, .inl (fa1_3))), (a0_3, .inl (ka0_3, 3, .inl (j18a0_3_a)))] H ∧ va_D A [(a0, .inr (6, [.int a1_0, .int a1_1, .ref a0_2, .ref a0_3])), (a1, .inr (6, [.int a1_0, .int a1_1, .ref a1_2, .ref a1_3])), (a1_2, .inl (ka1_2, 3, .inl (fa1_2))), (a0_2, .inl (ka0_2, 3, .inl (f34))), (a1_3, .inl (ka1_3, 3, .inl (fa1_3))), (a0_3, .inl (ka0_3, 3, .inl (j18a0_3_a)))] := ⟨_, ai_upd bj18a0_2_a _ ⟨bx33.1, bx33.2⟩, hP, hD⟩
        refine lv_aload_n hx hb dX6_copyFrom_35 rfl (lv_at hl 0 rfl) ?_
        refine va_get (D := (dC, dI)) (ci := 6) (v := .ref a0_3) (C := RX6) (T := TX6) (N := 4) hx hb hts zi_X6_copyFrom_6 hown hK hP 0 rfl rfl 3 (by decide) (hts (.fieldLink RX6 15 "WaxTurns$Watchers" "to" "[I") (List.mem_cons_of_mem _ (List.mem_append_left _ (List.mem_of_getElem? (i := 3) rfl)))) (fun _ h9 => h9) rfl dX6_copyFrom_36 ?_
        refine lv_iload_n hx hb dX6_copyFrom_39 rfl (lv_at hl 2 rfl) ?_
        refine lv_aload_n hx hb dX6_copyFrom_40 rfl (lv_at hl 1 rfl) ?_
        refine va_get (D := (dC, dI)) (ci := 6) (v := .ref a1_3) (C := RX6) (T := TX6) (N := 4) hx hb hts zi_X6_copyFrom_6 hown hK hP 1 rfl rfl 3 (by decide) (hts (.fieldLink RX6 15 "WaxTurns$Watchers" "to" "[I") (List.mem_cons_of_mem _ (List.mem_append_left _ (List.mem_of_getElem? (i := 3) rfl)))) (fun _ h9 => h9) rfl dX6_copyFrom_41 ?_
        refine lv_iload_n hx hb dX6_copyFrom_44 rfl (lv_at hl 2 rfl) ?_
        refine va_iald hx hb hK hP 4 2 rfl rfl (ai_in bj18l2_l u20f_j18l2 (by decide) (by decide)) dX6_copyFrom_45 ?_
        refine lv_topi (fun x45 ex45 => ?_)
        have bx45 : (0 : Int) ≤ x45.toInt ∧ x45.toInt ≤ 80 := by rw [ex45]; exact bfa1_3 _
        refine va_iast hx hb hK hP hD hS 5 3 rfl rfl (ai_in bj18l2_l u20f_j18l2 (by decide) (by decide)) dX6_copyFrom_46 (fun H locs hP hD hS => ?_)
        obtain ⟨f46, bf46, hP, hD⟩ : ∃ f46 : Nat → Int32, (∀ k, (0 : Int) ≤ (f46 k).toInt ∧ (f46 k).toInt ≤ 80) ∧ va_P (dC, dI) vwCl [(a0, .inr (6, [.int a1_0, .int a1_1, .ref a0_2, .ref a0_3])), (a1, .inr (6, [.int a1_0, .int a1_1, .ref a1_2, .ref a1_3])), (a1_2, .inl (ka1_2, 3, .inl (fa1_2))), (a0_2, .inl (ka0_2, 3, .inl (f34))), (a1_3, .inl (ka1_3, 3, .inl (fa1_3))), (a0_3, .inl (ka0_3, 3, .inl (f46)))] H ∧ va_D A [(a0, .inr (6, [.int a1_0, .int a1_1, .ref a0_2, .ref a0_3])), (a1, .inr (6, [.int a1_0, .int a1_1, .ref a1_2, .ref a1_3])), (a1_2, .inl (ka1_2, 3, .inl (fa1_2))), (a0_2, .inl (ka0_2, 3, .inl (f34))), (a1_3, .inl (ka1_3, 3, .inl (fa1_3))), (a0_3, .inl (ka0_3, 3, .inl (f46)))] := ⟨_, ai_upd bj18a0_3_a _ ⟨bx45.1, bx45.2⟩, hP, hD⟩
        obtain ⟨x47, ex47⟩ : ∃ y : Int32, y = j18l2 + Int32.ofInt 1 := ⟨_, rfl⟩
        have qx47 : x47.toInt = j18l2.toInt + 1 := ai_inc ex47 (by decide) (by decide) u20f_j18l2 (by decide)
        have bx47 : (1 : Int) ≤ x47.toInt ∧ x47.toInt ≤ 3 := ⟨by rw [qx47]; exact Int.add_le_add bj18l2_l (Int.le_refl _), by rw [qx47]; exact Int.add_le_add u20f_j18l2 (Int.le_refl _)⟩
        refine lv_iinc (v := x47) (lv' := [(2, .int x47), (0, .ref a0), (1, .ref a1)]) hx hb dX6_copyFrom_47 hl (k := 2) rfl ex47.symm (by decide) rfl (fun ls hl => ?_)
        refine lv_goto (tgt := 18) hx hb dX6_copyFrom_50 (by decide) ?_
        exact (hK0 _ _ _).mp (ih18 x47 f34 f46 _ _ _ (by first | exact zg_s hm18 qx47 | (have h0 := qx47; omega)) (Int.le_trans zq4 bx47.1) bx47.2 bf34 bf46 hP hD hS (lv_sub hl [1, 2, 0] rfl))
  exact (hK0 _ _ _).mp (J18 4 0 fa0_2 fa0_3 _ _ _ (by first | decide +kernel | (have h1 : (0 : Int) ≤ (0 : Int32).toInt := zq5; have h2 : (0 : Int32).toInt ≤ (0 : Int) := zq6; omega)) zq5 (Int.le_trans zq6 zq11) bfa0_2 bfa0_3 hP hD hS (lv_sub hl [1, 2, 0] rfl))

set_option maxHeartbeats 4000000 in
set_option maxRecDepth 100000 in
theorem c_X6_placeOf (l : Launch) (dC : Nat → ClassId) (dI : Nat → Nat → Nat) (sz : Nat) (a0 : Nat) (a1 : Int32) (a2 : Int32) (a0g_0 a0g_1 : Value) (a0_2 : Nat) (a0_3 : Nat) (ka0_3 : ClassId) (fa0_3 : Nat → Int32) (ka0_2 : ClassId) (fa0_2 : Nat → Int32) (ba1_l : (0 : Int) ≤ a1.toInt) (ba1_u : a1.toInt ≤ (2 : Int)) (bfa0_3 : (∀ k, (0 : Int) ≤ (fa0_3 k).toInt ∧ (fa0_3 k).toInt ≤ 80)) (bfa0_2 : (∀ k, (0 : Int) ≤ (fa0_2 k).toInt ∧ (fa0_2 k).toInt ≤ 80)) : zm l yX6_placeOf wsX6_placeOf ({ frames := 0, cells := 0, slots := 0, locals := 0 }) [.ref a0, .int a1, .int a2] dC dI sz [(a0, .inr (6, [a0g_0, a0g_1, .ref a0_2, .ref a0_3])), (a0_3, .inl (ka0_3, 3, .inl (fa0_3))), (a0_2, .inl (ka0_2, 3, .inl (fa0_2)))] [(ka0_3, .int), (ka0_2, .int)] (fun A _ => True) (fun A => va_Qi (fun (r : Int32) (_ : Unit) => True) (fun (_ : Unit) (t : State) => ax_B dC dI A [(a0, .inr (6, [a0g_0, a0g_1, .ref a0_2, .ref a0_3])), (a0_3, .inl (ka0_3, 3, .inl (fa0_3))), (a0_2, .inl (ka0_2, 3, .inl (fa0_2)))] [(ka0_3, .int), (ka0_2, .int)] t) A) := by
  refine zh (cc := cX6_placeOf) (maxL := 7) (ret := (some .int)) zn_RX6 rfl (Nat.le_of_ble_eq_true rfl) (fun p e s m below meth c A ls hx hb hml hr hts (hown : s.vm.findClass RX6 = some m.cls) hlocks hA hS hP hK hD hE (hl : lv_has ls 7 [(0, .ref a0), (1, .int a1), (2, .int a2)]) => ?_)
  refine lv_aload_n hx hb dX6_placeOf_0 rfl (lv_at hl 0 rfl) ?_
  refine va_get (D := (dC, dI)) (ci := 6) (v := .ref a0_3) (C := RX6) (T := TX6) (N := 4) hx hb hts zi_X6_placeOf_6 hown hK hP 0 rfl rfl 3 (by decide) (hts (.fieldLink RX6 15 "WaxTurns$Watchers" "to" "[I") (List.mem_cons_of_mem _ (List.mem_append_left _ (List.mem_of_getElem? (i := 0) rfl)))) (fun _ h9 => h9) rfl dX6_placeOf_1 ?_
  refine lv_iload_n hx hb dX6_placeOf_4 rfl (lv_at hl 1 rfl) ?_
  refine va_iald hx hb hK hP 1 0 rfl rfl (ai_in ba1_l ba1_u (by decide) (by decide)) dX6_placeOf_5 ?_
  refine lv_topi (fun x5 ex5 => ?_)
  have bx5 : (0 : Int) ≤ x5.toInt ∧ x5.toInt ≤ 80 := by rw [ex5]; exact bfa0_3 _
  refine lv_aload_n hx hb dX6_placeOf_6 rfl (lv_at hl 0 rfl) ?_
  refine va_get (D := (dC, dI)) (ci := 6) (v := .ref a0_2) (C := RX6) (T := TX6) (N := 4) hx hb hts zi_X6_placeOf_6 hown hK hP 0 rfl rfl 2 (by decide) (hts (.fieldLink RX6 9 "WaxTurns$Watchers" "from" "[I") (List.mem_cons_of_mem _ (List.mem_append_left _ (List.mem_of_getElem? (i := 1) rfl)))) (fun _ h9 => h9) rfl dX6_placeOf_7 ?_
  refine lv_iload_n hx hb dX6_placeOf_10 rfl (lv_at hl 1 rfl) ?_
  refine va_iald hx hb hK hP 2 1 rfl rfl (ai_in ba1_l ba1_u (by decide) (by decide)) dX6_placeOf_11 ?_
  refine lv_topi (fun x11 ex11 => ?_)
  have bx11 : (0 : Int) ≤ x11.toInt ∧ x11.toInt ≤ 80 := by rw [ex11]; exact bfa0_2 _
  refine lv_icmp_le (tgt := 19) hx hb dX6_placeOf_12 (by decide) (fun c12 => ?_) (fun c12 => ?_)
  · have gc12 := ai_le c12
    have u12t_x5 : x5.toInt ≤ (80 : Int) := bx5.2
    have l12t_x11 : (0 : Int) ≤ x11.toInt := bx11.1
    refine lv_iconst (v := 0) hx hb dX6_placeOf_19 zk_iconst_0 ?_
    refine lv_istore_n (lv' := [(3, .int 0), (0, .ref a0), (1, .int a1), (2, .int a2)]) hx hb dX6_placeOf_20 rfl hl (by decide) rfl (fun ls hl => ?_)
    refine lv_iload_n hx hb dX6_placeOf_21 rfl (lv_at hl 0 rfl) ?_
    refine lv_if_eq (tgt := 41) hx hb dX6_placeOf_22 (by decide) (fun _ => ?_) (fun c22 => absurd (by decide +kernel) c22)
    refine lv_aload_n hx hb dX6_placeOf_41 rfl (lv_at hl 1 rfl) ?_
    refine va_get (D := (dC, dI)) (ci := 6) (v := .ref a0_2) (C := RX6) (T := TX6) (N := 4) hx hb hts zi_X6_placeOf_6 hown hK hP 0 rfl rfl 2 (by decide) (hts (.fieldLink RX6 9 "WaxTurns$Watchers" "from" "[I") (List.mem_cons_of_mem _ (List.mem_append_left _ (List.mem_of_getElem? (i := 1) rfl)))) (fun _ h9 => h9) rfl dX6_placeOf_42 ?_
    refine lv_iload_n hx hb dX6_placeOf_45 rfl (lv_at hl 2 rfl) ?_
    refine va_iald hx hb hK hP 2 1 rfl rfl (ai_in ba1_l ba1_u (by decide) (by decide)) dX6_placeOf_46 ?_
    refine ax_ti x11 ex11.symm ?_
    refine lv_aload_n hx hb dX6_placeOf_47 rfl (lv_at hl 1 rfl) ?_
    refine va_get (D := (dC, dI)) (ci := 6) (v := .ref a0_3) (C := RX6) (T := TX6) (N := 4) hx hb hts zi_X6_placeOf_6 hown hK hP 0 rfl rfl 3 (by decide) (hts (.fieldLink RX6 15 "WaxTurns$Watchers" "to" "[I") (List.mem_cons_of_mem _ (List.mem_append_left _ (List.mem_of_getElem? (i := 0) rfl)))) (fun _ h9 => h9) rfl dX6_placeOf_48 ?_
    refine lv_iload_n hx hb dX6_placeOf_51 rfl (lv_at hl 2 rfl) ?_
    refine va_iald hx hb hK hP 1 0 rfl rfl (ai_in ba1_l ba1_u (by decide) (by decide)) dX6_placeOf_52 ?_
    refine ax_ti x5 ex5.symm ?_
    refine lv_isub hx hb dX6_placeOf_53 ?_
    refine lv_topi (fun x53 ex53 => ?_)
    have qx53 : x53.toInt = x11.toInt - x5.toInt := ai_sub ex53 ⟨l12t_x11, bx11.2⟩ ⟨bx5.1, u12t_x5⟩ (by decide) (by decide)
    have bx53 : (-80 : Int) ≤ x53.toInt ∧ x53.toInt ≤ 80 := ⟨by rw [qx53]; exact Int.sub_le_sub l12t_x11 u12t_x5, by rw [qx53]; exact Int.sub_le_sub bx11.2 bx5.1⟩
    refine lv_istore (lv' := [(4, .int x53), (3, .int 0), (0, .ref a0), (1, .int a1), (2, .int a2)]) hx hb dX6_placeOf_54 hl (by decide) rfl (fun ls hl => ?_)
    refine lv_iload hx hb dX6_placeOf_56 (lv_at hl 0 rfl) ?_
    refine lv_if_gt (tgt := 68) hx hb dX6_placeOf_58 (by decide) (fun c58 => ?_) (fun c58 => ?_)
    · have gc58 := ai_lt c58
      have l58t_x53 : (1 : Int) ≤ x53.toInt := ai_ltlo gc58 zq5
      refine lv_iload_n hx hb dX6_placeOf_68 rfl (lv_at hl 4 rfl) ?_
      refine lv_iconst (v := 2) hx hb dX6_placeOf_69 zk_iconst_2 ?_
      refine lv_iload hx hb dX6_placeOf_70 (lv_at hl 0 rfl) ?_
      refine lv_imul hx hb dX6_placeOf_72 ?_
      refine lv_topi (fun x72 ex72 => ?_)
      have qx72 : x72.toInt = (2 : Int32).toInt * x53.toInt ∧ (2 : Int) ≤ x72.toInt ∧ x72.toInt ≤ 160 := ai_mul ex72 ⟨zq12, zq13⟩ ⟨l58t_x53, bx53.2⟩ (by decide) (by decide) zq14
      have wx72 : x72.toInt = 2 * x53.toInt := qx72.1
      refine lv_irem hx hb dX6_placeOf_73 (ai_nz qx72.2.1 (by decide)) ?_
      refine lv_topi (fun x73 ex73 => ?_)
      refine lv_istore (lv' := [(5, .int x73), (4, .int x53), (3, .int 0), (0, .ref a0), (1, .int a1), (2, .int a2)]) hx hb dX6_placeOf_74 hl (by decide) rfl (fun ls hl => ?_)
      refine lv_iload hx hb dX6_placeOf_76 (lv_at hl 0 rfl) ?_
      refine lv_iload hx hb dX6_placeOf_78 (lv_at hl 1 rfl) ?_
      refine lv_icmp_gt (tgt := 88) hx hb dX6_placeOf_80 (by decide) (fun c80 => ?_) (fun c80 => ?_)
      · have gc80 := ai_lt c80
        have u80t_x53 : x53.toInt ≤ (80 : Int) := bx53.2
        have l80t_x73 : (2 : Int) ≤ x73.toInt := ai_ltlo gc80 l58t_x53
        refine lv_iconst (v := 2) hx hb dX6_placeOf_88 zk_iconst_2 ?_
        refine lv_iload hx hb dX6_placeOf_89 (lv_at hl 1 rfl) ?_
        refine lv_imul hx hb dX6_placeOf_91 ?_
        refine ax_ti x72 ex72.symm ?_
        refine lv_iload hx hb dX6_placeOf_92 (lv_at hl 0 rfl) ?_
        refine lv_isub hx hb dX6_placeOf_94 ?_
        refine lv_topi (fun x94 ex94 => ?_)
        have qx94 : x94.toInt = x72.toInt - x73.toInt := ai_sub ex94 ⟨qx72.2.1, qx72.2.2⟩ ⟨l80t_x73, (ai_max x73)⟩ (by decide) (by decide)
        have bx94 : (-2147483645 : Int) ≤ x94.toInt ∧ x94.toInt ≤ 158 := ⟨by rw [qx94]; exact Int.sub_le_sub qx72.2.1 (ai_max x73), by rw [qx94]; exact Int.sub_le_sub qx72.2.2 l80t_x73⟩
        refine lv_istore (lv' := [(6, .int x94), (5, .int x73), (4, .int x53), (3, .int 0), (0, .ref a0), (1, .int a1), (2, .int a2)]) hx hb dX6_placeOf_95 hl (by decide) rfl (fun ls hl => ?_)
        refine lv_iload_n hx hb dX6_placeOf_97 rfl (lv_at hl 3 rfl) ?_
        refine lv_if_eq (tgt := 113) hx hb dX6_placeOf_98 (by decide) (fun _ => ?_) (fun c98 => absurd (by decide +kernel) c98)
        refine lv_aload_n hx hb dX6_placeOf_113 rfl (lv_at hl 4 rfl) ?_
        refine va_get (D := (dC, dI)) (ci := 6) (v := .ref a0_2) (C := RX6) (T := TX6) (N := 4) hx hb hts zi_X6_placeOf_6 hown hK hP 0 rfl rfl 2 (by decide) (hts (.fieldLink RX6 9 "WaxTurns$Watchers" "from" "[I") (List.mem_cons_of_mem _ (List.mem_append_left _ (List.mem_of_getElem? (i := 1) rfl)))) (fun _ h9 => h9) rfl dX6_placeOf_114 ?_
        refine lv_iload_n hx hb dX6_placeOf_117 rfl (lv_at hl 5 rfl) ?_
        refine va_iald hx hb hK hP 2 1 rfl rfl (ai_in ba1_l ba1_u (by decide) (by decide)) dX6_placeOf_118 ?_
        refine ax_ti x11 ex11.symm ?_
        refine lv_iload hx hb dX6_placeOf_119 (lv_at hl 0 rfl) ?_
        refine lv_isub hx hb dX6_placeOf_121 ?_
        refine lv_topi (fun x121 ex121 => ?_)
        exact W.iret (v := x121) hx hb hr (fun t ht hW => ⟨⟨x121, (), rfl, trivial, by rw [ht]; exact hP, va_K.moved hW.alike hK, hD⟩, hS.F ht⟩) hS.2.2 dX6_placeOf_122
      · have gc80 := ai_nlt c80
        have u80f_x73 : x73.toInt ≤ (80 : Int) := Int.le_trans gc80 bx53.2
        refine lv_iload hx hb dX6_placeOf_83 (lv_at hl 0 rfl) ?_
        refine lv_goto (tgt := 95) hx hb dX6_placeOf_85 (by decide) ?_
        refine lv_istore (lv' := [(6, .int x73), (5, .int x73), (4, .int x53), (3, .int 0), (0, .ref a0), (1, .int a1), (2, .int a2)]) hx hb dX6_placeOf_95 hl (by decide) rfl (fun ls hl => ?_)
        refine lv_iload_n hx hb dX6_placeOf_97 rfl (lv_at hl 3 rfl) ?_
        refine lv_if_eq (tgt := 113) hx hb dX6_placeOf_98 (by decide) (fun _ => ?_) (fun c98 => absurd (by decide +kernel) c98)
        refine lv_aload_n hx hb dX6_placeOf_113 rfl (lv_at hl 4 rfl) ?_
        refine va_get (D := (dC, dI)) (ci := 6) (v := .ref a0_2) (C := RX6) (T := TX6) (N := 4) hx hb hts zi_X6_placeOf_6 hown hK hP 0 rfl rfl 2 (by decide) (hts (.fieldLink RX6 9 "WaxTurns$Watchers" "from" "[I") (List.mem_cons_of_mem _ (List.mem_append_left _ (List.mem_of_getElem? (i := 1) rfl)))) (fun _ h9 => h9) rfl dX6_placeOf_114 ?_
        refine lv_iload_n hx hb dX6_placeOf_117 rfl (lv_at hl 5 rfl) ?_
        refine va_iald hx hb hK hP 2 1 rfl rfl (ai_in ba1_l ba1_u (by decide) (by decide)) dX6_placeOf_118 ?_
        refine ax_ti x11 ex11.symm ?_
        refine lv_iload hx hb dX6_placeOf_119 (lv_at hl 0 rfl) ?_
        refine lv_isub hx hb dX6_placeOf_121 ?_
        refine lv_topi (fun x121 ex121 => ?_)
        exact W.iret (v := x121) hx hb hr (fun t ht hW => ⟨⟨x121, (), rfl, trivial, by rw [ht]; exact hP, va_K.moved hW.alike hK, hD⟩, hS.F ht⟩) hS.2.2 dX6_placeOf_122
    · have gc58 := ai_nlt c58
      have u58f_x53 : x53.toInt ≤ (0 : Int) := Int.le_trans gc58 zq6
      refine lv_aload_n hx hb dX6_placeOf_61 rfl (lv_at hl 2 rfl) ?_
      refine va_get (D := (dC, dI)) (ci := 6) (v := .ref a0_2) (C := RX6) (T := TX6) (N := 4) hx hb hts zi_X6_placeOf_6 hown hK hP 0 rfl rfl 2 (by decide) (hts (.fieldLink RX6 9 "WaxTurns$Watchers" "from" "[I") (List.mem_cons_of_mem _ (List.mem_append_left _ (List.mem_of_getElem? (i := 1) rfl)))) (fun _ h9 => h9) rfl dX6_placeOf_62 ?_
      refine lv_iload_n hx hb dX6_placeOf_65 rfl (lv_at hl 3 rfl) ?_
      refine va_iald hx hb hK hP 2 1 rfl rfl (ai_in ba1_l ba1_u (by decide) (by decide)) dX6_placeOf_66 ?_
      refine ax_ti x11 ex11.symm ?_
      exact W.iret (v := x11) hx hb hr (fun t ht hW => ⟨⟨x11, (), rfl, trivial, by rw [ht]; exact hP, va_K.moved hW.alike hK, hD⟩, hS.F ht⟩) hS.2.2 dX6_placeOf_67
  · have gc12 := ai_nle c12
    have u12f_x11 : x11.toInt ≤ (79 : Int) := ai_lthi gc12 bx5.2
    have l12f_x5 : (1 : Int) ≤ x5.toInt := ai_ltlo gc12 bx11.1
    refine lv_iconst (v := 1) hx hb dX6_placeOf_15 zk_iconst_1 ?_
    refine lv_goto (tgt := 20) hx hb dX6_placeOf_16 (by decide) ?_
    refine lv_istore_n (lv' := [(3, .int 1), (0, .ref a0), (1, .int a1), (2, .int a2)]) hx hb dX6_placeOf_20 rfl hl (by decide) rfl (fun ls hl => ?_)
    refine lv_iload_n hx hb dX6_placeOf_21 rfl (lv_at hl 0 rfl) ?_
    refine lv_if_eq (tgt := 41) hx hb dX6_placeOf_22 (by decide) (fun c22 => absurd c22 (by decide +kernel)) (fun _ => ?_)
    refine lv_aload_n hx hb dX6_placeOf_25 rfl (lv_at hl 1 rfl) ?_
    refine va_get (D := (dC, dI)) (ci := 6) (v := .ref a0_3) (C := RX6) (T := TX6) (N := 4) hx hb hts zi_X6_placeOf_6 hown hK hP 0 rfl rfl 3 (by decide) (hts (.fieldLink RX6 15 "WaxTurns$Watchers" "to" "[I") (List.mem_cons_of_mem _ (List.mem_append_left _ (List.mem_of_getElem? (i := 0) rfl)))) (fun _ h9 => h9) rfl dX6_placeOf_26 ?_
    refine lv_iload_n hx hb dX6_placeOf_29 rfl (lv_at hl 2 rfl) ?_
    refine va_iald hx hb hK hP 1 0 rfl rfl (ai_in ba1_l ba1_u (by decide) (by decide)) dX6_placeOf_30 ?_
    refine ax_ti x5 ex5.symm ?_
    refine lv_aload_n hx hb dX6_placeOf_31 rfl (lv_at hl 1 rfl) ?_
    refine va_get (D := (dC, dI)) (ci := 6) (v := .ref a0_2) (C := RX6) (T := TX6) (N := 4) hx hb hts zi_X6_placeOf_6 hown hK hP 0 rfl rfl 2 (by decide) (hts (.fieldLink RX6 9 "WaxTurns$Watchers" "from" "[I") (List.mem_cons_of_mem _ (List.mem_append_left _ (List.mem_of_getElem? (i := 1) rfl)))) (fun _ h9 => h9) rfl dX6_placeOf_32 ?_
    refine lv_iload_n hx hb dX6_placeOf_35 rfl (lv_at hl 2 rfl) ?_
    refine va_iald hx hb hK hP 2 1 rfl rfl (ai_in ba1_l ba1_u (by decide) (by decide)) dX6_placeOf_36 ?_
    refine ax_ti x11 ex11.symm ?_
    refine lv_isub hx hb dX6_placeOf_37 ?_
    refine lv_topi (fun x37 ex37 => ?_)
    have qx37 : x37.toInt = x5.toInt - x11.toInt := ai_sub ex37 ⟨l12f_x5, bx5.2⟩ ⟨bx11.1, u12f_x11⟩ (by decide) (by decide)
    have bx37 : (-78 : Int) ≤ x37.toInt ∧ x37.toInt ≤ 80 := ⟨by rw [qx37]; exact Int.sub_le_sub l12f_x5 u12f_x11, by rw [qx37]; exact Int.sub_le_sub bx5.2 bx11.1⟩
    refine lv_goto (tgt := 54) hx hb dX6_placeOf_38 (by decide) ?_
    refine lv_istore (lv' := [(4, .int x37), (3, .int 1), (0, .ref a0), (1, .int a1), (2, .int a2)]) hx hb dX6_placeOf_54 hl (by decide) rfl (fun ls hl => ?_)
    refine lv_iload hx hb dX6_placeOf_56 (lv_at hl 0 rfl) ?_
    refine lv_if_gt (tgt := 68) hx hb dX6_placeOf_58 (by decide) (fun c58 => ?_) (fun c58 => ?_)
    · have gc58 := ai_lt c58
      have l58t_x37 : (1 : Int) ≤ x37.toInt := ai_ltlo gc58 zq5
      refine lv_iload_n hx hb dX6_placeOf_68 rfl (lv_at hl 4 rfl) ?_
      refine lv_iconst (v := 2) hx hb dX6_placeOf_69 zk_iconst_2 ?_
      refine lv_iload hx hb dX6_placeOf_70 (lv_at hl 0 rfl) ?_
      refine lv_imul hx hb dX6_placeOf_72 ?_
      refine lv_topi (fun x72 ex72 => ?_)
      have qx72 : x72.toInt = (2 : Int32).toInt * x37.toInt ∧ (2 : Int) ≤ x72.toInt ∧ x72.toInt ≤ 160 := ai_mul ex72 ⟨zq12, zq13⟩ ⟨l58t_x37, bx37.2⟩ (by decide) (by decide) zq14
      have wx72 : x72.toInt = 2 * x37.toInt := qx72.1
      refine lv_irem hx hb dX6_placeOf_73 (ai_nz qx72.2.1 (by decide)) ?_
      refine lv_topi (fun x73 ex73 => ?_)
      refine lv_istore (lv' := [(5, .int x73), (4, .int x37), (3, .int 1), (0, .ref a0), (1, .int a1), (2, .int a2)]) hx hb dX6_placeOf_74 hl (by decide) rfl (fun ls hl => ?_)
      refine lv_iload hx hb dX6_placeOf_76 (lv_at hl 0 rfl) ?_
      refine lv_iload hx hb dX6_placeOf_78 (lv_at hl 1 rfl) ?_
      refine lv_icmp_gt (tgt := 88) hx hb dX6_placeOf_80 (by decide) (fun c80 => ?_) (fun c80 => ?_)
      · have gc80 := ai_lt c80
        have u80t_x37 : x37.toInt ≤ (80 : Int) := bx37.2
        have l80t_x73 : (2 : Int) ≤ x73.toInt := ai_ltlo gc80 l58t_x37
        refine lv_iconst (v := 2) hx hb dX6_placeOf_88 zk_iconst_2 ?_
        refine lv_iload hx hb dX6_placeOf_89 (lv_at hl 1 rfl) ?_
        refine lv_imul hx hb dX6_placeOf_91 ?_
        refine ax_ti x72 ex72.symm ?_
        refine lv_iload hx hb dX6_placeOf_92 (lv_at hl 0 rfl) ?_
        refine lv_isub hx hb dX6_placeOf_94 ?_
        refine lv_topi (fun x94 ex94 => ?_)
        have qx94 : x94.toInt = x72.toInt - x73.toInt := ai_sub ex94 ⟨qx72.2.1, qx72.2.2⟩ ⟨l80t_x73, (ai_max x73)⟩ (by decide) (by decide)
        have bx94 : (-2147483645 : Int) ≤ x94.toInt ∧ x94.toInt ≤ 158 := ⟨by rw [qx94]; exact Int.sub_le_sub qx72.2.1 (ai_max x73), by rw [qx94]; exact Int.sub_le_sub qx72.2.2 l80t_x73⟩
        refine lv_istore (lv' := [(6, .int x94), (5, .int x73), (4, .int x37), (3, .int 1), (0, .ref a0), (1, .int a1), (2, .int a2)]) hx hb dX6_placeOf_95 hl (by decide) rfl (fun ls hl => ?_)
        refine lv_iload_n hx hb dX6_placeOf_97 rfl (lv_at hl 3 rfl) ?_
        refine lv_if_eq (tgt := 113) hx hb dX6_placeOf_98 (by decide) (fun c98 => absurd c98 (by decide +kernel)) (fun _ => ?_)
        refine lv_aload_n hx hb dX6_placeOf_101 rfl (lv_at hl 4 rfl) ?_
        refine va_get (D := (dC, dI)) (ci := 6) (v := .ref a0_2) (C := RX6) (T := TX6) (N := 4) hx hb hts zi_X6_placeOf_6 hown hK hP 0 rfl rfl 2 (by decide) (hts (.fieldLink RX6 9 "WaxTurns$Watchers" "from" "[I") (List.mem_cons_of_mem _ (List.mem_append_left _ (List.mem_of_getElem? (i := 1) rfl)))) (fun _ h9 => h9) rfl dX6_placeOf_102 ?_
        refine lv_iload_n hx hb dX6_placeOf_105 rfl (lv_at hl 5 rfl) ?_
        refine va_iald hx hb hK hP 2 1 rfl rfl (ai_in ba1_l ba1_u (by decide) (by decide)) dX6_placeOf_106 ?_
        refine ax_ti x11 ex11.symm ?_
        refine lv_iload hx hb dX6_placeOf_107 (lv_at hl 0 rfl) ?_
        refine lv_iadd hx hb dX6_placeOf_109 ?_
        refine lv_topi (fun x109 ex109 => ?_)
        have qx109 : x109.toInt = x11.toInt + x94.toInt := ai_add ex109 ⟨bx11.1, u12f_x11⟩ ⟨bx94.1, bx94.2⟩ (by decide) (by decide)
        have bx109 : (-2147483645 : Int) ≤ x109.toInt ∧ x109.toInt ≤ 237 := ⟨by rw [qx109]; exact Int.add_le_add bx11.1 bx94.1, by rw [qx109]; exact Int.add_le_add u12f_x11 bx94.2⟩
        refine lv_goto (tgt := 122) hx hb dX6_placeOf_110 (by decide) ?_
        exact W.iret (v := x109) hx hb hr (fun t ht hW => ⟨⟨x109, (), rfl, trivial, by rw [ht]; exact hP, va_K.moved hW.alike hK, hD⟩, hS.F ht⟩) hS.2.2 dX6_placeOf_122
      · have gc80 := ai_nlt c80
        have u80f_x73 : x73.toInt ≤ (80 : Int) := Int.le_trans gc80 bx37.2
        refine lv_iload hx hb dX6_placeOf_83 (lv_at hl 0 rfl) ?_
        refine lv_goto (tgt := 95) hx hb dX6_placeOf_85 (by decide) ?_
        refine lv_istore (lv' := [(6, .int x73), (5, .int x73), (4, .int x37), (3, .int 1), (0, .ref a0), (1, .int a1), (2, .int a2)]) hx hb dX6_placeOf_95 hl (by decide) rfl (fun ls hl => ?_)
        refine lv_iload_n hx hb dX6_placeOf_97 rfl (lv_at hl 3 rfl) ?_
        refine lv_if_eq (tgt := 113) hx hb dX6_placeOf_98 (by decide) (fun c98 => absurd c98 (by decide +kernel)) (fun _ => ?_)
        refine lv_aload_n hx hb dX6_placeOf_101 rfl (lv_at hl 4 rfl) ?_
        refine va_get (D := (dC, dI)) (ci := 6) (v := .ref a0_2) (C := RX6) (T := TX6) (N := 4) hx hb hts zi_X6_placeOf_6 hown hK hP 0 rfl rfl 2 (by decide) (hts (.fieldLink RX6 9 "WaxTurns$Watchers" "from" "[I") (List.mem_cons_of_mem _ (List.mem_append_left _ (List.mem_of_getElem? (i := 1) rfl)))) (fun _ h9 => h9) rfl dX6_placeOf_102 ?_
        refine lv_iload_n hx hb dX6_placeOf_105 rfl (lv_at hl 5 rfl) ?_
        refine va_iald hx hb hK hP 2 1 rfl rfl (ai_in ba1_l ba1_u (by decide) (by decide)) dX6_placeOf_106 ?_
        refine ax_ti x11 ex11.symm ?_
        refine lv_iload hx hb dX6_placeOf_107 (lv_at hl 0 rfl) ?_
        refine lv_iadd hx hb dX6_placeOf_109 ?_
        refine lv_topi (fun x109 ex109 => ?_)
        have qx109 : x109.toInt = x11.toInt + x73.toInt := ai_add ex109 ⟨bx11.1, u12f_x11⟩ ⟨(ai_min x73), u80f_x73⟩ (by decide) (by decide)
        have bx109 : (-2147483648 : Int) ≤ x109.toInt ∧ x109.toInt ≤ 159 := ⟨by rw [qx109]; exact Int.add_le_add bx11.1 (ai_min x73), by rw [qx109]; exact Int.add_le_add u12f_x11 u80f_x73⟩
        refine lv_goto (tgt := 122) hx hb dX6_placeOf_110 (by decide) ?_
        exact W.iret (v := x109) hx hb hr (fun t ht hW => ⟨⟨x109, (), rfl, trivial, by rw [ht]; exact hP, va_K.moved hW.alike hK, hD⟩, hS.F ht⟩) hS.2.2 dX6_placeOf_122
    · have gc58 := ai_nlt c58
      have u58f_x37 : x37.toInt ≤ (0 : Int) := Int.le_trans gc58 zq6
      refine lv_aload_n hx hb dX6_placeOf_61 rfl (lv_at hl 2 rfl) ?_
      refine va_get (D := (dC, dI)) (ci := 6) (v := .ref a0_2) (C := RX6) (T := TX6) (N := 4) hx hb hts zi_X6_placeOf_6 hown hK hP 0 rfl rfl 2 (by decide) (hts (.fieldLink RX6 9 "WaxTurns$Watchers" "from" "[I") (List.mem_cons_of_mem _ (List.mem_append_left _ (List.mem_of_getElem? (i := 1) rfl)))) (fun _ h9 => h9) rfl dX6_placeOf_62 ?_
      refine lv_iload_n hx hb dX6_placeOf_65 rfl (lv_at hl 3 rfl) ?_
      refine va_iald hx hb hK hP 2 1 rfl rfl (ai_in ba1_l ba1_u (by decide) (by decide)) dX6_placeOf_66 ?_
      refine ax_ti x11 ex11.symm ?_
      exact W.iret (v := x11) hx hb hr (fun t ht hW => ⟨⟨x11, (), rfl, trivial, by rw [ht]; exact hP, va_K.moved hW.alike hK, hD⟩, hS.F ht⟩) hS.2.2 dX6_placeOf_67

set_option maxHeartbeats 4000000 in
set_option maxRecDepth 100000 in
theorem c_X6_placesIn (l : Launch) (dC : Nat → ClassId) (dI : Nat → Nat → Nat) (sz : Nat) (a0 : Nat) (a1 : Int32) (a0_0 : Int32) (a0_1 : Int32) (a0_2 : Nat) (a0_3 : Nat) (ka0_3 : ClassId) (fa0_3 : Nat → Int32) (ka0_2 : ClassId) (fa0_2 : Nat → Int32) (ba0_0_l : (0 : Int) ≤ a0_0.toInt) (ba0_0_u : a0_0.toInt ≤ (3 : Int)) (bfa0_3 : (∀ k, (0 : Int) ≤ (fa0_3 k).toInt ∧ (fa0_3 k).toInt ≤ 80)) (bfa0_2 : (∀ k, (0 : Int) ≤ (fa0_2 k).toInt ∧ (fa0_2 k).toInt ≤ 80)) : zm l yX6_placesIn wsX6_placesIn ({ frames := 1, cells := 0, slots := 0, locals := 26 }) [.ref a0, .int a1] dC dI sz [(a0, .inr (6, [.int a0_0, .int a0_1, .ref a0_2, .ref a0_3])), (a0_3, .inl (ka0_3, 3, .inl (fa0_3))), (a0_2, .inl (ka0_2, 3, .inl (fa0_2)))] [(ka0_3, .int), (ka0_2, .int)] (fun A _ => True) (fun A => va_Qi (fun (r : Int32) (_ : Unit) => True) (fun (_ : Unit) (t : State) => ax_B dC dI A [(a0, .inr (6, [.int a0_0, .int a0_1, .ref a0_2, .ref a0_3])), (a0_3, .inl (ka0_3, 3, .inl (fa0_3))), (a0_2, .inl (ka0_2, 3, .inl (fa0_2)))] [(ka0_3, .int), (ka0_2, .int)] t) A) := by
  refine zh (cc := cX6_placesIn) (maxL := 4) (ret := (some .int)) zn_RX6 rfl (Nat.le_of_ble_eq_true rfl) (fun p e s m below meth c A ls hx hb hml hr hts (hown : s.vm.findClass RX6 = some m.cls) hlocks hA hS hP hK hD hE (hl : lv_has ls 4 [(0, .ref a0), (1, .int a1)]) => ?_)
  refine ai_open (fun K hK0 => ?_)
  refine (hK0 _ _ _).mpr ?_
  refine lv_aload_n hx hb dX6_placesIn_0 rfl (lv_at hl 0 rfl) ?_
  refine va_get (D := (dC, dI)) (ci := 6) (v := .int a0_1) (C := RX6) (T := TX6) (N := 4) hx hb hts zi_X6_placesIn_6 hown hK hP 0 rfl rfl 1 (by decide) (hts (.fieldLink RX6 22 "WaxTurns$Watchers" "posts" "I") (List.mem_cons_of_mem _ (List.mem_append_left _ (List.mem_of_getElem? (i := 0) rfl)))) (fun _ h9 => h9) rfl dX6_placesIn_1 ?_
  refine lv_istore_n (lv' := [(2, .int a0_1), (0, .ref a0), (1, .int a1)]) hx hb dX6_placesIn_4 rfl hl (by decide) rfl (fun ls hl => ?_)
  refine lv_iconst (v := 0) hx hb dX6_placesIn_5 zk_iconst_0 ?_
  refine lv_istore_n (lv' := [(3, .int 0), (2, .int a0_1), (0, .ref a0), (1, .int a1)]) hx hb dX6_placesIn_6 rfl hl (by decide) rfl (fun ls hl => ?_)
  have J7 : ∀ (n : Nat) (j7l3 : Int32) (j7l2 : Int32) (H : Heap) (locs : List Loc) (ls : Array Slot), (4 : Int) - j7l3.toInt ≤ (n : Int) → (0 : Int) ≤ j7l3.toInt → j7l3.toInt ≤ (3 : Int) → va_P (dC, dI) vwCl [(a0, .inr (6, [.int a0_0, .int a0_1, .ref a0_2, .ref a0_3])), (a0_3, .inl (ka0_3, 3, .inl (fa0_3))), (a0_2, .inl (ka0_2, 3, .inl (fa0_2)))] H → va_D A [(a0, .inr (6, [.int a0_0, .int a0_1, .ref a0_2, .ref a0_3])), (a0_3, .inl (ka0_3, 3, .inl (fa0_3))), (a0_2, .inl (ka0_2, 3, .inl (fa0_2)))] → va_S A s.heap H locs → lv_has ls 4 [(0, .ref a0), (1, .int a1), (2, .int j7l2), (3, .int j7l3)] → K H locs (F0 m 7 ls []) := by
    intro n
    induction n with
    | zero =>
      intro j7l3 j7l2 H locs ls hm bj7l3_l bj7l3_u hP hD hS hl
      first | exact zg_0 hm bj7l3_u (by decide) | (have h8 := ai_min j7l3; have h9 := ai_max j7l3; exact absurd hm (by omega))
    | succ n ih7 =>
      intro j7l3 j7l2 H locs ls hm bj7l3_l bj7l3_u hP hD hS hl
      refine (hK0 _ _ _).mpr ?_
      have hm7 := hm
      refine lv_iload_n hx hb dX6_placesIn_7 rfl (lv_at hl 3 rfl) ?_
      refine lv_aload_n hx hb dX6_placesIn_8 rfl (lv_at hl 0 rfl) ?_
      refine va_get (D := (dC, dI)) (ci := 6) (v := .int a0_0) (C := RX6) (T := TX6) (N := 4) hx hb hts zi_X6_placesIn_6 hown hK hP 0 rfl rfl 0 (by decide) (hts (.fieldLink RX6 18 "WaxTurns$Watchers" "count" "I") (List.mem_cons_of_mem _ (List.mem_append_left _ (List.mem_of_getElem? (i := 1) rfl)))) (fun _ h9 => h9) rfl dX6_placesIn_9 ?_
      refine lv_icmp_ge (tgt := 32) hx hb dX6_placesIn_12 (by decide) (fun c12 => ?_) (fun c12 => ?_)
      · have gc12 := ai_le c12
        have u12t_a0_0 : a0_0.toInt ≤ (3 : Int) := ba0_0_u
        have l12t_j7l3 : (0 : Int) ≤ j7l3.toInt := bj7l3_l
        refine lv_iload_n hx hb dX6_placesIn_32 rfl (lv_at hl 2 rfl) ?_
        exact W.iret (v := j7l2) hx hb hr (fun t ht hW => ⟨⟨j7l2, (), rfl, trivial, by rw [ht]; exact hP, va_K.moved hW.alike hK, hD⟩, hS.F ht⟩) hS.2.2 dX6_placesIn_33
      · have gc12 := ai_nle c12
        have u12f_j7l3 : j7l3.toInt ≤ (2 : Int) := ai_lthi gc12 ba0_0_u
        have l12f_a0_0 : (1 : Int) ≤ a0_0.toInt := ai_ltlo gc12 bj7l3_l
        refine lv_iload_n hx hb dX6_placesIn_15 rfl (lv_at hl 2 rfl) ?_
        refine lv_iconst (v := 1) hx hb dX6_placesIn_16 zk_iconst_1 ?_
        refine lv_aload_n hx hb dX6_placesIn_17 rfl (lv_at hl 0 rfl) ?_
        refine lv_iload_n hx hb dX6_placesIn_18 rfl (lv_at hl 3 rfl) ?_
        refine lv_iload_n hx hb dX6_placesIn_19 rfl (lv_at hl 1 rfl) ?_
        have hKc := hK.sub (tys' := [(ka0_3, .int), (ka0_2, .int)]) [0, 1] rfl
        refine va_calli (va_runV (As := [.int j7l3, .int a1]) (rest := [.int 1, .int j7l2]) ⟨hx, hb, hml, hown, hts⟩ (c_X6_placeOf l dC dI H.size a0 j7l3 a1 (.int a0_0) (.int a0_1) a0_2 a0_3 ka0_3 fa0_3 ka0_2 fa0_2 bj7l3_l u12f_j7l3 bfa0_3 bfa0_2) (cwV 2 hts gX6_placesIn_X6_placeOf rfl rfl rfl zd_X6_placeOf ⟨Nat.le_of_ble_eq_true rfl, Nat.le_of_ble_eq_true rfl⟩) ⟨ax_blind (fun _ _ _ _ _ => trivial), zr_6 hKc (zp_P3 hP) (q0 := 0) rfl, ax_pre (zp_P3 hP) hKc (zp_D3 hD) (fun _ _ => trivial)⟩ rfl rfl hl.1 rfl (lv_room (Nat.le_of_ble_eq_true rfl)) dX6_placesIn_20 ⟨Nat.le_of_ble_eq_true rfl, Nat.le_of_ble_eq_true rfl⟩) hS (fun q _ h => zp_F3 hD hS hA q h) (zp_F3 hD hS hA) (fun r20 u t H locs ht hvm hw hB hz1 hk1 hS1 => zo3 hB ht hP hD hk1 (zp_F3 hD hS hA) hS1 (fun hP hK1 hD hS => ?_))
        refine lv_ishl hx hb dX6_placesIn_23 ?_
        refine lv_topi (fun x23 ex23 => ?_)
        refine lv_ior hx hb dX6_placesIn_24 ?_
        refine lv_topi (fun x24 ex24 => ?_)
        refine lv_istore_n (lv' := [(2, .int x24), (0, .ref a0), (1, .int a1), (3, .int j7l3)]) hx hb dX6_placesIn_25 rfl hl (by decide) rfl (fun ls hl => ?_)
        obtain ⟨x26, ex26⟩ : ∃ y : Int32, y = j7l3 + Int32.ofInt 1 := ⟨_, rfl⟩
        have qx26 : x26.toInt = j7l3.toInt + 1 := ai_inc ex26 (by decide) (by decide) u12f_j7l3 (by decide)
        have bx26 : (1 : Int) ≤ x26.toInt ∧ x26.toInt ≤ 3 := ⟨by rw [qx26]; exact Int.add_le_add bj7l3_l (Int.le_refl _), by rw [qx26]; exact Int.add_le_add u12f_j7l3 (Int.le_refl _)⟩
        refine lv_iinc (v := x26) (lv' := [(3, .int x26), (2, .int x24), (0, .ref a0), (1, .int a1)]) hx hb dX6_placesIn_26 hl (k := 3) rfl ex26.symm (by decide) rfl (fun ls hl => ?_)
        refine lv_goto (tgt := 7) hx hb dX6_placesIn_29 (by decide) ?_
        exact (hK0 _ _ _).mp (ih7 x26 x24 _ _ _ (by first | exact zg_s hm7 qx26 | (have h0 := qx26; omega)) (Int.le_trans zq4 bx26.1) bx26.2 hP hD hS (lv_sub hl [2, 3, 1, 0] rfl))
  exact (hK0 _ _ _).mp (J7 4 0 a0_1 _ _ _ (by first | decide +kernel | (have h1 : (0 : Int) ≤ (0 : Int32).toInt := zq5; have h2 : (0 : Int32).toInt ≤ (0 : Int) := zq6; omega)) zq5 (Int.le_trans zq6 zq11) hP hD hS (lv_sub hl [2, 3, 1, 0] rfl))
end P100_safe
section P101_safe
set_option maxHeartbeats 4000000 in
set_option maxRecDepth 100000 in
theorem c_X0_next (l : Launch) (dC : Nat → ClassId) (dI : Nat → Nat → Nat) (sz : Nat) (a0 : Nat) (a1 : Int32) (a0_0 : Int32) (a0g_1 a0g_2 a0g_3 a0g_4 a0g_7 a0g_8 a0g_9 a0g_10 a0g_11 a0g_12 a0g_13 a0g_14 : Value) (a0_5 : Int32) (a0_6 : Int32) (ba1_l : (0 : Int) ≤ a1.toInt) (ba1_u : a1.toInt ≤ (8 : Int)) (ba0_0_l : (0 : Int) ≤ a0_0.toInt) (ba0_0_u : a0_0.toInt ≤ (9 : Int)) (ba0_5_l : (0 : Int) ≤ a0_5.toInt) (ba0_5_u : a0_5.toInt ≤ (8 : Int)) (ba0_6_l : (0 : Int) ≤ a0_6.toInt) (ba0_6_u : a0_6.toInt ≤ (8 : Int)) : zm l yX0_next wsX0_next ({ frames := 0, cells := 0, slots := 0, locals := 0 }) [.ref a0, .int a1] dC dI sz [(a0, .inr (0, [.int a0_0, a0g_1, a0g_2, a0g_3, a0g_4, .int a0_5, .int a0_6, a0g_7, a0g_8, a0g_9, a0g_10, a0g_11, a0g_12, a0g_13, a0g_14]))] [] (fun A _ => True) (fun A => va_Qi (fun (r : Int32) (_ : Unit) => (0 : Int) ≤ r.toInt ∧ r.toInt ≤ (8 : Int)) (fun (_ : Unit) (t : State) => ax_B dC dI A [(a0, .inr (0, [.int a0_0, a0g_1, a0g_2, a0g_3, a0g_4, .int a0_5, .int a0_6, a0g_7, a0g_8, a0g_9, a0g_10, a0g_11, a0g_12, a0g_13, a0g_14]))] [] t) A) := by
  refine zh (cc := cX0_next) (maxL := 2) (ret := (some .int)) zn_RX0 rfl (Nat.le_of_ble_eq_true rfl) (fun p e s m below meth c A ls hx hb hml hr hts (hown : s.vm.findClass RX0 = some m.cls) hlocks hA hS hP hK hD hE (hl : lv_has ls 2 [(0, .ref a0), (1, .int a1)]) => ?_)
  refine lv_aload_n hx hb dX0_next_0 rfl (lv_at hl 0 rfl) ?_
  refine va_get (D := (dC, dI)) (ci := 0) (v := .int a0_0) (C := RX0) (T := TX0) (N := 15) hx hb hts zi_X0_next_0 hown hK hP 0 rfl rfl 0 (by decide) (hts (.fieldLink RX0 31 "WaxTurns$Hall" "figures" "I") (List.mem_cons_of_mem _ (List.mem_append_left _ (List.mem_of_getElem? (i := 0) rfl)))) (fun _ h9 => h9) rfl dX0_next_1 ?_
  refine lv_if_gt (tgt := 11) hx hb dX0_next_4 (by decide) (fun c4 => ?_) (fun c4 => ?_)
  · have gc4 := ai_lt c4
    have l4t_a0_0 : (1 : Int) ≤ a0_0.toInt := ai_ltlo gc4 zq5
    refine lv_iload_n hx hb dX0_next_11 rfl (lv_at hl 1 rfl) ?_
    refine lv_aload_n hx hb dX0_next_12 rfl (lv_at hl 0 rfl) ?_
    refine va_get (D := (dC, dI)) (ci := 0) (v := .int a0_5) (C := RX0) (T := TX0) (N := 15) hx hb hts zi_X0_next_0 hown hK hP 0 rfl rfl 5 (by decide) (hts (.fieldLink RX0 63 "WaxTurns$Hall" "times" "I") (List.mem_cons_of_mem _ (List.mem_append_left _ (List.mem_of_getElem? (i := 1) rfl)))) (fun _ h9 => h9) rfl dX0_next_13 ?_
    refine lv_imul hx hb dX0_next_16 ?_
    refine lv_topi (fun x16 ex16 => ?_)
    have qx16 : x16.toInt = a1.toInt * a0_5.toInt ∧ (0 : Int) ≤ x16.toInt ∧ x16.toInt ≤ 64 := ai_mul ex16 ⟨ba1_l, ba1_u⟩ ⟨ba0_5_l, ba0_5_u⟩ (by decide) (by decide) zq18
    refine lv_aload_n hx hb dX0_next_17 rfl (lv_at hl 0 rfl) ?_
    refine va_get (D := (dC, dI)) (ci := 0) (v := .int a0_6) (C := RX0) (T := TX0) (N := 15) hx hb hts zi_X0_next_0 hown hK hP 0 rfl rfl 6 (by decide) (hts (.fieldLink RX0 66 "WaxTurns$Hall" "plus" "I") (List.mem_cons_of_mem _ (List.mem_append_left _ (List.mem_of_getElem? (i := 2) rfl)))) (fun _ h9 => h9) rfl dX0_next_18 ?_
    refine lv_iadd hx hb dX0_next_21 ?_
    refine lv_topi (fun x21 ex21 => ?_)
    have qx21 : x21.toInt = x16.toInt + a0_6.toInt := ai_add ex21 ⟨qx16.2.1, qx16.2.2⟩ ⟨ba0_6_l, ba0_6_u⟩ (by decide) (by decide)
    have bx21 : (0 : Int) ≤ x21.toInt ∧ x21.toInt ≤ 72 := ⟨by rw [qx21]; exact Int.add_le_add qx16.2.1 ba0_6_l, by rw [qx21]; exact Int.add_le_add qx16.2.2 ba0_6_u⟩
    refine lv_aload_n hx hb dX0_next_22 rfl (lv_at hl 0 rfl) ?_
    refine va_get (D := (dC, dI)) (ci := 0) (v := .int a0_0) (C := RX0) (T := TX0) (N := 15) hx hb hts zi_X0_next_0 hown hK hP 0 rfl rfl 0 (by decide) (hts (.fieldLink RX0 31 "WaxTurns$Hall" "figures" "I") (List.mem_cons_of_mem _ (List.mem_append_left _ (List.mem_of_getElem? (i := 0) rfl)))) (fun _ h9 => h9) rfl dX0_next_23 ?_
    refine lv_irem hx hb dX0_next_26 (ai_nz l4t_a0_0 (by decide)) ?_
    refine lv_topi (fun x26 ex26 => ?_)
    have qx26 := ai_rem2 ex26 bx21.1 (Int.lt_of_lt_of_le zq19 l4t_a0_0) ba0_0_u
    exact W.iret (v := x26) hx hb hr (fun t ht hW => ⟨⟨x26, (), rfl, ⟨qx26.2.1, qx26.2.2⟩, by rw [ht]; exact hP, va_K.moved hW.alike hK, hD⟩, hS.F ht⟩) hS.2.2 dX0_next_27
  · have gc4 := ai_nlt c4
    have u4f_a0_0 : a0_0.toInt ≤ (0 : Int) := Int.le_trans gc4 zq6
    refine lv_iconst (v := 0) hx hb dX0_next_7 zk_iconst_0 ?_
    refine lv_goto (tgt := 27) hx hb dX0_next_8 (by decide) ?_
    exact W.iret (v := 0) hx hb hr (fun t ht hW => ⟨⟨0, (), rfl, ⟨zq5, (Int.le_trans zq6 zq20)⟩, by rw [ht]; exact hP, va_K.moved hW.alike hK, hD⟩, hS.F ht⟩) hS.2.2 dX0_next_27

set_option maxHeartbeats 4000000 in
set_option maxRecDepth 100000 in
theorem c_X7_laterTurn8 (l : Launch) (dC : Nat → ClassId) (dI : Nat → Nat → Nat) (sz : Nat) (a1 : Int32) (a2 : Int32) (a3 : Int32) (a4 : Int32) (a5 : Int32) (ba1_l : (0 : Int) ≤ a1.toInt) (ba1_u : a1.toInt ≤ (9 : Int)) (ba2_l : (0 : Int) ≤ a2.toInt) (ba2_u : a2.toInt ≤ (8 : Int)) (ba3_l : (0 : Int) ≤ a3.toInt) (ba3_u : a3.toInt ≤ (8 : Int)) (ba4_l : (0 : Int) ≤ a4.toInt) (ba4_u : a4.toInt ≤ (8 : Int)) : zm l yX7_laterTurn wsX7_laterTurn ({ frames := 0, cells := 0, slots := 0, locals := 0 }) [.int a1, .int a2, .int a3, .int a4, .int a5] dC dI sz [] [] (fun A _ => True) (fun A => va_Qi (fun (r : Int32) (_ : Unit) => (0 : Int) ≤ r.toInt ∧ r.toInt ≤ (8 : Int)) (fun (_ : Unit) (t : State) => ax_B dC dI A [] [] t) A) := by
  refine zh (cc := cX7_laterTurn) (maxL := 9) (ret := (some .int)) zn_RX7 rfl (Nat.le_of_ble_eq_true rfl) (fun p e s m below meth c A ls hx hb hml hr hts (hown : s.vm.findClass RX7 = some m.cls) hlocks hA hS hP hK hD hE (hl : lv_has ls 9 [(0, .int a1), (1, .int a2), (2, .int a3), (3, .int a4), (4, .int a5)]) => ?_)
  refine ai_open (fun K hK0 => ?_)
  refine (hK0 _ _ _).mpr ?_
  refine lv_iload_n hx hb dX7_laterTurn_0 rfl (lv_at hl 0 rfl) ?_
  refine lv_if_gt (tgt := 6) hx hb dX7_laterTurn_1 (by decide) (fun c1 => ?_) (fun c1 => ?_)
  · have gc1 := ai_lt c1
    have l1t_a1 : (1 : Int) ≤ a1.toInt := ai_ltlo gc1 zq5
    refine lv_iload_n hx hb dX7_laterTurn_6 rfl (lv_at hl 1 rfl) ?_
    refine lv_istore (lv' := [(5, .int a2), (0, .int a1), (1, .int a2), (2, .int a3), (3, .int a4), (4, .int a5)]) hx hb dX7_laterTurn_7 hl (by decide) rfl (fun ls hl => ?_)
    refine lv_iload_n hx hb dX7_laterTurn_9 rfl (lv_at hl 3 rfl) ?_
    refine lv_istore (lv' := [(6, .int a3), (5, .int a2), (0, .int a1), (1, .int a2), (2, .int a3), (3, .int a4), (4, .int a5)]) hx hb dX7_laterTurn_10 hl (by decide) rfl (fun ls hl => ?_)
    refine lv_iload_n hx hb dX7_laterTurn_12 rfl (lv_at hl 5 rfl) ?_
    refine lv_istore (lv' := [(7, .int a4), (6, .int a3), (5, .int a2), (0, .int a1), (1, .int a2), (2, .int a3), (3, .int a4), (4, .int a5)]) hx hb dX7_laterTurn_13 hl (by decide) rfl (fun ls hl => ?_)
    refine lv_iload hx hb dX7_laterTurn_15 (lv_at hl 7 rfl) ?_
    refine lv_istore (lv' := [(8, .int a5), (7, .int a4), (6, .int a3), (5, .int a2), (0, .int a1), (1, .int a2), (2, .int a3), (3, .int a4), (4, .int a5)]) hx hb dX7_laterTurn_17 hl (by decide) rfl (fun ls hl => ?_)
    have J19 : ∀ (n : Nat) (j19l8 : Int32) (j19l7 : Int32) (j19l6 : Int32) (j19l5 : Int32) (H : Heap) (locs : List Loc) (ls : Array Slot), j19l8.toInt - (-2147483649 : Int) ≤ (n : Int) → (0 : Int) ≤ j19l7.toInt → j19l7.toInt ≤ (8 : Int) → (0 : Int) ≤ j19l6.toInt → j19l6.toInt ≤ (8 : Int) → (0 : Int) ≤ j19l5.toInt → j19l5.toInt ≤ (8 : Int) → va_P (dC, dI) vwCl [] H → va_D A [] → va_S A s.heap H locs → lv_has ls 9 [(0, .int a1), (5, .int j19l5), (6, .int j19l6), (7, .int j19l7), (8, .int j19l8)] → K H locs (F0 m 19 ls []) := by
      intro n
      induction n with
      | zero =>
        intro j19l8 j19l7 j19l6 j19l5 H locs ls hm bj19l7_l bj19l7_u bj19l6_l bj19l6_u bj19l5_l bj19l5_u hP hD hS hl
        have h8 := ai_min j19l8
        have h9 := ai_max j19l8
        exact absurd hm (by omega)
      | succ n ih19 =>
        intro j19l8 j19l7 j19l6 j19l5 H locs ls hm bj19l7_l bj19l7_u bj19l6_l bj19l6_u bj19l5_l bj19l5_u hP hD hS hl
        refine (hK0 _ _ _).mpr ?_
        have hm19 := hm
        refine lv_iload hx hb dX7_laterTurn_19 (lv_at hl 4 rfl) ?_
        refine lv_if_le (tgt := 74) hx hb dX7_laterTurn_21 (by decide) (fun c21 => ?_) (fun c21 => ?_)
        · have gc21 := ai_le c21
          have u21t_j19l8 : j19l8.toInt ≤ (0 : Int) := Int.le_trans gc21 zq6
          refine lv_iload hx hb dX7_laterTurn_74 (lv_at hl 3 rfl) ?_
          exact W.iret (v := j19l7) hx hb hr (fun t ht hW => ⟨⟨j19l7, (), rfl, ⟨bj19l7_l, bj19l7_u⟩, by rw [ht]; exact hP, va_K.moved hW.alike hK, hD⟩, hS.F ht⟩) hS.2.2 dX7_laterTurn_76
        · have gc21 := ai_nle c21
          have l21f_j19l8 : (1 : Int) ≤ j19l8.toInt := ai_ltlo gc21 zq5
          refine lv_iload hx hb dX7_laterTurn_24 (lv_at hl 4 rfl) ?_
          refine lv_iconst (v := 1) hx hb dX7_laterTurn_26 zk_iconst_1 ?_
          refine lv_iand hx hb dX7_laterTurn_27 ?_
          refine lv_topi (fun x27 ex27 => ?_)
          refine lv_iconst (v := 1) hx hb dX7_laterTurn_28 zk_iconst_1 ?_
          have J44 : ∀ (j44l7 : Int32) (H : Heap) (locs : List Loc) (ls : Array Slot), (0 : Int) ≤ j44l7.toInt → j44l7.toInt ≤ (8 : Int) → va_P (dC, dI) vwCl [] H → va_D A [] → va_S A s.heap H locs → lv_has ls 9 [(0, .int a1), (5, .int j19l5), (6, .int j19l6), (7, .int j44l7), (8, .int j19l8)] → K H locs (F0 m 44 ls []) := by
            intro j44l7 H locs ls  bj44l7_l bj44l7_u hP hD hS hl
            refine (hK0 _ _ _).mpr ?_
            refine lv_iload hx hb dX7_laterTurn_44 (lv_at hl 2 rfl) ?_
            refine lv_iload hx hb dX7_laterTurn_46 (lv_at hl 1 rfl) ?_
            refine lv_imul hx hb dX7_laterTurn_48 ?_
            refine lv_topi (fun x48 ex48 => ?_)
            have qx48 : x48.toInt = j19l6.toInt * j19l5.toInt ∧ (0 : Int) ≤ x48.toInt ∧ x48.toInt ≤ 64 := ai_mul ex48 ⟨bj19l6_l, bj19l6_u⟩ ⟨bj19l5_l, bj19l5_u⟩ (by decide) (by decide) zq18
            refine lv_iload hx hb dX7_laterTurn_49 (lv_at hl 2 rfl) ?_
            refine lv_iadd hx hb dX7_laterTurn_51 ?_
            refine lv_topi (fun x51 ex51 => ?_)
            have qx51 : x51.toInt = x48.toInt + j19l6.toInt := ai_add ex51 ⟨qx48.2.1, qx48.2.2⟩ ⟨bj19l6_l, bj19l6_u⟩ (by decide) (by decide)
            have bx51 : (0 : Int) ≤ x51.toInt ∧ x51.toInt ≤ 72 := ⟨by rw [qx51]; exact Int.add_le_add qx48.2.1 bj19l6_l, by rw [qx51]; exact Int.add_le_add qx48.2.2 bj19l6_u⟩
            refine lv_iload_n hx hb dX7_laterTurn_52 rfl (lv_at hl 0 rfl) ?_
            refine lv_irem hx hb dX7_laterTurn_53 (ai_nz l1t_a1 (by decide)) ?_
            refine lv_topi (fun x53 ex53 => ?_)
            have qx53 := ai_rem2 ex53 bx51.1 (Int.lt_of_lt_of_le zq19 l1t_a1) ba1_u
            refine lv_istore (lv' := [(6, .int x53), (0, .int a1), (5, .int j19l5), (7, .int j44l7), (8, .int j19l8)]) hx hb dX7_laterTurn_54 hl (by decide) rfl (fun ls hl => ?_)
            refine lv_iload hx hb dX7_laterTurn_56 (lv_at hl 2 rfl) ?_
            refine lv_iload hx hb dX7_laterTurn_58 (lv_at hl 2 rfl) ?_
            refine lv_imul hx hb dX7_laterTurn_60 ?_
            refine lv_topi (fun x60 ex60 => ?_)
            have qx60 : x60.toInt = j19l5.toInt * j19l5.toInt ∧ (0 : Int) ≤ x60.toInt ∧ x60.toInt ≤ 64 := ai_mul ex60 ⟨bj19l5_l, bj19l5_u⟩ ⟨bj19l5_l, bj19l5_u⟩ (by decide) (by decide) zq18
            refine lv_iload_n hx hb dX7_laterTurn_61 rfl (lv_at hl 1 rfl) ?_
            refine lv_irem hx hb dX7_laterTurn_62 (ai_nz l1t_a1 (by decide)) ?_
            refine lv_topi (fun x62 ex62 => ?_)
            have qx62 := ai_rem2 ex62 qx60.2.1 (Int.lt_of_lt_of_le zq19 l1t_a1) ba1_u
            refine lv_istore (lv' := [(5, .int x62), (6, .int x53), (0, .int a1), (7, .int j44l7), (8, .int j19l8)]) hx hb dX7_laterTurn_63 hl (by decide) rfl (fun ls hl => ?_)
            refine lv_iload hx hb dX7_laterTurn_65 (lv_at hl 4 rfl) ?_
            refine lv_iconst (v := 1) hx hb dX7_laterTurn_67 zk_iconst_1 ?_
            refine lv_ishr hx hb dX7_laterTurn_68 ?_
            refine lv_topi (fun x68 ex68 => ?_)
            have qx68 : x68.toInt = j19l8.toInt / 2 := ai_shr1 ex68
            have bx68 : (0 : Int) ≤ x68.toInt ∧ x68.toInt ≤ 1073741823 := by have h1 : (1 : Int) ≤ j19l8.toInt := l21f_j19l8; have h2 : j19l8.toInt ≤ (2147483647 : Int) := (ai_max j19l8); omega
            refine lv_istore (lv' := [(8, .int x68), (5, .int x62), (6, .int x53), (0, .int a1), (7, .int j44l7)]) hx hb dX7_laterTurn_69 hl (by decide) rfl (fun ls hl => ?_)
            refine lv_goto (tgt := 19) hx hb dX7_laterTurn_71 (by decide) ?_
            exact (hK0 _ _ _).mp (ih19 x68 j44l7 x53 x62 _ _ _ (by have h0 := qx68; omega) bj44l7_l bj44l7_u qx53.2.1 qx53.2.2 qx62.2.1 qx62.2.2 hP hD hS (lv_sub hl [3, 1, 2, 4, 0] rfl))
          refine lv_icmp_ne (tgt := 44) hx hb dX7_laterTurn_29 (by decide) (fun c29 => ?_) (fun c29 => ?_)
          · have gc29 := ai_ne c29
            exact (hK0 _ _ _).mp (J44 j19l7 _ _ _  bj19l7_l bj19l7_u hP hD hS (lv_sub hl [0, 1, 2, 3, 4] rfl))
          · have gc29 := ai_eq c29
            have u29f_x27 : x27.toInt ≤ (1 : Int) := Int.le_trans (Int.le_of_eq gc29) zq0
            have l29f_x27 : (1 : Int) ≤ x27.toInt := Int.le_trans zq1 (Int.le_of_eq gc29.symm)
            refine lv_iload hx hb dX7_laterTurn_32 (lv_at hl 3 rfl) ?_
            refine lv_iload hx hb dX7_laterTurn_34 (lv_at hl 1 rfl) ?_
            refine lv_imul hx hb dX7_laterTurn_36 ?_
            refine lv_topi (fun x36 ex36 => ?_)
            have qx36 : x36.toInt = j19l7.toInt * j19l5.toInt ∧ (0 : Int) ≤ x36.toInt ∧ x36.toInt ≤ 64 := ai_mul ex36 ⟨bj19l7_l, bj19l7_u⟩ ⟨bj19l5_l, bj19l5_u⟩ (by decide) (by decide) zq18
            refine lv_iload hx hb dX7_laterTurn_37 (lv_at hl 2 rfl) ?_
            refine lv_iadd hx hb dX7_laterTurn_39 ?_
            refine lv_topi (fun x39 ex39 => ?_)
            have qx39 : x39.toInt = x36.toInt + j19l6.toInt := ai_add ex39 ⟨qx36.2.1, qx36.2.2⟩ ⟨bj19l6_l, bj19l6_u⟩ (by decide) (by decide)
            have bx39 : (0 : Int) ≤ x39.toInt ∧ x39.toInt ≤ 72 := ⟨by rw [qx39]; exact Int.add_le_add qx36.2.1 bj19l6_l, by rw [qx39]; exact Int.add_le_add qx36.2.2 bj19l6_u⟩
            refine lv_iload_n hx hb dX7_laterTurn_40 rfl (lv_at hl 0 rfl) ?_
            refine lv_irem hx hb dX7_laterTurn_41 (ai_nz l1t_a1 (by decide)) ?_
            refine lv_topi (fun x41 ex41 => ?_)
            have qx41 := ai_rem2 ex41 bx39.1 (Int.lt_of_lt_of_le zq19 l1t_a1) ba1_u
            refine lv_istore (lv' := [(7, .int x41), (0, .int a1), (5, .int j19l5), (6, .int j19l6), (8, .int j19l8)]) hx hb dX7_laterTurn_42 hl (by decide) rfl (fun ls hl => ?_)
            exact (hK0 _ _ _).mp (J44 x41 _ _ _  qx41.2.1 qx41.2.2 hP hD hS (lv_sub hl [1, 2, 3, 0, 4] rfl))
    exact (hK0 _ _ _).mp (J19 4294967296 a5 a4 a3 a2 _ _ _ (by have h1 : (-2147483648 : Int) ≤ a5.toInt := (ai_min a5); have h2 : a5.toInt ≤ (2147483647 : Int) := (ai_max a5); omega) ba4_l ba4_u ba3_l ba3_u ba2_l ba2_u hP hD hS (lv_sub hl [4, 3, 2, 1, 0] rfl))
  · have gc1 := ai_nlt c1
    have u1f_a1 : a1.toInt ≤ (0 : Int) := Int.le_trans gc1 zq6
    refine lv_iconst (v := 0) hx hb dX7_laterTurn_4 zk_iconst_0 ?_
    exact W.iret (v := 0) hx hb hr (fun t ht hW => ⟨⟨0, (), rfl, ⟨zq5, (Int.le_trans zq6 zq20)⟩, by rw [ht]; exact hP, va_K.moved hW.alike hK, hD⟩, hS.F ht⟩) hS.2.2 dX7_laterTurn_5

set_option maxHeartbeats 4000000 in
set_option maxRecDepth 100000 in
theorem c_X7_laterTurn (l : Launch) (dC : Nat → ClassId) (dI : Nat → Nat → Nat) (sz : Nat) (a1 : Int32) (a2 : Int32) (a3 : Int32) (a4 : Int32) (a5 : Int32) (ba1_l : (0 : Int) ≤ a1.toInt) (ba1_u : a1.toInt ≤ (9 : Int)) (ba2_l : (0 : Int) ≤ a2.toInt) (ba2_u : a2.toInt ≤ (9 : Int)) (ba3_l : (0 : Int) ≤ a3.toInt) (ba3_u : a3.toInt ≤ (9 : Int)) (ba4_l : (0 : Int) ≤ a4.toInt) (ba4_u : a4.toInt ≤ (9 : Int)) : zm l yX7_laterTurn wsX7_laterTurn ({ frames := 0, cells := 0, slots := 0, locals := 0 }) [.int a1, .int a2, .int a3, .int a4, .int a5] dC dI sz [] [] (fun A _ => True) (fun A => va_Qi (fun (r : Int32) (_ : Unit) => (0 : Int) ≤ r.toInt ∧ r.toInt ≤ (9 : Int)) (fun (_ : Unit) (t : State) => ax_B dC dI A [] [] t) A) := by
  refine zh (cc := cX7_laterTurn) (maxL := 9) (ret := (some .int)) zn_RX7 rfl (Nat.le_of_ble_eq_true rfl) (fun p e s m below meth c A ls hx hb hml hr hts (hown : s.vm.findClass RX7 = some m.cls) hlocks hA hS hP hK hD hE (hl : lv_has ls 9 [(0, .int a1), (1, .int a2), (2, .int a3), (3, .int a4), (4, .int a5)]) => ?_)
  refine ai_open (fun K hK0 => ?_)
  refine (hK0 _ _ _).mpr ?_
  refine lv_iload_n hx hb dX7_laterTurn_0 rfl (lv_at hl 0 rfl) ?_
  refine lv_if_gt (tgt := 6) hx hb dX7_laterTurn_1 (by decide) (fun c1 => ?_) (fun c1 => ?_)
  · have gc1 := ai_lt c1
    have l1t_a1 : (1 : Int) ≤ a1.toInt := ai_ltlo gc1 zq5
    refine lv_iload_n hx hb dX7_laterTurn_6 rfl (lv_at hl 1 rfl) ?_
    refine lv_istore (lv' := [(5, .int a2), (0, .int a1), (1, .int a2), (2, .int a3), (3, .int a4), (4, .int a5)]) hx hb dX7_laterTurn_7 hl (by decide) rfl (fun ls hl => ?_)
    refine lv_iload_n hx hb dX7_laterTurn_9 rfl (lv_at hl 3 rfl) ?_
    refine lv_istore (lv' := [(6, .int a3), (5, .int a2), (0, .int a1), (1, .int a2), (2, .int a3), (3, .int a4), (4, .int a5)]) hx hb dX7_laterTurn_10 hl (by decide) rfl (fun ls hl => ?_)
    refine lv_iload_n hx hb dX7_laterTurn_12 rfl (lv_at hl 5 rfl) ?_
    refine lv_istore (lv' := [(7, .int a4), (6, .int a3), (5, .int a2), (0, .int a1), (1, .int a2), (2, .int a3), (3, .int a4), (4, .int a5)]) hx hb dX7_laterTurn_13 hl (by decide) rfl (fun ls hl => ?_)
    refine lv_iload hx hb dX7_laterTurn_15 (lv_at hl 7 rfl) ?_
    refine lv_istore (lv' := [(8, .int a5), (7, .int a4), (6, .int a3), (5, .int a2), (0, .int a1), (1, .int a2), (2, .int a3), (3, .int a4), (4, .int a5)]) hx hb dX7_laterTurn_17 hl (by decide) rfl (fun ls hl => ?_)
    have J19 : ∀ (n : Nat) (j19l8 : Int32) (j19l7 : Int32) (j19l6 : Int32) (j19l5 : Int32) (H : Heap) (locs : List Loc) (ls : Array Slot), j19l8.toInt - (-2147483649 : Int) ≤ (n : Int) → (0 : Int) ≤ j19l7.toInt → j19l7.toInt ≤ (9 : Int) → (0 : Int) ≤ j19l6.toInt → j19l6.toInt ≤ (9 : Int) → (0 : Int) ≤ j19l5.toInt → j19l5.toInt ≤ (9 : Int) → va_P (dC, dI) vwCl [] H → va_D A [] → va_S A s.heap H locs → lv_has ls 9 [(0, .int a1), (5, .int j19l5), (6, .int j19l6), (7, .int j19l7), (8, .int j19l8)] → K H locs (F0 m 19 ls []) := by
      intro n
      induction n with
      | zero =>
        intro j19l8 j19l7 j19l6 j19l5 H locs ls hm bj19l7_l bj19l7_u bj19l6_l bj19l6_u bj19l5_l bj19l5_u hP hD hS hl
        have h8 := ai_min j19l8
        have h9 := ai_max j19l8
        exact absurd hm (by omega)
      | succ n ih19 =>
        intro j19l8 j19l7 j19l6 j19l5 H locs ls hm bj19l7_l bj19l7_u bj19l6_l bj19l6_u bj19l5_l bj19l5_u hP hD hS hl
        refine (hK0 _ _ _).mpr ?_
        have hm19 := hm
        refine lv_iload hx hb dX7_laterTurn_19 (lv_at hl 4 rfl) ?_
        refine lv_if_le (tgt := 74) hx hb dX7_laterTurn_21 (by decide) (fun c21 => ?_) (fun c21 => ?_)
        · have gc21 := ai_le c21
          have u21t_j19l8 : j19l8.toInt ≤ (0 : Int) := Int.le_trans gc21 zq6
          refine lv_iload hx hb dX7_laterTurn_74 (lv_at hl 3 rfl) ?_
          exact W.iret (v := j19l7) hx hb hr (fun t ht hW => ⟨⟨j19l7, (), rfl, ⟨bj19l7_l, bj19l7_u⟩, by rw [ht]; exact hP, va_K.moved hW.alike hK, hD⟩, hS.F ht⟩) hS.2.2 dX7_laterTurn_76
        · have gc21 := ai_nle c21
          have l21f_j19l8 : (1 : Int) ≤ j19l8.toInt := ai_ltlo gc21 zq5
          refine lv_iload hx hb dX7_laterTurn_24 (lv_at hl 4 rfl) ?_
          refine lv_iconst (v := 1) hx hb dX7_laterTurn_26 zk_iconst_1 ?_
          refine lv_iand hx hb dX7_laterTurn_27 ?_
          refine lv_topi (fun x27 ex27 => ?_)
          refine lv_iconst (v := 1) hx hb dX7_laterTurn_28 zk_iconst_1 ?_
          have J44 : ∀ (j44l7 : Int32) (H : Heap) (locs : List Loc) (ls : Array Slot), (0 : Int) ≤ j44l7.toInt → j44l7.toInt ≤ (9 : Int) → va_P (dC, dI) vwCl [] H → va_D A [] → va_S A s.heap H locs → lv_has ls 9 [(0, .int a1), (5, .int j19l5), (6, .int j19l6), (7, .int j44l7), (8, .int j19l8)] → K H locs (F0 m 44 ls []) := by
            intro j44l7 H locs ls  bj44l7_l bj44l7_u hP hD hS hl
            refine (hK0 _ _ _).mpr ?_
            refine lv_iload hx hb dX7_laterTurn_44 (lv_at hl 2 rfl) ?_
            refine lv_iload hx hb dX7_laterTurn_46 (lv_at hl 1 rfl) ?_
            refine lv_imul hx hb dX7_laterTurn_48 ?_
            refine lv_topi (fun x48 ex48 => ?_)
            have qx48 : x48.toInt = j19l6.toInt * j19l5.toInt ∧ (0 : Int) ≤ x48.toInt ∧ x48.toInt ≤ 81 := ai_mul ex48 ⟨bj19l6_l, bj19l6_u⟩ ⟨bj19l5_l, bj19l5_u⟩ (by decide) (by decide) zq21
            refine lv_iload hx hb dX7_laterTurn_49 (lv_at hl 2 rfl) ?_
            refine lv_iadd hx hb dX7_laterTurn_51 ?_
            refine lv_topi (fun x51 ex51 => ?_)
            have qx51 : x51.toInt = x48.toInt + j19l6.toInt := ai_add ex51 ⟨qx48.2.1, qx48.2.2⟩ ⟨bj19l6_l, bj19l6_u⟩ (by decide) (by decide)
            have bx51 : (0 : Int) ≤ x51.toInt ∧ x51.toInt ≤ 90 := ⟨by rw [qx51]; exact Int.add_le_add qx48.2.1 bj19l6_l, by rw [qx51]; exact Int.add_le_add qx48.2.2 bj19l6_u⟩
            refine lv_iload_n hx hb dX7_laterTurn_52 rfl (lv_at hl 0 rfl) ?_
            refine lv_irem hx hb dX7_laterTurn_53 (ai_nz l1t_a1 (by decide)) ?_
            refine lv_topi (fun x53 ex53 => ?_)
            have qx53 := ai_rem2 ex53 bx51.1 (Int.lt_of_lt_of_le zq19 l1t_a1) ba1_u
            refine lv_istore (lv' := [(6, .int x53), (0, .int a1), (5, .int j19l5), (7, .int j44l7), (8, .int j19l8)]) hx hb dX7_laterTurn_54 hl (by decide) rfl (fun ls hl => ?_)
            refine lv_iload hx hb dX7_laterTurn_56 (lv_at hl 2 rfl) ?_
            refine lv_iload hx hb dX7_laterTurn_58 (lv_at hl 2 rfl) ?_
            refine lv_imul hx hb dX7_laterTurn_60 ?_
            refine lv_topi (fun x60 ex60 => ?_)
            have qx60 : x60.toInt = j19l5.toInt * j19l5.toInt ∧ (0 : Int) ≤ x60.toInt ∧ x60.toInt ≤ 81 := ai_mul ex60 ⟨bj19l5_l, bj19l5_u⟩ ⟨bj19l5_l, bj19l5_u⟩ (by decide) (by decide) zq21
            refine lv_iload_n hx hb dX7_laterTurn_61 rfl (lv_at hl 1 rfl) ?_
            refine lv_irem hx hb dX7_laterTurn_62 (ai_nz l1t_a1 (by decide)) ?_
            refine lv_topi (fun x62 ex62 => ?_)
            have qx62 := ai_rem2 ex62 qx60.2.1 (Int.lt_of_lt_of_le zq19 l1t_a1) ba1_u
            refine lv_istore (lv' := [(5, .int x62), (6, .int x53), (0, .int a1), (7, .int j44l7), (8, .int j19l8)]) hx hb dX7_laterTurn_63 hl (by decide) rfl (fun ls hl => ?_)
            refine lv_iload hx hb dX7_laterTurn_65 (lv_at hl 4 rfl) ?_
            refine lv_iconst (v := 1) hx hb dX7_laterTurn_67 zk_iconst_1 ?_
            refine lv_ishr hx hb dX7_laterTurn_68 ?_
            refine lv_topi (fun x68 ex68 => ?_)
            have qx68 : x68.toInt = j19l8.toInt / 2 := ai_shr1 ex68
            have bx68 : (0 : Int) ≤ x68.toInt ∧ x68.toInt ≤ 1073741823 := by have h1 : (1 : Int) ≤ j19l8.toInt := l21f_j19l8; have h2 : j19l8.toInt ≤ (2147483647 : Int) := (ai_max j19l8); omega
            refine lv_istore (lv' := [(8, .int x68), (5, .int x62), (6, .int x53), (0, .int a1), (7, .int j44l7)]) hx hb dX7_laterTurn_69 hl (by decide) rfl (fun ls hl => ?_)
            refine lv_goto (tgt := 19) hx hb dX7_laterTurn_71 (by decide) ?_
            exact (hK0 _ _ _).mp (ih19 x68 j44l7 x53 x62 _ _ _ (by have h0 := qx68; omega) bj44l7_l bj44l7_u qx53.2.1 (Int.le_trans qx53.2.2 zq22) qx62.2.1 (Int.le_trans qx62.2.2 zq22) hP hD hS (lv_sub hl [3, 1, 2, 4, 0] rfl))
          refine lv_icmp_ne (tgt := 44) hx hb dX7_laterTurn_29 (by decide) (fun c29 => ?_) (fun c29 => ?_)
          · have gc29 := ai_ne c29
            exact (hK0 _ _ _).mp (J44 j19l7 _ _ _  bj19l7_l bj19l7_u hP hD hS (lv_sub hl [0, 1, 2, 3, 4] rfl))
          · have gc29 := ai_eq c29
            have u29f_x27 : x27.toInt ≤ (1 : Int) := Int.le_trans (Int.le_of_eq gc29) zq0
            have l29f_x27 : (1 : Int) ≤ x27.toInt := Int.le_trans zq1 (Int.le_of_eq gc29.symm)
            refine lv_iload hx hb dX7_laterTurn_32 (lv_at hl 3 rfl) ?_
            refine lv_iload hx hb dX7_laterTurn_34 (lv_at hl 1 rfl) ?_
            refine lv_imul hx hb dX7_laterTurn_36 ?_
            refine lv_topi (fun x36 ex36 => ?_)
            have qx36 : x36.toInt = j19l7.toInt * j19l5.toInt ∧ (0 : Int) ≤ x36.toInt ∧ x36.toInt ≤ 81 := ai_mul ex36 ⟨bj19l7_l, bj19l7_u⟩ ⟨bj19l5_l, bj19l5_u⟩ (by decide) (by decide) zq21
            refine lv_iload hx hb dX7_laterTurn_37 (lv_at hl 2 rfl) ?_
            refine lv_iadd hx hb dX7_laterTurn_39 ?_
            refine lv_topi (fun x39 ex39 => ?_)
            have qx39 : x39.toInt = x36.toInt + j19l6.toInt := ai_add ex39 ⟨qx36.2.1, qx36.2.2⟩ ⟨bj19l6_l, bj19l6_u⟩ (by decide) (by decide)
            have bx39 : (0 : Int) ≤ x39.toInt ∧ x39.toInt ≤ 90 := ⟨by rw [qx39]; exact Int.add_le_add qx36.2.1 bj19l6_l, by rw [qx39]; exact Int.add_le_add qx36.2.2 bj19l6_u⟩
            refine lv_iload_n hx hb dX7_laterTurn_40 rfl (lv_at hl 0 rfl) ?_
            refine lv_irem hx hb dX7_laterTurn_41 (ai_nz l1t_a1 (by decide)) ?_
            refine lv_topi (fun x41 ex41 => ?_)
            have qx41 := ai_rem2 ex41 bx39.1 (Int.lt_of_lt_of_le zq19 l1t_a1) ba1_u
            refine lv_istore (lv' := [(7, .int x41), (0, .int a1), (5, .int j19l5), (6, .int j19l6), (8, .int j19l8)]) hx hb dX7_laterTurn_42 hl (by decide) rfl (fun ls hl => ?_)
            exact (hK0 _ _ _).mp (J44 x41 _ _ _  qx41.2.1 (Int.le_trans qx41.2.2 zq22) hP hD hS (lv_sub hl [1, 2, 3, 0, 4] rfl))
    exact (hK0 _ _ _).mp (J19 4294967296 a5 a4 a3 a2 _ _ _ (by have h1 : (-2147483648 : Int) ≤ a5.toInt := (ai_min a5); have h2 : a5.toInt ≤ (2147483647 : Int) := (ai_max a5); omega) ba4_l ba4_u ba3_l ba3_u ba2_l ba2_u hP hD hS (lv_sub hl [4, 3, 2, 1, 0] rfl))
  · have gc1 := ai_nlt c1
    have u1f_a1 : a1.toInt ≤ (0 : Int) := Int.le_trans gc1 zq6
    refine lv_iconst (v := 0) hx hb dX7_laterTurn_4 zk_iconst_0 ?_
    exact W.iret (v := 0) hx hb hr (fun t ht hW => ⟨⟨0, (), rfl, ⟨zq5, (Int.le_trans zq6 zq7)⟩, by rw [ht]; exact hP, va_K.moved hW.alike hK, hD⟩, hS.F ht⟩) hS.2.2 dX7_laterTurn_5

set_option maxHeartbeats 4000000 in
set_option maxRecDepth 100000 in
theorem c_X0_aliveByLaw (l : Launch) (dC : Nat → ClassId) (dI : Nat → Nat → Nat) (sz : Nat) (a0 : Nat) (a1 : Int32) (a2 : Int32) (a0_0 : Int32) (a0_1 : Int32) (a0g_2 a0g_3 a0g_4 a0g_5 a0g_6 a0g_7 a0g_8 a0g_9 a0g_10 a0g_11 a0g_12 a0g_13 a0g_14 : Value) (ba1_l : (0 : Int) ≤ a1.toInt) (ba1_u : a1.toInt ≤ (999 : Int)) (ba2_l : (0 : Int) ≤ a2.toInt) (ba2_u : a2.toInt ≤ (999 : Int)) (ba0_0_l : (0 : Int) ≤ a0_0.toInt) (ba0_0_u : a0_0.toInt ≤ (9 : Int)) : zm l yX0_aliveByLaw wsX0_aliveByLaw ({ frames := 1, cells := 0, slots := 0, locals := 28 }) [.ref a0, .int a1, .int a2] dC dI sz [(a0, .inr (0, [.int a0_0, .int a0_1, a0g_2, a0g_3, a0g_4, a0g_5, a0g_6, a0g_7, a0g_8, a0g_9, a0g_10, a0g_11, a0g_12, a0g_13, a0g_14]))] [] (fun A U => va_Nw (.methodLinkNest RX0 72 yX7_laterTurn RX7) U) (fun A => va_Qi (fun (r : Int32) (_ : Unit) => (0 : Int) ≤ r.toInt ∧ r.toInt ≤ (9 : Int)) (fun (_ : Unit) (t : State) => ax_B dC dI A [(a0, .inr (0, [.int a0_0, .int a0_1, a0g_2, a0g_3, a0g_4, a0g_5, a0g_6, a0g_7, a0g_8, a0g_9, a0g_10, a0g_11, a0g_12, a0g_13, a0g_14]))] [] t) A) := by
  refine zh (cc := cX0_aliveByLaw) (maxL := 4) (ret := (some .int)) zn_RX0 rfl (Nat.le_of_ble_eq_true rfl) (fun p e s m below meth c A ls hx hb hml hr hts (hown : s.vm.findClass RX0 = some m.cls) hlocks hA hS hP hK hD hE (hl : lv_has ls 4 [(0, .ref a0), (1, .int a1), (2, .int a2)]) => ?_)
  have hE0 := hE
  refine lv_aload_n hx hb dX0_aliveByLaw_0 rfl (lv_at hl 0 rfl) ?_
  refine va_get (D := (dC, dI)) (ci := 0) (v := .int a0_1) (C := RX0) (T := TX0) (N := 15) hx hb hts zi_X0_aliveByLaw_0 hown hK hP 0 rfl rfl 1 (by decide) (hts (.fieldLink RX0 48 "WaxTurns$Hall" "span" "I") (List.mem_cons_of_mem _ (List.mem_append_left _ (List.mem_of_getElem? (i := 0) rfl)))) (fun _ h9 => h9) rfl dX0_aliveByLaw_1 ?_
  refine lv_if_gt (tgt := 11) hx hb dX0_aliveByLaw_4 (by decide) (fun c4 => ?_) (fun c4 => ?_)
  · have gc4 := ai_lt c4
    have l4t_a0_1 : (1 : Int) ≤ a0_1.toInt := ai_ltlo gc4 zq5
    refine lv_iload_n hx hb dX0_aliveByLaw_11 rfl (lv_at hl 2 rfl) ?_
    refine lv_aload_n hx hb dX0_aliveByLaw_12 rfl (lv_at hl 0 rfl) ?_
    refine va_get (D := (dC, dI)) (ci := 0) (v := .int a0_1) (C := RX0) (T := TX0) (N := 15) hx hb hts zi_X0_aliveByLaw_0 hown hK hP 0 rfl rfl 1 (by decide) (hts (.fieldLink RX0 48 "WaxTurns$Hall" "span" "I") (List.mem_cons_of_mem _ (List.mem_append_left _ (List.mem_of_getElem? (i := 0) rfl)))) (fun _ h9 => h9) rfl dX0_aliveByLaw_13 ?_
    refine lv_idiv hx hb dX0_aliveByLaw_16 (ai_nz l4t_a0_1 (by decide)) ?_
    refine lv_topi (fun x16 ex16 => ?_)
    have qx16 := ai_div ex16 ⟨ba2_l, ba2_u⟩ (Int.lt_of_lt_of_le zq19 l4t_a0_1)
    refine lv_istore_n (lv' := [(3, .int x16), (0, .ref a0), (1, .int a1), (2, .int a2)]) hx hb dX0_aliveByLaw_17 rfl hl (by decide) rfl (fun ls hl => ?_)
    refine lv_aload_n hx hb dX0_aliveByLaw_18 rfl (lv_at hl 1 rfl) ?_
    refine va_get (D := (dC, dI)) (ci := 0) (v := .int a0_0) (C := RX0) (T := TX0) (N := 15) hx hb hts zi_X0_aliveByLaw_0 hown hK hP 0 rfl rfl 0 (by decide) (hts (.fieldLink RX0 31 "WaxTurns$Hall" "figures" "I") (List.mem_cons_of_mem _ (List.mem_append_left _ (List.mem_of_getElem? (i := 1) rfl)))) (fun _ h9 => h9) rfl dX0_aliveByLaw_19 ?_
    refine lv_iload_n hx hb dX0_aliveByLaw_22 rfl (lv_at hl 2 rfl) ?_
    refine lv_bipush (v := 100) hx hb dX0_aliveByLaw_23 zk_bipush_100 ?_
    refine lv_idiv hx hb dX0_aliveByLaw_25 (by decide +kernel) ?_
    refine lv_topi (fun x25 ex25 => ?_)
    have qx25 := ai_div ex25 ⟨ba1_l, ba1_u⟩ (Int.lt_of_lt_of_le zq23 zq24)
    have u25z_x25 : x25.toInt ≤ (9 : Int) := (by have h1 := qx25.1; have h2 := ba1_u; have h3 : (100 : Int32).toInt = 100 := (by decide); rw [h3] at h1; omega)
    refine lv_iload_n hx hb dX0_aliveByLaw_26 rfl (lv_at hl 2 rfl) ?_
    refine lv_bipush (v := 10) hx hb dX0_aliveByLaw_27 zk_bipush_10 ?_
    refine lv_idiv hx hb dX0_aliveByLaw_29 (by decide +kernel) ?_
    refine lv_topi (fun x29 ex29 => ?_)
    have qx29 := ai_div ex29 ⟨ba1_l, ba1_u⟩ (Int.lt_of_lt_of_le zq25 zq26)
    have u29z_x29 : x29.toInt ≤ (99 : Int) := (by have h1 := qx29.1; have h2 := ba1_u; have h3 : (10 : Int32).toInt = 10 := (by decide); rw [h3] at h1; omega)
    refine lv_bipush (v := 10) hx hb dX0_aliveByLaw_30 zk_bipush_10 ?_
    refine lv_irem hx hb dX0_aliveByLaw_32 (by decide +kernel) ?_
    refine lv_topi (fun x32 ex32 => ?_)
    have qx32 := ai_rem2 ex32 qx29.2.1 (Int.lt_of_lt_of_le zq25 zq26) zq27
    have wx32 : x32.toInt = x29.toInt % 10 := qx32.1
    refine lv_iload_n hx hb dX0_aliveByLaw_33 rfl (lv_at hl 2 rfl) ?_
    refine lv_bipush (v := 10) hx hb dX0_aliveByLaw_34 zk_bipush_10 ?_
    refine lv_irem hx hb dX0_aliveByLaw_36 (by decide +kernel) ?_
    refine lv_topi (fun x36 ex36 => ?_)
    have qx36 := ai_rem2 ex36 ba1_l (Int.lt_of_lt_of_le zq25 zq26) zq27
    have wx36 : x36.toInt = a1.toInt % 10 := qx36.1
    refine lv_iload_n hx hb dX0_aliveByLaw_37 rfl (lv_at hl 0 rfl) ?_
    refine va_calli (va_runSN (As := [.int a0_0, .int x25, .int x32, .int x36, .int x16]) (rest := []) ⟨hx, hb, hml, hown, hts⟩ (c_X7_laterTurn l dC dI s.heap.size a0_0 x25 x32 x36 x16 ba0_0_l ba0_0_u qx25.2.1 u25z_x25 qx32.2.1 qx32.2.2 qx36.2.1 qx36.2.2) ⟨va_cnB 5 hts gX0_aliveByLaw_X7_laterTurn_n72 rfl rfl rfl hE0 (hts (.initialized RX7) (List.mem_cons_of_mem _ (List.mem_append_left _ (List.mem_of_getElem? (i := 3) rfl)))) zd_X7_laterTurn.2 ⟨Nat.le_of_ble_eq_true rfl, Nat.le_of_ble_eq_true rfl⟩, (hts (.static yX7_laterTurn) (List.mem_cons_of_mem _ (List.mem_append_left _ (List.mem_of_getElem? (i := 2) rfl)))), trivial⟩ ⟨ax_blind (fun _ _ _ _ _ => trivial), ax_pre (zp_P0 hP) (zp_K hK) (zp_D0 hD) (fun _ _ => trivial)⟩ rfl rfl hl.1 rfl (lv_room (Nat.le_of_ble_eq_true rfl)) dX0_aliveByLaw_38 ⟨Nat.le_of_ble_eq_true rfl, Nat.le_of_ble_eq_true rfl⟩) hS (fun q _ h => zp_F0 hD hS hA q h) (zp_F0 hD hS hA) (fun r38 u t H locs ht hvm hw hB hz1 hk1 hS1 => zo0 hB ht hP hD hk1 (zp_F0 hD hS hA) hS1 (fun hP hK1 hD hS => ?_))
    have hw : (0 : Int) ≤ r38.toInt ∧ r38.toInt ≤ (9 : Int) := hw
    obtain ⟨h38_0, h38_1⟩ := hw
    exact W.iret (v := r38) hx hb hr (fun t ht hW => ⟨⟨r38, (), rfl, ⟨h38_0, h38_1⟩, by rw [ht]; exact hP, va_K.moved hW.alike hK, hD⟩, hS.F ht⟩) hS.2.2 dX0_aliveByLaw_41
  · have gc4 := ai_nlt c4
    have u4f_a0_1 : a0_1.toInt ≤ (0 : Int) := Int.le_trans gc4 zq6
    refine lv_iconst (v := 0) hx hb dX0_aliveByLaw_7 zk_iconst_0 ?_
    refine lv_goto (tgt := 17) hx hb dX0_aliveByLaw_8 (by decide) ?_
    refine lv_istore_n (lv' := [(3, .int 0), (0, .ref a0), (1, .int a1), (2, .int a2)]) hx hb dX0_aliveByLaw_17 rfl hl (by decide) rfl (fun ls hl => ?_)
    refine lv_aload_n hx hb dX0_aliveByLaw_18 rfl (lv_at hl 1 rfl) ?_
    refine va_get (D := (dC, dI)) (ci := 0) (v := .int a0_0) (C := RX0) (T := TX0) (N := 15) hx hb hts zi_X0_aliveByLaw_0 hown hK hP 0 rfl rfl 0 (by decide) (hts (.fieldLink RX0 31 "WaxTurns$Hall" "figures" "I") (List.mem_cons_of_mem _ (List.mem_append_left _ (List.mem_of_getElem? (i := 1) rfl)))) (fun _ h9 => h9) rfl dX0_aliveByLaw_19 ?_
    refine lv_iload_n hx hb dX0_aliveByLaw_22 rfl (lv_at hl 2 rfl) ?_
    refine lv_bipush (v := 100) hx hb dX0_aliveByLaw_23 zk_bipush_100 ?_
    refine lv_idiv hx hb dX0_aliveByLaw_25 (by decide +kernel) ?_
    refine lv_topi (fun x25 ex25 => ?_)
    have qx25 := ai_div ex25 ⟨ba1_l, ba1_u⟩ (Int.lt_of_lt_of_le zq23 zq24)
    have u25z_x25 : x25.toInt ≤ (9 : Int) := (by have h1 := qx25.1; have h2 := ba1_u; have h3 : (100 : Int32).toInt = 100 := (by decide); rw [h3] at h1; omega)
    refine lv_iload_n hx hb dX0_aliveByLaw_26 rfl (lv_at hl 2 rfl) ?_
    refine lv_bipush (v := 10) hx hb dX0_aliveByLaw_27 zk_bipush_10 ?_
    refine lv_idiv hx hb dX0_aliveByLaw_29 (by decide +kernel) ?_
    refine lv_topi (fun x29 ex29 => ?_)
    have qx29 := ai_div ex29 ⟨ba1_l, ba1_u⟩ (Int.lt_of_lt_of_le zq25 zq26)
    have u29z_x29 : x29.toInt ≤ (99 : Int) := (by have h1 := qx29.1; have h2 := ba1_u; have h3 : (10 : Int32).toInt = 10 := (by decide); rw [h3] at h1; omega)
    refine lv_bipush (v := 10) hx hb dX0_aliveByLaw_30 zk_bipush_10 ?_
    refine lv_irem hx hb dX0_aliveByLaw_32 (by decide +kernel) ?_
    refine lv_topi (fun x32 ex32 => ?_)
    have qx32 := ai_rem2 ex32 qx29.2.1 (Int.lt_of_lt_of_le zq25 zq26) zq27
    have wx32 : x32.toInt = x29.toInt % 10 := qx32.1
    refine lv_iload_n hx hb dX0_aliveByLaw_33 rfl (lv_at hl 2 rfl) ?_
    refine lv_bipush (v := 10) hx hb dX0_aliveByLaw_34 zk_bipush_10 ?_
    refine lv_irem hx hb dX0_aliveByLaw_36 (by decide +kernel) ?_
    refine lv_topi (fun x36 ex36 => ?_)
    have qx36 := ai_rem2 ex36 ba1_l (Int.lt_of_lt_of_le zq25 zq26) zq27
    have wx36 : x36.toInt = a1.toInt % 10 := qx36.1
    refine lv_iload_n hx hb dX0_aliveByLaw_37 rfl (lv_at hl 0 rfl) ?_
    refine va_calli (va_runSN (As := [.int a0_0, .int x25, .int x32, .int x36, .int 0]) (rest := []) ⟨hx, hb, hml, hown, hts⟩ (c_X7_laterTurn l dC dI s.heap.size a0_0 x25 x32 x36 0 ba0_0_l ba0_0_u qx25.2.1 u25z_x25 qx32.2.1 qx32.2.2 qx36.2.1 qx36.2.2) ⟨va_cnB 5 hts gX0_aliveByLaw_X7_laterTurn_n72 rfl rfl rfl hE0 (hts (.initialized RX7) (List.mem_cons_of_mem _ (List.mem_append_left _ (List.mem_of_getElem? (i := 3) rfl)))) zd_X7_laterTurn.2 ⟨Nat.le_of_ble_eq_true rfl, Nat.le_of_ble_eq_true rfl⟩, (hts (.static yX7_laterTurn) (List.mem_cons_of_mem _ (List.mem_append_left _ (List.mem_of_getElem? (i := 2) rfl)))), trivial⟩ ⟨ax_blind (fun _ _ _ _ _ => trivial), ax_pre (zp_P0 hP) (zp_K hK) (zp_D0 hD) (fun _ _ => trivial)⟩ rfl rfl hl.1 rfl (lv_room (Nat.le_of_ble_eq_true rfl)) dX0_aliveByLaw_38 ⟨Nat.le_of_ble_eq_true rfl, Nat.le_of_ble_eq_true rfl⟩) hS (fun q _ h => zp_F0 hD hS hA q h) (zp_F0 hD hS hA) (fun r38 u t H locs ht hvm hw hB hz1 hk1 hS1 => zo0 hB ht hP hD hk1 (zp_F0 hD hS hA) hS1 (fun hP hK1 hD hS => ?_))
    have hw : (0 : Int) ≤ r38.toInt ∧ r38.toInt ≤ (9 : Int) := hw
    obtain ⟨h38_0, h38_1⟩ := hw
    exact W.iret (v := r38) hx hb hr (fun t ht hW => ⟨⟨r38, (), rfl, ⟨h38_0, h38_1⟩, by rw [ht]; exact hP, va_K.moved hW.alike hK, hD⟩, hS.F ht⟩) hS.2.2 dX0_aliveByLaw_41

set_option maxHeartbeats 4000000 in
set_option maxRecDepth 100000 in
theorem c_X0_goesLike (l : Launch) (dC : Nat → ClassId) (dI : Nat → Nat → Nat) (sz : Nat) (a0 : Nat) (a1 : Int32) (a2 : Int32) (a0_0 : Int32) (a0g_1 a0g_2 a0g_3 a0g_4 a0g_8 a0g_9 a0g_10 a0g_11 a0g_12 a0g_13 a0g_14 : Value) (a0_5 : Int32) (a0_6 : Int32) (a0_7 : Int32) (ba1_l : (0 : Int) ≤ a1.toInt) (ba1_u : a1.toInt ≤ (8 : Int)) (ba2_l : (0 : Int) ≤ a2.toInt) (ba2_u : a2.toInt ≤ (8 : Int)) (ba0_0_l : (0 : Int) ≤ a0_0.toInt) (ba0_0_u : a0_0.toInt ≤ (9 : Int)) (ba0_5_l : (0 : Int) ≤ a0_5.toInt) (ba0_5_u : a0_5.toInt ≤ (8 : Int)) (ba0_6_l : (0 : Int) ≤ a0_6.toInt) (ba0_6_u : a0_6.toInt ≤ (8 : Int)) (ba0_7_l : (0 : Int) ≤ a0_7.toInt) (ba0_7_u : a0_7.toInt ≤ (8 : Int)) : zm l yX0_goesLike wsX0_goesLike ({ frames := 1, cells := 0, slots := 0, locals := 21 }) [.ref a0, .int a1, .int a2] dC dI sz [(a0, .inr (0, [.int a0_0, a0g_1, a0g_2, a0g_3, a0g_4, .int a0_5, .int a0_6, .int a0_7, a0g_8, a0g_9, a0g_10, a0g_11, a0g_12, a0g_13, a0g_14]))] [] (fun A _ => True) (fun A => va_Qi (fun (r : Int32) (_ : Unit) => (r = 1) ∨ (r = 0 ∧ (1 : Int) ≤ a0_0.toInt ∧ a0_0.toInt ≤ (9 : Int))) (fun (_ : Unit) (t : State) => ax_B dC dI A [(a0, .inr (0, [.int a0_0, a0g_1, a0g_2, a0g_3, a0g_4, .int a0_5, .int a0_6, .int a0_7, a0g_8, a0g_9, a0g_10, a0g_11, a0g_12, a0g_13, a0g_14]))] [] t) A) := by
  refine zh (cc := cX0_goesLike) (maxL := 6) (ret := (some .boolean)) zn_RX0 rfl (Nat.le_of_ble_eq_true rfl) (fun p e s m below meth c A ls hx hb hml hr hts (hown : s.vm.findClass RX0 = some m.cls) hlocks hA hS hP hK hD hE (hl : lv_has ls 6 [(0, .ref a0), (1, .int a1), (2, .int a2)]) => ?_)
  refine ai_open (fun K hK0 => ?_)
  refine (hK0 _ _ _).mpr ?_
  refine lv_aload_n hx hb dX0_goesLike_0 rfl (lv_at hl 0 rfl) ?_
  refine va_get (D := (dC, dI)) (ci := 0) (v := .int a0_7) (C := RX0) (T := TX0) (N := 15) hx hb hts zi_X0_goesLike_0 hown hK hP 0 rfl rfl 7 (by decide) (hts (.fieldLink RX0 69 "WaxTurns$Hall" "first" "I") (List.mem_cons_of_mem _ (List.mem_append_left _ (List.mem_of_getElem? (i := 0) rfl)))) (fun _ h9 => h9) rfl dX0_goesLike_1 ?_
  refine lv_istore_n (lv' := [(3, .int a0_7), (0, .ref a0), (1, .int a1), (2, .int a2)]) hx hb dX0_goesLike_4 rfl hl (by decide) rfl (fun ls hl => ?_)
  refine lv_iconst (v := 0) hx hb dX0_goesLike_5 zk_iconst_0 ?_
  refine lv_istore (lv' := [(4, .int 0), (3, .int a0_7), (0, .ref a0), (1, .int a1), (2, .int a2)]) hx hb dX0_goesLike_6 hl (by decide) rfl (fun ls hl => ?_)
  have J8 : ∀ (n : Nat) (j8l4 : Int32) (j8l3 : Int32) (H : Heap) (locs : List Loc) (ls : Array Slot), (10 : Int) - j8l4.toInt ≤ (n : Int) → (0 : Int) ≤ j8l4.toInt → j8l4.toInt ≤ (9 : Int) → (0 : Int) ≤ j8l3.toInt → j8l3.toInt ≤ (8 : Int) → va_P (dC, dI) vwCl [(a0, .inr (0, [.int a0_0, a0g_1, a0g_2, a0g_3, a0g_4, .int a0_5, .int a0_6, .int a0_7, a0g_8, a0g_9, a0g_10, a0g_11, a0g_12, a0g_13, a0g_14]))] H → va_D A [(a0, .inr (0, [.int a0_0, a0g_1, a0g_2, a0g_3, a0g_4, .int a0_5, .int a0_6, .int a0_7, a0g_8, a0g_9, a0g_10, a0g_11, a0g_12, a0g_13, a0g_14]))] → va_S A s.heap H locs → lv_has ls 6 [(0, .ref a0), (1, .int a1), (2, .int a2), (3, .int j8l3), (4, .int j8l4)] → K H locs (F0 m 8 ls []) := by
    intro n
    induction n with
    | zero =>
      intro j8l4 j8l3 H locs ls hm bj8l4_l bj8l4_u bj8l3_l bj8l3_u hP hD hS hl
      first | exact zg_0 hm bj8l4_u (by decide) | (have h8 := ai_min j8l4; have h9 := ai_max j8l4; exact absurd hm (by omega))
    | succ n ih8 =>
      intro j8l4 j8l3 H locs ls hm bj8l4_l bj8l4_u bj8l3_l bj8l3_u hP hD hS hl
      refine (hK0 _ _ _).mpr ?_
      have hm8 := hm
      refine lv_iload hx hb dX0_goesLike_8 (lv_at hl 4 rfl) ?_
      refine lv_aload_n hx hb dX0_goesLike_10 rfl (lv_at hl 0 rfl) ?_
      refine va_get (D := (dC, dI)) (ci := 0) (v := .int a0_0) (C := RX0) (T := TX0) (N := 15) hx hb hts zi_X0_goesLike_0 hown hK hP 0 rfl rfl 0 (by decide) (hts (.fieldLink RX0 31 "WaxTurns$Hall" "figures" "I") (List.mem_cons_of_mem _ (List.mem_append_left _ (List.mem_of_getElem? (i := 1) rfl)))) (fun _ h9 => h9) rfl dX0_goesLike_11 ?_
      refine lv_icmp_ge (tgt := 50) hx hb dX0_goesLike_14 (by decide) (fun c14 => ?_) (fun c14 => ?_)
      · have gc14 := ai_le c14
        have u14t_a0_0 : a0_0.toInt ≤ (9 : Int) := ba0_0_u
        have l14t_j8l4 : (0 : Int) ≤ j8l4.toInt := bj8l4_l
        refine lv_iconst (v := 1) hx hb dX0_goesLike_50 zk_iconst_1 ?_
        exact W.zret (v := 1) hx hb hr rfl (fun t ht hW => ⟨⟨1, (), rfl, (Or.inl (rfl)), by rw [ht]; exact hP, va_K.moved hW.alike hK, hD⟩, hS.F ht⟩) hS.2.2 dX0_goesLike_51
      · have gc14 := ai_nle c14
        have u14f_j8l4 : j8l4.toInt ≤ (8 : Int) := ai_lthi gc14 ba0_0_u
        have l14f_a0_0 : (1 : Int) ≤ a0_0.toInt := ai_ltlo gc14 bj8l4_l
        refine lv_aload_n hx hb dX0_goesLike_17 rfl (lv_at hl 0 rfl) ?_
        refine lv_iload_n hx hb dX0_goesLike_18 rfl (lv_at hl 3 rfl) ?_
        refine va_calli (va_runV (As := [.int j8l3]) (rest := []) ⟨hx, hb, hml, hown, hts⟩ (c_X0_next l dC dI H.size a0 j8l3 a0_0 a0g_1 a0g_2 a0g_3 a0g_4 (.int a0_7) a0g_8 a0g_9 a0g_10 a0g_11 a0g_12 a0g_13 a0g_14 a0_5 a0_6 bj8l3_l bj8l3_u (Int.le_trans zq4 l14f_a0_0) ba0_0_u ba0_5_l ba0_5_u ba0_6_l ba0_6_u) (cwV 1 hts gX0_goesLike_X0_next rfl rfl rfl zd_X0_next ⟨Nat.le_of_ble_eq_true rfl, Nat.le_of_ble_eq_true rfl⟩) ⟨ax_blind (fun _ _ _ _ _ => trivial), zr_0 (zp_K hK) (zp_P1 hP) (q0 := 0) rfl, ax_pre (zp_P1 hP) (zp_K hK) (zp_D1 hD) (fun _ _ => trivial)⟩ rfl rfl hl.1 rfl (lv_room (Nat.le_of_ble_eq_true rfl)) dX0_goesLike_19 ⟨Nat.le_of_ble_eq_true rfl, Nat.le_of_ble_eq_true rfl⟩) hS (fun q _ h => zp_F1 hD hS hA q h) (zp_F1 hD hS hA) (fun r19 u t H locs ht hvm hw hB hz1 hk1 hS1 => zo1 hB ht hP hD hk1 (zp_F1 hD hS hA) hS1 (fun hP hK1 hD hS => ?_))
        have hw : (0 : Int) ≤ r19.toInt ∧ r19.toInt ≤ (8 : Int) := hw
        obtain ⟨h19_0, h19_1⟩ := hw
        refine lv_istore (lv' := [(5, .int r19), (0, .ref a0), (1, .int a1), (2, .int a2), (3, .int j8l3), (4, .int j8l4)]) hx hb dX0_goesLike_22 hl (by decide) rfl (fun ls hl => ?_)
        refine lv_iload_n hx hb dX0_goesLike_24 rfl (lv_at hl 4 rfl) ?_
        refine lv_iload_n hx hb dX0_goesLike_25 rfl (lv_at hl 2 rfl) ?_
        refine lv_imul hx hb dX0_goesLike_26 ?_
        refine lv_topi (fun x26 ex26 => ?_)
        have qx26 : x26.toInt = j8l3.toInt * a1.toInt ∧ (0 : Int) ≤ x26.toInt ∧ x26.toInt ≤ 64 := ai_mul ex26 ⟨bj8l3_l, bj8l3_u⟩ ⟨ba1_l, ba1_u⟩ (by decide) (by decide) zq18
        refine lv_iload_n hx hb dX0_goesLike_27 rfl (lv_at hl 3 rfl) ?_
        refine lv_iadd hx hb dX0_goesLike_28 ?_
        refine lv_topi (fun x28 ex28 => ?_)
        have qx28 : x28.toInt = x26.toInt + a2.toInt := ai_add ex28 ⟨qx26.2.1, qx26.2.2⟩ ⟨ba2_l, ba2_u⟩ (by decide) (by decide)
        have bx28 : (0 : Int) ≤ x28.toInt ∧ x28.toInt ≤ 72 := ⟨by rw [qx28]; exact Int.add_le_add qx26.2.1 ba2_l, by rw [qx28]; exact Int.add_le_add qx26.2.2 ba2_u⟩
        refine lv_aload_n hx hb dX0_goesLike_29 rfl (lv_at hl 1 rfl) ?_
        refine va_get (D := (dC, dI)) (ci := 0) (v := .int a0_0) (C := RX0) (T := TX0) (N := 15) hx hb hts zi_X0_goesLike_0 hown hK hP 0 rfl rfl 0 (by decide) (hts (.fieldLink RX0 31 "WaxTurns$Hall" "figures" "I") (List.mem_cons_of_mem _ (List.mem_append_left _ (List.mem_of_getElem? (i := 1) rfl)))) (fun _ h9 => h9) rfl dX0_goesLike_30 ?_
        refine lv_irem hx hb dX0_goesLike_33 (ai_nz l14f_a0_0 (by decide)) ?_
        refine lv_topi (fun x33 ex33 => ?_)
        have qx33 := ai_rem2 ex33 bx28.1 (Int.lt_of_lt_of_le zq19 l14f_a0_0) ba0_0_u
        refine lv_iload hx hb dX0_goesLike_34 (lv_at hl 0 rfl) ?_
        refine lv_icmp_eq (tgt := 41) hx hb dX0_goesLike_36 (by decide) (fun c36 => ?_) (fun c36 => ?_)
        · have gc36 := ai_eq c36
          have u36t_x33 : x33.toInt ≤ (8 : Int) := qx33.2.2
          have l36t_x33 : (0 : Int) ≤ x33.toInt := qx33.2.1
          have u36t_r19 : r19.toInt ≤ (8 : Int) := h19_1
          have l36t_r19 : (0 : Int) ≤ r19.toInt := h19_0
          refine lv_iload hx hb dX0_goesLike_41 (lv_at hl 0 rfl) ?_
          refine lv_istore_n (lv' := [(3, .int r19), (5, .int r19), (0, .ref a0), (1, .int a1), (2, .int a2), (4, .int j8l4)]) hx hb dX0_goesLike_43 rfl hl (by decide) rfl (fun ls hl => ?_)
          obtain ⟨x44, ex44⟩ : ∃ y : Int32, y = j8l4 + Int32.ofInt 1 := ⟨_, rfl⟩
          have qx44 : x44.toInt = j8l4.toInt + 1 := ai_inc ex44 (by decide) (by decide) u14f_j8l4 (by decide)
          have bx44 : (1 : Int) ≤ x44.toInt ∧ x44.toInt ≤ 9 := ⟨by rw [qx44]; exact Int.add_le_add bj8l4_l (Int.le_refl _), by rw [qx44]; exact Int.add_le_add u14f_j8l4 (Int.le_refl _)⟩
          refine lv_iinc (v := x44) (lv' := [(4, .int x44), (3, .int r19), (5, .int r19), (0, .ref a0), (1, .int a1), (2, .int a2)]) hx hb dX0_goesLike_44 hl (k := 5) rfl ex44.symm (by decide) rfl (fun ls hl => ?_)
          refine lv_goto (tgt := 8) hx hb dX0_goesLike_47 (by decide) ?_
          exact (hK0 _ _ _).mp (ih8 x44 r19 _ _ _ (by first | exact zg_s hm8 qx44 | (have h0 := qx44; omega)) (Int.le_trans zq4 bx44.1) bx44.2 l36t_r19 u36t_r19 hP hD hS (lv_sub hl [3, 4, 5, 1, 0] rfl))
        · have gc36 := ai_ne c36
          refine lv_iconst (v := 0) hx hb dX0_goesLike_39 zk_iconst_0 ?_
          exact W.zret (v := 0) hx hb hr rfl (fun t ht hW => ⟨⟨0, (), rfl, (Or.inr (⟨rfl, l14f_a0_0, ba0_0_u⟩)), by rw [ht]; exact hP, va_K.moved hW.alike hK, hD⟩, hS.F ht⟩) hS.2.2 dX0_goesLike_40
  exact (hK0 _ _ _).mp (J8 10 0 a0_7 _ _ _ (by first | decide +kernel | (have h1 : (0 : Int) ≤ (0 : Int32).toInt := zq5; have h2 : (0 : Int32).toInt ≤ (0 : Int) := zq6; omega)) zq5 (Int.le_trans zq6 zq7) ba0_7_l ba0_7_u hP hD hS (lv_sub hl [2, 3, 4, 1, 0] rfl))

set_option maxHeartbeats 4000000 in
set_option maxRecDepth 100000 in
theorem c_X0_stepsIn (l : Launch) (dC : Nat → ClassId) (dI : Nat → Nat → Nat) (sz : Nat) (a0 : Nat) (a1 : Int32) (a2 : Int32) (a0g_0 a0g_1 a0g_2 a0g_3 a0g_4 a0g_5 a0g_6 a0g_7 a0g_8 a0g_9 a0g_12 a0g_13 a0g_14 : Value) (a0_10 : Nat) (a0_11 : Nat) (ka0_10 : ClassId) (fa0_10 : Nat → Int32) (ka0_11 : ClassId) (fa0_11 : Nat → Int32)  : zm l yX0_stepsIn wsX0_stepsIn ({ frames := 1, cells := 0, slots := 0, locals := 22 }) [.ref a0, .int a1, .int a2] dC dI sz [(a0, .inr (0, [a0g_0, a0g_1, a0g_2, a0g_3, a0g_4, a0g_5, a0g_6, a0g_7, a0g_8, a0g_9, .ref a0_10, .ref a0_11, a0g_12, a0g_13, a0g_14])), (a0_10, .inl (ka0_10, 9, .inl (fa0_10))), (a0_11, .inl (ka0_11, 9, .inl (fa0_11)))] [(ka0_10, .int), (ka0_11, .int)] (fun A U => va_Nw (.methodLinkNest RX0 118 yX7_within RX7) U) (fun A => va_Qi (fun (r : Int32) (_ : Unit) => (r = 1 ∧ (0 : Int) ≤ a1.toInt ∧ a1.toInt ≤ (8 : Int)) ∨ (r = 0)) (fun (_ : Unit) (t : State) => ax_B dC dI A [(a0, .inr (0, [a0g_0, a0g_1, a0g_2, a0g_3, a0g_4, a0g_5, a0g_6, a0g_7, a0g_8, a0g_9, .ref a0_10, .ref a0_11, a0g_12, a0g_13, a0g_14])), (a0_10, .inl (ka0_10, 9, .inl (fa0_10))), (a0_11, .inl (ka0_11, 9, .inl (fa0_11)))] [(ka0_10, .int), (ka0_11, .int)] t) A) := by
  refine zh (cc := cX0_stepsIn) (maxL := 4) (ret := (some .boolean)) zn_RX0 rfl (Nat.le_of_ble_eq_true rfl) (fun p e s m below meth c A ls hx hb hml hr hts (hown : s.vm.findClass RX0 = some m.cls) hlocks hA hS hP hK hD hE (hl : lv_has ls 4 [(0, .ref a0), (1, .int a1), (2, .int a2)]) => ?_)
  have hE0 := hE
  refine lv_iload_n hx hb dX0_stepsIn_0 rfl (lv_at hl 1 rfl) ?_
  refine lv_iconst (v := 0) hx hb dX0_stepsIn_1 zk_iconst_0 ?_
  refine lv_bipush (v := 8) hx hb dX0_stepsIn_2 zk_bipush_8 ?_
  refine va_calli (va_runSN (As := [.int a1, .int 0, .int 8]) (rest := []) ⟨hx, hb, hml, hown, hts⟩ (c_X7_within l dC dI s.heap.size a1 0 8 ) ⟨va_cnB 3 hts gX0_stepsIn_X7_within_n118 rfl rfl rfl hE0 (hts (.initialized RX7) (List.mem_cons_of_mem _ (List.mem_append_left _ (List.mem_of_getElem? (i := 3) rfl)))) zd_X7_within.2 ⟨Nat.le_of_ble_eq_true rfl, Nat.le_of_ble_eq_true rfl⟩, (hts (.static yX7_within) (List.mem_cons_of_mem _ (List.mem_append_left _ (List.mem_of_getElem? (i := 2) rfl)))), trivial⟩ ⟨ax_blind (fun _ _ _ _ _ => trivial), ax_pre (zp_P0 hP) (zp_K hK) (zp_D0 hD) (fun _ _ => trivial)⟩ rfl rfl hl.1 rfl (lv_room (Nat.le_of_ble_eq_true rfl)) dX0_stepsIn_4 ⟨Nat.le_of_ble_eq_true rfl, Nat.le_of_ble_eq_true rfl⟩) hS (fun q _ h => zp_F0 hD hS hA q h) (zp_F0 hD hS hA) (fun r4 u t H locs ht hvm hw hB hz1 hk1 hS1 => zo0 hB ht hP hD hk1 (zp_F0 hD hS hA) hS1 (fun hP hK1 hD hS => ?_))
  rcases hw with hw | hw
  · obtain ⟨hw, h4⟩ := hw
    subst hw
    have l4k0_a1 : (0 : Int) ≤ a1.toInt := Int.le_trans zq5 h4.1
    have u4k0_a1 : a1.toInt ≤ (8 : Int) := Int.le_trans h4.2 zq28
    refine lv_if_eq (tgt := 20) hx hb dX0_stepsIn_7 (by decide) (fun c7 => absurd c7 (by decide +kernel)) (fun _ => ?_)
    refine lv_aload_n hx hb dX0_stepsIn_10 rfl (lv_at hl 0 rfl) ?_
    refine va_get (D := (dC, dI)) (ci := 0) (v := .ref a0_10) (C := RX0) (T := TX0) (N := 15) hx hb hts zi_X0_stepsIn_0 hown hK hP 0 rfl rfl 10 (by decide) (hts (.fieldLink RX0 9 "WaxTurns$Hall" "kinds" "[I") (List.mem_cons_of_mem _ (List.mem_append_left _ (List.mem_of_getElem? (i := 0) rfl)))) (fun _ h9 => h9) rfl dX0_stepsIn_11 ?_
    refine lv_iload_n hx hb dX0_stepsIn_14 rfl (lv_at hl 1 rfl) ?_
    refine va_iald hx hb hK hP 1 0 rfl rfl (ai_in l4k0_a1 u4k0_a1 (by decide) (by decide)) dX0_stepsIn_15 ?_
    refine lv_topi (fun x15 ex15 => ?_)
    refine lv_iconst (v := 1) hx hb dX0_stepsIn_16 zk_iconst_1 ?_
    refine lv_icmp_eq (tgt := 22) hx hb dX0_stepsIn_17 (by decide) (fun c17 => ?_) (fun c17 => ?_)
    · have gc17 := ai_eq c17
      have u17t_x15 : x15.toInt ≤ (1 : Int) := Int.le_trans (Int.le_of_eq gc17) zq0
      have l17t_x15 : (1 : Int) ≤ x15.toInt := Int.le_trans zq1 (Int.le_of_eq gc17.symm)
      refine lv_aload_n hx hb dX0_stepsIn_22 rfl (lv_at hl 0 rfl) ?_
      refine va_get (D := (dC, dI)) (ci := 0) (v := .ref a0_11) (C := RX0) (T := TX0) (N := 15) hx hb hts zi_X0_stepsIn_0 hown hK hP 0 rfl rfl 11 (by decide) (hts (.fieldLink RX0 15 "WaxTurns$Hall" "measures" "[I") (List.mem_cons_of_mem _ (List.mem_append_left _ (List.mem_of_getElem? (i := 1) rfl)))) (fun _ h9 => h9) rfl dX0_stepsIn_23 ?_
      refine lv_iload_n hx hb dX0_stepsIn_26 rfl (lv_at hl 1 rfl) ?_
      refine va_iald hx hb hK hP 2 1 rfl rfl (ai_in l4k0_a1 u4k0_a1 (by decide) (by decide)) dX0_stepsIn_27 ?_
      refine lv_topi (fun x27 ex27 => ?_)
      refine lv_istore_n (lv' := [(3, .int x27), (0, .ref a0), (1, .int a1), (2, .int a2)]) hx hb dX0_stepsIn_28 rfl hl (by decide) rfl (fun ls hl => ?_)
      refine lv_iload_n hx hb dX0_stepsIn_29 rfl (lv_at hl 0 rfl) ?_
      refine lv_if_le (tgt := 43) hx hb dX0_stepsIn_30 (by decide) (fun c30 => ?_) (fun c30 => ?_)
      · have gc30 := ai_le c30
        have u30t_x27 : x27.toInt ≤ (0 : Int) := Int.le_trans gc30 zq6
        refine lv_iconst (v := 0) hx hb dX0_stepsIn_43 zk_iconst_0 ?_
        exact W.zret (v := 0) hx hb hr rfl (fun t ht hW => ⟨⟨0, (), rfl, (Or.inr (rfl)), by rw [ht]; exact hP, va_K.moved hW.alike hK, hD⟩, hS.F ht⟩) hS.2.2 dX0_stepsIn_44
      · have gc30 := ai_nle c30
        have l30f_x27 : (1 : Int) ≤ x27.toInt := ai_ltlo gc30 zq5
        refine lv_iload_n hx hb dX0_stepsIn_33 rfl (lv_at hl 3 rfl) ?_
        refine lv_iload_n hx hb dX0_stepsIn_34 rfl (lv_at hl 0 rfl) ?_
        refine lv_irem hx hb dX0_stepsIn_35 (ai_nz l30f_x27 (by decide)) ?_
        refine lv_topi (fun x35 ex35 => ?_)
        refine lv_if_ne (tgt := 43) hx hb dX0_stepsIn_36 (by decide) (fun c36 => ?_) (fun c36 => ?_)
        · have gc36 := ai_ne c36
          refine lv_iconst (v := 0) hx hb dX0_stepsIn_43 zk_iconst_0 ?_
          exact W.zret (v := 0) hx hb hr rfl (fun t ht hW => ⟨⟨0, (), rfl, (Or.inr (rfl)), by rw [ht]; exact hP, va_K.moved hW.alike hK, hD⟩, hS.F ht⟩) hS.2.2 dX0_stepsIn_44
        · have gc36 := ai_eq c36
          have u36f_x35 : x35.toInt ≤ (0 : Int) := Int.le_trans (Int.le_of_eq gc36) zq6
          have l36f_x35 : (0 : Int) ≤ x35.toInt := Int.le_trans zq5 (Int.le_of_eq gc36.symm)
          refine lv_iconst (v := 1) hx hb dX0_stepsIn_39 zk_iconst_1 ?_
          refine lv_goto (tgt := 44) hx hb dX0_stepsIn_40 (by decide) ?_
          exact W.zret (v := 1) hx hb hr rfl (fun t ht hW => ⟨⟨1, (), rfl, (Or.inl ⟨rfl, l4k0_a1, u4k0_a1⟩), by rw [ht]; exact hP, va_K.moved hW.alike hK, hD⟩, hS.F ht⟩) hS.2.2 dX0_stepsIn_44
    · have gc17 := ai_ne c17
      refine lv_iconst (v := 0) hx hb dX0_stepsIn_20 zk_iconst_0 ?_
      exact W.zret (v := 0) hx hb hr rfl (fun t ht hW => ⟨⟨0, (), rfl, (Or.inr (rfl)), by rw [ht]; exact hP, va_K.moved hW.alike hK, hD⟩, hS.F ht⟩) hS.2.2 dX0_stepsIn_21
  · obtain ⟨hw, h4⟩ := hw
    subst hw
    refine lv_if_eq (tgt := 20) hx hb dX0_stepsIn_7 (by decide) (fun _ => ?_) (fun c7 => absurd (by decide +kernel) c7)
    refine lv_iconst (v := 0) hx hb dX0_stepsIn_20 zk_iconst_0 ?_
    exact W.zret (v := 0) hx hb hr rfl (fun t ht hW => ⟨⟨0, (), rfl, (Or.inr (rfl)), by rw [ht]; exact hP, va_K.moved hW.alike hK, hD⟩, hS.F ht⟩) hS.2.2 dX0_stepsIn_21

set_option maxHeartbeats 4000000 in
set_option maxRecDepth 100000 in
theorem c_X0_nearer (l : Launch) (dC : Nat → ClassId) (dI : Nat → Nat → Nat) (sz : Nat) (a0 : Nat) (a1 : Int32) (a0g_0 a0g_1 a0g_3 a0g_4 a0g_5 a0g_6 a0g_7 a0g_8 a0g_9 a0g_10 a0g_11 a0g_12 a0g_13 a0g_14 : Value) (a0_2 : Int32)  : zm l yX0_nearer wsX0_nearer ({ frames := 0, cells := 0, slots := 0, locals := 0 }) [.ref a0, .int a1] dC dI sz [(a0, .inr (0, [a0g_0, a0g_1, .int a0_2, a0g_3, a0g_4, a0g_5, a0g_6, a0g_7, a0g_8, a0g_9, a0g_10, a0g_11, a0g_12, a0g_13, a0g_14]))] [] (fun A _ => True) (fun A => va_Qi (fun (r : Int32) (_ : Unit) => True) (fun (_ : Unit) (t : State) => ax_B dC dI A [(a0, .inr (0, [a0g_0, a0g_1, .int a0_2, a0g_3, a0g_4, a0g_5, a0g_6, a0g_7, a0g_8, a0g_9, a0g_10, a0g_11, a0g_12, a0g_13, a0g_14]))] [] t) A) := by
  refine zh (cc := cX0_nearer) (maxL := 2) (ret := (some .int)) zn_RX0 rfl (Nat.le_of_ble_eq_true rfl) (fun p e s m below meth c A ls hx hb hml hr hts (hown : s.vm.findClass RX0 = some m.cls) hlocks hA hS hP hK hD hE (hl : lv_has ls 2 [(0, .ref a0), (1, .int a1)]) => ?_)
  refine lv_iload_n hx hb dX0_nearer_0 rfl (lv_at hl 1 rfl) ?_
  refine lv_aload_n hx hb dX0_nearer_1 rfl (lv_at hl 0 rfl) ?_
  refine va_get (D := (dC, dI)) (ci := 0) (v := .int a0_2) (C := RX0) (T := TX0) (N := 15) hx hb hts zi_X0_nearer_0 hown hK hP 0 rfl rfl 2 (by decide) (hts (.fieldLink RX0 51 "WaxTurns$Hall" "stairsPlace" "I") (List.mem_cons_of_mem _ (List.mem_append_left _ (List.mem_of_getElem? (i := 0) rfl)))) (fun _ h9 => h9) rfl dX0_nearer_2 ?_
  refine lv_icmp_ne (tgt := 10) hx hb dX0_nearer_5 (by decide) (fun c5 => ?_) (fun c5 => ?_)
  · have gc5 := ai_ne c5
    refine lv_iload_n hx hb dX0_nearer_10 rfl (lv_at hl 1 rfl) ?_
    refine lv_aload_n hx hb dX0_nearer_11 rfl (lv_at hl 0 rfl) ?_
    refine va_get (D := (dC, dI)) (ci := 0) (v := .int a0_2) (C := RX0) (T := TX0) (N := 15) hx hb hts zi_X0_nearer_0 hown hK hP 0 rfl rfl 2 (by decide) (hts (.fieldLink RX0 51 "WaxTurns$Hall" "stairsPlace" "I") (List.mem_cons_of_mem _ (List.mem_append_left _ (List.mem_of_getElem? (i := 0) rfl)))) (fun _ h9 => h9) rfl dX0_nearer_12 ?_
    refine lv_icmp_ge (tgt := 24) hx hb dX0_nearer_15 (by decide) (fun c15 => ?_) (fun c15 => ?_)
    · have gc15 := ai_le c15
      refine lv_iload_n hx hb dX0_nearer_24 rfl (lv_at hl 1 rfl) ?_
      refine lv_iconst (v := 1) hx hb dX0_nearer_25 zk_iconst_1 ?_
      refine lv_isub hx hb dX0_nearer_26 ?_
      refine lv_topi (fun x26 ex26 => ?_)
      exact W.iret (v := x26) hx hb hr (fun t ht hW => ⟨⟨x26, (), rfl, trivial, by rw [ht]; exact hP, va_K.moved hW.alike hK, hD⟩, hS.F ht⟩) hS.2.2 dX0_nearer_27
    · have gc15 := ai_nle c15
      have u15f_a1 : a1.toInt ≤ (2147483646 : Int) := ai_lthi gc15 (ai_max a0_2)
      have l15f_a0_2 : (-2147483647 : Int) ≤ a0_2.toInt := ai_ltlo gc15 (ai_min a1)
      refine lv_iload_n hx hb dX0_nearer_18 rfl (lv_at hl 1 rfl) ?_
      refine lv_iconst (v := 1) hx hb dX0_nearer_19 zk_iconst_1 ?_
      refine lv_iadd hx hb dX0_nearer_20 ?_
      refine lv_topi (fun x20 ex20 => ?_)
      have qx20 : x20.toInt = a1.toInt + (1 : Int32).toInt := ai_add ex20 ⟨(ai_min a1), u15f_a1⟩ ⟨zq1, zq0⟩ (by decide) (by decide)
      have bx20 : (-2147483647 : Int) ≤ x20.toInt ∧ x20.toInt ≤ 2147483647 := ⟨by rw [qx20]; exact Int.add_le_add (ai_min a1) zq1, by rw [qx20]; exact Int.add_le_add u15f_a1 zq0⟩
      have wx20 : x20.toInt = a1.toInt + 1 := qx20
      refine lv_goto (tgt := 27) hx hb dX0_nearer_21 (by decide) ?_
      exact W.iret (v := x20) hx hb hr (fun t ht hW => ⟨⟨x20, (), rfl, trivial, by rw [ht]; exact hP, va_K.moved hW.alike hK, hD⟩, hS.F ht⟩) hS.2.2 dX0_nearer_27
  · have gc5 := ai_eq c5
    refine lv_iload_n hx hb dX0_nearer_8 rfl (lv_at hl 1 rfl) ?_
    exact W.iret (v := a1) hx hb hr (fun t ht hW => ⟨⟨a1, (), rfl, trivial, by rw [ht]; exact hP, va_K.moved hW.alike hK, hD⟩, hS.F ht⟩) hS.2.2 dX0_nearer_9

set_option maxHeartbeats 4000000 in
set_option maxRecDepth 100000 in
theorem c_X0_step (l : Launch) (dC : Nat → ClassId) (dI : Nat → Nat → Nat) (sz : Nat) (a0 : Nat) (a1 : Nat) (a2 : Int32) (a3 : Nat) (a0g_0 a0g_1 a0g_3 a0g_4 a0g_5 a0g_6 a0g_7 a0g_8 a0g_9 a0g_10 a0g_11 a0g_12 a0g_13 a0g_14 : Value) (a0_2 : Int32) (a1_0 : Int32) (a1g_1 a1g_2 a1g_6 : Value) (a1_3 : Int32) (a1_4 : Int32) (a1_5 : Nat) (ka1_5 : ClassId) (fa1_5 : Nat → Int32) (a3_0 : Int32) (a3_1 : Int32) (a3_2 : Nat) (a3_3 : Nat) (ka3_3 : ClassId) (fa3_3 : Nat → Int32) (ka3_2 : ClassId) (fa3_2 : Nat → Int32) (ba2_l : (0 : Int) ≤ a2.toInt) (ba2_u : a2.toInt ≤ (8 : Int)) (ba3_0_l : (0 : Int) ≤ a3_0.toInt) (ba3_0_u : a3_0.toInt ≤ (3 : Int)) (bfa3_3 : (∀ k, (0 : Int) ≤ (fa3_3 k).toInt ∧ (fa3_3 k).toInt ≤ 80)) (bfa3_2 : (∀ k, (0 : Int) ≤ (fa3_2 k).toInt ∧ (fa3_2 k).toInt ≤ 80)) : zm l yX0_step wsX0_step ({ frames := 2, cells := 0, slots := 0, locals := 49 }) [.ref a0, .ref a1, .int a2, .ref a3] dC dI sz [(a0, .inr (0, [a0g_0, a0g_1, .int a0_2, a0g_3, a0g_4, a0g_5, a0g_6, a0g_7, a0g_8, a0g_9, a0g_10, a0g_11, a0g_12, a0g_13, a0g_14])), (a1, .inr (5, [.int a1_0, a1g_1, a1g_2, .int a1_3, .int a1_4, .ref a1_5, a1g_6])), (a1_5, .inl (ka1_5, 9, .inl (fa1_5))), (a3, .inr (6, [.int a3_0, .int a3_1, .ref a3_2, .ref a3_3])), (a3_3, .inl (ka3_3, 3, .inl (fa3_3))), (a3_2, .inl (ka3_2, 3, .inl (fa3_2)))] [(ka1_5, .int), (ka3_3, .int), (ka3_2, .int)] (fun A U => va_Nw (.methodLinkNest RX5 38 yX7_hasBit RX7) U ∧ va_Nw (.methodLinkNest RX0 129 yX7_hasBit RX7) U) (fun A => va_Qv (fun (_ : Unit) => True) (fun (_ : Unit) (t : State) => ∃ na1_3 : Int32, ∃ na1_4 : Int32, ∃ nfa1_5 : Nat → Int32, ax_B dC dI A [(a0, .inr (0, [a0g_0, a0g_1, .int a0_2, a0g_3, a0g_4, a0g_5, a0g_6, a0g_7, a0g_8, a0g_9, a0g_10, a0g_11, a0g_12, a0g_13, a0g_14])), (a1, .inr (5, [.int a1_0, a1g_1, a1g_2, .int na1_3, .int na1_4, .ref a1_5, a1g_6])), (a1_5, .inl (ka1_5, 9, .inl (nfa1_5))), (a3, .inr (6, [.int a3_0, .int a3_1, .ref a3_2, .ref a3_3])), (a3_3, .inl (ka3_3, 3, .inl (fa3_3))), (a3_2, .inl (ka3_2, 3, .inl (fa3_2)))] [(ka1_5, .int), (ka3_3, .int), (ka3_2, .int)] t) A) := by
  refine zh (cc := cX0_step) (maxL := 5) (ret := none) zn_RX0 rfl (Nat.le_of_ble_eq_true rfl) (fun p e s m below meth c A ls hx hb hml hr hts (hown : s.vm.findClass RX0 = some m.cls) hlocks hA hS hP hK hD hE (hl : lv_has ls 5 [(0, .ref a0), (1, .ref a1), (2, .int a2), (3, .ref a3)]) => ?_)
  obtain ⟨hE0, hE1⟩ := hE
  refine lv_aload_n hx hb dX0_step_0 rfl (lv_at hl 1 rfl) ?_
  refine lv_iload_n hx hb dX0_step_1 rfl (lv_at hl 2 rfl) ?_
  refine zc_cutc (wc := [(a1, .inr (5, [.int a1_0, a1g_1, a1g_2, .int a1_3, .int a1_4, .ref a1_5, a1g_6]))]) hP hD hS hA [1] (by decide +kernel) rfl (fun hPc hDc hFc hCc => ?_)
  have hKc := zp_K hK
  refine va_calli (va_runV (As := [.int a2]) (rest := []) ⟨hx, hb, hml, hown, hts⟩ (c_X5_isGone l dC dI s.heap.size a1 a2 (.int a1_0) a1g_1 a1g_2 (.int a1_4) (.ref a1_5) a1g_6 a1_3 ) (cwV 1 hts gX0_step_X5_isGone rfl rfl rfl zd_X5_isGone ⟨Nat.le_of_ble_eq_true rfl, Nat.le_of_ble_eq_true rfl⟩) ⟨ax_blind (fun _ _ _ _ hq => va_Nw.same rfl rfl (hq)), zr_5 hKc hPc (q0 := 0) rfl, ax_pre hPc hKc hDc (fun _ hW => va_Nw.warmM hW hE0)⟩ rfl rfl hl.1 rfl (lv_room (Nat.le_of_ble_eq_true rfl)) dX0_step_2 ⟨Nat.le_of_ble_eq_true rfl, Nat.le_of_ble_eq_true rfl⟩) hS (fun q _ h => hFc q h) hFc (fun r2 u t H locs ht hvm hw hB hz1 hk1 hS1 => zo hB ht hS1 (fun hP1 hK1 hD1 hS => ?_))
  refine zc_backc (w := [(a0, .inr (0, [a0g_0, a0g_1, .int a0_2, a0g_3, a0g_4, a0g_5, a0g_6, a0g_7, a0g_8, a0g_9, a0g_10, a0g_11, a0g_12, a0g_13, a0g_14])), (a1, .inr (5, [.int a1_0, a1g_1, a1g_2, .int a1_3, .int a1_4, .ref a1_5, a1g_6])), (a1_5, .inl (ka1_5, 9, .inl (fa1_5))), (a3, .inr (6, [.int a3_0, .int a3_1, .ref a3_2, .ref a3_3])), (a3_3, .inl (ka3_3, 3, .inl (fa3_3))), (a3_2, .inl (ka3_2, 3, .inl (fa3_2)))]) hP hD hCc hk1 hFc hP1 hD1 [.inl 0, .inr 0, .inl 2, .inl 3, .inl 4, .inl 5] (by decide +kernel) rfl (fun hP hD => ?_)
  rcases hw with hw | hw
  · subst hw
    refine lv_if_eq (tgt := 9) hx hb dX0_step_5 (by decide) (fun c5 => absurd c5 (by decide +kernel)) (fun _ => ?_)
    exact W.vret hx hb hr (fun t ht hW => ⟨⟨(), rfl, trivial, a1_3, a1_4, fa1_5, by rw [ht]; exact hP, va_K.moved hW.alike hK, hD⟩, hS.F ht⟩) hS.2.2 dX0_step_8
  · subst hw
    refine lv_if_eq (tgt := 9) hx hb dX0_step_5 (by decide) (fun _ => ?_) (fun c5 => absurd (by decide +kernel) c5)
    refine lv_aload_n hx hb dX0_step_9 rfl (lv_at hl 0 rfl) ?_
    refine lv_aload_n hx hb dX0_step_10 rfl (lv_at hl 1 rfl) ?_
    refine va_get (D := (dC, dI)) (ci := 5) (v := .ref a1_5) (C := RX5) (T := TX5) (N := 7) hx hb hts zi_X0_step_5 hown hK hP 1 rfl rfl 5 (by decide) (hts (.fieldLink RX0 99 "WaxTurns$Scene" "places" "[I") (zm_X0_step_r1 (List.mem_of_getElem? (i := 0) rfl))) (fun _ h9 => h9) rfl dX0_step_11 ?_
    refine lv_iload_n hx hb dX0_step_14 rfl (lv_at hl 2 rfl) ?_
    refine va_iald hx hb hK hP 2 0 rfl rfl (ai_in ba2_l ba2_u (by decide) (by decide)) dX0_step_15 ?_
    refine lv_topi (fun x15 ex15 => ?_)
    refine va_calli (va_runV (As := [.int x15]) (rest := []) ⟨hx, hb, hml, hown, hts⟩ (c_X0_nearer l dC dI H.size a0 x15 a0g_0 a0g_1 a0g_3 a0g_4 a0g_5 a0g_6 a0g_7 a0g_8 a0g_9 a0g_10 a0g_11 a0g_12 a0g_13 a0g_14 a0_2 ) (cwV 1 hts gX0_step_X0_nearer rfl rfl rfl zd_X0_nearer ⟨Nat.le_of_ble_eq_true rfl, Nat.le_of_ble_eq_true rfl⟩) ⟨ax_blind (fun _ _ _ _ _ => trivial), zr_0 (zp_K hK) (zp_P1 hP) (q0 := 0) rfl, ax_pre (zp_P1 hP) (zp_K hK) (zp_D1 hD) (fun _ _ => trivial)⟩ rfl rfl hl.1 rfl (lv_room (Nat.le_of_ble_eq_true rfl)) dX0_step_16 ⟨Nat.le_of_ble_eq_true rfl, Nat.le_of_ble_eq_true rfl⟩) hS (fun q _ h => zp_F1 hD hS hA q h) (zp_F1 hD hS hA) (fun r16 u t H locs ht hvm hw hB hz1 hk1 hS1 => zo1 hB ht hP hD hk1 (zp_F1 hD hS hA) hS1 (fun hP hK1 hD hS => ?_))
    refine lv_istore (lv' := [(4, .int r16), (0, .ref a0), (1, .ref a1), (2, .int a2), (3, .ref a3)]) hx hb dX0_step_19 hl (by decide) rfl (fun ls hl => ?_)
    refine lv_aload_n hx hb dX0_step_21 rfl (lv_at hl 4 rfl) ?_
    refine lv_aload_n hx hb dX0_step_22 rfl (lv_at hl 2 rfl) ?_
    refine va_get (D := (dC, dI)) (ci := 5) (v := .int a1_0) (C := RX5) (T := TX5) (N := 7) hx hb hts zi_X0_step_5 hown hK hP 1 rfl rfl 0 (by decide) (hts (.fieldLink RX0 102 "WaxTurns$Scene" "minute" "I") (zm_X0_step_r1 (List.mem_of_getElem? (i := 1) rfl))) (fun _ h9 => h9) rfl dX0_step_23 ?_
    refine zc_cutc (wc := [(a3, .inr (6, [.int a3_0, .int a3_1, .ref a3_2, .ref a3_3])), (a3_3, .inl (ka3_3, 3, .inl (fa3_3))), (a3_2, .inl (ka3_2, 3, .inl (fa3_2)))]) hP hD hS hA [3, 4, 5] (by decide +kernel) rfl (fun hPc hDc hFc hCc => ?_)
    have hKc := hK.sub (tys' := [(ka3_3, .int), (ka3_2, .int)]) [1, 2] rfl
    refine va_calli (va_runV (As := [.int a1_0]) (rest := []) ⟨hx, hb, hml, hown, hts⟩ (c_X6_placesIn l dC dI H.size a3 a1_0 a3_0 a3_1 a3_2 a3_3 ka3_3 fa3_3 ka3_2 fa3_2 ba3_0_l ba3_0_u bfa3_3 bfa3_2) (cwV 1 hts gX0_step_X6_placesIn rfl rfl rfl zd_X6_placesIn ⟨Nat.le_of_ble_eq_true rfl, Nat.le_of_ble_eq_true rfl⟩) ⟨ax_blind (fun _ _ _ _ _ => trivial), zr_6 hKc hPc (q0 := 0) rfl, ax_pre hPc hKc hDc (fun _ _ => trivial)⟩ rfl rfl hl.1 rfl (lv_room (Nat.le_of_ble_eq_true rfl)) dX0_step_26 ⟨Nat.le_of_ble_eq_true rfl, Nat.le_of_ble_eq_true rfl⟩) hS (fun q _ h => hFc q h) hFc (fun r26 u t H locs ht hvm hw hB hz1 hk1 hS1 => zo hB ht hS1 (fun hP1 hK1 hD1 hS => ?_))
    refine zc_backc (w := [(a0, .inr (0, [a0g_0, a0g_1, .int a0_2, a0g_3, a0g_4, a0g_5, a0g_6, a0g_7, a0g_8, a0g_9, a0g_10, a0g_11, a0g_12, a0g_13, a0g_14])), (a1, .inr (5, [.int a1_0, a1g_1, a1g_2, .int a1_3, .int a1_4, .ref a1_5, a1g_6])), (a1_5, .inl (ka1_5, 9, .inl (fa1_5))), (a3, .inr (6, [.int a3_0, .int a3_1, .ref a3_2, .ref a3_3])), (a3_3, .inl (ka3_3, 3, .inl (fa3_3))), (a3_2, .inl (ka3_2, 3, .inl (fa3_2)))]) hP hD hCc hk1 hFc hP1 hD1 [.inl 0, .inl 1, .inl 2, .inr 0, .inr 1, .inr 2] (by decide +kernel) rfl (fun hP hD => ?_)
    refine lv_iload hx hb dX0_step_29 (lv_at hl 0 rfl) ?_
    refine va_calli (va_runSN (As := [.int r26, .int r16]) (rest := []) ⟨hx, hb, hml, hown, hts⟩ (c_X7_hasBit l dC dI H.size r26 r16 ) ⟨va_cnB 2 hts gX0_step_X7_hasBit_n129 rfl rfl rfl hE1 (hts (.initialized RX7) (zm_X0_step_r1 (List.mem_of_getElem? (i := 12) rfl))) zd_X7_hasBit.2 ⟨Nat.le_of_ble_eq_true rfl, Nat.le_of_ble_eq_true rfl⟩, (hts (.static yX7_hasBit) (zm_X0_step_r1 (List.mem_of_getElem? (i := 11) rfl))), trivial⟩ ⟨ax_blind (fun _ _ _ _ _ => trivial), ax_pre (zp_P0 hP) (zp_K hK) (zp_D0 hD) (fun _ _ => trivial)⟩ rfl rfl hl.1 rfl (lv_room (Nat.le_of_ble_eq_true rfl)) dX0_step_31 ⟨Nat.le_of_ble_eq_true rfl, Nat.le_of_ble_eq_true rfl⟩) hS (fun q _ h => zp_F0 hD hS hA q h) (zp_F0 hD hS hA) (fun r31 u t H locs ht hvm hw hB hz1 hk1 hS1 => zo0 hB ht hP hD hk1 (zp_F0 hD hS hA) hS1 (fun hP hK1 hD hS => ?_))
    rcases hw with hw | hw
    · subst hw
      refine lv_if_eq (tgt := 53) hx hb dX0_step_34 (by decide) (fun c34 => absurd c34 (by decide +kernel)) (fun _ => ?_)
      refine lv_aload_n hx hb dX0_step_37 rfl (lv_at hl 2 rfl) ?_
      refine lv_dup hx hb dX0_step_38 rfl ?_
      refine va_get (D := (dC, dI)) (ci := 5) (v := .int a1_4) (C := RX5) (T := TX5) (N := 7) hx hb hts zi_X0_step_5 hown hK hP 1 rfl rfl 4 (by decide) (hts (.fieldLink RX0 132 "WaxTurns$Scene" "catchCount" "I") (zm_X0_step_r1 (List.mem_of_getElem? (i := 2) rfl))) (fun _ h9 => h9) rfl dX0_step_39 ?_
      refine lv_iconst (v := 1) hx hb dX0_step_42 zk_iconst_1 ?_
      refine lv_iadd hx hb dX0_step_43 ?_
      refine lv_topi (fun x43 ex43 => ?_)
      refine va_put (D := (dC, dI)) (ci := 5) (v := .int x43) (ty := .int) (C := RX5) (T := TX5) (N := 7) hx hb hts zi_X0_step_5 tyX5 tyX5_ok nmX5 hown hK hP hD hS 1 rfl rfl 4 (by decide) (hts (.fieldLink RX0 132 "WaxTurns$Scene" "catchCount" "I") (zm_X0_step_r1 (List.mem_of_getElem? (i := 2) rfl))) (fun _ h9 => h9) rfl (tyX5_ok 4 (by decide)) rfl rfl (Nat.le_of_ble_eq_true rfl) dX0_step_44 (fun H locs hP hD hS => ?_)
      refine zs_1 (y := (a1, .inr (5, [.int a1_0, a1g_1, a1g_2, .int a1_3, .int x43, .ref a1_5, a1g_6]))) hP hD rfl (fun hP hD => ?_)
      refine lv_iload_n hx hb dX0_step_47 rfl (lv_at hl 3 rfl) ?_
      refine lv_istore (lv' := [(4, .int a2), (0, .ref a0), (1, .ref a1), (2, .int a2), (3, .ref a3)]) hx hb dX0_step_48 hl (by decide) rfl (fun ls hl => ?_)
      refine lv_goto (tgt := 74) hx hb dX0_step_50 (by decide) ?_
      refine lv_aload_n hx hb dX0_step_74 rfl (lv_at hl 2 rfl) ?_
      refine va_get (D := (dC, dI)) (ci := 5) (v := .ref a1_5) (C := RX5) (T := TX5) (N := 7) hx hb hts zi_X0_step_5 hown hK hP 1 rfl rfl 5 (by decide) (hts (.fieldLink RX0 99 "WaxTurns$Scene" "places" "[I") (zm_X0_step_r1 (List.mem_of_getElem? (i := 0) rfl))) (fun _ h9 => h9) rfl dX0_step_75 ?_
      refine lv_iload_n hx hb dX0_step_78 rfl (lv_at hl 3 rfl) ?_
      refine lv_iload hx hb dX0_step_79 (lv_at hl 0 rfl) ?_
      refine va_iast hx hb hK hP hD hS 2 0 rfl rfl (ai_in ba2_l ba2_u (by decide) (by decide)) dX0_step_81 (fun H locs hP hD hS => ?_)
      obtain ⟨f81, hP, hD⟩ : ∃ f81 : Nat → Int32, va_P (dC, dI) vwCl [(a0, .inr (0, [a0g_0, a0g_1, .int a0_2, a0g_3, a0g_4, a0g_5, a0g_6, a0g_7, a0g_8, a0g_9, a0g_10, a0g_11, a0g_12, a0g_13, a0g_14])), (a1, .inr (5, [.int a1_0, a1g_1, a1g_2, .int a1_3, .int x43, .ref a1_5, a1g_6])), (a1_5, .inl (ka1_5, 9, .inl (f81))), (a3, .inr (6, [.int a3_0, .int a3_1, .ref a3_2, .ref a3_3])), (a3_3, .inl (ka3_3, 3, .inl (fa3_3))), (a3_2, .inl (ka3_2, 3, .inl (fa3_2)))] H ∧ va_D A [(a0, .inr (0, [a0g_0, a0g_1, .int a0_2, a0g_3, a0g_4, a0g_5, a0g_6, a0g_7, a0g_8, a0g_9, a0g_10, a0g_11, a0g_12, a0g_13, a0g_14])), (a1, .inr (5, [.int a1_0, a1g_1, a1g_2, .int a1_3, .int x43, .ref a1_5, a1g_6])), (a1_5, .inl (ka1_5, 9, .inl (f81))), (a3, .inr (6, [.int a3_0, .int a3_1, .ref a3_2, .ref a3_3])), (a3_3, .inl (ka3_3, 3, .inl (fa3_3))), (a3_2, .inl (ka3_2, 3, .inl (fa3_2)))] := ⟨_, hP, hD⟩
      exact W.vret hx hb hr (fun t ht hW => ⟨⟨(), rfl, trivial, a1_3, x43, f81, by rw [ht]; exact hP, va_K.moved hW.alike hK, hD⟩, hS.F ht⟩) hS.2.2 dX0_step_82
    · subst hw
      refine lv_if_eq (tgt := 53) hx hb dX0_step_34 (by decide) (fun _ => ?_) (fun c34 => absurd (by decide +kernel) c34)
      refine lv_iload hx hb dX0_step_53 (lv_at hl 0 rfl) ?_
      refine lv_aload_n hx hb dX0_step_55 rfl (lv_at hl 1 rfl) ?_
      refine va_get (D := (dC, dI)) (ci := 0) (v := .int a0_2) (C := RX0) (T := TX0) (N := 15) hx hb hts zi_X0_step_0 hown hK hP 0 rfl rfl 2 (by decide) (hts (.fieldLink RX0 51 "WaxTurns$Hall" "stairsPlace" "I") (zm_X0_step_r1 (List.mem_of_getElem? (i := 3) rfl))) (fun _ h9 => h9) rfl dX0_step_56 ?_
      refine lv_icmp_ne (tgt := 74) hx hb dX0_step_59 (by decide) (fun c59 => ?_) (fun c59 => ?_)
      · have gc59 := ai_ne c59
        refine lv_aload_n hx hb dX0_step_74 rfl (lv_at hl 2 rfl) ?_
        refine va_get (D := (dC, dI)) (ci := 5) (v := .ref a1_5) (C := RX5) (T := TX5) (N := 7) hx hb hts zi_X0_step_5 hown hK hP 1 rfl rfl 5 (by decide) (hts (.fieldLink RX0 99 "WaxTurns$Scene" "places" "[I") (zm_X0_step_r1 (List.mem_of_getElem? (i := 0) rfl))) (fun _ h9 => h9) rfl dX0_step_75 ?_
        refine lv_iload_n hx hb dX0_step_78 rfl (lv_at hl 3 rfl) ?_
        refine lv_iload hx hb dX0_step_79 (lv_at hl 0 rfl) ?_
        refine va_iast hx hb hK hP hD hS 2 0 rfl rfl (ai_in ba2_l ba2_u (by decide) (by decide)) dX0_step_81 (fun H locs hP hD hS => ?_)
        obtain ⟨f81, hP, hD⟩ : ∃ f81 : Nat → Int32, va_P (dC, dI) vwCl [(a0, .inr (0, [a0g_0, a0g_1, .int a0_2, a0g_3, a0g_4, a0g_5, a0g_6, a0g_7, a0g_8, a0g_9, a0g_10, a0g_11, a0g_12, a0g_13, a0g_14])), (a1, .inr (5, [.int a1_0, a1g_1, a1g_2, .int a1_3, .int a1_4, .ref a1_5, a1g_6])), (a1_5, .inl (ka1_5, 9, .inl (f81))), (a3, .inr (6, [.int a3_0, .int a3_1, .ref a3_2, .ref a3_3])), (a3_3, .inl (ka3_3, 3, .inl (fa3_3))), (a3_2, .inl (ka3_2, 3, .inl (fa3_2)))] H ∧ va_D A [(a0, .inr (0, [a0g_0, a0g_1, .int a0_2, a0g_3, a0g_4, a0g_5, a0g_6, a0g_7, a0g_8, a0g_9, a0g_10, a0g_11, a0g_12, a0g_13, a0g_14])), (a1, .inr (5, [.int a1_0, a1g_1, a1g_2, .int a1_3, .int a1_4, .ref a1_5, a1g_6])), (a1_5, .inl (ka1_5, 9, .inl (f81))), (a3, .inr (6, [.int a3_0, .int a3_1, .ref a3_2, .ref a3_3])), (a3_3, .inl (ka3_3, 3, .inl (fa3_3))), (a3_2, .inl (ka3_2, 3, .inl (fa3_2)))] := ⟨_, hP, hD⟩
        exact W.vret hx hb hr (fun t ht hW => ⟨⟨(), rfl, trivial, a1_3, a1_4, f81, by rw [ht]; exact hP, va_K.moved hW.alike hK, hD⟩, hS.F ht⟩) hS.2.2 dX0_step_82
      · have gc59 := ai_eq c59
        refine lv_aload_n hx hb dX0_step_62 rfl (lv_at hl 2 rfl) ?_
        refine lv_dup hx hb dX0_step_63 rfl ?_
        refine va_get (D := (dC, dI)) (ci := 5) (v := .int a1_3) (C := RX5) (T := TX5) (N := 7) hx hb hts zi_X0_step_5 hown hK hP 1 rfl rfl 3 (by decide) (hts (.fieldLink RX0 135 "WaxTurns$Scene" "goneBits" "I") (zm_X0_step_r1 (List.mem_of_getElem? (i := 4) rfl))) (fun _ h9 => h9) rfl dX0_step_64 ?_
        refine lv_iconst (v := 1) hx hb dX0_step_67 zk_iconst_1 ?_
        refine lv_iload_n hx hb dX0_step_68 rfl (lv_at hl 3 rfl) ?_
        refine lv_ishl hx hb dX0_step_69 ?_
        refine lv_topi (fun x69 ex69 => ?_)
        refine lv_ior hx hb dX0_step_70 ?_
        refine lv_topi (fun x70 ex70 => ?_)
        refine va_put (D := (dC, dI)) (ci := 5) (v := .int x70) (ty := .int) (C := RX5) (T := TX5) (N := 7) hx hb hts zi_X0_step_5 tyX5 tyX5_ok nmX5 hown hK hP hD hS 1 rfl rfl 3 (by decide) (hts (.fieldLink RX0 135 "WaxTurns$Scene" "goneBits" "I") (zm_X0_step_r1 (List.mem_of_getElem? (i := 4) rfl))) (fun _ h9 => h9) rfl (tyX5_ok 3 (by decide)) rfl rfl (Nat.le_of_ble_eq_true rfl) dX0_step_71 (fun H locs hP hD hS => ?_)
        refine zs_1 (y := (a1, .inr (5, [.int a1_0, a1g_1, a1g_2, .int x70, .int a1_4, .ref a1_5, a1g_6]))) hP hD rfl (fun hP hD => ?_)
        refine lv_aload_n hx hb dX0_step_74 rfl (lv_at hl 2 rfl) ?_
        refine va_get (D := (dC, dI)) (ci := 5) (v := .ref a1_5) (C := RX5) (T := TX5) (N := 7) hx hb hts zi_X0_step_5 hown hK hP 1 rfl rfl 5 (by decide) (hts (.fieldLink RX0 99 "WaxTurns$Scene" "places" "[I") (zm_X0_step_r1 (List.mem_of_getElem? (i := 0) rfl))) (fun _ h9 => h9) rfl dX0_step_75 ?_
        refine lv_iload_n hx hb dX0_step_78 rfl (lv_at hl 3 rfl) ?_
        refine lv_iload hx hb dX0_step_79 (lv_at hl 0 rfl) ?_
        refine va_iast hx hb hK hP hD hS 2 0 rfl rfl (ai_in ba2_l ba2_u (by decide) (by decide)) dX0_step_81 (fun H locs hP hD hS => ?_)
        obtain ⟨f81, hP, hD⟩ : ∃ f81 : Nat → Int32, va_P (dC, dI) vwCl [(a0, .inr (0, [a0g_0, a0g_1, .int a0_2, a0g_3, a0g_4, a0g_5, a0g_6, a0g_7, a0g_8, a0g_9, a0g_10, a0g_11, a0g_12, a0g_13, a0g_14])), (a1, .inr (5, [.int a1_0, a1g_1, a1g_2, .int x70, .int a1_4, .ref a1_5, a1g_6])), (a1_5, .inl (ka1_5, 9, .inl (f81))), (a3, .inr (6, [.int a3_0, .int a3_1, .ref a3_2, .ref a3_3])), (a3_3, .inl (ka3_3, 3, .inl (fa3_3))), (a3_2, .inl (ka3_2, 3, .inl (fa3_2)))] H ∧ va_D A [(a0, .inr (0, [a0g_0, a0g_1, .int a0_2, a0g_3, a0g_4, a0g_5, a0g_6, a0g_7, a0g_8, a0g_9, a0g_10, a0g_11, a0g_12, a0g_13, a0g_14])), (a1, .inr (5, [.int a1_0, a1g_1, a1g_2, .int x70, .int a1_4, .ref a1_5, a1g_6])), (a1_5, .inl (ka1_5, 9, .inl (f81))), (a3, .inr (6, [.int a3_0, .int a3_1, .ref a3_2, .ref a3_3])), (a3_3, .inl (ka3_3, 3, .inl (fa3_3))), (a3_2, .inl (ka3_2, 3, .inl (fa3_2)))] := ⟨_, hP, hD⟩
        exact W.vret hx hb hr (fun t ht hW => ⟨⟨(), rfl, trivial, x70, a1_4, f81, by rw [ht]; exact hP, va_K.moved hW.alike hK, hD⟩, hS.F ht⟩) hS.2.2 dX0_step_82
end P101_safe
