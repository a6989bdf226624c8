section RSG
theorem rs_L_cg {fg sp : Int} {kd gI gI1 row : Nat → Int} {gF gF1 : Nat → Nat → Int} {j n : Nat} (hj : j < n) (hI : ∀ k : Nat, k < 5 * n → gI1 k = gI k) (hF : ∀ k : Nat, k < 2 * n → gF1 k = gF k) (h : rs_L fg sp kd gI gF j row) : rs_L fg sp kd gI1 gF1 j row := by
  unfold rs_L at h ⊢
  rw [hI (5 * j) (by omega), hI (5 * j + 1) (by omega), hI (5 * j + 2) (by omega), hI (5 * j + 3) (by omega), hI (5 * j + 4) (by omega), hF (2 * j) (by omega), hF (2 * j + 1) (by omega)]
  exact h
theorem rs_H_cg {fg sp U L : Int} {kd gI gI1 und : Nat → Int} {gF gF1 : Nat → Nat → Int} (hI : ∀ k : Nat, k < 80 → gI1 k = gI k) (hF : ∀ k : Nat, k < 32 → gF1 k = gF k) (h : rs_H fg sp kd U L gI gF und) : rs_H fg sp kd U L gI1 gF1 und := by
  obtain ⟨a, b, c⟩ := h
  exact ⟨a, b, fun i hi => rs_L_cg (n := 16) (Nat.mod_lt _ (by decide)) hI hF (c i hi)⟩
theorem rs_I_cg {fg sp N : Int} {kd gI gI1 kp : Nat → Int} {gF gF1 : Nat → Nat → Int} (hI : ∀ k : Nat, k < 15 → gI1 k = gI k) (hF : ∀ k : Nat, k < 6 → gF1 k = gF k) (h : rs_I fg sp kd N gI gF kp) : rs_I fg sp kd N gI1 gF1 kp := by
  obtain ⟨a, c⟩ := h
  exact ⟨a, fun i hi => rs_L_cg (n := 3) (by omega) hI hF (c i hi)⟩
theorem fl_nI_r (f : Nat → Int) {n k : Nat} (h : k < n) : fl_nI ((List.range n).map f) k = f k := by
  unfold fl_nI
  rw [List.getD_eq_getElem?_getD, List.getElem?_map, List.getElem?_range h]
  rfl
theorem fl_nF_r (f : Nat → Nat → Int) {n k : Nat} (h : k < n) : fl_nF ((List.range n).map f) k = f k := by
  unfold fl_nF
  rw [List.getD_eq_getElem?_getD, List.getElem?_map, List.getElem?_range h]
  rfl
theorem kp_out {l : List Nat} {a b k : Nat} (h : l.all (fun x => decide (x < a) || decide (b ≤ x)) = true) (h1 : a ≤ k) (h2 : k < b) : k ∉ l := by
  intro hm
  have h3 := List.all_eq_true.mp h k hm
  rw [Bool.or_eq_true, decide_eq_true_eq, decide_eq_true_eq] at h3
  omega
/-- the kept scenes and images as the object has them -/
def lr_g3 (vi : Nat → Int32) : Nat → Int := fun k => (vi (57 + k)).toInt
def lr_f3 (vf : Nat → Nat → Int32) : Nat → Nat → Int := fun k => fl_A (vf (23 + k))
def lr_g4 (vi : Nat → Int32) : Nat → Int := fun k => (vi (137 + k)).toInt
def lr_f4 (vf : Nat → Nat → Int32) : Nat → Nat → Int := fun k => fl_A (vf (55 + k))
set_option maxRecDepth 100000 in
theorem lr_g3e (vi : Nat → Int32) {k : Nat} (h : k < 80) : (fl_nI [(vi 57).toInt, (vi 58).toInt, (vi 59).toInt, (vi 60).toInt, (vi 61).toInt, (vi 62).toInt, (vi 63).toInt, (vi 64).toInt, (vi 65).toInt, (vi 66).toInt, (vi 67).toInt, (vi 68).toInt, (vi 69).toInt, (vi 70).toInt, (vi 71).toInt, (vi 72).toInt, (vi 73).toInt, (vi 74).toInt, (vi 75).toInt, (vi 76).toInt, (vi 77).toInt, (vi 78).toInt, (vi 79).toInt, (vi 80).toInt, (vi 81).toInt, (vi 82).toInt, (vi 83).toInt, (vi 84).toInt, (vi 85).toInt, (vi 86).toInt, (vi 87).toInt, (vi 88).toInt, (vi 89).toInt, (vi 90).toInt, (vi 91).toInt, (vi 92).toInt, (vi 93).toInt, (vi 94).toInt, (vi 95).toInt, (vi 96).toInt, (vi 97).toInt, (vi 98).toInt, (vi 99).toInt, (vi 100).toInt, (vi 101).toInt, (vi 102).toInt, (vi 103).toInt, (vi 104).toInt, (vi 105).toInt, (vi 106).toInt, (vi 107).toInt, (vi 108).toInt, (vi 109).toInt, (vi 110).toInt, (vi 111).toInt, (vi 112).toInt, (vi 113).toInt, (vi 114).toInt, (vi 115).toInt, (vi 116).toInt, (vi 117).toInt, (vi 118).toInt, (vi 119).toInt, (vi 120).toInt, (vi 121).toInt, (vi 122).toInt, (vi 123).toInt, (vi 124).toInt, (vi 125).toInt, (vi 126).toInt, (vi 127).toInt, (vi 128).toInt, (vi 129).toInt, (vi 130).toInt, (vi 131).toInt, (vi 132).toInt, (vi 133).toInt, (vi 134).toInt, (vi 135).toInt, (vi 136).toInt]) k = lr_g3 vi k := (congrFun (show (fl_nI [(vi 57).toInt, (vi 58).toInt, (vi 59).toInt, (vi 60).toInt, (vi 61).toInt, (vi 62).toInt, (vi 63).toInt, (vi 64).toInt, (vi 65).toInt, (vi 66).toInt, (vi 67).toInt, (vi 68).toInt, (vi 69).toInt, (vi 70).toInt, (vi 71).toInt, (vi 72).toInt, (vi 73).toInt, (vi 74).toInt, (vi 75).toInt, (vi 76).toInt, (vi 77).toInt, (vi 78).toInt, (vi 79).toInt, (vi 80).toInt, (vi 81).toInt, (vi 82).toInt, (vi 83).toInt, (vi 84).toInt, (vi 85).toInt, (vi 86).toInt, (vi 87).toInt, (vi 88).toInt, (vi 89).toInt, (vi 90).toInt, (vi 91).toInt, (vi 92).toInt, (vi 93).toInt, (vi 94).toInt, (vi 95).toInt, (vi 96).toInt, (vi 97).toInt, (vi 98).toInt, (vi 99).toInt, (vi 100).toInt, (vi 101).toInt, (vi 102).toInt, (vi 103).toInt, (vi 104).toInt, (vi 105).toInt, (vi 106).toInt, (vi 107).toInt, (vi 108).toInt, (vi 109).toInt, (vi 110).toInt, (vi 111).toInt, (vi 112).toInt, (vi 113).toInt, (vi 114).toInt, (vi 115).toInt, (vi 116).toInt, (vi 117).toInt, (vi 118).toInt, (vi 119).toInt, (vi 120).toInt, (vi 121).toInt, (vi 122).toInt, (vi 123).toInt, (vi 124).toInt, (vi 125).toInt, (vi 126).toInt, (vi 127).toInt, (vi 128).toInt, (vi 129).toInt, (vi 130).toInt, (vi 131).toInt, (vi 132).toInt, (vi 133).toInt, (vi 134).toInt, (vi 135).toInt, (vi 136).toInt]) = fl_nI ((List.range 80).map (fun k => (vi (57 + k)).toInt)) from rfl) k).trans (fl_nI_r _ h)
set_option maxRecDepth 100000 in
theorem lr_f3e (vi : Nat → Nat → Int32) {k : Nat} (h : k < 32) : (fl_nF [(fl_A (vi 23)), (fl_A (vi 24)), (fl_A (vi 25)), (fl_A (vi 26)), (fl_A (vi 27)), (fl_A (vi 28)), (fl_A (vi 29)), (fl_A (vi 30)), (fl_A (vi 31)), (fl_A (vi 32)), (fl_A (vi 33)), (fl_A (vi 34)), (fl_A (vi 35)), (fl_A (vi 36)), (fl_A (vi 37)), (fl_A (vi 38)), (fl_A (vi 39)), (fl_A (vi 40)), (fl_A (vi 41)), (fl_A (vi 42)), (fl_A (vi 43)), (fl_A (vi 44)), (fl_A (vi 45)), (fl_A (vi 46)), (fl_A (vi 47)), (fl_A (vi 48)), (fl_A (vi 49)), (fl_A (vi 50)), (fl_A (vi 51)), (fl_A (vi 52)), (fl_A (vi 53)), (fl_A (vi 54))]) k = lr_f3 vi k := (congrFun (show (fl_nF [(fl_A (vi 23)), (fl_A (vi 24)), (fl_A (vi 25)), (fl_A (vi 26)), (fl_A (vi 27)), (fl_A (vi 28)), (fl_A (vi 29)), (fl_A (vi 30)), (fl_A (vi 31)), (fl_A (vi 32)), (fl_A (vi 33)), (fl_A (vi 34)), (fl_A (vi 35)), (fl_A (vi 36)), (fl_A (vi 37)), (fl_A (vi 38)), (fl_A (vi 39)), (fl_A (vi 40)), (fl_A (vi 41)), (fl_A (vi 42)), (fl_A (vi 43)), (fl_A (vi 44)), (fl_A (vi 45)), (fl_A (vi 46)), (fl_A (vi 47)), (fl_A (vi 48)), (fl_A (vi 49)), (fl_A (vi 50)), (fl_A (vi 51)), (fl_A (vi 52)), (fl_A (vi 53)), (fl_A (vi 54))]) = fl_nF ((List.range 32).map (fun k => fl_A (vi (23 + k)))) from rfl) k).trans (fl_nF_r _ h)
set_option maxRecDepth 100000 in
theorem lr_g4e (vi : Nat → Int32) {k : Nat} (h : k < 15) : (fl_nI [(vi 137).toInt, (vi 138).toInt, (vi 139).toInt, (vi 140).toInt, (vi 141).toInt, (vi 142).toInt, (vi 143).toInt, (vi 144).toInt, (vi 145).toInt, (vi 146).toInt, (vi 147).toInt, (vi 148).toInt, (vi 149).toInt, (vi 150).toInt, (vi 151).toInt]) k = lr_g4 vi k := (congrFun (show (fl_nI [(vi 137).toInt, (vi 138).toInt, (vi 139).toInt, (vi 140).toInt, (vi 141).toInt, (vi 142).toInt, (vi 143).toInt, (vi 144).toInt, (vi 145).toInt, (vi 146).toInt, (vi 147).toInt, (vi 148).toInt, (vi 149).toInt, (vi 150).toInt, (vi 151).toInt]) = fl_nI ((List.range 15).map (fun k => (vi (137 + k)).toInt)) from rfl) k).trans (fl_nI_r _ h)
set_option maxRecDepth 100000 in
theorem lr_f4e (vi : Nat → Nat → Int32) {k : Nat} (h : k < 6) : (fl_nF [(fl_A (vi 55)), (fl_A (vi 56)), (fl_A (vi 57)), (fl_A (vi 58)), (fl_A (vi 59)), (fl_A (vi 60))]) k = lr_f4 vi k := (congrFun (show (fl_nF [(fl_A (vi 55)), (fl_A (vi 56)), (fl_A (vi 57)), (fl_A (vi 58)), (fl_A (vi 59)), (fl_A (vi 60))]) = fl_nF ((List.range 6).map (fun k => fl_A (vi (55 + k)))) from rfl) k).trans (fl_nF_r _ h)
end RSG
