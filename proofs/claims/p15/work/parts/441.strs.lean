theorem sxc_of {args : Array Value} {s : State} {own : String} {k n : Nat} {byt : List Int32} {A : Nat → Prop} (hz : sx_Z A s) (hn : n ≤ 8) (hex : (Cond.exactly (.string own k) "java/lang/String").before args s = true) (hco : (Cond.eq (.field (.string own k) "java/lang/String" "code\x72" "B") (.int 0)).before args s = true)
    (har : (Cond.arrayOf (.field (.string own k) "java/lang/String" "value" "[B") .byte).before args s = true) (hle : (Cond.eq (.length (.field (.string own k) "java/lang/String" "value" "[B")) (.int (Int32.ofNat n))).before args s = true)
    (hel : ∀ j : Nat, j < n → (Cond.eq (.elem (.field (.string own k) "java/lang/String" "value" "[B") (.int (Int32.ofNat j))) (.int (byt.getD j 0))).before args s = true) (hbd : ∀ j : Nat, j < n → (0 : Int) ≤ (byt.getD j 0).toInt ∧ (byt.getD j 0).toInt ≤ 127) (hA : ∀ a : Nat, a < s.heap.size → ¬ A a) : ∃ w : Nat, (Term.string own k).eval args s none [] s = some (.ref w) ∧ sxc_W w n (fun j => byt.getD j 0) A s := by
  obtain ⟨adK, adV, h1, h2⟩ := vk_Sof (args := args) (s := s) (N := 1) (tm := fun _ => .string own k) (len := [n]) (byt := [byt]) (A := A)
    (fun i hi => by have e : i = 0 := (by omega); subst e; show n < 2 ^ 31; omega) (fun i hi => hex) (fun i hi => hco) (fun i hi => har) (fun i hi => by have e : i = 0 := (by omega); subst e; exact hle) (fun i hi j hj => by have e : i = 0 := (by omega); subst e; exact hel j hj) (fun i j hi hj hne => absurd (show i = j by omega) hne) hA
  have h := h1.1 0 (by omega)
  exact ⟨adK 0, h2 0 (by omega), hz, hn, h.1, h.2.1, hbd, adV 0, h.2.2.1, h.2.2.2⟩
set_option maxHeartbeats 4000000 in
set_option maxRecDepth 100000 in
theorem lg_s0 {s : State} {b : Nat} {A : Nat → Prop} (hz : sx_Z A s) (hgv : (Jvm.Cond.and given_1 narrow_1).before #[Value.ref b] s = true) (hA3 : ∀ a : Nat, a < s.heap.size → ¬ A a) : ∃ w : Nat, (Term.string RX3 98).eval #[Value.ref b] s none [] s = some (.ref w) ∧ sxc_W w 7 (sxc 0) A s := by
  have hsn := flat_of_before _ hgv
  refine sxc_of (own := RX3) (k := 98) (n := 7) (byt := [103, 97, 108, 108, 101, 114, 121]) hz (by decide) (hsn _ (List.mem_of_getElem? (i := 20) (by decide +kernel))) (hsn _ (List.mem_of_getElem? (i := 21) (by decide +kernel))) (hsn _ (List.mem_of_getElem? (i := 22) (by decide +kernel))) (hsn _ (List.mem_of_getElem? (i := 23) (by decide +kernel))) (fun j hj => ?_) (by decide) hA3
  rcases (show j = 0 ∨ j = 1 ∨ j = 2 ∨ j = 3 ∨ j = 4 ∨ j = 5 ∨ j = 6 by omega) with rfl | rfl | rfl | rfl | rfl | rfl | rfl
  · exact hsn _ (List.mem_of_getElem? (i := 24) (by decide +kernel))
  · exact hsn _ (List.mem_of_getElem? (i := 25) (by decide +kernel))
  · exact hsn _ (List.mem_of_getElem? (i := 26) (by decide +kernel))
  · exact hsn _ (List.mem_of_getElem? (i := 27) (by decide +kernel))
  · exact hsn _ (List.mem_of_getElem? (i := 28) (by decide +kernel))
  · exact hsn _ (List.mem_of_getElem? (i := 29) (by decide +kernel))
  · exact hsn _ (List.mem_of_getElem? (i := 30) (by decide +kernel))

set_option maxHeartbeats 4000000 in
set_option maxRecDepth 100000 in
theorem lg_s1 {s : State} {b : Nat} {A : Nat → Prop} (hz : sx_Z A s) (hgv : (Jvm.Cond.and given_1 narrow_1).before #[Value.ref b] s = true) (hA3 : ∀ a : Nat, a < s.heap.size → ¬ A a) : ∃ w : Nat, (Term.string RX3 110).eval #[Value.ref b] s none [] s = some (.ref w) ∧ sxc_W w 3 (sxc 1) A s := by
  have hsn := flat_of_before _ hgv
  refine sxc_of (own := RX3) (k := 110) (n := 3) (byt := [108, 97, 119]) hz (by decide) (hsn _ (List.mem_of_getElem? (i := 68) (by decide +kernel))) (hsn _ (List.mem_of_getElem? (i := 69) (by decide +kernel))) (hsn _ (List.mem_of_getElem? (i := 70) (by decide +kernel))) (hsn _ (List.mem_of_getElem? (i := 71) (by decide +kernel))) (fun j hj => ?_) (by decide) hA3
  rcases (show j = 0 ∨ j = 1 ∨ j = 2 by omega) with rfl | rfl | rfl
  · exact hsn _ (List.mem_of_getElem? (i := 72) (by decide +kernel))
  · exact hsn _ (List.mem_of_getElem? (i := 73) (by decide +kernel))
  · exact hsn _ (List.mem_of_getElem? (i := 74) (by decide +kernel))

set_option maxHeartbeats 4000000 in
set_option maxRecDepth 100000 in
theorem lg_s2 {s : State} {b : Nat} {A : Nat → Prop} (hz : sx_Z A s) (hgv : (Jvm.Cond.and given_1 narrow_1).before #[Value.ref b] s = true) (hA3 : ∀ a : Nat, a < s.heap.size → ¬ A a) : ∃ w : Nat, (Term.string RX3 112).eval #[Value.ref b] s none [] s = some (.ref w) ∧ sxc_W w 6 (sxc 2) A s := by
  have hsn := flat_of_before _ hgv
  refine sxc_of (own := RX3) (k := 112) (n := 6) (byt := [102, 105, 103, 117, 114, 101]) hz (by decide) (hsn _ (List.mem_of_getElem? (i := 75) (by decide +kernel))) (hsn _ (List.mem_of_getElem? (i := 76) (by decide +kernel))) (hsn _ (List.mem_of_getElem? (i := 77) (by decide +kernel))) (hsn _ (List.mem_of_getElem? (i := 78) (by decide +kernel))) (fun j hj => ?_) (by decide) hA3
  rcases (show j = 0 ∨ j = 1 ∨ j = 2 ∨ j = 3 ∨ j = 4 ∨ j = 5 by omega) with rfl | rfl | rfl | rfl | rfl | rfl
  · exact hsn _ (List.mem_of_getElem? (i := 79) (by decide +kernel))
  · exact hsn _ (List.mem_of_getElem? (i := 80) (by decide +kernel))
  · exact hsn _ (List.mem_of_getElem? (i := 81) (by decide +kernel))
  · exact hsn _ (List.mem_of_getElem? (i := 82) (by decide +kernel))
  · exact hsn _ (List.mem_of_getElem? (i := 83) (by decide +kernel))
  · exact hsn _ (List.mem_of_getElem? (i := 84) (by decide +kernel))

set_option maxHeartbeats 4000000 in
set_option maxRecDepth 100000 in
theorem lg_s3 {s : State} {b : Nat} {A : Nat → Prop} (hz : sx_Z A s) (hgv : (Jvm.Cond.and given_1 narrow_1).before #[Value.ref b] s = true) (hA3 : ∀ a : Nat, a < s.heap.size → ¬ A a) : ∃ w : Nat, (Term.string RX3 114).eval #[Value.ref b] s none [] s = some (.ref w) ∧ sxc_W w 7 (sxc 3) A s := by
  have hsn := flat_of_before _ hgv
  refine sxc_of (own := RX3) (k := 114) (n := 7) (byt := [119, 97, 116, 99, 104, 101, 114]) hz (by decide) (hsn _ (List.mem_of_getElem? (i := 85) (by decide +kernel))) (hsn _ (List.mem_of_getElem? (i := 86) (by decide +kernel))) (hsn _ (List.mem_of_getElem? (i := 87) (by decide +kernel))) (hsn _ (List.mem_of_getElem? (i := 88) (by decide +kernel))) (fun j hj => ?_) (by decide) hA3
  rcases (show j = 0 ∨ j = 1 ∨ j = 2 ∨ j = 3 ∨ j = 4 ∨ j = 5 ∨ j = 6 by omega) with rfl | rfl | rfl | rfl | rfl | rfl | rfl
  · exact hsn _ (List.mem_of_getElem? (i := 89) (by decide +kernel))
  · exact hsn _ (List.mem_of_getElem? (i := 90) (by decide +kernel))
  · exact hsn _ (List.mem_of_getElem? (i := 91) (by decide +kernel))
  · exact hsn _ (List.mem_of_getElem? (i := 92) (by decide +kernel))
  · exact hsn _ (List.mem_of_getElem? (i := 93) (by decide +kernel))
  · exact hsn _ (List.mem_of_getElem? (i := 94) (by decide +kernel))
  · exact hsn _ (List.mem_of_getElem? (i := 95) (by decide +kernel))

set_option maxHeartbeats 4000000 in
set_option maxRecDepth 100000 in
theorem lg_s4 {s : State} {b : Nat} {A : Nat → Prop} (hz : sx_Z A s) (hgv : (Jvm.Cond.and given_1 narrow_1).before #[Value.ref b] s = true) (hA3 : ∀ a : Nat, a < s.heap.size → ¬ A a) : ∃ w : Nat, (Term.string RX3 116).eval #[Value.ref b] s none [] s = some (.ref w) ∧ sxc_W w 4 (sxc 4) A s := by
  have hsn := flat_of_before _ hgv
  refine sxc_of (own := RX3) (k := 116) (n := 4) (byt := [115, 101, 101, 110]) hz (by decide) (hsn _ (List.mem_of_getElem? (i := 96) (by decide +kernel))) (hsn _ (List.mem_of_getElem? (i := 97) (by decide +kernel))) (hsn _ (List.mem_of_getElem? (i := 98) (by decide +kernel))) (hsn _ (List.mem_of_getElem? (i := 99) (by decide +kernel))) (fun j hj => ?_) (by decide) hA3
  rcases (show j = 0 ∨ j = 1 ∨ j = 2 ∨ j = 3 by omega) with rfl | rfl | rfl | rfl
  · exact hsn _ (List.mem_of_getElem? (i := 100) (by decide +kernel))
  · exact hsn _ (List.mem_of_getElem? (i := 101) (by decide +kernel))
  · exact hsn _ (List.mem_of_getElem? (i := 102) (by decide +kernel))
  · exact hsn _ (List.mem_of_getElem? (i := 103) (by decide +kernel))

set_option maxHeartbeats 4000000 in
set_option maxRecDepth 100000 in
theorem lg_s5 {s : State} {b : Nat} {A : Nat → Prop} (hz : sx_Z A s) (hgv : (Jvm.Cond.and given_1 narrow_1).before #[Value.ref b] s = true) (hA3 : ∀ a : Nat, a < s.heap.size → ¬ A a) : ∃ w : Nat, (Term.string RX3 151).eval #[Value.ref b] s none [] s = some (.ref w) ∧ sxc_W w 7 (sxc 5) A s := by
  have hsn := flat_of_before _ hgv
  refine sxc_of (own := RX3) (k := 151) (n := 7) (byt := [102, 105, 103, 117, 114, 101, 115]) hz (by decide) (hsn _ (List.mem_of_getElem? (i := 31) (by decide +kernel))) (hsn _ (List.mem_of_getElem? (i := 32) (by decide +kernel))) (hsn _ (List.mem_of_getElem? (i := 33) (by decide +kernel))) (hsn _ (List.mem_of_getElem? (i := 34) (by decide +kernel))) (fun j hj => ?_) (by decide) hA3
  rcases (show j = 0 ∨ j = 1 ∨ j = 2 ∨ j = 3 ∨ j = 4 ∨ j = 5 ∨ j = 6 by omega) with rfl | rfl | rfl | rfl | rfl | rfl | rfl
  · exact hsn _ (List.mem_of_getElem? (i := 35) (by decide +kernel))
  · exact hsn _ (List.mem_of_getElem? (i := 36) (by decide +kernel))
  · exact hsn _ (List.mem_of_getElem? (i := 37) (by decide +kernel))
  · exact hsn _ (List.mem_of_getElem? (i := 38) (by decide +kernel))
  · exact hsn _ (List.mem_of_getElem? (i := 39) (by decide +kernel))
  · exact hsn _ (List.mem_of_getElem? (i := 40) (by decide +kernel))
  · exact hsn _ (List.mem_of_getElem? (i := 41) (by decide +kernel))

set_option maxHeartbeats 4000000 in
set_option maxRecDepth 100000 in
theorem lg_s6 {s : State} {b : Nat} {A : Nat → Prop} (hz : sx_Z A s) (hgv : (Jvm.Cond.and given_1 narrow_1).before #[Value.ref b] s = true) (hA3 : ∀ a : Nat, a < s.heap.size → ¬ A a) : ∃ w : Nat, (Term.string RX3 159).eval #[Value.ref b] s none [] s = some (.ref w) ∧ sxc_W w 4 (sxc 6) A s := by
  have hsn := flat_of_before _ hgv
  refine sxc_of (own := RX3) (k := 159) (n := 4) (byt := [115, 112, 97, 110]) hz (by decide) (hsn _ (List.mem_of_getElem? (i := 42) (by decide +kernel))) (hsn _ (List.mem_of_getElem? (i := 43) (by decide +kernel))) (hsn _ (List.mem_of_getElem? (i := 44) (by decide +kernel))) (hsn _ (List.mem_of_getElem? (i := 45) (by decide +kernel))) (fun j hj => ?_) (by decide) hA3
  rcases (show j = 0 ∨ j = 1 ∨ j = 2 ∨ j = 3 by omega) with rfl | rfl | rfl | rfl
  · exact hsn _ (List.mem_of_getElem? (i := 46) (by decide +kernel))
  · exact hsn _ (List.mem_of_getElem? (i := 47) (by decide +kernel))
  · exact hsn _ (List.mem_of_getElem? (i := 48) (by decide +kernel))
  · exact hsn _ (List.mem_of_getElem? (i := 49) (by decide +kernel))

set_option maxHeartbeats 4000000 in
set_option maxRecDepth 100000 in
theorem lg_s7 {s : State} {b : Nat} {A : Nat → Prop} (hz : sx_Z A s) (hgv : (Jvm.Cond.and given_1 narrow_1).before #[Value.ref b] s = true) (hA3 : ∀ a : Nat, a < s.heap.size → ¬ A a) : ∃ w : Nat, (Term.string RX3 163).eval #[Value.ref b] s none [] s = some (.ref w) ∧ sxc_W w 6 (sxc 7) A s := by
  have hsn := flat_of_before _ hgv
  refine sxc_of (own := RX3) (k := 163) (n := 6) (byt := [115, 116, 97, 105, 114, 115]) hz (by decide) (hsn _ (List.mem_of_getElem? (i := 50) (by decide +kernel))) (hsn _ (List.mem_of_getElem? (i := 51) (by decide +kernel))) (hsn _ (List.mem_of_getElem? (i := 52) (by decide +kernel))) (hsn _ (List.mem_of_getElem? (i := 53) (by decide +kernel))) (fun j hj => ?_) (by decide) hA3
  rcases (show j = 0 ∨ j = 1 ∨ j = 2 ∨ j = 3 ∨ j = 4 ∨ j = 5 by omega) with rfl | rfl | rfl | rfl | rfl | rfl
  · exact hsn _ (List.mem_of_getElem? (i := 54) (by decide +kernel))
  · exact hsn _ (List.mem_of_getElem? (i := 55) (by decide +kernel))
  · exact hsn _ (List.mem_of_getElem? (i := 56) (by decide +kernel))
  · exact hsn _ (List.mem_of_getElem? (i := 57) (by decide +kernel))
  · exact hsn _ (List.mem_of_getElem? (i := 58) (by decide +kernel))
  · exact hsn _ (List.mem_of_getElem? (i := 59) (by decide +kernel))

set_option maxHeartbeats 4000000 in
set_option maxRecDepth 100000 in
theorem lg_s8 {s : State} {b : Nat} {A : Nat → Prop} (hz : sx_Z A s) (hgv : (Jvm.Cond.and given_1 narrow_1).before #[Value.ref b] s = true) (hA3 : ∀ a : Nat, a < s.heap.size → ¬ A a) : ∃ w : Nat, (Term.string RX3 168).eval #[Value.ref b] s none [] s = some (.ref w) ∧ sxc_W w 4 (sxc 8) A s := by
  have hsn := flat_of_before _ hgv
  refine sxc_of (own := RX3) (k := 168) (n := 4) (byt := [115, 104, 117, 116]) hz (by decide) (hsn _ (List.mem_of_getElem? (i := 60) (by decide +kernel))) (hsn _ (List.mem_of_getElem? (i := 61) (by decide +kernel))) (hsn _ (List.mem_of_getElem? (i := 62) (by decide +kernel))) (hsn _ (List.mem_of_getElem? (i := 63) (by decide +kernel))) (fun j hj => ?_) (by decide) hA3
  rcases (show j = 0 ∨ j = 1 ∨ j = 2 ∨ j = 3 by omega) with rfl | rfl | rfl | rfl
  · exact hsn _ (List.mem_of_getElem? (i := 64) (by decide +kernel))
  · exact hsn _ (List.mem_of_getElem? (i := 65) (by decide +kernel))
  · exact hsn _ (List.mem_of_getElem? (i := 66) (by decide +kernel))
  · exact hsn _ (List.mem_of_getElem? (i := 67) (by decide +kernel))

set_option maxHeartbeats 4000000 in
set_option maxRecDepth 100000 in
theorem lg_s9 {s : State} {b : Nat} {A : Nat → Prop} (hz : sx_Z A s) (hgv : (Jvm.Cond.and given_1 narrow_1).before #[Value.ref b] s = true) (hA3 : ∀ a : Nat, a < s.heap.size → ¬ A a) : ∃ w : Nat, (Term.string RX3 172).eval #[Value.ref b] s none [] s = some (.ref w) ∧ sxc_W w 5 (sxc 9) A s := by
  have hsn := flat_of_before _ hgv
  refine sxc_of (own := RX3) (k := 172) (n := 5) (byt := [116, 105, 109, 101, 115]) hz (by decide) (hsn _ (List.mem_of_getElem? (i := 104) (by decide +kernel))) (hsn _ (List.mem_of_getElem? (i := 105) (by decide +kernel))) (hsn _ (List.mem_of_getElem? (i := 106) (by decide +kernel))) (hsn _ (List.mem_of_getElem? (i := 107) (by decide +kernel))) (fun j hj => ?_) (by decide) hA3
  rcases (show j = 0 ∨ j = 1 ∨ j = 2 ∨ j = 3 ∨ j = 4 by omega) with rfl | rfl | rfl | rfl | rfl
  · exact hsn _ (List.mem_of_getElem? (i := 108) (by decide +kernel))
  · exact hsn _ (List.mem_of_getElem? (i := 109) (by decide +kernel))
  · exact hsn _ (List.mem_of_getElem? (i := 110) (by decide +kernel))
  · exact hsn _ (List.mem_of_getElem? (i := 111) (by decide +kernel))
  · exact hsn _ (List.mem_of_getElem? (i := 112) (by decide +kernel))

set_option maxHeartbeats 4000000 in
set_option maxRecDepth 100000 in
theorem lg_s10 {s : State} {b : Nat} {A : Nat → Prop} (hz : sx_Z A s) (hgv : (Jvm.Cond.and given_1 narrow_1).before #[Value.ref b] s = true) (hA3 : ∀ a : Nat, a < s.heap.size → ¬ A a) : ∃ w : Nat, (Term.string RX3 176).eval #[Value.ref b] s none [] s = some (.ref w) ∧ sxc_W w 4 (sxc 10) A s := by
  have hsn := flat_of_before _ hgv
  refine sxc_of (own := RX3) (k := 176) (n := 4) (byt := [112, 108, 117, 115]) hz (by decide) (hsn _ (List.mem_of_getElem? (i := 113) (by decide +kernel))) (hsn _ (List.mem_of_getElem? (i := 114) (by decide +kernel))) (hsn _ (List.mem_of_getElem? (i := 115) (by decide +kernel))) (hsn _ (List.mem_of_getElem? (i := 116) (by decide +kernel))) (fun j hj => ?_) (by decide) hA3
  rcases (show j = 0 ∨ j = 1 ∨ j = 2 ∨ j = 3 by omega) with rfl | rfl | rfl | rfl
  · exact hsn _ (List.mem_of_getElem? (i := 117) (by decide +kernel))
  · exact hsn _ (List.mem_of_getElem? (i := 118) (by decide +kernel))
  · exact hsn _ (List.mem_of_getElem? (i := 119) (by decide +kernel))
  · exact hsn _ (List.mem_of_getElem? (i := 120) (by decide +kernel))

set_option maxHeartbeats 4000000 in
set_option maxRecDepth 100000 in
theorem lg_s11 {s : State} {b : Nat} {A : Nat → Prop} (hz : sx_Z A s) (hgv : (Jvm.Cond.and given_1 narrow_1).before #[Value.ref b] s = true) (hA3 : ∀ a : Nat, a < s.heap.size → ¬ A a) : ∃ w : Nat, (Term.string RX3 180).eval #[Value.ref b] s none [] s = some (.ref w) ∧ sxc_W w 5 (sxc 11) A s := by
  have hsn := flat_of_before _ hgv
  refine sxc_of (own := RX3) (k := 180) (n := 5) (byt := [102, 105, 114, 115, 116]) hz (by decide) (hsn _ (List.mem_of_getElem? (i := 121) (by decide +kernel))) (hsn _ (List.mem_of_getElem? (i := 122) (by decide +kernel))) (hsn _ (List.mem_of_getElem? (i := 123) (by decide +kernel))) (hsn _ (List.mem_of_getElem? (i := 124) (by decide +kernel))) (fun j hj => ?_) (by decide) hA3
  rcases (show j = 0 ∨ j = 1 ∨ j = 2 ∨ j = 3 ∨ j = 4 by omega) with rfl | rfl | rfl | rfl | rfl
  · exact hsn _ (List.mem_of_getElem? (i := 125) (by decide +kernel))
  · exact hsn _ (List.mem_of_getElem? (i := 126) (by decide +kernel))
  · exact hsn _ (List.mem_of_getElem? (i := 127) (by decide +kernel))
  · exact hsn _ (List.mem_of_getElem? (i := 128) (by decide +kernel))
  · exact hsn _ (List.mem_of_getElem? (i := 129) (by decide +kernel))

set_option maxHeartbeats 4000000 in
set_option maxRecDepth 100000 in
theorem lg_s12 {s : State} {b : Nat} {A : Nat → Prop} (hz : sx_Z A s) (hgv : (Jvm.Cond.and given_1 narrow_1).before #[Value.ref b] s = true) (hA3 : ∀ a : Nat, a < s.heap.size → ¬ A a) : ∃ w : Nat, (Term.string RX3 187).eval #[Value.ref b] s none [] s = some (.ref w) ∧ sxc_W w 2 (sxc 12) A s := by
  have hsn := flat_of_before _ hgv
  refine sxc_of (own := RX3) (k := 187) (n := 2) (byt := [105, 115]) hz (by decide) (hsn _ (List.mem_of_getElem? (i := 130) (by decide +kernel))) (hsn _ (List.mem_of_getElem? (i := 131) (by decide +kernel))) (hsn _ (List.mem_of_getElem? (i := 132) (by decide +kernel))) (hsn _ (List.mem_of_getElem? (i := 133) (by decide +kernel))) (fun j hj => ?_) (by decide) hA3
  rcases (show j = 0 ∨ j = 1 by omega) with rfl | rfl
  · exact hsn _ (List.mem_of_getElem? (i := 134) (by decide +kernel))
  · exact hsn _ (List.mem_of_getElem? (i := 135) (by decide +kernel))

set_option maxHeartbeats 4000000 in
set_option maxRecDepth 100000 in
theorem lg_s13 {s : State} {b : Nat} {A : Nat → Prop} (hz : sx_Z A s) (hgv : (Jvm.Cond.and given_1 narrow_1).before #[Value.ref b] s = true) (hA3 : ∀ a : Nat, a < s.heap.size → ¬ A a) : ∃ w : Nat, (Term.string RX3 199).eval #[Value.ref b] s none [] s = some (.ref w) ∧ sxc_W w 5 (sxc 13) A s := by
  have hsn := flat_of_before _ hgv
  refine sxc_of (own := RX3) (k := 199) (n := 5) (byt := [119, 97, 108, 107, 115]) hz (by decide) (hsn _ (List.mem_of_getElem? (i := 136) (by decide +kernel))) (hsn _ (List.mem_of_getElem? (i := 137) (by decide +kernel))) (hsn _ (List.mem_of_getElem? (i := 138) (by decide +kernel))) (hsn _ (List.mem_of_getElem? (i := 139) (by decide +kernel))) (fun j hj => ?_) (by decide) hA3
  rcases (show j = 0 ∨ j = 1 ∨ j = 2 ∨ j = 3 ∨ j = 4 by omega) with rfl | rfl | rfl | rfl | rfl
  · exact hsn _ (List.mem_of_getElem? (i := 140) (by decide +kernel))
  · exact hsn _ (List.mem_of_getElem? (i := 141) (by decide +kernel))
  · exact hsn _ (List.mem_of_getElem? (i := 142) (by decide +kernel))
  · exact hsn _ (List.mem_of_getElem? (i := 143) (by decide +kernel))
  · exact hsn _ (List.mem_of_getElem? (i := 144) (by decide +kernel))

set_option maxHeartbeats 4000000 in
set_option maxRecDepth 100000 in
theorem lg_s14 {s : State} {b : Nat} {A : Nat → Prop} (hz : sx_Z A s) (hgv : (Jvm.Cond.and given_1 narrow_1).before #[Value.ref b] s = true) (hA3 : ∀ a : Nat, a < s.heap.size → ¬ A a) : ∃ w : Nat, (Term.string RX3 201).eval #[Value.ref b] s none [] s = some (.ref w) ∧ sxc_W w 6 (sxc 14) A s := by
  have hsn := flat_of_before _ hgv
  refine sxc_of (own := RX3) (k := 201) (n := 6) (byt := [115, 112, 101, 97, 107, 115]) hz (by decide) (hsn _ (List.mem_of_getElem? (i := 145) (by decide +kernel))) (hsn _ (List.mem_of_getElem? (i := 146) (by decide +kernel))) (hsn _ (List.mem_of_getElem? (i := 147) (by decide +kernel))) (hsn _ (List.mem_of_getElem? (i := 148) (by decide +kernel))) (fun j hj => ?_) (by decide) hA3
  rcases (show j = 0 ∨ j = 1 ∨ j = 2 ∨ j = 3 ∨ j = 4 ∨ j = 5 by omega) with rfl | rfl | rfl | rfl | rfl | rfl
  · exact hsn _ (List.mem_of_getElem? (i := 149) (by decide +kernel))
  · exact hsn _ (List.mem_of_getElem? (i := 150) (by decide +kernel))
  · exact hsn _ (List.mem_of_getElem? (i := 151) (by decide +kernel))
  · exact hsn _ (List.mem_of_getElem? (i := 152) (by decide +kernel))
  · exact hsn _ (List.mem_of_getElem? (i := 153) (by decide +kernel))
  · exact hsn _ (List.mem_of_getElem? (i := 154) (by decide +kernel))

set_option maxHeartbeats 4000000 in
set_option maxRecDepth 100000 in
theorem lg_s15 {s : State} {b : Nat} {A : Nat → Prop} (hz : sx_Z A s) (hgv : (Jvm.Cond.and given_1 narrow_1).before #[Value.ref b] s = true) (hA3 : ∀ a : Nat, a < s.heap.size → ¬ A a) : ∃ w : Nat, (Term.string RX3 207).eval #[Value.ref b] s none [] s = some (.ref w) ∧ sxc_W w 4 (sxc 15) A s := by
  have hsn := flat_of_before _ hgv
  refine sxc_of (own := RX3) (k := 207) (n := 4) (byt := [102, 114, 111, 109]) hz (by decide) (hsn _ (List.mem_of_getElem? (i := 155) (by decide +kernel))) (hsn _ (List.mem_of_getElem? (i := 156) (by decide +kernel))) (hsn _ (List.mem_of_getElem? (i := 157) (by decide +kernel))) (hsn _ (List.mem_of_getElem? (i := 158) (by decide +kernel))) (fun j hj => ?_) (by decide) hA3
  rcases (show j = 0 ∨ j = 1 ∨ j = 2 ∨ j = 3 by omega) with rfl | rfl | rfl | rfl
  · exact hsn _ (List.mem_of_getElem? (i := 159) (by decide +kernel))
  · exact hsn _ (List.mem_of_getElem? (i := 160) (by decide +kernel))
  · exact hsn _ (List.mem_of_getElem? (i := 161) (by decide +kernel))
  · exact hsn _ (List.mem_of_getElem? (i := 162) (by decide +kernel))

set_option maxHeartbeats 4000000 in
set_option maxRecDepth 100000 in
theorem lg_s16 {s : State} {b : Nat} {A : Nat → Prop} (hz : sx_Z A s) (hgv : (Jvm.Cond.and given_1 narrow_1).before #[Value.ref b] s = true) (hA3 : ∀ a : Nat, a < s.heap.size → ¬ A a) : ∃ w : Nat, (Term.string RX3 209).eval #[Value.ref b] s none [] s = some (.ref w) ∧ sxc_W w 2 (sxc 16) A s := by
  have hsn := flat_of_before _ hgv
  refine sxc_of (own := RX3) (k := 209) (n := 2) (byt := [116, 111]) hz (by decide) (hsn _ (List.mem_of_getElem? (i := 163) (by decide +kernel))) (hsn _ (List.mem_of_getElem? (i := 164) (by decide +kernel))) (hsn _ (List.mem_of_getElem? (i := 165) (by decide +kernel))) (hsn _ (List.mem_of_getElem? (i := 166) (by decide +kernel))) (fun j hj => ?_) (by decide) hA3
  rcases (show j = 0 ∨ j = 1 by omega) with rfl | rfl
  · exact hsn _ (List.mem_of_getElem? (i := 167) (by decide +kernel))
  · exact hsn _ (List.mem_of_getElem? (i := 168) (by decide +kernel))

set_option maxHeartbeats 4000000 in
set_option maxRecDepth 100000 in
theorem lg_s17 {s : State} {b : Nat} {A : Nat → Prop} (hz : sx_Z A s) (hgv : (Jvm.Cond.and given_1 narrow_1).before #[Value.ref b] s = true) (hA3 : ∀ a : Nat, a < s.heap.size → ¬ A a) : ∃ w : Nat, (Term.string RX3 215).eval #[Value.ref b] s none [] s = some (.ref w) ∧ sxc_W w 2 (sxc 17) A s := by
  have hsn := flat_of_before _ hgv
  refine sxc_of (own := RX3) (k := 215) (n := 2) (byt := [97, 116]) hz (by decide) (hsn _ (List.mem_of_getElem? (i := 169) (by decide +kernel))) (hsn _ (List.mem_of_getElem? (i := 170) (by decide +kernel))) (hsn _ (List.mem_of_getElem? (i := 171) (by decide +kernel))) (hsn _ (List.mem_of_getElem? (i := 172) (by decide +kernel))) (fun j hj => ?_) (by decide) hA3
  rcases (show j = 0 ∨ j = 1 by omega) with rfl | rfl
  · exact hsn _ (List.mem_of_getElem? (i := 173) (by decide +kernel))
  · exact hsn _ (List.mem_of_getElem? (i := 174) (by decide +kernel))
