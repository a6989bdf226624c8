theorem sxc_of {args : Array Value} {s : State} {own : String} {k n : Nat} {byt : List Int32} {A : Nat → Prop} (hz : sx_Z A s) (hn : n ≤ 8) (hex : (Cond.exactly (.string own k) "java/lang/String").before args s = true) (hco : (Cond.eq (.field (.string own k) "java/lang/String" "code\x72" "B") (.int 0)).before args s = true)
    (har : (Cond.arrayOf (.field (.string own k) "java/lang/String" "value" "[B") .byte).before args s = true) (hle : (Cond.eq (.length (.field (.string own k) "java/lang/String" "value" "[B")) (.int (Int32.ofNat n))).before args s = true)
    (hel : ∀ j : Nat, j < n → (Cond.eq (.elem (.field (.string own k) "java/lang/String" "value" "[B") (.int (Int32.ofNat j))) (.int (byt.getD j 0))).before args s = true) (hbd : ∀ j : Nat, j < n → (0 : Int) ≤ (byt.getD j 0).toInt ∧ (byt.getD j 0).toInt ≤ 127) (hA : ∀ a : Nat, a < s.heap.size → ¬ A a) : ∃ w : Nat, (Term.string own k).eval args s none [] s = some (.ref w) ∧ sxc_W w n (fun j => byt.getD j 0) A s := by
  obtain ⟨adK, adV, h1, h2⟩ := vk_Sof (args := args) (s := s) (N := 1) (tm := fun _ => .string own k) (len := [n]) (byt := [byt]) (A := A)
    (fun i hi => by have e : i = 0 := (by omega); subst e; show n < 2 ^ 31; omega) (fun i hi => hex) (fun i hi => hco) (fun i hi => har) (fun i hi => by have e : i = 0 := (by omega); subst e; exact hle) (fun i hi j hj => by have e : i = 0 := (by omega); subst e; exact hel j hj) (fun i j hi hj hne => absurd (show i = j by omega) hne) hA
  have h := h1.1 0 (by omega)
  exact ⟨adK 0, h2 0 (by omega), hz, hn, h.1, h.2.1, hbd, adV 0, h.2.2.1, h.2.2.2⟩
/-- what the start says of a String -/
def sx_ck (own : String) (k n : Nat) (byt : List Int32) : List Cond := Cond.exactly (.string own k) "java/lang/String" :: Cond.eq (.field (.string own k) "java/lang/String" "code\x72" "B") (.int 0) :: Cond.arrayOf (.field (.string own k) "java/lang/String" "value" "[B") .byte :: Cond.eq (.length (.field (.string own k) "java/lang/String" "value" "[B")) (.int (Int32.ofNat n)) :: (List.range n).map (fun j => Cond.eq (.elem (.field (.string own k) "java/lang/String" "value" "[B") (.int (Int32.ofNat j))) (.int (byt.getD j 0)))
theorem sxc_of2 {args : Array Value} {s : State} {own : String} {k n : Nat} {byt : List Int32} {A : Nat → Prop} {T : Cond} (hz : sx_Z A s) (hn : n ≤ 8) (hsn : ∀ c ∈ flatC T, c.before args s = true) (i : Nat) (hc : ((flatC T).drop i).take (n + 4) = sx_ck own k n byt) (hbd : ∀ j : Nat, j < n → (0 : Int) ≤ (byt.getD j 0).toInt ∧ (byt.getD j 0).toInt ≤ 127) (hA : ∀ a : Nat, a < s.heap.size → ¬ A a) : ∃ w : Nat, (Term.string own k).eval args s none [] s = some (.ref w) ∧ sxc_W w n (fun j => byt.getD j 0) A s := by
  have hm : ∀ c ∈ sx_ck own k n byt, c.before args s = true := fun c h => hsn c (by rw [← hc] at h; exact List.mem_of_mem_drop (List.mem_of_mem_take h))
  unfold sx_ck at hm
  exact sxc_of hz hn (hm _ List.mem_cons_self) (hm _ (List.mem_cons_of_mem _ List.mem_cons_self)) (hm _ (List.mem_cons_of_mem _ (List.mem_cons_of_mem _ List.mem_cons_self))) (hm _ (List.mem_cons_of_mem _ (List.mem_cons_of_mem _ (List.mem_cons_of_mem _ List.mem_cons_self)))) (fun j hj => hm _ (List.mem_cons_of_mem _ (List.mem_cons_of_mem _ (List.mem_cons_of_mem _ (List.mem_cons_of_mem _ (List.mem_map.mpr ⟨j, List.mem_range.mpr hj, rfl⟩)))))) hbd hA
set_option maxHeartbeats 4000000 in
set_option maxRecDepth 100000 in
theorem lg_s0 {s : State} {b : Nat} {A : Nat → Prop} (hz : sx_Z A s) (hgv : (Jvm.Cond.and given_1 narrow_1).before #[Value.ref b] s = true) (hA3 : ∀ a : Nat, a < s.heap.size → ¬ A a) : ∃ w : Nat, (Term.string RX3 98).eval #[Value.ref b] s none [] s = some (.ref w) ∧ sxc_W w 7 (sxc 0) A s := by
  exact sxc_of2 (own := RX3) (k := 98) (n := 7) (byt := [103, 97, 108, 108, 101, 114, 121]) hz (by decide) (flat_of_before _ hgv) 20 (by decide +kernel) (by decide) hA3

set_option maxHeartbeats 4000000 in
set_option maxRecDepth 100000 in
theorem lg_s1 {s : State} {b : Nat} {A : Nat → Prop} (hz : sx_Z A s) (hgv : (Jvm.Cond.and given_1 narrow_1).before #[Value.ref b] s = true) (hA3 : ∀ a : Nat, a < s.heap.size → ¬ A a) : ∃ w : Nat, (Term.string RX3 110).eval #[Value.ref b] s none [] s = some (.ref w) ∧ sxc_W w 3 (sxc 1) A s := by
  exact sxc_of2 (own := RX3) (k := 110) (n := 3) (byt := [108, 97, 119]) hz (by decide) (flat_of_before _ hgv) 68 (by decide +kernel) (by decide) hA3

set_option maxHeartbeats 4000000 in
set_option maxRecDepth 100000 in
theorem lg_s2 {s : State} {b : Nat} {A : Nat → Prop} (hz : sx_Z A s) (hgv : (Jvm.Cond.and given_1 narrow_1).before #[Value.ref b] s = true) (hA3 : ∀ a : Nat, a < s.heap.size → ¬ A a) : ∃ w : Nat, (Term.string RX3 112).eval #[Value.ref b] s none [] s = some (.ref w) ∧ sxc_W w 6 (sxc 2) A s := by
  exact sxc_of2 (own := RX3) (k := 112) (n := 6) (byt := [102, 105, 103, 117, 114, 101]) hz (by decide) (flat_of_before _ hgv) 75 (by decide +kernel) (by decide) hA3

set_option maxHeartbeats 4000000 in
set_option maxRecDepth 100000 in
theorem lg_s3 {s : State} {b : Nat} {A : Nat → Prop} (hz : sx_Z A s) (hgv : (Jvm.Cond.and given_1 narrow_1).before #[Value.ref b] s = true) (hA3 : ∀ a : Nat, a < s.heap.size → ¬ A a) : ∃ w : Nat, (Term.string RX3 114).eval #[Value.ref b] s none [] s = some (.ref w) ∧ sxc_W w 7 (sxc 3) A s := by
  exact sxc_of2 (own := RX3) (k := 114) (n := 7) (byt := [119, 97, 116, 99, 104, 101, 114]) hz (by decide) (flat_of_before _ hgv) 85 (by decide +kernel) (by decide) hA3

set_option maxHeartbeats 4000000 in
set_option maxRecDepth 100000 in
theorem lg_s4 {s : State} {b : Nat} {A : Nat → Prop} (hz : sx_Z A s) (hgv : (Jvm.Cond.and given_1 narrow_1).before #[Value.ref b] s = true) (hA3 : ∀ a : Nat, a < s.heap.size → ¬ A a) : ∃ w : Nat, (Term.string RX3 116).eval #[Value.ref b] s none [] s = some (.ref w) ∧ sxc_W w 4 (sxc 4) A s := by
  exact sxc_of2 (own := RX3) (k := 116) (n := 4) (byt := [115, 101, 101, 110]) hz (by decide) (flat_of_before _ hgv) 96 (by decide +kernel) (by decide) hA3

set_option maxHeartbeats 4000000 in
set_option maxRecDepth 100000 in
theorem lg_s5 {s : State} {b : Nat} {A : Nat → Prop} (hz : sx_Z A s) (hgv : (Jvm.Cond.and given_1 narrow_1).before #[Value.ref b] s = true) (hA3 : ∀ a : Nat, a < s.heap.size → ¬ A a) : ∃ w : Nat, (Term.string RX3 151).eval #[Value.ref b] s none [] s = some (.ref w) ∧ sxc_W w 7 (sxc 5) A s := by
  exact sxc_of2 (own := RX3) (k := 151) (n := 7) (byt := [102, 105, 103, 117, 114, 101, 115]) hz (by decide) (flat_of_before _ hgv) 31 (by decide +kernel) (by decide) hA3

set_option maxHeartbeats 4000000 in
set_option maxRecDepth 100000 in
theorem lg_s6 {s : State} {b : Nat} {A : Nat → Prop} (hz : sx_Z A s) (hgv : (Jvm.Cond.and given_1 narrow_1).before #[Value.ref b] s = true) (hA3 : ∀ a : Nat, a < s.heap.size → ¬ A a) : ∃ w : Nat, (Term.string RX3 159).eval #[Value.ref b] s none [] s = some (.ref w) ∧ sxc_W w 4 (sxc 6) A s := by
  exact sxc_of2 (own := RX3) (k := 159) (n := 4) (byt := [115, 112, 97, 110]) hz (by decide) (flat_of_before _ hgv) 42 (by decide +kernel) (by decide) hA3

set_option maxHeartbeats 4000000 in
set_option maxRecDepth 100000 in
theorem lg_s7 {s : State} {b : Nat} {A : Nat → Prop} (hz : sx_Z A s) (hgv : (Jvm.Cond.and given_1 narrow_1).before #[Value.ref b] s = true) (hA3 : ∀ a : Nat, a < s.heap.size → ¬ A a) : ∃ w : Nat, (Term.string RX3 163).eval #[Value.ref b] s none [] s = some (.ref w) ∧ sxc_W w 6 (sxc 7) A s := by
  exact sxc_of2 (own := RX3) (k := 163) (n := 6) (byt := [115, 116, 97, 105, 114, 115]) hz (by decide) (flat_of_before _ hgv) 50 (by decide +kernel) (by decide) hA3

set_option maxHeartbeats 4000000 in
set_option maxRecDepth 100000 in
theorem lg_s8 {s : State} {b : Nat} {A : Nat → Prop} (hz : sx_Z A s) (hgv : (Jvm.Cond.and given_1 narrow_1).before #[Value.ref b] s = true) (hA3 : ∀ a : Nat, a < s.heap.size → ¬ A a) : ∃ w : Nat, (Term.string RX3 168).eval #[Value.ref b] s none [] s = some (.ref w) ∧ sxc_W w 4 (sxc 8) A s := by
  exact sxc_of2 (own := RX3) (k := 168) (n := 4) (byt := [115, 104, 117, 116]) hz (by decide) (flat_of_before _ hgv) 60 (by decide +kernel) (by decide) hA3

set_option maxHeartbeats 4000000 in
set_option maxRecDepth 100000 in
theorem lg_s9 {s : State} {b : Nat} {A : Nat → Prop} (hz : sx_Z A s) (hgv : (Jvm.Cond.and given_1 narrow_1).before #[Value.ref b] s = true) (hA3 : ∀ a : Nat, a < s.heap.size → ¬ A a) : ∃ w : Nat, (Term.string RX3 172).eval #[Value.ref b] s none [] s = some (.ref w) ∧ sxc_W w 5 (sxc 9) A s := by
  exact sxc_of2 (own := RX3) (k := 172) (n := 5) (byt := [116, 105, 109, 101, 115]) hz (by decide) (flat_of_before _ hgv) 104 (by decide +kernel) (by decide) hA3

set_option maxHeartbeats 4000000 in
set_option maxRecDepth 100000 in
theorem lg_s10 {s : State} {b : Nat} {A : Nat → Prop} (hz : sx_Z A s) (hgv : (Jvm.Cond.and given_1 narrow_1).before #[Value.ref b] s = true) (hA3 : ∀ a : Nat, a < s.heap.size → ¬ A a) : ∃ w : Nat, (Term.string RX3 176).eval #[Value.ref b] s none [] s = some (.ref w) ∧ sxc_W w 4 (sxc 10) A s := by
  exact sxc_of2 (own := RX3) (k := 176) (n := 4) (byt := [112, 108, 117, 115]) hz (by decide) (flat_of_before _ hgv) 113 (by decide +kernel) (by decide) hA3

set_option maxHeartbeats 4000000 in
set_option maxRecDepth 100000 in
theorem lg_s11 {s : State} {b : Nat} {A : Nat → Prop} (hz : sx_Z A s) (hgv : (Jvm.Cond.and given_1 narrow_1).before #[Value.ref b] s = true) (hA3 : ∀ a : Nat, a < s.heap.size → ¬ A a) : ∃ w : Nat, (Term.string RX3 180).eval #[Value.ref b] s none [] s = some (.ref w) ∧ sxc_W w 5 (sxc 11) A s := by
  exact sxc_of2 (own := RX3) (k := 180) (n := 5) (byt := [102, 105, 114, 115, 116]) hz (by decide) (flat_of_before _ hgv) 121 (by decide +kernel) (by decide) hA3

set_option maxHeartbeats 4000000 in
set_option maxRecDepth 100000 in
theorem lg_s12 {s : State} {b : Nat} {A : Nat → Prop} (hz : sx_Z A s) (hgv : (Jvm.Cond.and given_1 narrow_1).before #[Value.ref b] s = true) (hA3 : ∀ a : Nat, a < s.heap.size → ¬ A a) : ∃ w : Nat, (Term.string RX3 187).eval #[Value.ref b] s none [] s = some (.ref w) ∧ sxc_W w 2 (sxc 12) A s := by
  exact sxc_of2 (own := RX3) (k := 187) (n := 2) (byt := [105, 115]) hz (by decide) (flat_of_before _ hgv) 130 (by decide +kernel) (by decide) hA3

set_option maxHeartbeats 4000000 in
set_option maxRecDepth 100000 in
theorem lg_s13 {s : State} {b : Nat} {A : Nat → Prop} (hz : sx_Z A s) (hgv : (Jvm.Cond.and given_1 narrow_1).before #[Value.ref b] s = true) (hA3 : ∀ a : Nat, a < s.heap.size → ¬ A a) : ∃ w : Nat, (Term.string RX3 199).eval #[Value.ref b] s none [] s = some (.ref w) ∧ sxc_W w 5 (sxc 13) A s := by
  exact sxc_of2 (own := RX3) (k := 199) (n := 5) (byt := [119, 97, 108, 107, 115]) hz (by decide) (flat_of_before _ hgv) 136 (by decide +kernel) (by decide) hA3

set_option maxHeartbeats 4000000 in
set_option maxRecDepth 100000 in
theorem lg_s14 {s : State} {b : Nat} {A : Nat → Prop} (hz : sx_Z A s) (hgv : (Jvm.Cond.and given_1 narrow_1).before #[Value.ref b] s = true) (hA3 : ∀ a : Nat, a < s.heap.size → ¬ A a) : ∃ w : Nat, (Term.string RX3 201).eval #[Value.ref b] s none [] s = some (.ref w) ∧ sxc_W w 6 (sxc 14) A s := by
  exact sxc_of2 (own := RX3) (k := 201) (n := 6) (byt := [115, 112, 101, 97, 107, 115]) hz (by decide) (flat_of_before _ hgv) 145 (by decide +kernel) (by decide) hA3

set_option maxHeartbeats 4000000 in
set_option maxRecDepth 100000 in
theorem lg_s15 {s : State} {b : Nat} {A : Nat → Prop} (hz : sx_Z A s) (hgv : (Jvm.Cond.and given_1 narrow_1).before #[Value.ref b] s = true) (hA3 : ∀ a : Nat, a < s.heap.size → ¬ A a) : ∃ w : Nat, (Term.string RX3 207).eval #[Value.ref b] s none [] s = some (.ref w) ∧ sxc_W w 4 (sxc 15) A s := by
  exact sxc_of2 (own := RX3) (k := 207) (n := 4) (byt := [102, 114, 111, 109]) hz (by decide) (flat_of_before _ hgv) 155 (by decide +kernel) (by decide) hA3

set_option maxHeartbeats 4000000 in
set_option maxRecDepth 100000 in
theorem lg_s16 {s : State} {b : Nat} {A : Nat → Prop} (hz : sx_Z A s) (hgv : (Jvm.Cond.and given_1 narrow_1).before #[Value.ref b] s = true) (hA3 : ∀ a : Nat, a < s.heap.size → ¬ A a) : ∃ w : Nat, (Term.string RX3 209).eval #[Value.ref b] s none [] s = some (.ref w) ∧ sxc_W w 2 (sxc 16) A s := by
  exact sxc_of2 (own := RX3) (k := 209) (n := 2) (byt := [116, 111]) hz (by decide) (flat_of_before _ hgv) 163 (by decide +kernel) (by decide) hA3

set_option maxHeartbeats 4000000 in
set_option maxRecDepth 100000 in
theorem lg_s17 {s : State} {b : Nat} {A : Nat → Prop} (hz : sx_Z A s) (hgv : (Jvm.Cond.and given_1 narrow_1).before #[Value.ref b] s = true) (hA3 : ∀ a : Nat, a < s.heap.size → ¬ A a) : ∃ w : Nat, (Term.string RX3 215).eval #[Value.ref b] s none [] s = some (.ref w) ∧ sxc_W w 2 (sxc 17) A s := by
  exact sxc_of2 (own := RX3) (k := 215) (n := 2) (byt := [97, 116]) hz (by decide) (flat_of_before _ hgv) 169 (by decide +kernel) (by decide) hA3

