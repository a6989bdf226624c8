section P442_strs
set_option maxHeartbeats 4000000 in
set_option maxRecDepth 100000 in
theorem lg_s18 {s : State} {b : Nat} {A : Nat → Prop} (hz : sx_Z A s) (hgv : (Jvm.Cond.and given_1 narrow_1).before #[Value.ref b] s = true) (hA3 : ∀ a : Nat, a < s.heap.size → ¬ A a) : ∃ w : Nat, (Term.string RX8 128).eval #[Value.ref b] s none [] s = some (.ref w) ∧ sxc_W w 7 (sxc 18) A s := by
  exact sxc_of2 (own := RX8) (k := 128) (n := 7) (byt := [103, 97, 108, 108, 101, 114, 121]) hz (by decide) (flat_of_before _ hgv) 205 (by decide +kernel) (by decide) hA3

set_option maxHeartbeats 4000000 in
set_option maxRecDepth 100000 in
theorem lg_s19 {s : State} {b : Nat} {A : Nat → Prop} (hz : sx_Z A s) (hgv : (Jvm.Cond.and given_1 narrow_1).before #[Value.ref b] s = true) (hA3 : ∀ a : Nat, a < s.heap.size → ¬ A a) : ∃ w : Nat, (Term.string RX8 130).eval #[Value.ref b] s none [] s = some (.ref w) ∧ sxc_W w 3 (sxc 19) A s := by
  exact sxc_of2 (own := RX8) (k := 130) (n := 3) (byt := [108, 97, 119]) hz (by decide) (flat_of_before _ hgv) 258 (by decide +kernel) (by decide) hA3

set_option maxHeartbeats 4000000 in
set_option maxRecDepth 100000 in
theorem lg_s20 {s : State} {b : Nat} {A : Nat → Prop} (hz : sx_Z A s) (hgv : (Jvm.Cond.and given_1 narrow_1).before #[Value.ref b] s = true) (hA3 : ∀ a : Nat, a < s.heap.size → ¬ A a) : ∃ w : Nat, (Term.string RX8 132).eval #[Value.ref b] s none [] s = some (.ref w) ∧ sxc_W w 6 (sxc 20) A s := by
  exact sxc_of2 (own := RX8) (k := 132) (n := 6) (byt := [102, 105, 103, 117, 114, 101]) hz (by decide) (flat_of_before _ hgv) 295 (by decide +kernel) (by decide) hA3

set_option maxHeartbeats 4000000 in
set_option maxRecDepth 100000 in
theorem lg_s21 {s : State} {b : Nat} {A : Nat → Prop} (hz : sx_Z A s) (hgv : (Jvm.Cond.and given_1 narrow_1).before #[Value.ref b] s = true) (hA3 : ∀ a : Nat, a < s.heap.size → ¬ A a) : ∃ w : Nat, (Term.string RX8 134).eval #[Value.ref b] s none [] s = some (.ref w) ∧ sxc_W w 7 (sxc 21) A s := by
  exact sxc_of2 (own := RX8) (k := 134) (n := 7) (byt := [119, 97, 116, 99, 104, 101, 114]) hz (by decide) (flat_of_before _ hgv) 306 (by decide +kernel) (by decide) hA3

set_option maxHeartbeats 4000000 in
set_option maxRecDepth 100000 in
theorem lg_s22 {s : State} {b : Nat} {A : Nat → Prop} (hz : sx_Z A s) (hgv : (Jvm.Cond.and given_1 narrow_1).before #[Value.ref b] s = true) (hA3 : ∀ a : Nat, a < s.heap.size → ¬ A a) : ∃ w : Nat, (Term.string RX8 136).eval #[Value.ref b] s none [] s = some (.ref w) ∧ sxc_W w 4 (sxc 22) A s := by
  exact sxc_of2 (own := RX8) (k := 136) (n := 4) (byt := [115, 101, 101, 110]) hz (by decide) (flat_of_before _ hgv) 318 (by decide +kernel) (by decide) hA3

set_option maxHeartbeats 4000000 in
set_option maxRecDepth 100000 in
theorem lg_s23 {s : State} {b : Nat} {A : Nat → Prop} (hz : sx_Z A s) (hgv : (Jvm.Cond.and given_1 narrow_1).before #[Value.ref b] s = true) (hA3 : ∀ a : Nat, a < s.heap.size → ¬ A a) : ∃ w : Nat, (Term.string RX8 201).eval #[Value.ref b] s none [] s = some (.ref w) ∧ sxc_W w 7 (sxc 23) A s := by
  exact sxc_of2 (own := RX8) (k := 201) (n := 7) (byt := [102, 105, 103, 117, 114, 101, 115]) hz (by decide) (flat_of_before _ hgv) 217 (by decide +kernel) (by decide) hA3

set_option maxHeartbeats 4000000 in
set_option maxRecDepth 100000 in
theorem lg_s24 {s : State} {b : Nat} {A : Nat → Prop} (hz : sx_Z A s) (hgv : (Jvm.Cond.and given_1 narrow_1).before #[Value.ref b] s = true) (hA3 : ∀ a : Nat, a < s.heap.size → ¬ A a) : ∃ w : Nat, (Term.string RX8 207).eval #[Value.ref b] s none [] s = some (.ref w) ∧ sxc_W w 4 (sxc 24) A s := by
  exact sxc_of2 (own := RX8) (k := 207) (n := 4) (byt := [115, 112, 97, 110]) hz (by decide) (flat_of_before _ hgv) 229 (by decide +kernel) (by decide) hA3

set_option maxHeartbeats 4000000 in
set_option maxRecDepth 100000 in
theorem lg_s25 {s : State} {b : Nat} {A : Nat → Prop} (hz : sx_Z A s) (hgv : (Jvm.Cond.and given_1 narrow_1).before #[Value.ref b] s = true) (hA3 : ∀ a : Nat, a < s.heap.size → ¬ A a) : ∃ w : Nat, (Term.string RX8 209).eval #[Value.ref b] s none [] s = some (.ref w) ∧ sxc_W w 6 (sxc 25) A s := by
  exact sxc_of2 (own := RX8) (k := 209) (n := 6) (byt := [115, 116, 97, 105, 114, 115]) hz (by decide) (flat_of_before _ hgv) 238 (by decide +kernel) (by decide) hA3

set_option maxHeartbeats 4000000 in
set_option maxRecDepth 100000 in
theorem lg_s26 {s : State} {b : Nat} {A : Nat → Prop} (hz : sx_Z A s) (hgv : (Jvm.Cond.and given_1 narrow_1).before #[Value.ref b] s = true) (hA3 : ∀ a : Nat, a < s.heap.size → ¬ A a) : ∃ w : Nat, (Term.string RX8 211).eval #[Value.ref b] s none [] s = some (.ref w) ∧ sxc_W w 4 (sxc 26) A s := by
  exact sxc_of2 (own := RX8) (k := 211) (n := 4) (byt := [115, 104, 117, 116]) hz (by decide) (flat_of_before _ hgv) 249 (by decide +kernel) (by decide) hA3

set_option maxHeartbeats 4000000 in
set_option maxRecDepth 100000 in
theorem lg_s27 {s : State} {b : Nat} {A : Nat → Prop} (hz : sx_Z A s) (hgv : (Jvm.Cond.and given_1 narrow_1).before #[Value.ref b] s = true) (hA3 : ∀ a : Nat, a < s.heap.size → ¬ A a) : ∃ w : Nat, (Term.string RX8 213).eval #[Value.ref b] s none [] s = some (.ref w) ∧ sxc_W w 5 (sxc 27) A s := by
  exact sxc_of2 (own := RX8) (k := 213) (n := 5) (byt := [116, 105, 109, 101, 115]) hz (by decide) (flat_of_before _ hgv) 266 (by decide +kernel) (by decide) hA3

set_option maxHeartbeats 4000000 in
set_option maxRecDepth 100000 in
theorem lg_s28 {s : State} {b : Nat} {A : Nat → Prop} (hz : sx_Z A s) (hgv : (Jvm.Cond.and given_1 narrow_1).before #[Value.ref b] s = true) (hA3 : ∀ a : Nat, a < s.heap.size → ¬ A a) : ∃ w : Nat, (Term.string RX8 218).eval #[Value.ref b] s none [] s = some (.ref w) ∧ sxc_W w 4 (sxc 28) A s := by
  exact sxc_of2 (own := RX8) (k := 218) (n := 4) (byt := [112, 108, 117, 115]) hz (by decide) (flat_of_before _ hgv) 276 (by decide +kernel) (by decide) hA3

set_option maxHeartbeats 4000000 in
set_option maxRecDepth 100000 in
theorem lg_s29 {s : State} {b : Nat} {A : Nat → Prop} (hz : sx_Z A s) (hgv : (Jvm.Cond.and given_1 narrow_1).before #[Value.ref b] s = true) (hA3 : ∀ a : Nat, a < s.heap.size → ¬ A a) : ∃ w : Nat, (Term.string RX8 220).eval #[Value.ref b] s none [] s = some (.ref w) ∧ sxc_W w 5 (sxc 29) A s := by
  exact sxc_of2 (own := RX8) (k := 220) (n := 5) (byt := [102, 105, 114, 115, 116]) hz (by decide) (flat_of_before _ hgv) 285 (by decide +kernel) (by decide) hA3

set_option maxHeartbeats 4000000 in
set_option maxRecDepth 100000 in
theorem lg_s30 {s : State} {b : Nat} {A : Nat → Prop} (hz : sx_Z A s) (hgv : (Jvm.Cond.and given_1 narrow_1).before #[Value.ref b] s = true) (hA3 : ∀ a : Nat, a < s.heap.size → ¬ A a) : ∃ w : Nat, (Term.string RX8 226).eval #[Value.ref b] s none [] s = some (.ref w) ∧ sxc_W w 2 (sxc 30) A s := by
  exact sxc_of2 (own := RX8) (k := 226) (n := 2) (byt := [105, 115]) hz (by decide) (flat_of_before _ hgv) 327 (by decide +kernel) (by decide) hA3

set_option maxHeartbeats 4000000 in
set_option maxRecDepth 100000 in
theorem lg_s31 {s : State} {b : Nat} {A : Nat → Prop} (hz : sx_Z A s) (hgv : (Jvm.Cond.and given_1 narrow_1).before #[Value.ref b] s = true) (hA3 : ∀ a : Nat, a < s.heap.size → ¬ A a) : ∃ w : Nat, (Term.string RX8 228).eval #[Value.ref b] s none [] s = some (.ref w) ∧ sxc_W w 5 (sxc 31) A s := by
  exact sxc_of2 (own := RX8) (k := 228) (n := 5) (byt := [119, 97, 108, 107, 115]) hz (by decide) (flat_of_before _ hgv) 334 (by decide +kernel) (by decide) hA3

set_option maxHeartbeats 4000000 in
set_option maxRecDepth 100000 in
theorem lg_s32 {s : State} {b : Nat} {A : Nat → Prop} (hz : sx_Z A s) (hgv : (Jvm.Cond.and given_1 narrow_1).before #[Value.ref b] s = true) (hA3 : ∀ a : Nat, a < s.heap.size → ¬ A a) : ∃ w : Nat, (Term.string RX8 230).eval #[Value.ref b] s none [] s = some (.ref w) ∧ sxc_W w 6 (sxc 32) A s := by
  exact sxc_of2 (own := RX8) (k := 230) (n := 6) (byt := [115, 112, 101, 97, 107, 115]) hz (by decide) (flat_of_before _ hgv) 344 (by decide +kernel) (by decide) hA3

set_option maxHeartbeats 4000000 in
set_option maxRecDepth 100000 in
theorem lg_s33 {s : State} {b : Nat} {A : Nat → Prop} (hz : sx_Z A s) (hgv : (Jvm.Cond.and given_1 narrow_1).before #[Value.ref b] s = true) (hA3 : ∀ a : Nat, a < s.heap.size → ¬ A a) : ∃ w : Nat, (Term.string RX8 232).eval #[Value.ref b] s none [] s = some (.ref w) ∧ sxc_W w 4 (sxc 33) A s := by
  exact sxc_of2 (own := RX8) (k := 232) (n := 4) (byt := [102, 114, 111, 109]) hz (by decide) (flat_of_before _ hgv) 355 (by decide +kernel) (by decide) hA3

set_option maxHeartbeats 4000000 in
set_option maxRecDepth 100000 in
theorem lg_s34 {s : State} {b : Nat} {A : Nat → Prop} (hz : sx_Z A s) (hgv : (Jvm.Cond.and given_1 narrow_1).before #[Value.ref b] s = true) (hA3 : ∀ a : Nat, a < s.heap.size → ¬ A a) : ∃ w : Nat, (Term.string RX8 233).eval #[Value.ref b] s none [] s = some (.ref w) ∧ sxc_W w 2 (sxc 34) A s := by
  exact sxc_of2 (own := RX8) (k := 233) (n := 2) (byt := [116, 111]) hz (by decide) (flat_of_before _ hgv) 364 (by decide +kernel) (by decide) hA3

set_option maxHeartbeats 4000000 in
set_option maxRecDepth 100000 in
theorem lg_s35 {s : State} {b : Nat} {A : Nat → Prop} (hz : sx_Z A s) (hgv : (Jvm.Cond.and given_1 narrow_1).before #[Value.ref b] s = true) (hA3 : ∀ a : Nat, a < s.heap.size → ¬ A a) : ∃ w : Nat, (Term.string RX8 234).eval #[Value.ref b] s none [] s = some (.ref w) ∧ sxc_W w 2 (sxc 35) A s := by
  exact sxc_of2 (own := RX8) (k := 234) (n := 2) (byt := [97, 116]) hz (by decide) (flat_of_before _ hgv) 371 (by decide +kernel) (by decide) hA3

set_option maxHeartbeats 4000000 in
set_option maxRecDepth 100000 in
theorem lg_strs {p : Program} {s : State} {m : MethodId} {meth : Method} {c : Code} {b L : Nat} {xs : Nat → Int32} {A : Nat → Prop} (hA2 : ∀ q, A q → s.heap.size ≤ q) (C0 : lw_At p s m meth c b L xs) : ∃ sd : Nat → Nat, sxc_T sd A s := by
  obtain ⟨hx, hb, hr, hml, hown0, htl, hX, hbl, hlocks, hgv⟩ := id C0
  have hsn := flat_of_before _ hgv
  have hA3 : ∀ a : Nat, a < s.heap.size → ¬ A a := fun a h9 h8 => absurd (hA2 a h8) (Nat.not_le.mpr h9)
  have hz : sx_Z A s := ⟨va_Zof (htl (.laysStatic "java/lang/String" "COMPACT_STRINGS" "Z") (lc_tb (i := 403) (by decide +kernel))) (htl (.initialized "java/lang/String") (lc_tb (i := 11) (by decide +kernel))) (va_eqt (hsn _ (List.mem_of_getElem? (i := 4) (by decide +kernel)))) hA3, va_Zqof (htl (.laysStatic "jdk/internal/util/Preconditions" "SIOOBE_FORMATTER" "Ljava/util/function/BiFunction;") (lc_tb (i := 419) (by decide +kernel))) (htl (.initialized "jdk/internal/util/Preconditions") (lc_tb (i := 13) (by decide +kernel))) (hsn _ (List.mem_of_getElem? (i := 5) (by decide +kernel))) hA3⟩
  obtain ⟨w0, e0, h0⟩ := lg_s0 hz hgv hA3
  obtain ⟨w1, e1, h1⟩ := lg_s1 hz hgv hA3
  obtain ⟨w2, e2, h2⟩ := lg_s2 hz hgv hA3
  obtain ⟨w3, e3, h3⟩ := lg_s3 hz hgv hA3
  obtain ⟨w4, e4, h4⟩ := lg_s4 hz hgv hA3
  obtain ⟨w5, e5, h5⟩ := lg_s5 hz hgv hA3
  obtain ⟨w6, e6, h6⟩ := lg_s6 hz hgv hA3
  obtain ⟨w7, e7, h7⟩ := lg_s7 hz hgv hA3
  obtain ⟨w8, e8, h8⟩ := lg_s8 hz hgv hA3
  obtain ⟨w9, e9, h9⟩ := lg_s9 hz hgv hA3
  obtain ⟨w10, e10, h10⟩ := lg_s10 hz hgv hA3
  obtain ⟨w11, e11, h11⟩ := lg_s11 hz hgv hA3
  obtain ⟨w12, e12, h12⟩ := lg_s12 hz hgv hA3
  obtain ⟨w13, e13, h13⟩ := lg_s13 hz hgv hA3
  obtain ⟨w14, e14, h14⟩ := lg_s14 hz hgv hA3
  obtain ⟨w15, e15, h15⟩ := lg_s15 hz hgv hA3
  obtain ⟨w16, e16, h16⟩ := lg_s16 hz hgv hA3
  obtain ⟨w17, e17, h17⟩ := lg_s17 hz hgv hA3
  obtain ⟨w18, e18, h18⟩ := lg_s18 hz hgv hA3
  obtain ⟨w19, e19, h19⟩ := lg_s19 hz hgv hA3
  obtain ⟨w20, e20, h20⟩ := lg_s20 hz hgv hA3
  obtain ⟨w21, e21, h21⟩ := lg_s21 hz hgv hA3
  obtain ⟨w22, e22, h22⟩ := lg_s22 hz hgv hA3
  obtain ⟨w23, e23, h23⟩ := lg_s23 hz hgv hA3
  obtain ⟨w24, e24, h24⟩ := lg_s24 hz hgv hA3
  obtain ⟨w25, e25, h25⟩ := lg_s25 hz hgv hA3
  obtain ⟨w26, e26, h26⟩ := lg_s26 hz hgv hA3
  obtain ⟨w27, e27, h27⟩ := lg_s27 hz hgv hA3
  obtain ⟨w28, e28, h28⟩ := lg_s28 hz hgv hA3
  obtain ⟨w29, e29, h29⟩ := lg_s29 hz hgv hA3
  obtain ⟨w30, e30, h30⟩ := lg_s30 hz hgv hA3
  obtain ⟨w31, e31, h31⟩ := lg_s31 hz hgv hA3
  obtain ⟨w32, e32, h32⟩ := lg_s32 hz hgv hA3
  obtain ⟨w33, e33, h33⟩ := lg_s33 hz hgv hA3
  obtain ⟨w34, e34, h34⟩ := lg_s34 hz hgv hA3
  obtain ⟨w35, e35, h35⟩ := lg_s35 hz hgv hA3
  refine ⟨fun i9 => ([w0, w1, w2, w3, w4, w5, w6, w7, w8, w9, w10, w11, w12, w13, w14, w15, w16, w17, w18, w19, w20, w21, w22, w23, w24, w25, w26, w27, w28, w29, w30, w31, w32, w33, w34, w35] : List Nat).getD i9 0, fun i hi => ?_, vk_R.of (htl (.stringRef RX3 98 "gallery") (lc_tb (i := 389) (by decide +kernel))) e0, vk_R.of (htl (.stringRef RX3 110 "law") (lc_tb (i := 463) (by decide +kernel))) e1, vk_R.of (htl (.stringRef RX3 112 "figure") (lc_tb (i := 464) (by decide +kernel))) e2, vk_R.of (htl (.stringRef RX3 114 "watche\x72") (lc_tb (i := 465) (by decide +kernel))) e3, vk_R.of (htl (.stringRef RX3 116 "seen") (lc_tb (i := 466) (by decide +kernel))) e4, vk_R.of (htl (.stringRef RX3 151 "figures") (lc_tb (i := 450) (by decide +kernel))) e5, vk_R.of (htl (.stringRef RX3 159 "span") (lc_tb (i := 460) (by decide +kernel))) e6, vk_R.of (htl (.stringRef RX3 163 "stairs") (lc_tb (i := 461) (by decide +kernel))) e7, vk_R.of (htl (.stringRef RX3 168 "shut") (lc_tb (i := 462) (by decide +kernel))) e8, vk_R.of (htl (.stringRef RX3 172 "times") (lc_tb (i := 471) (by decide +kernel))) e9, vk_R.of (htl (.stringRef RX3 176 "plus") (lc_tb (i := 472) (by decide +kernel))) e10, vk_R.of (htl (.stringRef RX3 180 "first") (lc_tb (i := 473) (by decide +kernel))) e11, vk_R.of (htl (.stringRef RX3 187 "is") (lc_tb (i := 488) (by decide +kernel))) e12, vk_R.of (htl (.stringRef RX3 199 "walks") (lc_tb (i := 496) (by decide +kernel))) e13, vk_R.of (htl (.stringRef RX3 201 "speaks") (lc_tb (i := 497) (by decide +kernel))) e14, vk_R.of (htl (.stringRef RX3 207 "from") (lc_tb (i := 506) (by decide +kernel))) e15, vk_R.of (htl (.stringRef RX3 209 "to") (lc_tb (i := 507) (by decide +kernel))) e16, vk_R.of (htl (.stringRef RX3 215 "at") (lc_tb (i := 516) (by decide +kernel))) e17, vk_R.of (htl (.stringRef RX8 128 "gallery") (lc_tb (i := 1246) (by decide +kernel))) e18, vk_R.of (htl (.stringRef RX8 130 "law") (lc_tb (i := 1289) (by decide +kernel))) e19, vk_R.of (htl (.stringRef RX8 132 "figure") (lc_tb (i := 1301) (by decide +kernel))) e20, vk_R.of (htl (.stringRef RX8 134 "watche\x72") (lc_tb (i := 1314) (by decide +kernel))) e21, vk_R.of (htl (.stringRef RX8 136 "seen") (lc_tb (i := 1315) (by decide +kernel))) e22, vk_R.of (htl (.stringRef RX8 201 "figures") (lc_tb (i := 1261) (by decide +kernel))) e23, vk_R.of (htl (.stringRef RX8 207 "span") (lc_tb (i := 1286) (by decide +kernel))) e24, vk_R.of (htl (.stringRef RX8 209 "stairs") (lc_tb (i := 1287) (by decide +kernel))) e25, vk_R.of (htl (.stringRef RX8 211 "shut") (lc_tb (i := 1288) (by decide +kernel))) e26, vk_R.of (htl (.stringRef RX8 213 "times") (lc_tb (i := 1294) (by decide +kernel))) e27, vk_R.of (htl (.stringRef RX8 218 "plus") (lc_tb (i := 1299) (by decide +kernel))) e28, vk_R.of (htl (.stringRef RX8 220 "first") (lc_tb (i := 1300) (by decide +kernel))) e29, vk_R.of (htl (.stringRef RX8 226 "is") (lc_tb (i := 1320) (by decide +kernel))) e30, vk_R.of (htl (.stringRef RX8 228 "walks") (lc_tb (i := 1321) (by decide +kernel))) e31, vk_R.of (htl (.stringRef RX8 230 "speaks") (lc_tb (i := 1322) (by decide +kernel))) e32, vk_R.of (htl (.stringRef RX8 232 "from") (lc_tb (i := 1327) (by decide +kernel))) e33, vk_R.of (htl (.stringRef RX8 233 "to") (lc_tb (i := 1328) (by decide +kernel))) e34, vk_R.of (htl (.stringRef RX8 234 "at") (lc_tb (i := 1333) (by decide +kernel))) e35⟩
  match i, hi with
    | 0, _ => exact h0
    | 1, _ => exact h1
    | 2, _ => exact h2
    | 3, _ => exact h3
    | 4, _ => exact h4
    | 5, _ => exact h5
    | 6, _ => exact h6
    | 7, _ => exact h7
    | 8, _ => exact h8
    | 9, _ => exact h9
    | 10, _ => exact h10
    | 11, _ => exact h11
    | 12, _ => exact h12
    | 13, _ => exact h13
    | 14, _ => exact h14
    | 15, _ => exact h15
    | 16, _ => exact h16
    | 17, _ => exact h17
    | 18, _ => exact h18
    | 19, _ => exact h19
    | 20, _ => exact h20
    | 21, _ => exact h21
    | 22, _ => exact h22
    | 23, _ => exact h23
    | 24, _ => exact h24
    | 25, _ => exact h25
    | 26, _ => exact h26
    | 27, _ => exact h27
    | 28, _ => exact h28
    | 29, _ => exact h29
    | 30, _ => exact h30
    | 31, _ => exact h31
    | 32, _ => exact h32
    | 33, _ => exact h33
    | 34, _ => exact h34
    | 35, _ => exact h35
    | i9 + 36, hi => exact absurd hi (by omega)
end P442_strs
section P4425_kled
set_option maxHeartbeats 4000000 in
set_option maxRecDepth 100000 in
theorem k_X8_led (l : Launch) (dC : Nat → ClassId) (dI : Nat → Nat → Nat) (sz : Nat) (x : Nat) (tp : Int32) (vi : Nat → Int32) (vf : Nat → Nat → Int32) (wx : va_W) (tx : List (ClassId × FieldType)) (h : IMv x tp vi vf wx tx) (a1 : Int32) : Met l yX8_led wsX8_led ({ frames := 0, cells := 0, slots := 0, locals := 0 }) (va_Pc [.ref x, .int a1] (ax_C dC dI sz wx tx (fun _ => True))) (va_Qi (fun (_ : Int32) (_ : Unit) => True) (fun _ t => ∃ wx9 ty9, (∃ (vi1 : Nat → Int32) (vf1 : Nat → Nat → Int32), (∀ k9 : Nat, k9 ∉ ([0] : List Nat) → vi1 k9 = vi k9) ∧ (∀ k9 : Nat, k9 ∉ ([] : List Nat) → vf1 k9 = vf k9) ∧ IMv x tp vi1 vf1 wx9 ty9) ∧ ax_B dC dI (va_A wx sz) wx9 ty9 t) (va_A wx sz)) 0 0 (va_A wx sz) := by
  obtain ⟨ad, kc, rfl, rfl, F0, F1, F2, F3, F4, F5, F6, F7, F8, F9, F10, F11, F12, F13, hMo⟩ := h
  rcases hMo with hM | ⟨hM, hR, hK⟩
  · refine fr_i (post' := fun _ => True) (J := fun w9 t9 => ∃ (vi1 : Nat → Int32) (vf1 : Nat → Nat → Int32), (∀ k9 : Nat, k9 ∉ ([0] : List Nat) → vi1 k9 = vi k9) ∧ (∀ k9 : Nat, k9 ∉ ([] : List Nat) → vf1 k9 = vf k9) ∧ IMv x tp vi1 vf1 w9 t9) (wr := [((ad 0), .inl ((kc 0), 900, .inl ((vf 0)))), ((ad 1), .inl ((kc 1), 8, .inl ((vf 1)))), ((ad 2), .inl ((kc 2), 156, .inl ((vf 2)))), ((ad 3), .inl ((kc 3), 156, .inl ((vf 3)))), ((ad 4), .inl ((kc 4), 23, .inl ((vf 4)))), ((ad 5), .inl ((kc 5), 23, .inl ((vf 5)))), ((ad 6), .inl ((kc 6), 368, .inl ((vf 6)))), ((ad 7), .inl ((kc 7), 69, .inl ((vf 7)))), ((ad 8), .inl ((kc 8), 3, .inl ((vf 8)))), ((ad 9), .inl ((kc 9), 3, .inl ((vf 9)))), ((ad 10), .inl ((kc 10), 10, .inl ((vf 10)))), ((ad 11), .inl ((kc 11), 61, .inl ((vf 11)))), ((ad 12), .inl ((kc 12), 620, .inl ((vf 12)))), ((ad 13), .inl ((kc 13), 9, .inl ((vf 13)))), ((ad 14), .inl ((kc 14), 9, .inl ((vf 14))))]) (c0_X8_led l dC dI sz x a1 (vi 0) (Value.ref (ad 0)) (Value.int tp) (Value.int (vi 1)) (Value.int (vi 2)) (Value.int (vi 3)) (Value.int (vi 4)) (Value.int (vi 5)) (Value.int (vi 6)) (Value.int (vi 7)) (Value.int (vi 8)) (Value.int (vi 9)) (Value.ref (ad 1)) (Value.int (vi 10)) (Value.ref (ad 2)) (Value.ref (ad 3)) (Value.ref (ad 4)) (Value.ref (ad 5)) (Value.ref (ad 6)) (Value.ref (ad 7)) (Value.int (vi 12)) (Value.int (vi 13)) (Value.ref (ad 8)) (Value.ref (ad 9)) (Value.int (vi 14)) (Value.int (vi 15)) (Value.int (vi 16)) (Value.int (vi 17)) (Value.ref (ad 10)) (Value.int (vi 18)) (Value.int (vi 19)) (Value.ref (ad 11)) (Value.ref (ad 12)) (Value.ref (ad 13)) (Value.ref (ad 14)) (Value.int (vi 20)) (Value.int (vi 21)) (Value.int (vi 22)) (Value.int (vi 23)) (vi 11) (by rw [hM]; decide) (by rw [hM]; decide)) [0] [1, 2, 3, 4, 5, 6, 7, 8, 9, 10, 11, 12, 13, 14, 15] [] 16 (by decide +kernel) rfl rfl (by decide +kernel) rfl (fun _ h9 => h9) ?_
    intro r u t hp hb
    obtain ⟨zna0_0, hB⟩ := hb
    exact ⟨trivial, ⟨_, hB, rfl, imW x tp ad kc (ux vi [(0, zna0_0)]) vf, rfl, rfl, rfl, ⟨(ux vi [(0, zna0_0)]), vf, (fun _ h9 => ux_keep h9), (fun _ _ => rfl), ad, kc, rfl, rfl, F0, F1, F2, F3, F4, F5, F6, F7, F8, F9, F10, F11, F12, F13, Or.inl hM⟩⟩⟩
  · refine fr_i (post' := fun _ => True) (J := fun w9 t9 => ∃ (vi1 : Nat → Int32) (vf1 : Nat → Nat → Int32), (∀ k9 : Nat, k9 ∉ ([0] : List Nat) → vi1 k9 = vi k9) ∧ (∀ k9 : Nat, k9 ∉ ([] : List Nat) → vf1 k9 = vf k9) ∧ IMv x tp vi1 vf1 w9 t9) (wr := [((ad 0), .inl ((kc 0), 900, .inl ((vf 0)))), ((ad 1), .inl ((kc 1), 8, .inl ((vf 1)))), ((ad 3), .inl ((kc 3), 156, .inl ((vf 3)))), ((ad 5), .inl ((kc 5), 23, .inl ((vf 5)))), ((ad 6), .inl ((kc 6), 368, .inl ((vf 6)))), ((ad 7), .inl ((kc 7), 69, .inl ((vf 7)))), ((ad 8), .inl ((kc 8), 3, .inl ((vf 8)))), ((ad 9), .inl ((kc 9), 3, .inl ((vf 9)))), ((ad 10), .inl ((kc 10), 10, .inl ((vf 10)))), ((ad 11), .inl ((kc 11), 61, .inl ((vf 11)))), ((ad 12), .inl ((kc 12), 620, .inl ((vf 12)))), ((ad 13), .inl ((kc 13), 9, .inl ((vf 13)))), ((ad 14), .inl ((kc 14), 9, .inl ((vf 14))))]) (c_X8_led l dC dI sz x a1 (vi 0) (Value.ref (ad 0)) (Value.int tp) (Value.int (vi 1)) (Value.int (vi 2)) (Value.int (vi 3)) (Value.int (vi 4)) (Value.int (vi 5)) (Value.int (vi 6)) (Value.int (vi 7)) (Value.int (vi 8)) (Value.int (vi 9)) (Value.ref (ad 1)) (Value.int (vi 10)) (Value.ref (ad 3)) (Value.ref (ad 5)) (Value.ref (ad 6)) (Value.ref (ad 7)) (Value.int (vi 12)) (Value.int (vi 13)) (Value.ref (ad 8)) (Value.ref (ad 9)) (Value.int (vi 14)) (Value.int (vi 15)) (Value.int (vi 16)) (Value.int (vi 17)) (Value.ref (ad 10)) (Value.int (vi 18)) (Value.int (vi 19)) (Value.ref (ad 11)) (Value.ref (ad 12)) (Value.ref (ad 13)) (Value.ref (ad 14)) (Value.int (vi 20)) (Value.int (vi 21)) (Value.int (vi 22)) (Value.int (vi 23)) (vi 11) (ad 2) (ad 4) (kc 2) (vf 2) (kc 4) (vf 4) (by rw [hM]; decide) (by rw [hM]; decide) hR F7) [0, 3, 5] [1, 2, 4, 6, 7, 8, 9, 10, 11, 12, 13, 14, 15] [2, 4] 16 (by decide +kernel) rfl rfl (by decide +kernel) rfl (fun _ h9 => h9) ?_
    intro r u t hp hb
    obtain ⟨zna0_0, hB⟩ := hb
    exact ⟨trivial, ⟨_, hB, rfl, imW x tp ad kc (ux vi [(0, zna0_0)]) vf, rfl, rfl, rfl, ⟨(ux vi [(0, zna0_0)]), vf, (fun _ h9 => ux_keep h9), (fun _ _ => rfl), ad, kc, rfl, rfl, F0, F1, F2, F3, F4, F5, F6, F7, F8, F9, F10, F11, F12, F13, Or.inr ⟨hM, hR, hK⟩⟩⟩⟩
end P4425_kled
