section P442_strs
set_option maxHeartbeats 4000000 in
set_option maxRecDepth 100000 in
theorem lg_s18 {s : State} {b : Nat} {A : Nat → Prop} (hz : sx_Z A s) (hgv : (Jvm.Cond.and given_1 narrow_1).before #[Value.ref b] s = true) (hA3 : ∀ a : Nat, a < s.heap.size → ¬ A a) : ∃ w : Nat, (Term.string RX8 128).eval #[Value.ref b] s none [] s = some (.ref w) ∧ sxc_W w 7 (sxc 18) A s := by
  exact sxc_of2 (own := RX8) (k := 128) (n := 7) (byt := [103, 97, 108, 108, 101, 114, 121]) hz (by decide) (flat_of_before _ hgv) 205 (by decide +kernel) (by decide) hA3

set_option maxHeartbeats 4000000 in
set_option maxRecDepth 100000 in
theorem lg_s19 {s : State} {b : Nat} {A : Nat → Prop} (hz : sx_Z A s) (hgv : (Jvm.Cond.and given_1 narrow_1).before #[Value.ref b] s = true) (hA3 : ∀ a : Nat, a < s.heap.size → ¬ A a) : ∃ w : Nat, (Term.string RX8 130).eval #[Value.ref b] s none [] s = some (.ref w) ∧ sxc_W w 3 (sxc 19) A s := by
  exact sxc_of2 (own := RX8) (k := 130) (n := 3) (byt := [108, 97, 119]) hz (by decide) (flat_of_before _ hgv) 258 (by decide +kernel) (by decide) hA3

set_option maxHeartbeats 4000000 in
set_option maxRecDepth 100000 in
theorem lg_s20 {s : State} {b : Nat} {A : Nat → Prop} (hz : sx_Z A s) (hgv : (Jvm.Cond.and given_1 narrow_1).before #[Value.ref b] s = true) (hA3 : ∀ a : Nat, a < s.heap.size → ¬ A a) : ∃ w : Nat, (Term.string RX8 132).eval #[Value.ref b] s none [] s = some (.ref w) ∧ sxc_W w 6 (sxc 20) A s := by
  exact sxc_of2 (own := RX8) (k := 132) (n := 6) (byt := [102, 105, 103, 117, 114, 101]) hz (by decide) (flat_of_before _ hgv) 295 (by decide +kernel) (by decide) hA3

set_option maxHeartbeats 4000000 in
set_option maxRecDepth 100000 in
theorem lg_s21 {s : State} {b : Nat} {A : Nat → Prop} (hz : sx_Z A s) (hgv : (Jvm.Cond.and given_1 narrow_1).before #[Value.ref b] s = true) (hA3 : ∀ a : Nat, a < s.heap.size → ¬ A a) : ∃ w : Nat, (Term.string RX8 134).eval #[Value.ref b] s none [] s = some (.ref w) ∧ sxc_W w 7 (sxc 21) A s := by
  exact sxc_of2 (own := RX8) (k := 134) (n := 7) (byt := [119, 97, 116, 99, 104, 101, 114]) hz (by decide) (flat_of_before _ hgv) 306 (by decide +kernel) (by decide) hA3

set_option maxHeartbeats 4000000 in
set_option maxRecDepth 100000 in
theorem lg_s22 {s : State} {b : Nat} {A : Nat → Prop} (hz : sx_Z A s) (hgv : (Jvm.Cond.and given_1 narrow_1).before #[Value.ref b] s = true) (hA3 : ∀ a : Nat, a < s.heap.size → ¬ A a) : ∃ w : Nat, (Term.string RX8 136).eval #[Value.ref b] s none [] s = some (.ref w) ∧ sxc_W w 4 (sxc 22) A s := by
  exact sxc_of2 (own := RX8) (k := 136) (n := 4) (byt := [115, 101, 101, 110]) hz (by decide) (flat_of_before _ hgv) 318 (by decide +kernel) (by decide) hA3

set_option maxHeartbeats 4000000 in
set_option maxRecDepth 100000 in
theorem lg_s23 {s : State} {b : Nat} {A : Nat → Prop} (hz : sx_Z A s) (hgv : (Jvm.Cond.and given_1 narrow_1).before #[Value.ref b] s = true) (hA3 : ∀ a : Nat, a < s.heap.size → ¬ A a) : ∃ w : Nat, (Term.string RX8 201).eval #[Value.ref b] s none [] s = some (.ref w) ∧ sxc_W w 7 (sxc 23) A s := by
  exact sxc_of2 (own := RX8) (k := 201) (n := 7) (byt := [102, 105, 103, 117, 114, 101, 115]) hz (by decide) (flat_of_before _ hgv) 217 (by decide +kernel) (by decide) hA3

set_option maxHeartbeats 4000000 in
set_option maxRecDepth 100000 in
theorem lg_s24 {s : State} {b : Nat} {A : Nat → Prop} (hz : sx_Z A s) (hgv : (Jvm.Cond.and given_1 narrow_1).before #[Value.ref b] s = true) (hA3 : ∀ a : Nat, a < s.heap.size → ¬ A a) : ∃ w : Nat, (Term.string RX8 207).eval #[Value.ref b] s none [] s = some (.ref w) ∧ sxc_W w 4 (sxc 24) A s := by
  exact sxc_of2 (own := RX8) (k := 207) (n := 4) (byt := [115, 112, 97, 110]) hz (by decide) (flat_of_before _ hgv) 229 (by decide +kernel) (by decide) hA3

set_option maxHeartbeats 4000000 in
set_option maxRecDepth 100000 in
theorem lg_s25 {s : State} {b : Nat} {A : Nat → Prop} (hz : sx_Z A s) (hgv : (Jvm.Cond.and given_1 narrow_1).before #[Value.ref b] s = true) (hA3 : ∀ a : Nat, a < s.heap.size → ¬ A a) : ∃ w : Nat, (Term.string RX8 209).eval #[Value.ref b] s none [] s = some (.ref w) ∧ sxc_W w 6 (sxc 25) A s := by
  exact sxc_of2 (own := RX8) (k := 209) (n := 6) (byt := [115, 116, 97, 105, 114, 115]) hz (by decide) (flat_of_before _ hgv) 238 (by decide +kernel) (by decide) hA3

set_option maxHeartbeats 4000000 in
set_option maxRecDepth 100000 in
theorem lg_s26 {s : State} {b : Nat} {A : Nat → Prop} (hz : sx_Z A s) (hgv : (Jvm.Cond.and given_1 narrow_1).before #[Value.ref b] s = true) (hA3 : ∀ a : Nat, a < s.heap.size → ¬ A a) : ∃ w : Nat, (Term.string RX8 211).eval #[Value.ref b] s none [] s = some (.ref w) ∧ sxc_W w 4 (sxc 26) A s := by
  exact sxc_of2 (own := RX8) (k := 211) (n := 4) (byt := [115, 104, 117, 116]) hz (by decide) (flat_of_before _ hgv) 249 (by decide +kernel) (by decide) hA3

set_option maxHeartbeats 4000000 in
set_option maxRecDepth 100000 in
theorem lg_s27 {s : State} {b : Nat} {A : Nat → Prop} (hz : sx_Z A s) (hgv : (Jvm.Cond.and given_1 narrow_1).before #[Value.ref b] s = true) (hA3 : ∀ a : Nat, a < s.heap.size → ¬ A a) : ∃ w : Nat, (Term.string RX8 213).eval #[Value.ref b] s none [] s = some (.ref w) ∧ sxc_W w 5 (sxc 27) A s := by
  exact sxc_of2 (own := RX8) (k := 213) (n := 5) (byt := [116, 105, 109, 101, 115]) hz (by decide) (flat_of_before _ hgv) 266 (by decide +kernel) (by decide) hA3

set_option maxHeartbeats 4000000 in
set_option maxRecDepth 100000 in
theorem lg_s28 {s : State} {b : Nat} {A : Nat → Prop} (hz : sx_Z A s) (hgv : (Jvm.Cond.and given_1 narrow_1).before #[Value.ref b] s = true) (hA3 : ∀ a : Nat, a < s.heap.size → ¬ A a) : ∃ w : Nat, (Term.string RX8 218).eval #[Value.ref b] s none [] s = some (.ref w) ∧ sxc_W w 4 (sxc 28) A s := by
  exact sxc_of2 (own := RX8) (k := 218) (n := 4) (byt := [112, 108, 117, 115]) hz (by decide) (flat_of_before _ hgv) 276 (by decide +kernel) (by decide) hA3

set_option maxHeartbeats 4000000 in
set_option maxRecDepth 100000 in
theorem lg_s29 {s : State} {b : Nat} {A : Nat → Prop} (hz : sx_Z A s) (hgv : (Jvm.Cond.and given_1 narrow_1).before #[Value.ref b] s = true) (hA3 : ∀ a : Nat, a < s.heap.size → ¬ A a) : ∃ w : Nat, (Term.string RX8 220).eval #[Value.ref b] s none [] s = some (.ref w) ∧ sxc_W w 5 (sxc 29) A s := by
  exact sxc_of2 (own := RX8) (k := 220) (n := 5) (byt := [102, 105, 114, 115, 116]) hz (by decide) (flat_of_before _ hgv) 285 (by decide +kernel) (by decide) hA3

set_option maxHeartbeats 4000000 in
set_option maxRecDepth 100000 in
theorem lg_s30 {s : State} {b : Nat} {A : Nat → Prop} (hz : sx_Z A s) (hgv : (Jvm.Cond.and given_1 narrow_1).before #[Value.ref b] s = true) (hA3 : ∀ a : Nat, a < s.heap.size → ¬ A a) : ∃ w : Nat, (Term.string RX8 226).eval #[Value.ref b] s none [] s = some (.ref w) ∧ sxc_W w 2 (sxc 30) A s := by
  exact sxc_of2 (own := RX8) (k := 226) (n := 2) (byt := [105, 115]) hz (by decide) (flat_of_before _ hgv) 327 (by decide +kernel) (by decide) hA3

set_option maxHeartbeats 4000000 in
set_option maxRecDepth 100000 in
theorem lg_s31 {s : State} {b : Nat} {A : Nat → Prop} (hz : sx_Z A s) (hgv : (Jvm.Cond.and given_1 narrow_1).before #[Value.ref b] s = true) (hA3 : ∀ a : Nat, a < s.heap.size → ¬ A a) : ∃ w : Nat, (Term.string RX8 228).eval #[Value.ref b] s none [] s = some (.ref w) ∧ sxc_W w 5 (sxc 31) A s := by
  exact sxc_of2 (own := RX8) (k := 228) (n := 5) (byt := [119, 97, 108, 107, 115]) hz (by decide) (flat_of_before _ hgv) 334 (by decide +kernel) (by decide) hA3

set_option maxHeartbeats 4000000 in
set_option maxRecDepth 100000 in
theorem lg_s32 {s : State} {b : Nat} {A : Nat → Prop} (hz : sx_Z A s) (hgv : (Jvm.Cond.and given_1 narrow_1).before #[Value.ref b] s = true) (hA3 : ∀ a : Nat, a < s.heap.size → ¬ A a) : ∃ w : Nat, (Term.string RX8 230).eval #[Value.ref b] s none [] s = some (.ref w) ∧ sxc_W w 6 (sxc 32) A s := by
  exact sxc_of2 (own := RX8) (k := 230) (n := 6) (byt := [115, 112, 101, 97, 107, 115]) hz (by decide) (flat_of_before _ hgv) 344 (by decide +kernel) (by decide) hA3

set_option maxHeartbeats 4000000 in
set_option maxRecDepth 100000 in
theorem lg_s33 {s : State} {b : Nat} {A : Nat → Prop} (hz : sx_Z A s) (hgv : (Jvm.Cond.and given_1 narrow_1).before #[Value.ref b] s = true) (hA3 : ∀ a : Nat, a < s.heap.size → ¬ A a) : ∃ w : Nat, (Term.string RX8 232).eval #[Value.ref b] s none [] s = some (.ref w) ∧ sxc_W w 4 (sxc 33) A s := by
  exact sxc_of2 (own := RX8) (k := 232) (n := 4) (byt := [102, 114, 111, 109]) hz (by decide) (flat_of_before _ hgv) 355 (by decide +kernel) (by decide) hA3

set_option maxHeartbeats 4000000 in
set_option maxRecDepth 100000 in
theorem lg_s34 {s : State} {b : Nat} {A : Nat → Prop} (hz : sx_Z A s) (hgv : (Jvm.Cond.and given_1 narrow_1).before #[Value.ref b] s = true) (hA3 : ∀ a : Nat, a < s.heap.size → ¬ A a) : ∃ w : Nat, (Term.string RX8 233).eval #[Value.ref b] s none [] s = some (.ref w) ∧ sxc_W w 2 (sxc 34) A s := by
  exact sxc_of2 (own := RX8) (k := 233) (n := 2) (byt := [116, 111]) hz (by decide) (flat_of_before _ hgv) 364 (by decide +kernel) (by decide) hA3

set_option maxHeartbeats 4000000 in
set_option maxRecDepth 100000 in
theorem lg_s35 {s : State} {b : Nat} {A : Nat → Prop} (hz : sx_Z A s) (hgv : (Jvm.Cond.and given_1 narrow_1).before #[Value.ref b] s = true) (hA3 : ∀ a : Nat, a < s.heap.size → ¬ A a) : ∃ w : Nat, (Term.string RX8 234).eval #[Value.ref b] s none [] s = some (.ref w) ∧ sxc_W w 2 (sxc 35) A s := by
  exact sxc_of2 (own := RX8) (k := 234) (n := 2) (byt := [97, 116]) hz (by decide) (flat_of_before _ hgv) 371 (by decide +kernel) (by decide) hA3

set_option maxHeartbeats 4000000 in
set_option maxRecDepth 100000 in
theorem lg_strs {p : Program} {s : State} {m : MethodId} {meth : Method} {c : Code} {b L : Nat} {xs : Nat → Int32} {A : Nat → Prop} (hA2 : ∀ q, A q → s.heap.size ≤ q) (C0 : lw_At p s m meth c b L xs) : ∃ sd : Nat → Nat, sxc_T sd A s := by
  obtain ⟨hx, hb, hr, hml, hown0, htl, hX, hbl, hlocks, hgv⟩ := id C0
  have hsn := flat_of_before _ hgv
  have hA3 : ∀ a : Nat, a < s.heap.size → ¬ A a := fun a h9 h8 => absurd (hA2 a h8) (Nat.not_le.mpr h9)
  have hz : sx_Z A s := ⟨va_Zof (htl (.laysStatic "java/lang/String" "COMPACT_STRINGS" "Z") (lc_tb (i := 403) (by decide +kernel))) (htl (.initialized "java/lang/String") (lc_tb (i := 11) (by decide +kernel))) (va_eqt (hsn _ (List.mem_of_getElem? (i := 4) (by decide +kernel)))) hA3, va_Zqof (htl (.laysStatic "jdk/internal/util/Preconditions" "SIOOBE_FORMATTER" "Ljava/util/function/BiFunction;") (lc_tb (i := 419) (by decide +kernel))) (htl (.initialized "jdk/internal/util/Preconditions") (lc_tb (i := 13) (by decide +kernel))) (hsn _ (List.mem_of_getElem? (i := 5) (by decide +kernel))) hA3⟩
  obtain ⟨w0, e0, h0⟩ := lg_s0 hz hgv hA3
  obtain ⟨w1, e1, h1⟩ := lg_s1 hz hgv hA3
  obtain ⟨w2, e2, h2⟩ := lg_s2 hz hgv hA3
  obtain ⟨w3, e3, h3⟩ := lg_s3 hz hgv hA3
  obtain ⟨w4, e4, h4⟩ := lg_s4 hz hgv hA3
  obtain ⟨w5, e5, h5⟩ := lg_s5 hz hgv hA3
  obtain ⟨w6, e6, h6⟩ := lg_s6 hz hgv hA3
  obtain ⟨w7, e7, h7⟩ := lg_s7 hz hgv hA3
  obtain ⟨w8, e8, h8⟩ := lg_s8 hz hgv hA3
  obtain ⟨w9, e9, h9⟩ := lg_s9 hz hgv hA3
  obtain ⟨w10, e10, h10⟩ := lg_s10 hz hgv hA3
  obtain ⟨w11, e11, h11⟩ := lg_s11 hz hgv hA3
  obtain ⟨w12, e12, h12⟩ := lg_s12 hz hgv hA3
  obtain ⟨w13, e13, h13⟩ := lg_s13 hz hgv hA3
  obtain ⟨w14, e14, h14⟩ := lg_s14 hz hgv hA3
  obtain ⟨w15, e15, h15⟩ := lg_s15 hz hgv hA3
  obtain ⟨w16, e16, h16⟩ := lg_s16 hz hgv hA3
  obtain ⟨w17, e17, h17⟩ := lg_s17 hz hgv hA3
  obtain ⟨w18, e18, h18⟩ := lg_s18 hz hgv hA3
  obtain ⟨w19, e19, h19⟩ := lg_s19 hz hgv hA3
  obtain ⟨w20, e20, h20⟩ := lg_s20 hz hgv hA3
  obtain ⟨w21, e21, h21⟩ := lg_s21 hz hgv hA3
  obtain ⟨w22, e22, h22⟩ := lg_s22 hz hgv hA3
  obtain ⟨w23, e23, h23⟩ := lg_s23 hz hgv hA3
  obtain ⟨w24, e24, h24⟩ := lg_s24 hz hgv hA3
  obtain ⟨w25, e25, h25⟩ := lg_s25 hz hgv hA3
  obtain ⟨w26, e26, h26⟩ := lg_s26 hz hgv hA3
  obtain ⟨w27, e27, h27⟩ := lg_s27 hz hgv hA3
  obtain ⟨w28, e28, h28⟩ := lg_s28 hz hgv hA3
  obtain ⟨w29, e29, h29⟩ := lg_s29 hz hgv hA3
  obtain ⟨w30, e30, h30⟩ := lg_s30 hz hgv hA3
  obtain ⟨w31, e31, h31⟩ := lg_s31 hz hgv hA3
  obtain ⟨w32, e32, h32⟩ := lg_s32 hz hgv hA3
  obtain ⟨w33, e33, h33⟩ := lg_s33 hz hgv hA3
  obtain ⟨w34, e34, h34⟩ := lg_s34 hz hgv hA3
  obtain ⟨w35, e35, h35⟩ := lg_s35 hz hgv hA3
  refine ⟨fun i9 => ([w0, w1, w2, w3, w4, w5, w6, w7, w8, w9, w10, w11, w12, w13, w14, w15, w16, w17, w18, w19, w20, w21, w22, w23, w24, w25, w26, w27, w28, w29, w30, w31, w32, w33, w34, w35] : List Nat).getD i9 0, fun i hi => ?_, vk_R.of (htl (.stringRef RX3 98 "gallery") (lc_tb (i := 389) (by decide +kernel))) e0, vk_R.of (htl (.stringRef RX3 110 "law") (lc_tb (i := 463) (by decide +kernel))) e1, vk_R.of (htl (.stringRef RX3 112 "figure") (lc_tb (i := 464) (by decide +kernel))) e2, vk_R.of (htl (.stringRef RX3 114 "watche\x72") (lc_tb (i := 465) (by decide +kernel))) e3, vk_R.of (htl (.stringRef RX3 116 "seen") (lc_tb (i := 466) (by decide +kernel))) e4, vk_R.of (htl (.stringRef RX3 151 "figures") (lc_tb (i := 450) (by decide +kernel))) e5, vk_R.of (htl (.stringRef RX3 159 "span") (lc_tb (i := 460) (by decide +kernel))) e6, vk_R.of (htl (.stringRef RX3 163 "stairs") (lc_tb (i := 461) (by decide +kernel))) e7, vk_R.of (htl (.stringRef RX3 168 "shut") (lc_tb (i := 462) (by decide +kernel))) e8, vk_R.of (htl (.stringRef RX3 172 "times") (lc_tb (i := 471) (by decide +kernel))) e9, vk_R.of (htl (.stringRef RX3 176 "plus") (lc_tb (i := 472) (by decide +kernel))) e10, vk_R.of (htl (.stringRef RX3 180 "first") (lc_tb (i := 473) (by decide +kernel))) e11, vk_R.of (htl (.stringRef RX3 187 "is") (lc_tb (i := 488) (by decide +kernel))) e12, vk_R.of (htl (.stringRef RX3 199 "walks") (lc_tb (i := 496) (by decide +kernel))) e13, vk_R.of (htl (.stringRef RX3 201 "speaks") (lc_tb (i := 497) (by decide +kernel))) e14, vk_R.of (htl (.stringRef RX3 207 "from") (lc_tb (i := 506) (by decide +kernel))) e15, vk_R.of (htl (.stringRef RX3 209 "to") (lc_tb (i := 507) (by decide +kernel))) e16, vk_R.of (htl (.stringRef RX3 215 "at") (lc_tb (i := 516) (by decide +kernel))) e17, vk_R.of (htl (.stringRef RX8 128 "gallery") (lc_tb (i := 1246) (by decide +kernel))) e18, vk_R.of (htl (.stringRef RX8 130 "law") (lc_tb (i := 1289) (by decide +kernel))) e19, vk_R.of (htl (.stringRef RX8 132 "figure") (lc_tb (i := 1301) (by decide +kernel))) e20, vk_R.of (htl (.stringRef RX8 134 "watche\x72") (lc_tb (i := 1314) (by decide +kernel))) e21, vk_R.of (htl (.stringRef RX8 136 "seen") (lc_tb (i := 1315) (by decide +kernel))) e22, vk_R.of (htl (.stringRef RX8 201 "figures") (lc_tb (i := 1261) (by decide +kernel))) e23, vk_R.of (htl (.stringRef RX8 207 "span") (lc_tb (i := 1286) (by decide +kernel))) e24, vk_R.of (htl (.stringRef RX8 209 "stairs") (lc_tb (i := 1287) (by decide +kernel))) e25, vk_R.of (htl (.stringRef RX8 211 "shut") (lc_tb (i := 1288) (by decide +kernel))) e26, vk_R.of (htl (.stringRef RX8 213 "times") (lc_tb (i := 1294) (by decide +kernel))) e27, vk_R.of (htl (.stringRef RX8 218 "plus") (lc_tb (i := 1299) (by decide +kernel))) e28, vk_R.of (htl (.stringRef RX8 220 "first") (lc_tb (i := 1300) (by decide +kernel))) e29, vk_R.of (htl (.stringRef RX8 226 "is") (lc_tb (i := 1320) (by decide +kernel))) e30, vk_R.of (htl (.stringRef RX8 228 "walks") (lc_tb (i := 1321) (by decide +kernel))) e31, vk_R.of (htl (.stringRef RX8 230 "speaks") (lc_tb (i := 1322) (by decide +kernel))) e32, vk_R.of (htl (.stringRef RX8 232 "from") (lc_tb (i := 1327) (by decide +kernel))) e33, vk_R.of (htl (.stringRef RX8 233 "to") (lc_tb (i := 1328) (by decide +kernel))) e34, vk_R.of (htl (.stringRef RX8 234 "at") (lc_tb (i := 1333) (by decide +kernel))) e35⟩
  match i, hi with
    | 0, _ => exact h0
    | 1, _ => exact h1
    | 2, _ => exact h2
    | 3, _ => exact h3
    | 4, _ => exact h4
    | 5, _ => exact h5
    | 6, _ => exact h6
    | 7, _ => exact h7
    | 8, _ => exact h8
    | 9, _ => exact h9
    | 10, _ => exact h10
    | 11, _ => exact h11
    | 12, _ => exact h12
    | 13, _ => exact h13
    | 14, _ => exact h14
    | 15, _ => exact h15
    | 16, _ => exact h16
    | 17, _ => exact h17
    | 18, _ => exact h18
    | 19, _ => exact h19
    | 20, _ => exact h20
    | 21, _ => exact h21
    | 22, _ => exact h22
    | 23, _ => exact h23
    | 24, _ => exact h24
    | 25, _ => exact h25
    | 26, _ => exact h26
    | 27, _ => exact h27
    | 28, _ => exact h28
    | 29, _ => exact h29
    | 30, _ => exact h30
    | 31, _ => exact h31
    | 32, _ => exact h32
    | 33, _ => exact h33
    | 34, _ => exact h34
    | 35, _ => exact h35
    | i9 + 36, hi => exact absurd hi (by omega)
end P442_strs
section P4425_kled
set_option maxHeartbeats 4000000 in
set_option maxRecDepth 100000 in
theorem k_X8_led (l : Launch) (dC : Nat → ClassId) (dI : Nat → Nat → Nat) (sz : Nat) (x : Nat) (tp : Int32) (vi : Nat → Int32) (vf : Nat → Nat → Int32) (wx : va_W) (tx : List (ClassId × FieldType)) (h : IMv x tp vi vf wx tx) (a1 : Int32) : Met l yX8_led wsX8_led ({ frames := 0, cells := 0, slots := 0, locals := 0 }) (va_Pc [.ref x, .int a1] (ax_C dC dI sz wx tx (fun _ => True))) (va_Qi (fun (_ : Int32) (_ : Unit) => True) (fun _ t => ∃ wx9 ty9, (∃ (vi1 : Nat → Int32) (vf1 : Nat → Nat → Int32), (∀ k9 : Nat, k9 ∉ ([0] : List Nat) → vi1 k9 = vi k9) ∧ (∀ k9 : Nat, k9 ∉ ([] : List Nat) → vf1 k9 = vf k9) ∧ IMv x tp vi1 vf1 wx9 ty9) ∧ ax_B dC dI (va_A wx sz) wx9 ty9 t) (va_A wx sz)) 0 0 (va_A wx sz) := by
  obtain ⟨ad, kc, rfl, rfl, F0, F1, F2, F3, F4, F5, F6, F7, F8, F9, F10, F11, F12, F13, hMo⟩ := h
  rcases hMo with hM | ⟨hM, hR, hK⟩
  · refine fr_i (post' := fun _ => True) (J := fun w9 t9 => ∃ (vi1 : Nat → Int32) (vf1 : Nat → Nat → Int32), (∀ k9 : Nat, k9 ∉ ([0] : List Nat) → vi1 k9 = vi k9) ∧ (∀ k9 : Nat, k9 ∉ ([] : List Nat) → vf1 k9 = vf k9) ∧ IMv x tp vi1 vf1 w9 t9) (wr := [((ad 0), .inl ((kc 0), 900, .inl ((vf 0)))), ((ad 1), .inl ((kc 1), 8, .inl ((vf 1)))), ((ad 2), .inl ((kc 2), 156, .inl ((vf 2)))), ((ad 3), .inl ((kc 3), 156, .inl ((vf 3)))), ((ad 4), .inl ((kc 4), 23, .inl ((vf 4)))), ((ad 5), .inl ((kc 5), 23, .inl ((vf 5)))), ((ad 6), .inl ((kc 6), 368, .inl ((vf 6)))), ((ad 7), .inl ((kc 7), 69, .inl ((vf 7)))), ((ad 8), .inl ((kc 8), 3, .inl ((vf 8)))), ((ad 9), .inl ((kc 9), 3, .inl ((vf 9)))), ((ad 10), .inl ((kc 10), 10, .inl ((vf 10)))), ((ad 11), .inl ((kc 11), 61, .inl ((vf 11)))), ((ad 12), .inl ((kc 12), 620, .inl ((vf 12)))), ((ad 13), .inl ((kc 13), 9, .inl ((vf 13)))), ((ad 14), .inl ((kc 14), 9, .inl ((vf 14))))]) (c0_X8_led l dC dI sz x a1 (vi 0) (Value.ref (ad 0)) (Value.int tp) (Value.int (vi 1)) (Value.int (vi 2)) (Value.int (vi 3)) (Value.int (vi 4)) (Value.int (vi 5)) (Value.int (vi 6)) (Value.int (vi 7)) (Value.int (vi 8)) (Value.int (vi 9)) (Value.ref (ad 1)) (Value.int (vi 10)) (Value.ref (ad 2)) (Value.ref (ad 3)) (Value.ref (ad 4)) (Value.ref (ad 5)) (Value.ref (ad 6)) (Value.ref (ad 7)) (Value.int (vi 12)) (Value.int (vi 13)) (Value.ref (ad 8)) (Value.ref (ad 9)) (Value.int (vi 14)) (Value.int (vi 15)) (Value.int (vi 16)) (Value.int (vi 17)) (Value.ref (ad 10)) (Value.int (vi 18)) (Value.int (vi 19)) (Value.ref (ad 11)) (Value.ref (ad 12)) (Value.ref (ad 13)) (Value.ref (ad 14)) (Value.int (vi 20)) (Value.int (vi 21)) (Value.int (vi 22)) (Value.int (vi 23)) (vi 11) (by rw [hM]; decide) (by rw [hM]; decide)) [0] [1, 2, 3, 4, 5, 6, 7, 8, 9, 10, 11, 12, 13, 14, 15] [] 16 (by decide +kernel) rfl rfl (by decide +kernel) rfl (fun _ h9 => h9) ?_
    intro r u t hp hb
    obtain ⟨zna0_0, hB⟩ := hb
    exact ⟨trivial, ⟨_, hB, rfl, imW x tp ad kc (ux vi [(0, zna0_0)]) vf, rfl, rfl, rfl, ⟨(ux vi [(0, zna0_0)]), vf, (fun _ h9 => ux_keep h9), (fun _ _ => rfl), ad, kc, rfl, rfl, F0, F1, F2, F3, F4, F5, F6, F7, F8, F9, F10, F11, F12, F13, Or.inl hM⟩⟩⟩
  · refine fr_i (post' := fun _ => True) (J := fun w9 t9 => ∃ (vi1 : Nat → Int32) (vf1 : Nat → Nat → Int32), (∀ k9 : Nat, k9 ∉ ([0] : List Nat) → vi1 k9 = vi k9) ∧ (∀ k9 : Nat, k9 ∉ ([] : List Nat) → vf1 k9 = vf k9) ∧ IMv x tp vi1 vf1 w9 t9) (wr := [((ad 0), .inl ((kc 0), 900, .inl ((vf 0)))), ((ad 1), .inl ((kc 1), 8, .inl ((vf 1)))), ((ad 3), .inl ((kc 3), 156, .inl ((vf 3)))), ((ad 5), .inl ((kc 5), 23, .inl ((vf 5)))), ((ad 6), .inl ((kc 6), 368, .inl ((vf 6)))), ((ad 7), .inl ((kc 7), 69, .inl ((vf 7)))), ((ad 8), .inl ((kc 8), 3, .inl ((vf 8)))), ((ad 9), .inl ((kc 9), 3, .inl ((vf 9)))), ((ad 10), .inl ((kc 10), 10, .inl ((vf 10)))), ((ad 11), .inl ((kc 11), 61, .inl ((vf 11)))), ((ad 12), .inl ((kc 12), 620, .inl ((vf 12)))), ((ad 13), .inl ((kc 13), 9, .inl ((vf 13)))), ((ad 14), .inl ((kc 14), 9, .inl ((vf 14))))]) (c_X8_led l dC dI sz x a1 (vi 0) (Value.ref (ad 0)) (Value.int tp) (Value.int (vi 1)) (Value.int (vi 2)) (Value.int (vi 3)) (Value.int (vi 4)) (Value.int (vi 5)) (Value.int (vi 6)) (Value.int (vi 7)) (Value.int (vi 8)) (Value.int (vi 9)) (Value.ref (ad 1)) (Value.int (vi 10)) (Value.ref (ad 3)) (Value.ref (ad 5)) (Value.ref (ad 6)) (Value.ref (ad 7)) (Value.int (vi 12)) (Value.int (vi 13)) (Value.ref (ad 8)) (Value.ref (ad 9)) (Value.int (vi 14)) (Value.int (vi 15)) (Value.int (vi 16)) (Value.int (vi 17)) (Value.ref (ad 10)) (Value.int (vi 18)) (Value.int (vi 19)) (Value.ref (ad 11)) (Value.ref (ad 12)) (Value.ref (ad 13)) (Value.ref (ad 14)) (Value.int (vi 20)) (Value.int (vi 21)) (Value.int (vi 22)) (Value.int (vi 23)) (vi 11) (ad 2) (ad 4) (kc 2) (vf 2) (kc 4) (vf 4) (by rw [hM]; decide) (by rw [hM]; decide) hR F7) [0, 3, 5] [1, 2, 4, 6, 7, 8, 9, 10, 11, 12, 13, 14, 15] [2, 4] 16 (by decide +kernel) rfl rfl (by decide +kernel) rfl (fun _ h9 => h9) ?_
    intro r u t hp hb
    obtain ⟨zna0_0, hB⟩ := hb
    exact ⟨trivial, ⟨_, hB, rfl, imW x tp ad kc (ux vi [(0, zna0_0)]) vf, rfl, rfl, rfl, ⟨(ux vi [(0, zna0_0)]), vf, (fun _ h9 => ux_keep h9), (fun _ _ => rfl), ad, kc, rfl, rfl, F0, F1, F2, F3, F4, F5, F6, F7, F8, F9, F10, F11, F12, F13, Or.inr ⟨hM, hR, hK⟩⟩⟩⟩
end P4425_kled
section P443_cases_0
set_option maxHeartbeats 4000000 in
set_option maxRecDepth 100000 in
theorem lc_0 {p : Program} {l : Launch} {e : Env} {s : State} {m : MethodId} {below : List Frame} {meth : Method} {c : Code} {b L : Nat} {xs : Nat → Int32} {A : Nat → Prop} {dC : Nat → ClassId} {dI : Nat → Nat → Nat} (hl0 : l.stackTraces = false) (hL : L ≤ 3072) (hA : ∀ q, s.heap.size ≤ q → A q) (hA2 : ∀ q, A q → s.heap.size ≤ q) (C0 : lw_At p s m meth c b L xs) (sd : Nat → Nat) (sa : Nat) (hE : lg_E A sd sa s) (x mo oa : Nat) (ko : ClassId) (hKo : va_K (dC, dI) vwCl [(ko, .long)] s) (i : Int32) (hi0 : (0 : Int) ≤ i.toInt) (hi6 : i.toInt + 6 ≤ (L : Int)) {H : Heap} {locs : List Loc} {cells slots : Nat} (hc9 : cells + 1 ≤ 601024) (hs9 : slots + 6 ≤ 7293034) (hG : lg_S dC dI A s x mo oa ko H) (hS : va_S A s.heap H locs) {ls : Array Slot} (hl : lv_has ls 7 [(4, .int i), (3, .ref oa), (2, .ref mo), (1, .ref x), (0, .ref b)])
    (kk : ∀ (H : Heap) (locs : List Loc) (ls : Array Slot) (k9 n9 : Nat), k9 ≤ cells + 1 → n9 ≤ slots + 6 → lg_S dC dI A s x mo oa ko H → va_S A s.heap H locs → lv_has ls 7 [(4, .int i), (3, .ref oa), (2, .ref mo), (1, .ref x), (0, .ref b)] → W p l e room_1 s m #[Value.ref b] below meth c H locs k9 n9 (lw_Z below #[Value.ref b] s) (F0 m 1941 ls [])) : W p l e room_1 s m #[Value.ref b] below meth c H locs cells slots (lw_Z below #[Value.ref b] s) (F0 m 288 ls []) := by
  obtain ⟨hx, hb, hr, hml, hown0, htl, hX, hbl, hlocks, hgv⟩ := id C0
  have hown : s.vm.findClass RL = some m.cls := hown0
  have hts : ∀ w ∈ wlT, w.before #[Value.ref b] s = true := fun w h => htl w (wlT_in w h)
  have hbA : ¬ A b := fun h => absurd (hA2 b h) (Nat.not_le.mpr hbl)
  obtain ⟨tp, wx, wm, tx, tm, fo, vi, vf, vm, vn, hIX, hIM, ⟨hR, hW⟩, hKx, hKm, hPx, hPm, hPo, hDx, hDm, hDo, jxm, jxo, jmo⟩ := hG
  have hiM : i.toInt ≤ (3066 : Int) := by omega
  have hcc : cells ≤ 601024 := by omega
  have hss : slots ≤ 7293034 := by omega
  have htpb := ix_tp hIX
  refine lv_aload_n hx hb dL_law_288 rfl (lv_at hl 3 rfl) ?_
  refine lv_aload_n hx hb dL_law_289 rfl (lv_at hl 4 rfl) ?_
  refine lv_iload hx hb dL_law_290 (lv_at hl 0 rfl) ?_
  refine lv_iconst (v := 1) hx hb dL_law_292 zk_iconst_1 ?_
  refine lv_iadd hx hb dL_law_293 ?_
  refine lv_topi (fun ix1 eix1 => ?_)
  have qix1 : ix1.toInt = i.toInt + 1 := ai_add eix1 ⟨hi0, hiM⟩ ⟨zq1, zq0⟩ (by decide) (by decide)
  refine va_sld (L := L) (i := ix1) hx hb hX hbl hbA hS (vp_in_iff.mpr ⟨by omega, by omega⟩) dL_law_294 ?_
  refine lv_topi (fun vix1 evix1 => ?_)
  refine lv_aload_n hx hb dL_law_295 rfl (lv_at hl 4 rfl) ?_
  refine lv_iload hx hb dL_law_296 (lv_at hl 0 rfl) ?_
  refine lv_iconst (v := 2) hx hb dL_law_298 zk_iconst_2 ?_
  refine lv_iadd hx hb dL_law_299 ?_
  refine lv_topi (fun ix2 eix2 => ?_)
  have qix2 : ix2.toInt = i.toInt + 2 := ai_add eix2 ⟨hi0, hiM⟩ ⟨zq12, zq13⟩ (by decide) (by decide)
  refine va_sld (L := L) (i := ix2) hx hb hX hbl hbA hS (vp_in_iff.mpr ⟨by omega, by omega⟩) dL_law_300 ?_
  refine lv_topi (fun vix2 evix2 => ?_)
  refine lv_aload_n hx hb dL_law_301 rfl (lv_at hl 4 rfl) ?_
  refine lv_iload hx hb dL_law_302 (lv_at hl 0 rfl) ?_
  refine lv_iconst (v := 3) hx hb dL_law_304 zk_iconst_3 ?_
  refine lv_iadd hx hb dL_law_305 ?_
  refine lv_topi (fun ix3 eix3 => ?_)
  have qix3 : ix3.toInt = i.toInt + 3 := ai_add eix3 ⟨hi0, hiM⟩ ⟨zq8, zq9⟩ (by decide) (by decide)
  refine va_sld (L := L) (i := ix3) hx hb hX hbl hbA hS (vp_in_iff.mpr ⟨by omega, by omega⟩) dL_law_306 ?_
  refine lv_topi (fun vix3 evix3 => ?_)
  refine lv_aload_n hx hb dL_law_307 rfl (lv_at hl 4 rfl) ?_
  refine lv_iload hx hb dL_law_308 (lv_at hl 0 rfl) ?_
  refine lv_iconst (v := 4) hx hb dL_law_310 zk_iconst_4 ?_
  refine lv_iadd hx hb dL_law_311 ?_
  refine lv_topi (fun ix4 eix4 => ?_)
  have qix4 : ix4.toInt = i.toInt + 4 := ai_add eix4 ⟨hi0, hiM⟩ ⟨zq68, zq67⟩ (by decide) (by decide)
  refine va_sld (L := L) (i := ix4) hx hb hX hbl hbA hS (vp_in_iff.mpr ⟨by omega, by omega⟩) dL_law_312 ?_
  refine lv_topi (fun vix4 evix4 => ?_)
  refine lv_aload_n hx hb dL_law_313 rfl (lv_at hl 4 rfl) ?_
  refine lv_iload hx hb dL_law_314 (lv_at hl 0 rfl) ?_
  refine lv_iconst (v := 5) hx hb dL_law_316 zk_iconst_5 ?_
  refine lv_iadd hx hb dL_law_317 ?_
  refine lv_topi (fun ix5 eix5 => ?_)
  have qix5 : ix5.toInt = i.toInt + 5 := ai_add eix5 ⟨hi0, hiM⟩ ⟨zq114, zq115⟩ (by decide) (by decide)
  refine va_sld (L := L) (i := ix5) hx hb hX hbl hbA hS (vp_in_iff.mpr ⟨by omega, by omega⟩) dL_law_318 ?_
  refine lv_topi (fun vix5 evix5 => ?_)
  have hFc := lg_free hDx hS hA
  obtain ⟨fs319, hfs319⟩ := ix_recv hIX
  refine va_calli (va_runV (As := [.int vix1, .int vix2, .int vix3, .int vix4, .int vix5]) (rest := []) ⟨hx, hb, hml, hown, hts⟩ (k_X7_feed l dC dI H.size x tp vi vf wx tx hIX vix1 vix2 vix3 vix4 vix5) (cwV 5 hts gd_X7_feed rfl rfl rfl (by decide +kernel) ⟨Nat.le_of_ble_eq_true rfl, Nat.le_of_ble_eq_true rfl⟩) ⟨ax_blind (fun _ _ _ _ _ => trivial), va_recv hKx hPx (ci := 7) (q0 := 0) rfl hfs319, ax_preE hPx hKx hDx (fun _ _ _ => trivial)⟩ rfl rfl hl.1 rfl (lv_room (Nat.le_of_ble_eq_true rfl)) dL_law_319 ⟨hcc, hss⟩) hS (fun q _ h => hFc q h) hFc (fun r319 u t H1 locs ht hvm hw319 hB hz1 hk1 hS => ?_)
  obtain ⟨wxn, txn, ⟨tpx, vi1, vf1, kx1, kx2, ⟨ftx, ffx⟩, hI1⟩, hP1, hK1, hD1⟩ := hB
  rw [ht] at hP1
  have hK1 := va_K.moved hvm.symm hK1
  obtain ⟨hPm, jxm⟩ := lg_step hPm jxm hk1 hD1
  obtain ⟨hPo, jxo⟩ := lg_step hPo jxo hk1 hD1
  have hD1 := hD1.weaken (fun _ _ _ h9 => hFc _ h9)
  clear hPx hDx hKx hFc hk1 hz1 hfs319
  have hIX := hI1; have hPx := hP1; have hDx := hD1; have hKx := hK1; clear hI1 hP1 hD1 hK1
  clear ht; generalize H1 = H at hPx hPm hPo hS ⊢
  refine lv_pop hx hb dL_law_322 rfl ?_
  refine lv_aload_n hx hb dL_law_323 rfl (lv_at hl 2 rfl) ?_
  refine lv_aload_n hx hb dL_law_324 rfl (lv_at hl 4 rfl) ?_
  refine lv_iload hx hb dL_law_325 (lv_at hl 0 rfl) ?_
  refine lv_iconst (v := 1) hx hb dL_law_327 zk_iconst_1 ?_
  refine lv_iadd hx hb dL_law_328 ?_
  refine ax_ti ix1 eix1.symm ?_
  refine va_sld (L := L) (i := ix1) hx hb hX hbl hbA hS (vp_in_iff.mpr ⟨by omega, by omega⟩) dL_law_329 ?_
  refine ax_ti vix1 evix1.symm ?_
  refine lv_aload_n hx hb dL_law_330 rfl (lv_at hl 4 rfl) ?_
  refine lv_iload hx hb dL_law_331 (lv_at hl 0 rfl) ?_
  refine lv_iconst (v := 2) hx hb dL_law_333 zk_iconst_2 ?_
  refine lv_iadd hx hb dL_law_334 ?_
  refine ax_ti ix2 eix2.symm ?_
  refine va_sld (L := L) (i := ix2) hx hb hX hbl hbA hS (vp_in_iff.mpr ⟨by omega, by omega⟩) dL_law_335 ?_
  refine ax_ti vix2 evix2.symm ?_
  refine lv_aload_n hx hb dL_law_336 rfl (lv_at hl 4 rfl) ?_
  refine lv_iload hx hb dL_law_337 (lv_at hl 0 rfl) ?_
  refine lv_iconst (v := 3) hx hb dL_law_339 zk_iconst_3 ?_
  refine lv_iadd hx hb dL_law_340 ?_
  refine ax_ti ix3 eix3.symm ?_
  refine va_sld (L := L) (i := ix3) hx hb hX hbl hbA hS (vp_in_iff.mpr ⟨by omega, by omega⟩) dL_law_341 ?_
  refine ax_ti vix3 evix3.symm ?_
  refine lv_aload_n hx hb dL_law_342 rfl (lv_at hl 4 rfl) ?_
  refine lv_iload hx hb dL_law_343 (lv_at hl 0 rfl) ?_
  refine lv_iconst (v := 4) hx hb dL_law_345 zk_iconst_4 ?_
  refine lv_iadd hx hb dL_law_346 ?_
  refine ax_ti ix4 eix4.symm ?_
  refine va_sld (L := L) (i := ix4) hx hb hX hbl hbA hS (vp_in_iff.mpr ⟨by omega, by omega⟩) dL_law_347 ?_
  refine ax_ti vix4 evix4.symm ?_
  refine lv_aload_n hx hb dL_law_348 rfl (lv_at hl 4 rfl) ?_
  refine lv_iload hx hb dL_law_349 (lv_at hl 0 rfl) ?_
  refine lv_iconst (v := 5) hx hb dL_law_351 zk_iconst_5 ?_
  refine lv_iadd hx hb dL_law_352 ?_
  refine ax_ti ix5 eix5.symm ?_
  refine va_sld (L := L) (i := ix5) hx hb hX hbl hbA hS (vp_in_iff.mpr ⟨by omega, by omega⟩) dL_law_353 ?_
  refine ax_ti vix5 evix5.symm ?_
  have hFc := lg_free hDm hS hA
  obtain ⟨fs354, hfs354⟩ := im_recv hIM
  refine va_calli (va_runV (As := [.int vix1, .int vix2, .int vix3, .int vix4, .int vix5]) (rest := []) ⟨hx, hb, hml, hown, hts⟩ (k_X8_feed l dC dI H.size mo tp vm vn wm tm hIM vix1 vix2 vix3 vix4 vix5) (cwV 5 hts gd_X8_feed rfl rfl rfl (by decide +kernel) ⟨Nat.le_of_ble_eq_true rfl, Nat.le_of_ble_eq_true rfl⟩) ⟨ax_blind (fun _ _ _ _ _ => trivial), va_recv hKm hPm (ci := 8) (q0 := 0) rfl hfs354, ax_preE hPm hKm hDm (fun _ _ _ => trivial)⟩ rfl rfl hl.1 rfl (lv_room (Nat.le_of_ble_eq_true rfl)) dL_law_354 ⟨hcc, hss⟩) hS (fun q _ h => hFc q h) hFc (fun r354 u t H1 locs ht hvm hw354 hB hz1 hk1 hS => ?_)
  obtain ⟨wmn, tmn, ⟨tpm, vm1, vn1, km1, km2, ⟨ftm, ffm⟩, hI1⟩, hP1, hK1, hD1⟩ := hB
  rw [ht] at hP1
  have hK1 := va_K.moved hvm.symm hK1
  obtain ⟨hPx, jmx⟩ := lg_step hPx (dj_symm jxm) hk1 hD1
  have jxm := dj_symm jmx
  obtain ⟨hPo, jmo⟩ := lg_step hPo jmo hk1 hD1
  have hD1 := hD1.weaken (fun _ _ _ h9 => hFc _ h9)
  clear hPm hDm hKm hFc hk1 hz1 hfs354
  have hIM := hI1; have hPm := hP1; have hDm := hD1; have hKm := hK1; clear hI1 hP1 hD1 hK1
  clear ht; generalize H1 = H at hPx hPm hPo hS ⊢
  refine lv_pop hx hb dL_law_357 rfl ?_
  refine lv_goto (tgt := 1941) hx hb dL_law_358 (by decide) ?_
  have hWn : lr_5 vi1 vm1 := l5_keep (kx1 0 (by decide)) (kx1 2 (by decide)) (km1 9 (by decide)) (km1 8 (by decide)) hW
  obtain ⟨htp, hRt⟩ := rp_feed2 hR.1 htpb.1 vix1.toInt vix2.toInt vix3.toInt vix4.toInt vix5.toInt ftx ffx ftm ffm
  clear ftx ffx ftm ffm
  subst htp
  have hRn : lr_R tpx vi1 vf1 vm1 vn1 := ⟨hRt, lr_keep (fun k9 h9 => kx1 k9 (kp_dis (by decide) h9)) (fun k9 h9 => kx2 k9 (kp_dis (by decide) h9)) (fun k9 h9 => km1 k9 (kp_dis (by decide) h9)) (fun k9 h9 => km2 k9 (kp_dis (by decide) h9)) hR.2⟩
  have hRn := And.intro hRn hWn
  exact kk _ _ _ _ _ (Nat.le_add_right _ _) (Nat.le_add_right _ _) ⟨tpx, _, _, _, _, _, _, _, _, _, hIX, hIM, hRn, hKx, hKm, hPx, hPm, hPo, hDx, hDm, hDo, jxm, jxo, jmo⟩ hS (lv_sub hl [0, 1, 2, 3, 4] rfl)

set_option maxHeartbeats 4000000 in
set_option maxRecDepth 100000 in
theorem lc_1 {p : Program} {l : Launch} {e : Env} {s : State} {m : MethodId} {below : List Frame} {meth : Method} {c : Code} {b L : Nat} {xs : Nat → Int32} {A : Nat → Prop} {dC : Nat → ClassId} {dI : Nat → Nat → Nat} (hl0 : l.stackTraces = false) (hL : L ≤ 3072) (hA : ∀ q, s.heap.size ≤ q → A q) (hA2 : ∀ q, A q → s.heap.size ≤ q) (C0 : lw_At p s m meth c b L xs) (sd : Nat → Nat) (sa : Nat) (hE : lg_E A sd sa s) (x mo oa : Nat) (ko : ClassId) (hKo : va_K (dC, dI) vwCl [(ko, .long)] s) (i : Int32) (hi0 : (0 : Int) ≤ i.toInt) (hi6 : i.toInt + 6 ≤ (L : Int)) {H : Heap} {locs : List Loc} {cells slots : Nat} (hc9 : cells + 1 ≤ 601024) (hs9 : slots + 6 ≤ 7293034) (hG : lg_S dC dI A s x mo oa ko H) (hS : va_S A s.heap H locs) {ls : Array Slot} (hl : lv_has ls 7 [(4, .int i), (3, .ref oa), (2, .ref mo), (1, .ref x), (0, .ref b)])
    (kk : ∀ (H : Heap) (locs : List Loc) (ls : Array Slot) (k9 n9 : Nat), k9 ≤ cells + 1 → n9 ≤ slots + 6 → lg_S dC dI A s x mo oa ko H → va_S A s.heap H locs → lv_has ls 7 [(4, .int i), (3, .ref oa), (2, .ref mo), (1, .ref x), (0, .ref b)] → W p l e room_1 s m #[Value.ref b] below meth c H locs k9 n9 (lw_Z below #[Value.ref b] s) (F0 m 1941 ls [])) : W p l e room_1 s m #[Value.ref b] below meth c H locs cells slots (lw_Z below #[Value.ref b] s) (F0 m 361 ls []) := by
  obtain ⟨hx, hb, hr, hml, hown0, htl, hX, hbl, hlocks, hgv⟩ := id C0
  have hown : s.vm.findClass RL = some m.cls := hown0
  have hts : ∀ w ∈ wlT, w.before #[Value.ref b] s = true := fun w h => htl w (wlT_in w h)
  have hbA : ¬ A b := fun h => absurd (hA2 b h) (Nat.not_le.mpr hbl)
  obtain ⟨tp, wx, wm, tx, tm, fo, vi, vf, vm, vn, hIX, hIM, ⟨hR, hW⟩, hKx, hKm, hPx, hPm, hPo, hDx, hDm, hDo, jxm, jxo, jmo⟩ := hG
  have hiM : i.toInt ≤ (3066 : Int) := by omega
  have hcc : cells ≤ 601024 := by omega
  have hss : slots ≤ 7293034 := by omega
  have htpb := ix_tp hIX
  refine lv_aload_n hx hb dL_law_361 rfl (lv_at hl 3 rfl) ?_
  refine lv_aload_n hx hb dL_law_362 rfl (lv_at hl 4 rfl) ?_
  refine lv_iload hx hb dL_law_363 (lv_at hl 0 rfl) ?_
  refine lv_iconst (v := 1) hx hb dL_law_365 zk_iconst_1 ?_
  refine lv_iadd hx hb dL_law_366 ?_
  refine lv_topi (fun ix1 eix1 => ?_)
  have qix1 : ix1.toInt = i.toInt + 1 := ai_add eix1 ⟨hi0, hiM⟩ ⟨zq1, zq0⟩ (by decide) (by decide)
  refine va_sld (L := L) (i := ix1) hx hb hX hbl hbA hS (vp_in_iff.mpr ⟨by omega, by omega⟩) dL_law_367 ?_
  refine lv_topi (fun vix1 evix1 => ?_)
  have hFc := lg_free hDx hS hA
  obtain ⟨fs368, hfs368⟩ := ix_recv hIX
  refine va_calli (va_runV (As := [.int vix1]) (rest := []) ⟨hx, hb, hml, hown, hts⟩ (k_X7_gallery l dC dI H.size x tp vi vf wx tx hIX sd vix1) (cwV 1 hts gd_X7_gallery rfl rfl rfl (by decide +kernel) ⟨Nat.le_of_ble_eq_true rfl, Nat.le_of_ble_eq_true rfl⟩) ⟨ax_blind (fun _ _ _ _ hq => ⟨sxc_T_same _ _ _ _ (hq.1), va_Nw.same rfl rfl (hq.2.1), va_Nw.same rfl rfl (hq.2.2)⟩), va_recv hKx hPx (ci := 7) (q0 := 0) rfl hfs368, ax_preE hPx hKx hDx (fun U hU hW => ⟨sxc_T_to hE.1 hS.2.1 hFc hU hW, va_Nw.warmM hW (hE.2.2.2.2.2.2.2.2.1), va_Nw.warmM hW (hE.2.2.2.2.2.2.2.2.2)⟩)⟩ rfl rfl hl.1 rfl (lv_room (Nat.le_of_ble_eq_true rfl)) dL_law_368 ⟨hcc, hss⟩) hS (fun q _ h => hFc q h) hFc (fun r368 u t H1 locs ht hvm hw368 hB hz1 hk1 hS => ?_)
  obtain ⟨wxn, txn, ⟨tpx, vi1, vf1, htpx, kx2, hgx, kgx1, kgx2, hI1⟩, hP1, hK1, hD1⟩ := hB
  rw [ht] at hP1
  have hK1 := va_K.moved hvm.symm hK1
  obtain ⟨hPm, jxm⟩ := lg_step hPm jxm hk1 hD1
  obtain ⟨hPo, jxo⟩ := lg_step hPo jxo hk1 hD1
  have hD1 := hD1.weaken (fun _ _ _ h9 => hFc _ h9)
  clear hPx hDx hKx hFc hk1 hz1 hfs368
  have hIX := hI1; have hPx := hP1; have hDx := hD1; have hKx := hK1; clear hI1 hP1 hD1 hK1
  clear ht; generalize H1 = H at hPx hPm hPo hS ⊢
  refine lv_pop hx hb dL_law_371 rfl ?_
  refine lv_aload_n hx hb dL_law_372 rfl (lv_at hl 2 rfl) ?_
  refine lv_aload_n hx hb dL_law_373 rfl (lv_at hl 4 rfl) ?_
  refine lv_iload hx hb dL_law_374 (lv_at hl 0 rfl) ?_
  refine lv_iconst (v := 1) hx hb dL_law_376 zk_iconst_1 ?_
  refine lv_iadd hx hb dL_law_377 ?_
  refine ax_ti ix1 eix1.symm ?_
  refine va_sld (L := L) (i := ix1) hx hb hX hbl hbA hS (vp_in_iff.mpr ⟨by omega, by omega⟩) dL_law_378 ?_
  refine ax_ti vix1 evix1.symm ?_
  have hFc := lg_free hDm hS hA
  obtain ⟨fs379, hfs379⟩ := im_recv hIM
  refine va_calli (va_runV (As := [.int vix1]) (rest := []) ⟨hx, hb, hml, hown, hts⟩ (k_X8_gallery l dC dI H.size mo tp vm vn wm tm hIM sd vix1) (cwV 1 hts gd_X8_gallery rfl rfl rfl (by decide +kernel) ⟨Nat.le_of_ble_eq_true rfl, Nat.le_of_ble_eq_true rfl⟩) ⟨ax_blind (fun _ _ _ _ hq => sxc_T_same _ _ _ _ (hq)), va_recv hKm hPm (ci := 8) (q0 := 0) rfl hfs379, ax_preE hPm hKm hDm (fun U hU hW => sxc_T_to hE.1 hS.2.1 hFc hU hW)⟩ rfl rfl hl.1 rfl (lv_room (Nat.le_of_ble_eq_true rfl)) dL_law_379 ⟨hcc, hss⟩) hS (fun q _ h => hFc q h) hFc (fun r379 u t H1 locs ht hvm hw379 hB hz1 hk1 hS => ?_)
  obtain ⟨wmn, tmn, ⟨tpm, vm1, vn1, htpm, km2, hgm, kgm1, kgm2, hI1⟩, hP1, hK1, hD1⟩ := hB
  rw [ht] at hP1
  have hK1 := va_K.moved hvm.symm hK1
  obtain ⟨hPx, jmx⟩ := lg_step hPx (dj_symm jxm) hk1 hD1
  have jxm := dj_symm jmx
  obtain ⟨hPo, jmo⟩ := lg_step hPo jmo hk1 hD1
  have hD1 := hD1.weaken (fun _ _ _ h9 => hFc _ h9)
  clear hPm hDm hKm hFc hk1 hz1 hfs379
  have hIM := hI1; have hPm := hP1; have hDm := hD1; have hKm := hK1; clear hI1 hP1 hD1 hK1
  clear ht; generalize H1 = H at hPx hPm hPo hS ⊢
  refine lv_pop hx hb dL_law_382 rfl ?_
  refine lv_goto (tgt := 1941) hx hb dL_law_383 (by decide) ?_
  have hWn := l5_gal hR htpb.1 htpb.2 _ hgx hgm
  have htp : tpx = tpm := by
    refine Int32.toInt_inj.mp ?_
    by_cases h9 : (0 : Int) ≤ vix1.toInt ∧ vix1.toInt ≤ tp.toInt
    · rw [htpx.1 h9, htpm.1 h9]
    · rw [htpx.2 (by omega), htpm.2 (by omega)]
  have hRq := lr_gal hR htpb.1 htpb.2 _ hgx hgm
  subst htp
  have hRt : rp_T (fl_A (vf1 0)) (fl_A (vn1 0)) tpx.toInt := by
    rw [kx2, km2]
    by_cases h9 : (0 : Int) ≤ vix1.toInt ∧ vix1.toInt ≤ tp.toInt
    · rw [htpx.1 h9]; intro i9 h8; omega
    · rw [htpx.2 (by omega)]; exact hR.1
  have hRn : lr_R tpx vi1 vf1 vm1 vn1 := ⟨hRt, hRq⟩
  have hRn := And.intro hRn hWn
  exact kk _ _ _ _ _ (Nat.le_add_right _ _) (Nat.le_add_right _ _) ⟨tpx, _, _, _, _, _, _, _, _, _, hIX, hIM, hRn, hKx, hKm, hPx, hPm, hPo, hDx, hDm, hDo, jxm, jxo, jmo⟩ hS (lv_sub hl [0, 1, 2, 3, 4] rfl)

set_option maxHeartbeats 4000000 in
set_option maxRecDepth 100000 in
theorem lc_2 {p : Program} {l : Launch} {e : Env} {s : State} {m : MethodId} {below : List Frame} {meth : Method} {c : Code} {b L : Nat} {xs : Nat → Int32} {A : Nat → Prop} {dC : Nat → ClassId} {dI : Nat → Nat → Nat} (hl0 : l.stackTraces = false) (hL : L ≤ 3072) (hA : ∀ q, s.heap.size ≤ q → A q) (hA2 : ∀ q, A q → s.heap.size ≤ q) (C0 : lw_At p s m meth c b L xs) (sd : Nat → Nat) (sa : Nat) (hE : lg_E A sd sa s) (x mo oa : Nat) (ko : ClassId) (hKo : va_K (dC, dI) vwCl [(ko, .long)] s) (i : Int32) (hi0 : (0 : Int) ≤ i.toInt) (hi6 : i.toInt + 6 ≤ (L : Int)) {H : Heap} {locs : List Loc} {cells slots : Nat} (hc9 : cells + 1 ≤ 601024) (hs9 : slots + 6 ≤ 7293034) (hG : lg_S dC dI A s x mo oa ko H) (hS : va_S A s.heap H locs) {ls : Array Slot} (hl : lv_has ls 7 [(4, .int i), (3, .ref oa), (2, .ref mo), (1, .ref x), (0, .ref b)])
    (kk : ∀ (H : Heap) (locs : List Loc) (ls : Array Slot) (k9 n9 : Nat), k9 ≤ cells + 1 → n9 ≤ slots + 6 → lg_S dC dI A s x mo oa ko H → va_S A s.heap H locs → lv_has ls 7 [(4, .int i), (3, .ref oa), (2, .ref mo), (1, .ref x), (0, .ref b)] → W p l e room_1 s m #[Value.ref b] below meth c H locs k9 n9 (lw_Z below #[Value.ref b] s) (F0 m 1941 ls [])) : W p l e room_1 s m #[Value.ref b] below meth c H locs cells slots (lw_Z below #[Value.ref b] s) (F0 m 386 ls []) := by
  obtain ⟨hx, hb, hr, hml, hown0, htl, hX, hbl, hlocks, hgv⟩ := id C0
  have hown : s.vm.findClass RL = some m.cls := hown0
  have hts : ∀ w ∈ wlT, w.before #[Value.ref b] s = true := fun w h => htl w (wlT_in w h)
  have hbA : ¬ A b := fun h => absurd (hA2 b h) (Nat.not_le.mpr hbl)
  obtain ⟨tp, wx, wm, tx, tm, fo, vi, vf, vm, vn, hIX, hIM, ⟨hR, hW⟩, hKx, hKm, hPx, hPm, hPo, hDx, hDm, hDo, jxm, jxo, jmo⟩ := hG
  have hiM : i.toInt ≤ (3066 : Int) := by omega
  have hcc : cells ≤ 601024 := by omega
  have hss : slots ≤ 7293034 := by omega
  have htpb := ix_tp hIX
  refine lv_aload_n hx hb dL_law_386 rfl (lv_at hl 3 rfl) ?_
  have hFc := lg_free hDx hS hA
  obtain ⟨fs387, hfs387⟩ := ix_recv hIX
  refine va_calli (va_runV (As := []) (rest := []) ⟨hx, hb, hml, hown, hts⟩ (k_X7_fault l dC dI H.size x tp vi vf wx tx hIX ) (cwV 0 hts gd_X7_fault rfl rfl rfl (by decide +kernel) ⟨Nat.le_of_ble_eq_true rfl, Nat.le_of_ble_eq_true rfl⟩) ⟨ax_blind (fun _ _ _ _ _ => trivial), va_recv hKx hPx (ci := 7) (q0 := 0) rfl hfs387, ax_preE hPx hKx hDx (fun _ _ _ => trivial)⟩ rfl rfl hl.1 rfl (lv_room (Nat.le_of_ble_eq_true rfl)) dL_law_387 ⟨hcc, hss⟩) hS (fun q _ h => hFc q h) hFc (fun r387 u t H1 locs ht hvm hw387 hB hz1 hk1 hS => ?_)
  obtain ⟨wxn, txn, ⟨vi1, vf1, kx1, kx2, hI1⟩, hP1, hK1, hD1⟩ := hB
  rw [ht] at hP1
  have hK1 := va_K.moved hvm.symm hK1
  obtain ⟨hPm, jxm⟩ := lg_step hPm jxm hk1 hD1
  obtain ⟨hPo, jxo⟩ := lg_step hPo jxo hk1 hD1
  have hD1 := hD1.weaken (fun _ _ _ h9 => hFc _ h9)
  clear hPx hDx hKx hFc hk1 hz1 hfs387
  have hIX := hI1; have hPx := hP1; have hDx := hD1; have hKx := hK1; clear hI1 hP1 hD1 hK1
  clear ht; generalize H1 = H at hPx hPm hPo hS ⊢
  refine lv_pop hx hb dL_law_390 rfl ?_
  refine lv_aload_n hx hb dL_law_391 rfl (lv_at hl 2 rfl) ?_
  have hFc := lg_free hDm hS hA
  obtain ⟨fs392, hfs392⟩ := im_recv hIM
  refine va_calli (va_runV (As := []) (rest := []) ⟨hx, hb, hml, hown, hts⟩ (k_X8_fault l dC dI H.size mo tp vm vn wm tm hIM ) (cwV 0 hts gd_X8_fault rfl rfl rfl (by decide +kernel) ⟨Nat.le_of_ble_eq_true rfl, Nat.le_of_ble_eq_true rfl⟩) ⟨ax_blind (fun _ _ _ _ _ => trivial), va_recv hKm hPm (ci := 8) (q0 := 0) rfl hfs392, ax_preE hPm hKm hDm (fun _ _ _ => trivial)⟩ rfl rfl hl.1 rfl (lv_room (Nat.le_of_ble_eq_true rfl)) dL_law_392 ⟨hcc, hss⟩) hS (fun q _ h => hFc q h) hFc (fun r392 u t H1 locs ht hvm hw392 hB hz1 hk1 hS => ?_)
  obtain ⟨wmn, tmn, ⟨vm1, vn1, km1, km2, hI1⟩, hP1, hK1, hD1⟩ := hB
  rw [ht] at hP1
  have hK1 := va_K.moved hvm.symm hK1
  obtain ⟨hPx, jmx⟩ := lg_step hPx (dj_symm jxm) hk1 hD1
  have jxm := dj_symm jmx
  obtain ⟨hPo, jmo⟩ := lg_step hPo jmo hk1 hD1
  have hD1 := hD1.weaken (fun _ _ _ h9 => hFc _ h9)
  clear hPm hDm hKm hFc hk1 hz1 hfs392
  have hIM := hI1; have hPm := hP1; have hDm := hD1; have hKm := hK1; clear hI1 hP1 hD1 hK1
  clear ht; generalize H1 = H at hPx hPm hPo hS ⊢
  refine lv_pop hx hb dL_law_395 rfl ?_
  refine lv_goto (tgt := 1941) hx hb dL_law_396 (by decide) ?_
  have hWn : lr_5 vi1 vm1 := l5_keep (kx1 0 (by decide)) (kx1 2 (by decide)) (km1 9 (by decide)) (km1 8 (by decide)) hW
  have hRn : lr_R tp vi1 vf1 vm1 vn1 := ⟨by rw [kx2 0 (by decide), km2 0 (by decide)]; exact hR.1, lr_keep (fun k9 h9 => kx1 k9 (kp_dis (by decide) h9)) (fun k9 h9 => kx2 k9 (kp_dis (by decide) h9)) (fun k9 h9 => km1 k9 (kp_dis (by decide) h9)) (fun k9 h9 => km2 k9 (kp_dis (by decide) h9)) hR.2⟩
  have hRn := And.intro hRn hWn
  exact kk _ _ _ _ _ (Nat.le_add_right _ _) (Nat.le_add_right _ _) ⟨tp, _, _, _, _, _, _, _, _, _, hIX, hIM, hRn, hKx, hKm, hPx, hPm, hPo, hDx, hDm, hDo, jxm, jxo, jmo⟩ hS (lv_sub hl [0, 1, 2, 3, 4] rfl)

set_option maxHeartbeats 4000000 in
set_option maxRecDepth 100000 in
theorem lc_3 {p : Program} {l : Launch} {e : Env} {s : State} {m : MethodId} {below : List Frame} {meth : Method} {c : Code} {b L : Nat} {xs : Nat → Int32} {A : Nat → Prop} {dC : Nat → ClassId} {dI : Nat → Nat → Nat} (hl0 : l.stackTraces = false) (hL : L ≤ 3072) (hA : ∀ q, s.heap.size ≤ q → A q) (hA2 : ∀ q, A q → s.heap.size ≤ q) (C0 : lw_At p s m meth c b L xs) (sd : Nat → Nat) (sa : Nat) (hE : lg_E A sd sa s) (x mo oa : Nat) (ko : ClassId) (hKo : va_K (dC, dI) vwCl [(ko, .long)] s) (i : Int32) (hi0 : (0 : Int) ≤ i.toInt) (hi6 : i.toInt + 6 ≤ (L : Int)) {H : Heap} {locs : List Loc} {cells slots : Nat} (hc9 : cells + 1 ≤ 601024) (hs9 : slots + 6 ≤ 7293034) (hG : lg_S dC dI A s x mo oa ko H) (hS : va_S A s.heap H locs) {ls : Array Slot} (hl : lv_has ls 7 [(4, .int i), (3, .ref oa), (2, .ref mo), (1, .ref x), (0, .ref b)])
    (kk : ∀ (H : Heap) (locs : List Loc) (ls : Array Slot) (k9 n9 : Nat), k9 ≤ cells + 1 → n9 ≤ slots + 6 → lg_S dC dI A s x mo oa ko H → va_S A s.heap H locs → lv_has ls 7 [(4, .int i), (3, .ref oa), (2, .ref mo), (1, .ref x), (0, .ref b)] → W p l e room_1 s m #[Value.ref b] below meth c H locs k9 n9 (lw_Z below #[Value.ref b] s) (F0 m 1941 ls [])) : W p l e room_1 s m #[Value.ref b] below meth c H locs cells slots (lw_Z below #[Value.ref b] s) (F0 m 399 ls []) := by
  obtain ⟨hx, hb, hr, hml, hown0, htl, hX, hbl, hlocks, hgv⟩ := id C0
  have hown : s.vm.findClass RL = some m.cls := hown0
  have hts : ∀ w ∈ wlT, w.before #[Value.ref b] s = true := fun w h => htl w (wlT_in w h)
  have hbA : ¬ A b := fun h => absurd (hA2 b h) (Nat.not_le.mpr hbl)
  obtain ⟨tp, wx, wm, tx, tm, fo, vi, vf, vm, vn, hIX, hIM, ⟨hR, hW⟩, hKx, hKm, hPx, hPm, hPo, hDx, hDm, hDo, jxm, jxo, jmo⟩ := hG
  have hiM : i.toInt ≤ (3066 : Int) := by omega
  have hcc : cells ≤ 601024 := by omega
  have hss : slots ≤ 7293034 := by omega
  have htpb := ix_tp hIX
  refine lv_aload_n hx hb dL_law_399 rfl (lv_at hl 3 rfl) ?_
  have hFc := lg_free hDx hS hA
  obtain ⟨fs400, hfs400⟩ := ix_recv hIX
  refine va_calli (va_runV (As := []) (rest := []) ⟨hx, hb, hml, hown, hts⟩ (k_X7_where l dC dI H.size x tp vi vf wx tx hIX ) (cwV 0 hts gd_X7_where rfl rfl rfl (by decide +kernel) ⟨Nat.le_of_ble_eq_true rfl, Nat.le_of_ble_eq_true rfl⟩) ⟨ax_blind (fun _ _ _ _ _ => trivial), va_recv hKx hPx (ci := 7) (q0 := 0) rfl hfs400, ax_preE hPx hKx hDx (fun _ _ _ => trivial)⟩ rfl rfl hl.1 rfl (lv_room (Nat.le_of_ble_eq_true rfl)) dL_law_400 ⟨hcc, hss⟩) hS (fun q _ h => hFc q h) hFc (fun r400 u t H1 locs ht hvm hw400 hB hz1 hk1 hS => ?_)
  obtain ⟨wxn, txn, ⟨vi1, vf1, kx1, kx2, hI1⟩, hP1, hK1, hD1⟩ := hB
  rw [ht] at hP1
  have hK1 := va_K.moved hvm.symm hK1
  obtain ⟨hPm, jxm⟩ := lg_step hPm jxm hk1 hD1
  obtain ⟨hPo, jxo⟩ := lg_step hPo jxo hk1 hD1
  have hD1 := hD1.weaken (fun _ _ _ h9 => hFc _ h9)
  clear hPx hDx hKx hFc hk1 hz1 hfs400
  have hIX := hI1; have hPx := hP1; have hDx := hD1; have hKx := hK1; clear hI1 hP1 hD1 hK1
  clear ht; generalize H1 = H at hPx hPm hPo hS ⊢
  refine lv_aload_n hx hb dL_law_403 rfl (lv_at hl 2 rfl) ?_
  have hFc := lg_free hDm hS hA
  obtain ⟨fs404, hfs404⟩ := im_recv hIM
  refine va_calli (va_runV (As := []) (rest := [.int r400]) ⟨hx, hb, hml, hown, hts⟩ (k_X8_where l dC dI H.size mo tp vm vn wm tm hIM ) (cwV 0 hts gd_X8_where rfl rfl rfl (by decide +kernel) ⟨Nat.le_of_ble_eq_true rfl, Nat.le_of_ble_eq_true rfl⟩) ⟨ax_blind (fun _ _ _ _ _ => trivial), va_recv hKm hPm (ci := 8) (q0 := 0) rfl hfs404, ax_preE hPm hKm hDm (fun _ _ _ => trivial)⟩ rfl rfl hl.1 rfl (lv_room (Nat.le_of_ble_eq_true rfl)) dL_law_404 ⟨hcc, hss⟩) hS (fun q _ h => hFc q h) hFc (fun r404 u t H1 locs ht hvm hw404 hB hz1 hk1 hS => ?_)
  obtain ⟨wmn, tmn, ⟨vm1, vn1, km1, km2, hI1⟩, hP1, hK1, hD1⟩ := hB
  rw [ht] at hP1
  have hK1 := va_K.moved hvm.symm hK1
  obtain ⟨hPx, jmx⟩ := lg_step hPx (dj_symm jxm) hk1 hD1
  have jxm := dj_symm jmx
  obtain ⟨hPo, jmo⟩ := lg_step hPo jmo hk1 hD1
  have hD1 := hD1.weaken (fun _ _ _ h9 => hFc _ h9)
  clear hPm hDm hKm hFc hk1 hz1 hfs404
  have hIM := hI1; have hPm := hP1; have hDm := hD1; have hKm := hK1; clear hI1 hP1 hD1 hK1
  clear ht; generalize H1 = H at hPx hPm hPo hS ⊢
  have hra : r400 = r404 := Int32.toInt_inj.mp (hw400.trans ((lr_where hW).trans hw404.symm))
  refine lv_icmp_eq (tgt := 1941) hx hb dL_law_407 (by decide) (fun _ => ?_) (fun c9 => absurd hra c9)
  have hWn : lr_5 vi1 vm1 := l5_keep (kx1 0 (by decide)) (kx1 2 (by decide)) (km1 9 (by decide)) (km1 8 (by decide)) hW
  have hRn : lr_R tp vi1 vf1 vm1 vn1 := ⟨by rw [kx2 0 (by decide), km2 0 (by decide)]; exact hR.1, lr_keep (fun k9 h9 => kx1 k9 (kp_dis (by decide) h9)) (fun k9 h9 => kx2 k9 (kp_dis (by decide) h9)) (fun k9 h9 => km1 k9 (kp_dis (by decide) h9)) (fun k9 h9 => km2 k9 (kp_dis (by decide) h9)) hR.2⟩
  have hRn := And.intro hRn hWn
  exact kk _ _ _ _ _ (Nat.le_add_right _ _) (Nat.le_add_right _ _) ⟨tp, _, _, _, _, _, _, _, _, _, hIX, hIM, hRn, hKx, hKm, hPx, hPm, hPo, hDx, hDm, hDo, jxm, jxo, jmo⟩ hS (lv_sub hl [0, 1, 2, 3, 4] rfl)

set_option maxHeartbeats 4000000 in
set_option maxRecDepth 100000 in
theorem lc_4 {p : Program} {l : Launch} {e : Env} {s : State} {m : MethodId} {below : List Frame} {meth : Method} {c : Code} {b L : Nat} {xs : Nat → Int32} {A : Nat → Prop} {dC : Nat → ClassId} {dI : Nat → Nat → Nat} (hl0 : l.stackTraces = false) (hL : L ≤ 3072) (hA : ∀ q, s.heap.size ≤ q → A q) (hA2 : ∀ q, A q → s.heap.size ≤ q) (C0 : lw_At p s m meth c b L xs) (sd : Nat → Nat) (sa : Nat) (hE : lg_E A sd sa s) (x mo oa : Nat) (ko : ClassId) (hKo : va_K (dC, dI) vwCl [(ko, .long)] s) (i : Int32) (hi0 : (0 : Int) ≤ i.toInt) (hi6 : i.toInt + 6 ≤ (L : Int)) {H : Heap} {locs : List Loc} {cells slots : Nat} (hc9 : cells + 1 ≤ 601024) (hs9 : slots + 6 ≤ 7293034) (hG : lg_S dC dI A s x mo oa ko H) (hS : va_S A s.heap H locs) {ls : Array Slot} (hl : lv_has ls 7 [(4, .int i), (3, .ref oa), (2, .ref mo), (1, .ref x), (0, .ref b)])
    (kk : ∀ (H : Heap) (locs : List Loc) (ls : Array Slot) (k9 n9 : Nat), k9 ≤ cells + 1 → n9 ≤ slots + 6 → lg_S dC dI A s x mo oa ko H → va_S A s.heap H locs → lv_has ls 7 [(4, .int i), (3, .ref oa), (2, .ref mo), (1, .ref x), (0, .ref b)] → W p l e room_1 s m #[Value.ref b] below meth c H locs k9 n9 (lw_Z below #[Value.ref b] s) (F0 m 1941 ls [])) : W p l e room_1 s m #[Value.ref b] below meth c H locs cells slots (lw_Z below #[Value.ref b] s) (F0 m 412 ls []) := by
  obtain ⟨hx, hb, hr, hml, hown0, htl, hX, hbl, hlocks, hgv⟩ := id C0
  have hown : s.vm.findClass RL = some m.cls := hown0
  have hts : ∀ w ∈ wlT, w.before #[Value.ref b] s = true := fun w h => htl w (wlT_in w h)
  have hbA : ¬ A b := fun h => absurd (hA2 b h) (Nat.not_le.mpr hbl)
  obtain ⟨tp, wx, wm, tx, tm, fo, vi, vf, vm, vn, hIX, hIM, ⟨hR, hW⟩, hKx, hKm, hPx, hPm, hPo, hDx, hDm, hDo, jxm, jxo, jmo⟩ := hG
  have hiM : i.toInt ≤ (3066 : Int) := by omega
  have hcc : cells ≤ 601024 := by omega
  have hss : slots ≤ 7293034 := by omega
  have htpb := ix_tp hIX
  refine lv_aload_n hx hb dL_law_412 rfl (lv_at hl 3 rfl) ?_
  refine lv_aload_n hx hb dL_law_413 rfl (lv_at hl 4 rfl) ?_
  refine lv_iload hx hb dL_law_414 (lv_at hl 0 rfl) ?_
  refine lv_iconst (v := 1) hx hb dL_law_416 zk_iconst_1 ?_
  refine lv_iadd hx hb dL_law_417 ?_
  refine lv_topi (fun ix1 eix1 => ?_)
  have qix1 : ix1.toInt = i.toInt + 1 := ai_add eix1 ⟨hi0, hiM⟩ ⟨zq1, zq0⟩ (by decide) (by decide)
  refine va_sld (L := L) (i := ix1) hx hb hX hbl hbA hS (vp_in_iff.mpr ⟨by omega, by omega⟩) dL_law_418 ?_
  refine lv_topi (fun vix1 evix1 => ?_)
  refine lv_aload_n hx hb dL_law_419 rfl (lv_at hl 4 rfl) ?_
  refine lv_iload hx hb dL_law_420 (lv_at hl 0 rfl) ?_
  refine lv_iconst (v := 2) hx hb dL_law_422 zk_iconst_2 ?_
  refine lv_iadd hx hb dL_law_423 ?_
  refine lv_topi (fun ix2 eix2 => ?_)
  have qix2 : ix2.toInt = i.toInt + 2 := ai_add eix2 ⟨hi0, hiM⟩ ⟨zq12, zq13⟩ (by decide) (by decide)
  refine va_sld (L := L) (i := ix2) hx hb hX hbl hbA hS (vp_in_iff.mpr ⟨by omega, by omega⟩) dL_law_424 ?_
  refine lv_topi (fun vix2 evix2 => ?_)
  have hFc := lg_free hDx hS hA
  obtain ⟨fs425, hfs425⟩ := ix_recv hIX
  refine va_calli (va_runV (As := [.int vix1, .int vix2]) (rest := []) ⟨hx, hb, hml, hown, hts⟩ (k_X7_figure l dC dI H.size x tp vi vf wx tx hIX vix1 vix2) (cwV 2 hts gd_X7_figure rfl rfl rfl (by decide +kernel) ⟨Nat.le_of_ble_eq_true rfl, Nat.le_of_ble_eq_true rfl⟩) ⟨ax_blind (fun _ _ _ _ hq => va_Nw.same rfl rfl (hq)), va_recv hKx hPx (ci := 7) (q0 := 0) rfl hfs425, ax_preE hPx hKx hDx (fun U hU hW => va_Nw.warmM hW (hE.2.2.1))⟩ rfl rfl hl.1 rfl (lv_room (Nat.le_of_ble_eq_true rfl)) dL_law_425 ⟨hcc, hss⟩) hS (fun q _ h => hFc q h) hFc (fun r425 u t H1 locs ht hvm hw425 hB hz1 hk1 hS => ?_)
  obtain ⟨wxn, txn, ⟨vi1, vf1, kx1, kx2, q4x, hI1⟩, hP1, hK1, hD1⟩ := hB
  rw [ht] at hP1
  have hK1 := va_K.moved hvm.symm hK1
  obtain ⟨hPm, jxm⟩ := lg_step hPm jxm hk1 hD1
  obtain ⟨hPo, jxo⟩ := lg_step hPo jxo hk1 hD1
  have hD1 := hD1.weaken (fun _ _ _ h9 => hFc _ h9)
  clear hPx hDx hKx hFc hk1 hz1 hfs425
  have hIX := hI1; have hPx := hP1; have hDx := hD1; have hKx := hK1; clear hI1 hP1 hD1 hK1
  clear ht; generalize H1 = H at hPx hPm hPo hS ⊢
  refine lv_pop hx hb dL_law_428 rfl ?_
  refine lv_aload_n hx hb dL_law_429 rfl (lv_at hl 2 rfl) ?_
  refine lv_aload_n hx hb dL_law_430 rfl (lv_at hl 4 rfl) ?_
  refine lv_iload hx hb dL_law_431 (lv_at hl 0 rfl) ?_
  refine lv_iconst (v := 1) hx hb dL_law_433 zk_iconst_1 ?_
  refine lv_iadd hx hb dL_law_434 ?_
  refine ax_ti ix1 eix1.symm ?_
  refine va_sld (L := L) (i := ix1) hx hb hX hbl hbA hS (vp_in_iff.mpr ⟨by omega, by omega⟩) dL_law_435 ?_
  refine ax_ti vix1 evix1.symm ?_
  refine lv_aload_n hx hb dL_law_436 rfl (lv_at hl 4 rfl) ?_
  refine lv_iload hx hb dL_law_437 (lv_at hl 0 rfl) ?_
  refine lv_iconst (v := 2) hx hb dL_law_439 zk_iconst_2 ?_
  refine lv_iadd hx hb dL_law_440 ?_
  refine ax_ti ix2 eix2.symm ?_
  refine va_sld (L := L) (i := ix2) hx hb hX hbl hbA hS (vp_in_iff.mpr ⟨by omega, by omega⟩) dL_law_441 ?_
  refine ax_ti vix2 evix2.symm ?_
  have hFc := lg_free hDm hS hA
  obtain ⟨fs442, hfs442⟩ := im_recv hIM
  refine va_calli (va_runV (As := [.int vix1, .int vix2]) (rest := []) ⟨hx, hb, hml, hown, hts⟩ (k_X8_figure l dC dI H.size mo tp vm vn wm tm hIM vix1 vix2) (cwV 2 hts gd_X8_figure rfl rfl rfl (by decide +kernel) ⟨Nat.le_of_ble_eq_true rfl, Nat.le_of_ble_eq_true rfl⟩) ⟨ax_blind (fun _ _ _ _ _ => trivial), va_recv hKm hPm (ci := 8) (q0 := 0) rfl hfs442, ax_preE hPm hKm hDm (fun _ _ _ => trivial)⟩ rfl rfl hl.1 rfl (lv_room (Nat.le_of_ble_eq_true rfl)) dL_law_442 ⟨hcc, hss⟩) hS (fun q _ h => hFc q h) hFc (fun r442 u t H1 locs ht hvm hw442 hB hz1 hk1 hS => ?_)
  obtain ⟨wmn, tmn, ⟨vm1, vn1, km1, km2, q4m, hI1⟩, hP1, hK1, hD1⟩ := hB
  rw [ht] at hP1
  have hK1 := va_K.moved hvm.symm hK1
  obtain ⟨hPx, jmx⟩ := lg_step hPx (dj_symm jxm) hk1 hD1
  have jxm := dj_symm jmx
  obtain ⟨hPo, jmo⟩ := lg_step hPo jmo hk1 hD1
  have hD1 := hD1.weaken (fun _ _ _ h9 => hFc _ h9)
  clear hPm hDm hKm hFc hk1 hz1 hfs442
  have hIM := hI1; have hPm := hP1; have hDm := hD1; have hKm := hK1; clear hI1 hP1 hD1 hK1
  clear ht; generalize H1 = H at hPx hPm hPo hS ⊢
  refine lv_pop hx hb dL_law_445 rfl ?_
  refine lv_goto (tgt := 1941) hx hb dL_law_446 (by decide) ?_
  have hWn : lr_5 vi1 vm1 := l5_no q4x q4m
  have hRn : lr_R tp vi1 vf1 vm1 vn1 := ⟨by rw [kx2 0 (by decide), km2 0 (by decide)]; exact hR.1, lr_keep (fun k9 h9 => kx1 k9 (kp_dis (by decide) h9)) (fun k9 h9 => kx2 k9 (kp_dis (by decide) h9)) (fun k9 h9 => km1 k9 (kp_dis (by decide) h9)) (fun k9 h9 => km2 k9 (kp_dis (by decide) h9)) hR.2⟩
  have hRn := And.intro hRn hWn
  exact kk _ _ _ _ _ (Nat.le_add_right _ _) (Nat.le_add_right _ _) ⟨tp, _, _, _, _, _, _, _, _, _, hIX, hIM, hRn, hKx, hKm, hPx, hPm, hPo, hDx, hDm, hDo, jxm, jxo, jmo⟩ hS (lv_sub hl [0, 1, 2, 3, 4] rfl)

set_option maxHeartbeats 4000000 in
set_option maxRecDepth 100000 in
theorem lc_5 {p : Program} {l : Launch} {e : Env} {s : State} {m : MethodId} {below : List Frame} {meth : Method} {c : Code} {b L : Nat} {xs : Nat → Int32} {A : Nat → Prop} {dC : Nat → ClassId} {dI : Nat → Nat → Nat} (hl0 : l.stackTraces = false) (hL : L ≤ 3072) (hA : ∀ q, s.heap.size ≤ q → A q) (hA2 : ∀ q, A q → s.heap.size ≤ q) (C0 : lw_At p s m meth c b L xs) (sd : Nat → Nat) (sa : Nat) (hE : lg_E A sd sa s) (x mo oa : Nat) (ko : ClassId) (hKo : va_K (dC, dI) vwCl [(ko, .long)] s) (i : Int32) (hi0 : (0 : Int) ≤ i.toInt) (hi6 : i.toInt + 6 ≤ (L : Int)) {H : Heap} {locs : List Loc} {cells slots : Nat} (hc9 : cells + 1 ≤ 601024) (hs9 : slots + 6 ≤ 7293034) (hG : lg_S dC dI A s x mo oa ko H) (hS : va_S A s.heap H locs) {ls : Array Slot} (hl : lv_has ls 7 [(4, .int i), (3, .ref oa), (2, .ref mo), (1, .ref x), (0, .ref b)])
    (kk : ∀ (H : Heap) (locs : List Loc) (ls : Array Slot) (k9 n9 : Nat), k9 ≤ cells + 1 → n9 ≤ slots + 6 → lg_S dC dI A s x mo oa ko H → va_S A s.heap H locs → lv_has ls 7 [(4, .int i), (3, .ref oa), (2, .ref mo), (1, .ref x), (0, .ref b)] → W p l e room_1 s m #[Value.ref b] below meth c H locs k9 n9 (lw_Z below #[Value.ref b] s) (F0 m 1941 ls [])) : W p l e room_1 s m #[Value.ref b] below meth c H locs cells slots (lw_Z below #[Value.ref b] s) (F0 m 449 ls []) := by
  obtain ⟨hx, hb, hr, hml, hown0, htl, hX, hbl, hlocks, hgv⟩ := id C0
  have hown : s.vm.findClass RL = some m.cls := hown0
  have hts : ∀ w ∈ wlT, w.before #[Value.ref b] s = true := fun w h => htl w (wlT_in w h)
  have hbA : ¬ A b := fun h => absurd (hA2 b h) (Nat.not_le.mpr hbl)
  obtain ⟨tp, wx, wm, tx, tm, fo, vi, vf, vm, vn, hIX, hIM, ⟨hR, hW⟩, hKx, hKm, hPx, hPm, hPo, hDx, hDm, hDo, jxm, jxo, jmo⟩ := hG
  have hiM : i.toInt ≤ (3066 : Int) := by omega
  have hcc : cells ≤ 601024 := by omega
  have hss : slots ≤ 7293034 := by omega
  have htpb := ix_tp hIX
  refine lv_aload_n hx hb dL_law_449 rfl (lv_at hl 3 rfl) ?_
  refine lv_aload_n hx hb dL_law_450 rfl (lv_at hl 4 rfl) ?_
  refine lv_iload hx hb dL_law_451 (lv_at hl 0 rfl) ?_
  refine lv_iconst (v := 1) hx hb dL_law_453 zk_iconst_1 ?_
  refine lv_iadd hx hb dL_law_454 ?_
  refine lv_topi (fun ix1 eix1 => ?_)
  have qix1 : ix1.toInt = i.toInt + 1 := ai_add eix1 ⟨hi0, hiM⟩ ⟨zq1, zq0⟩ (by decide) (by decide)
  refine va_sld (L := L) (i := ix1) hx hb hX hbl hbA hS (vp_in_iff.mpr ⟨by omega, by omega⟩) dL_law_455 ?_
  refine lv_topi (fun vix1 evix1 => ?_)
  refine lv_aload_n hx hb dL_law_456 rfl (lv_at hl 4 rfl) ?_
  refine lv_iload hx hb dL_law_457 (lv_at hl 0 rfl) ?_
  refine lv_iconst (v := 2) hx hb dL_law_459 zk_iconst_2 ?_
  refine lv_iadd hx hb dL_law_460 ?_
  refine lv_topi (fun ix2 eix2 => ?_)
  have qix2 : ix2.toInt = i.toInt + 2 := ai_add eix2 ⟨hi0, hiM⟩ ⟨zq12, zq13⟩ (by decide) (by decide)
  refine va_sld (L := L) (i := ix2) hx hb hX hbl hbA hS (vp_in_iff.mpr ⟨by omega, by omega⟩) dL_law_461 ?_
  refine lv_topi (fun vix2 evix2 => ?_)
  have hFc := lg_free hDx hS hA
  obtain ⟨fs462, hfs462⟩ := ix_recv hIX
  refine va_calli (va_runV (As := [.int vix1, .int vix2]) (rest := []) ⟨hx, hb, hml, hown, hts⟩ (k_X7_watcher l dC dI H.size x tp vi vf wx tx hIX vix1 vix2) (cwV 2 hts gd_X7_watcher rfl rfl rfl (by decide +kernel) ⟨Nat.le_of_ble_eq_true rfl, Nat.le_of_ble_eq_true rfl⟩) ⟨ax_blind (fun _ _ _ _ _ => trivial), va_recv hKx hPx (ci := 7) (q0 := 0) rfl hfs462, ax_preE hPx hKx hDx (fun _ _ _ => trivial)⟩ rfl rfl hl.1 rfl (lv_room (Nat.le_of_ble_eq_true rfl)) dL_law_462 ⟨hcc, hss⟩) hS (fun q _ h => hFc q h) hFc (fun r462 u t H1 locs ht hvm hw462 hB hz1 hk1 hS => ?_)
  obtain ⟨wxn, txn, ⟨vi1, vf1, kx1, kx2, q4x, hI1⟩, hP1, hK1, hD1⟩ := hB
  rw [ht] at hP1
  have hK1 := va_K.moved hvm.symm hK1
  obtain ⟨hPm, jxm⟩ := lg_step hPm jxm hk1 hD1
  obtain ⟨hPo, jxo⟩ := lg_step hPo jxo hk1 hD1
  have hD1 := hD1.weaken (fun _ _ _ h9 => hFc _ h9)
  clear hPx hDx hKx hFc hk1 hz1 hfs462
  have hIX := hI1; have hPx := hP1; have hDx := hD1; have hKx := hK1; clear hI1 hP1 hD1 hK1
  clear ht; generalize H1 = H at hPx hPm hPo hS ⊢
  refine lv_pop hx hb dL_law_465 rfl ?_
  refine lv_aload_n hx hb dL_law_466 rfl (lv_at hl 2 rfl) ?_
  refine lv_aload_n hx hb dL_law_467 rfl (lv_at hl 4 rfl) ?_
  refine lv_iload hx hb dL_law_468 (lv_at hl 0 rfl) ?_
  refine lv_iconst (v := 1) hx hb dL_law_470 zk_iconst_1 ?_
  refine lv_iadd hx hb dL_law_471 ?_
  refine ax_ti ix1 eix1.symm ?_
  refine va_sld (L := L) (i := ix1) hx hb hX hbl hbA hS (vp_in_iff.mpr ⟨by omega, by omega⟩) dL_law_472 ?_
  refine ax_ti vix1 evix1.symm ?_
  refine lv_aload_n hx hb dL_law_473 rfl (lv_at hl 4 rfl) ?_
  refine lv_iload hx hb dL_law_474 (lv_at hl 0 rfl) ?_
  refine lv_iconst (v := 2) hx hb dL_law_476 zk_iconst_2 ?_
  refine lv_iadd hx hb dL_law_477 ?_
  refine ax_ti ix2 eix2.symm ?_
  refine va_sld (L := L) (i := ix2) hx hb hX hbl hbA hS (vp_in_iff.mpr ⟨by omega, by omega⟩) dL_law_478 ?_
  refine ax_ti vix2 evix2.symm ?_
  have hFc := lg_free hDm hS hA
  obtain ⟨fs479, hfs479⟩ := im_recv hIM
  refine va_calli (va_runV (As := [.int vix1, .int vix2]) (rest := []) ⟨hx, hb, hml, hown, hts⟩ (k_X8_watcher l dC dI H.size mo tp vm vn wm tm hIM vix1 vix2) (cwV 2 hts gd_X8_watcher rfl rfl rfl (by decide +kernel) ⟨Nat.le_of_ble_eq_true rfl, Nat.le_of_ble_eq_true rfl⟩) ⟨ax_blind (fun _ _ _ _ _ => trivial), va_recv hKm hPm (ci := 8) (q0 := 0) rfl hfs479, ax_preE hPm hKm hDm (fun _ _ _ => trivial)⟩ rfl rfl hl.1 rfl (lv_room (Nat.le_of_ble_eq_true rfl)) dL_law_479 ⟨hcc, hss⟩) hS (fun q _ h => hFc q h) hFc (fun r479 u t H1 locs ht hvm hw479 hB hz1 hk1 hS => ?_)
  obtain ⟨wmn, tmn, ⟨vm1, vn1, km1, km2, q4m, hI1⟩, hP1, hK1, hD1⟩ := hB
  rw [ht] at hP1
  have hK1 := va_K.moved hvm.symm hK1
  obtain ⟨hPx, jmx⟩ := lg_step hPx (dj_symm jxm) hk1 hD1
  have jxm := dj_symm jmx
  obtain ⟨hPo, jmo⟩ := lg_step hPo jmo hk1 hD1
  have hD1 := hD1.weaken (fun _ _ _ h9 => hFc _ h9)
  clear hPm hDm hKm hFc hk1 hz1 hfs479
  have hIM := hI1; have hPm := hP1; have hDm := hD1; have hKm := hK1; clear hI1 hP1 hD1 hK1
  clear ht; generalize H1 = H at hPx hPm hPo hS ⊢
  refine lv_pop hx hb dL_law_482 rfl ?_
  refine lv_goto (tgt := 1941) hx hb dL_law_483 (by decide) ?_
  have hWn : lr_5 vi1 vm1 := l5_no q4x q4m
  have hRn : lr_R tp vi1 vf1 vm1 vn1 := ⟨by rw [kx2 0 (by decide), km2 0 (by decide)]; exact hR.1, lr_keep (fun k9 h9 => kx1 k9 (kp_dis (by decide) h9)) (fun k9 h9 => kx2 k9 (kp_dis (by decide) h9)) (fun k9 h9 => km1 k9 (kp_dis (by decide) h9)) (fun k9 h9 => km2 k9 (kp_dis (by decide) h9)) hR.2⟩
  have hRn := And.intro hRn hWn
  exact kk _ _ _ _ _ (Nat.le_add_right _ _) (Nat.le_add_right _ _) ⟨tp, _, _, _, _, _, _, _, _, _, hIX, hIM, hRn, hKx, hKm, hPx, hPm, hPo, hDx, hDm, hDo, jxm, jxo, jmo⟩ hS (lv_sub hl [0, 1, 2, 3, 4] rfl)

set_option maxHeartbeats 4000000 in
set_option maxRecDepth 100000 in
theorem lc_6 {p : Program} {l : Launch} {e : Env} {s : State} {m : MethodId} {below : List Frame} {meth : Method} {c : Code} {b L : Nat} {xs : Nat → Int32} {A : Nat → Prop} {dC : Nat → ClassId} {dI : Nat → Nat → Nat} (hl0 : l.stackTraces = false) (hL : L ≤ 3072) (hA : ∀ q, s.heap.size ≤ q → A q) (hA2 : ∀ q, A q → s.heap.size ≤ q) (C0 : lw_At p s m meth c b L xs) (sd : Nat → Nat) (sa : Nat) (hE : lg_E A sd sa s) (x mo oa : Nat) (ko : ClassId) (hKo : va_K (dC, dI) vwCl [(ko, .long)] s) (i : Int32) (hi0 : (0 : Int) ≤ i.toInt) (hi6 : i.toInt + 6 ≤ (L : Int)) {H : Heap} {locs : List Loc} {cells slots : Nat} (hc9 : cells + 1 ≤ 601024) (hs9 : slots + 6 ≤ 7293034) (hG : lg_S dC dI A s x mo oa ko H) (hS : va_S A s.heap H locs) {ls : Array Slot} (hl : lv_has ls 7 [(4, .int i), (3, .ref oa), (2, .ref mo), (1, .ref x), (0, .ref b)])
    (kk : ∀ (H : Heap) (locs : List Loc) (ls : Array Slot) (k9 n9 : Nat), k9 ≤ cells + 1 → n9 ≤ slots + 6 → lg_S dC dI A s x mo oa ko H → va_S A s.heap H locs → lv_has ls 7 [(4, .int i), (3, .ref oa), (2, .ref mo), (1, .ref x), (0, .ref b)] → W p l e room_1 s m #[Value.ref b] below meth c H locs k9 n9 (lw_Z below #[Value.ref b] s) (F0 m 1941 ls [])) : W p l e room_1 s m #[Value.ref b] below meth c H locs cells slots (lw_Z below #[Value.ref b] s) (F0 m 486 ls []) := by
  obtain ⟨hx, hb, hr, hml, hown0, htl, hX, hbl, hlocks, hgv⟩ := id C0
  have hown : s.vm.findClass RL = some m.cls := hown0
  have hts : ∀ w ∈ wlT, w.before #[Value.ref b] s = true := fun w h => htl w (wlT_in w h)
  have hbA : ¬ A b := fun h => absurd (hA2 b h) (Nat.not_le.mpr hbl)
  obtain ⟨tp, wx, wm, tx, tm, fo, vi, vf, vm, vn, hIX, hIM, ⟨hR, hW⟩, hKx, hKm, hPx, hPm, hPo, hDx, hDm, hDo, jxm, jxo, jmo⟩ := hG
  have hiM : i.toInt ≤ (3066 : Int) := by omega
  have hcc : cells ≤ 601024 := by omega
  have hss : slots ≤ 7293034 := by omega
  have htpb := ix_tp hIX
  refine lv_aload_n hx hb dL_law_486 rfl (lv_at hl 3 rfl) ?_
  have hFc := lg_free hDx hS hA
  obtain ⟨fs487, hfs487⟩ := ix_recv hIX
  refine va_calli (va_runV (As := []) (rest := []) ⟨hx, hb, hml, hown, hts⟩ (k_X7_alive l dC dI H.size x tp vi vf wx tx hIX ) (cwV 0 hts gd_X7_alive rfl rfl rfl (by decide +kernel) ⟨Nat.le_of_ble_eq_true rfl, Nat.le_of_ble_eq_true rfl⟩) ⟨ax_blind (fun _ _ _ _ _ => trivial), va_recv hKx hPx (ci := 7) (q0 := 0) rfl hfs487, ax_preE hPx hKx hDx (fun _ _ _ => trivial)⟩ rfl rfl hl.1 rfl (lv_room (Nat.le_of_ble_eq_true rfl)) dL_law_487 ⟨hcc, hss⟩) hS (fun q _ h => hFc q h) hFc (fun r487 u t H1 locs ht hvm hw487 hB hz1 hk1 hS => ?_)
  obtain ⟨wxn, txn, ⟨vi1, vf1, kx1, kx2, q4x, hI1⟩, hP1, hK1, hD1⟩ := hB
  rw [ht] at hP1
  have hK1 := va_K.moved hvm.symm hK1
  obtain ⟨hPm, jxm⟩ := lg_step hPm jxm hk1 hD1
  obtain ⟨hPo, jxo⟩ := lg_step hPo jxo hk1 hD1
  have hD1 := hD1.weaken (fun _ _ _ h9 => hFc _ h9)
  clear hPx hDx hKx hFc hk1 hz1 hfs487
  have hIX := hI1; have hPx := hP1; have hDx := hD1; have hKx := hK1; clear hI1 hP1 hD1 hK1
  clear ht; generalize H1 = H at hPx hPm hPo hS ⊢
  refine lv_pop hx hb dL_law_490 rfl ?_
  refine lv_aload_n hx hb dL_law_491 rfl (lv_at hl 2 rfl) ?_
  have hFc := lg_free hDm hS hA
  obtain ⟨fs492, hfs492⟩ := im_recv hIM
  refine va_calli (va_runV (As := []) (rest := []) ⟨hx, hb, hml, hown, hts⟩ (k_X8_alive l dC dI H.size mo tp vm vn wm tm hIM ) (cwV 0 hts gd_X8_alive rfl rfl rfl (by decide +kernel) ⟨Nat.le_of_ble_eq_true rfl, Nat.le_of_ble_eq_true rfl⟩) ⟨ax_blind (fun _ _ _ _ _ => trivial), va_recv hKm hPm (ci := 8) (q0 := 0) rfl hfs492, ax_preE hPm hKm hDm (fun _ _ _ => trivial)⟩ rfl rfl hl.1 rfl (lv_room (Nat.le_of_ble_eq_true rfl)) dL_law_492 ⟨hcc, hss⟩) hS (fun q _ h => hFc q h) hFc (fun r492 u t H1 locs ht hvm hw492 hB hz1 hk1 hS => ?_)
  obtain ⟨wmn, tmn, ⟨vm1, vn1, km1, km2, q4m, hI1⟩, hP1, hK1, hD1⟩ := hB
  rw [ht] at hP1
  have hK1 := va_K.moved hvm.symm hK1
  obtain ⟨hPx, jmx⟩ := lg_step hPx (dj_symm jxm) hk1 hD1
  have jxm := dj_symm jmx
  obtain ⟨hPo, jmo⟩ := lg_step hPo jmo hk1 hD1
  have hD1 := hD1.weaken (fun _ _ _ h9 => hFc _ h9)
  clear hPm hDm hKm hFc hk1 hz1 hfs492
  have hIM := hI1; have hPm := hP1; have hDm := hD1; have hKm := hK1; clear hI1 hP1 hD1 hK1
  clear ht; generalize H1 = H at hPx hPm hPo hS ⊢
  refine lv_pop hx hb dL_law_495 rfl ?_
  refine lv_goto (tgt := 1941) hx hb dL_law_496 (by decide) ?_
  have hWn : lr_5 vi1 vm1 := l5_no q4x q4m
  have hRn : lr_R tp vi1 vf1 vm1 vn1 := ⟨by rw [kx2 0 (by decide), km2 0 (by decide)]; exact hR.1, lr_keep (fun k9 h9 => kx1 k9 (kp_dis (by decide) h9)) (fun k9 h9 => kx2 k9 (kp_dis (by decide) h9)) (fun k9 h9 => km1 k9 (kp_dis (by decide) h9)) (fun k9 h9 => km2 k9 (kp_dis (by decide) h9)) hR.2⟩
  have hRn := And.intro hRn hWn
  exact kk _ _ _ _ _ (Nat.le_add_right _ _) (Nat.le_add_right _ _) ⟨tp, _, _, _, _, _, _, _, _, _, hIX, hIM, hRn, hKx, hKm, hPx, hPm, hPo, hDx, hDm, hDo, jxm, jxo, jmo⟩ hS (lv_sub hl [0, 1, 2, 3, 4] rfl)

set_option maxHeartbeats 4000000 in
set_option maxRecDepth 100000 in
theorem lc_7 {p : Program} {l : Launch} {e : Env} {s : State} {m : MethodId} {below : List Frame} {meth : Method} {c : Code} {b L : Nat} {xs : Nat → Int32} {A : Nat → Prop} {dC : Nat → ClassId} {dI : Nat → Nat → Nat} (hl0 : l.stackTraces = false) (hL : L ≤ 3072) (hA : ∀ q, s.heap.size ≤ q → A q) (hA2 : ∀ q, A q → s.heap.size ≤ q) (C0 : lw_At p s m meth c b L xs) (sd : Nat → Nat) (sa : Nat) (hE : lg_E A sd sa s) (x mo oa : Nat) (ko : ClassId) (hKo : va_K (dC, dI) vwCl [(ko, .long)] s) (i : Int32) (hi0 : (0 : Int) ≤ i.toInt) (hi6 : i.toInt + 6 ≤ (L : Int)) {H : Heap} {locs : List Loc} {cells slots : Nat} (hc9 : cells + 1 ≤ 601024) (hs9 : slots + 6 ≤ 7293034) (hG : lg_S dC dI A s x mo oa ko H) (hS : va_S A s.heap H locs) {ls : Array Slot} (hl : lv_has ls 7 [(4, .int i), (3, .ref oa), (2, .ref mo), (1, .ref x), (0, .ref b)])
    (kk : ∀ (H : Heap) (locs : List Loc) (ls : Array Slot) (k9 n9 : Nat), k9 ≤ cells + 1 → n9 ≤ slots + 6 → lg_S dC dI A s x mo oa ko H → va_S A s.heap H locs → lv_has ls 7 [(4, .int i), (3, .ref oa), (2, .ref mo), (1, .ref x), (0, .ref b)] → W p l e room_1 s m #[Value.ref b] below meth c H locs k9 n9 (lw_Z below #[Value.ref b] s) (F0 m 1941 ls [])) : W p l e room_1 s m #[Value.ref b] below meth c H locs cells slots (lw_Z below #[Value.ref b] s) (F0 m 499 ls []) := by
  obtain ⟨hx, hb, hr, hml, hown0, htl, hX, hbl, hlocks, hgv⟩ := id C0
  have hown : s.vm.findClass RL = some m.cls := hown0
  have hts : ∀ w ∈ wlT, w.before #[Value.ref b] s = true := fun w h => htl w (wlT_in w h)
  have hbA : ¬ A b := fun h => absurd (hA2 b h) (Nat.not_le.mpr hbl)
  obtain ⟨tp, wx, wm, tx, tm, fo, vi, vf, vm, vn, hIX, hIM, ⟨hR, hW⟩, hKx, hKm, hPx, hPm, hPo, hDx, hDm, hDo, jxm, jxo, jmo⟩ := hG
  have hiM : i.toInt ≤ (3066 : Int) := by omega
  have hcc : cells ≤ 601024 := by omega
  have hss : slots ≤ 7293034 := by omega
  have htpb := ix_tp hIX
  refine lv_aload_n hx hb dL_law_499 rfl (lv_at hl 3 rfl) ?_
  have hFc := lg_free hDx hS hA
  obtain ⟨fs500, hfs500⟩ := ix_recv hIX
  refine va_calli (va_runV (As := []) (rest := []) ⟨hx, hb, hml, hown, hts⟩ (k_X7_left l dC dI H.size x tp vi vf wx tx hIX ) (cwV 0 hts gd_X7_left rfl rfl rfl (by decide +kernel) ⟨Nat.le_of_ble_eq_true rfl, Nat.le_of_ble_eq_true rfl⟩) ⟨ax_blind (fun _ _ _ _ _ => trivial), va_recv hKx hPx (ci := 7) (q0 := 0) rfl hfs500, ax_preE hPx hKx hDx (fun _ _ _ => trivial)⟩ rfl rfl hl.1 rfl (lv_room (Nat.le_of_ble_eq_true rfl)) dL_law_500 ⟨hcc, hss⟩) hS (fun q _ h => hFc q h) hFc (fun r500 u t H1 locs ht hvm hw500 hB hz1 hk1 hS => ?_)
  obtain ⟨wxn, txn, ⟨vi1, vf1, kx1, kx2, q4x, hI1⟩, hP1, hK1, hD1⟩ := hB
  rw [ht] at hP1
  have hK1 := va_K.moved hvm.symm hK1
  obtain ⟨hPm, jxm⟩ := lg_step hPm jxm hk1 hD1
  obtain ⟨hPo, jxo⟩ := lg_step hPo jxo hk1 hD1
  have hD1 := hD1.weaken (fun _ _ _ h9 => hFc _ h9)
  clear hPx hDx hKx hFc hk1 hz1 hfs500
  have hIX := hI1; have hPx := hP1; have hDx := hD1; have hKx := hK1; clear hI1 hP1 hD1 hK1
  clear ht; generalize H1 = H at hPx hPm hPo hS ⊢
  refine lv_pop hx hb dL_law_503 rfl ?_
  refine lv_aload_n hx hb dL_law_504 rfl (lv_at hl 2 rfl) ?_
  have hFc := lg_free hDm hS hA
  obtain ⟨fs505, hfs505⟩ := im_recv hIM
  refine va_calli (va_runV (As := []) (rest := []) ⟨hx, hb, hml, hown, hts⟩ (k_X8_left l dC dI H.size mo tp vm vn wm tm hIM ) (cwV 0 hts gd_X8_left rfl rfl rfl (by decide +kernel) ⟨Nat.le_of_ble_eq_true rfl, Nat.le_of_ble_eq_true rfl⟩) ⟨ax_blind (fun _ _ _ _ _ => trivial), va_recv hKm hPm (ci := 8) (q0 := 0) rfl hfs505, ax_preE hPm hKm hDm (fun _ _ _ => trivial)⟩ rfl rfl hl.1 rfl (lv_room (Nat.le_of_ble_eq_true rfl)) dL_law_505 ⟨hcc, hss⟩) hS (fun q _ h => hFc q h) hFc (fun r505 u t H1 locs ht hvm hw505 hB hz1 hk1 hS => ?_)
  obtain ⟨wmn, tmn, ⟨vm1, vn1, km1, km2, q4m, hI1⟩, hP1, hK1, hD1⟩ := hB
  rw [ht] at hP1
  have hK1 := va_K.moved hvm.symm hK1
  obtain ⟨hPx, jmx⟩ := lg_step hPx (dj_symm jxm) hk1 hD1
  have jxm := dj_symm jmx
  obtain ⟨hPo, jmo⟩ := lg_step hPo jmo hk1 hD1
  have hD1 := hD1.weaken (fun _ _ _ h9 => hFc _ h9)
  clear hPm hDm hKm hFc hk1 hz1 hfs505
  have hIM := hI1; have hPm := hP1; have hDm := hD1; have hKm := hK1; clear hI1 hP1 hD1 hK1
  clear ht; generalize H1 = H at hPx hPm hPo hS ⊢
  refine lv_pop hx hb dL_law_508 rfl ?_
  refine lv_goto (tgt := 1941) hx hb dL_law_509 (by decide) ?_
  have hWn : lr_5 vi1 vm1 := l5_no q4x q4m
  have hRn : lr_R tp vi1 vf1 vm1 vn1 := ⟨by rw [kx2 0 (by decide), km2 0 (by decide)]; exact hR.1, lr_keep (fun k9 h9 => kx1 k9 (kp_dis (by decide) h9)) (fun k9 h9 => kx2 k9 (kp_dis (by decide) h9)) (fun k9 h9 => km1 k9 (kp_dis (by decide) h9)) (fun k9 h9 => km2 k9 (kp_dis (by decide) h9)) hR.2⟩
  have hRn := And.intro hRn hWn
  exact kk _ _ _ _ _ (Nat.le_add_right _ _) (Nat.le_add_right _ _) ⟨tp, _, _, _, _, _, _, _, _, _, hIX, hIM, hRn, hKx, hKm, hPx, hPm, hPo, hDx, hDm, hDo, jxm, jxo, jmo⟩ hS (lv_sub hl [0, 1, 2, 3, 4] rfl)

set_option maxHeartbeats 4000000 in
set_option maxRecDepth 100000 in
theorem lc_8 {p : Program} {l : Launch} {e : Env} {s : State} {m : MethodId} {below : List Frame} {meth : Method} {c : Code} {b L : Nat} {xs : Nat → Int32} {A : Nat → Prop} {dC : Nat → ClassId} {dI : Nat → Nat → Nat} (hl0 : l.stackTraces = false) (hL : L ≤ 3072) (hA : ∀ q, s.heap.size ≤ q → A q) (hA2 : ∀ q, A q → s.heap.size ≤ q) (C0 : lw_At p s m meth c b L xs) (sd : Nat → Nat) (sa : Nat) (hE : lg_E A sd sa s) (x mo oa : Nat) (ko : ClassId) (hKo : va_K (dC, dI) vwCl [(ko, .long)] s) (i : Int32) (hi0 : (0 : Int) ≤ i.toInt) (hi6 : i.toInt + 6 ≤ (L : Int)) {H : Heap} {locs : List Loc} {cells slots : Nat} (hc9 : cells + 1 ≤ 601024) (hs9 : slots + 6 ≤ 7293034) (hG : lg_S dC dI A s x mo oa ko H) (hS : va_S A s.heap H locs) {ls : Array Slot} (hl : lv_has ls 7 [(4, .int i), (3, .ref oa), (2, .ref mo), (1, .ref x), (0, .ref b)])
    (kk : ∀ (H : Heap) (locs : List Loc) (ls : Array Slot) (k9 n9 : Nat), k9 ≤ cells + 1 → n9 ≤ slots + 6 → lg_S dC dI A s x mo oa ko H → va_S A s.heap H locs → lv_has ls 7 [(4, .int i), (3, .ref oa), (2, .ref mo), (1, .ref x), (0, .ref b)] → W p l e room_1 s m #[Value.ref b] below meth c H locs k9 n9 (lw_Z below #[Value.ref b] s) (F0 m 1941 ls [])) : W p l e room_1 s m #[Value.ref b] below meth c H locs cells slots (lw_Z below #[Value.ref b] s) (F0 m 512 ls []) := by
  obtain ⟨hx, hb, hr, hml, hown0, htl, hX, hbl, hlocks, hgv⟩ := id C0
  have hown : s.vm.findClass RL = some m.cls := hown0
  have hts : ∀ w ∈ wlT, w.before #[Value.ref b] s = true := fun w h => htl w (wlT_in w h)
  have hbA : ¬ A b := fun h => absurd (hA2 b h) (Nat.not_le.mpr hbl)
  obtain ⟨tp, wx, wm, tx, tm, fo, vi, vf, vm, vn, hIX, hIM, ⟨hR, hW⟩, hKx, hKm, hPx, hPm, hPo, hDx, hDm, hDo, jxm, jxo, jmo⟩ := hG
  have hiM : i.toInt ≤ (3066 : Int) := by omega
  have hcc : cells ≤ 601024 := by omega
  have hss : slots ≤ 7293034 := by omega
  have htpb := ix_tp hIX
  refine lv_aload_n hx hb dL_law_512 rfl (lv_at hl 3 rfl) ?_
  have hFc := lg_free hDx hS hA
  obtain ⟨fs513, hfs513⟩ := ix_recv hIX
  refine va_calli (va_runV (As := []) (rest := []) ⟨hx, hb, hml, hown, hts⟩ (k_X7_caught l dC dI H.size x tp vi vf wx tx hIX ) (cwV 0 hts gd_X7_caught rfl rfl rfl (by decide +kernel) ⟨Nat.le_of_ble_eq_true rfl, Nat.le_of_ble_eq_true rfl⟩) ⟨ax_blind (fun _ _ _ _ _ => trivial), va_recv hKx hPx (ci := 7) (q0 := 0) rfl hfs513, ax_preE hPx hKx hDx (fun _ _ _ => trivial)⟩ rfl rfl hl.1 rfl (lv_room (Nat.le_of_ble_eq_true rfl)) dL_law_513 ⟨hcc, hss⟩) hS (fun q _ h => hFc q h) hFc (fun r513 u t H1 locs ht hvm hw513 hB hz1 hk1 hS => ?_)
  obtain ⟨wxn, txn, ⟨vi1, vf1, kx1, kx2, q4x, hI1⟩, hP1, hK1, hD1⟩ := hB
  rw [ht] at hP1
  have hK1 := va_K.moved hvm.symm hK1
  obtain ⟨hPm, jxm⟩ := lg_step hPm jxm hk1 hD1
  obtain ⟨hPo, jxo⟩ := lg_step hPo jxo hk1 hD1
  have hD1 := hD1.weaken (fun _ _ _ h9 => hFc _ h9)
  clear hPx hDx hKx hFc hk1 hz1 hfs513
  have hIX := hI1; have hPx := hP1; have hDx := hD1; have hKx := hK1; clear hI1 hP1 hD1 hK1
  clear ht; generalize H1 = H at hPx hPm hPo hS ⊢
  refine lv_pop hx hb dL_law_516 rfl ?_
  refine lv_aload_n hx hb dL_law_517 rfl (lv_at hl 2 rfl) ?_
  have hFc := lg_free hDm hS hA
  obtain ⟨fs518, hfs518⟩ := im_recv hIM
  refine va_calli (va_runV (As := []) (rest := []) ⟨hx, hb, hml, hown, hts⟩ (k_X8_caught l dC dI H.size mo tp vm vn wm tm hIM ) (cwV 0 hts gd_X8_caught rfl rfl rfl (by decide +kernel) ⟨Nat.le_of_ble_eq_true rfl, Nat.le_of_ble_eq_true rfl⟩) ⟨ax_blind (fun _ _ _ _ _ => trivial), va_recv hKm hPm (ci := 8) (q0 := 0) rfl hfs518, ax_preE hPm hKm hDm (fun _ _ _ => trivial)⟩ rfl rfl hl.1 rfl (lv_room (Nat.le_of_ble_eq_true rfl)) dL_law_518 ⟨hcc, hss⟩) hS (fun q _ h => hFc q h) hFc (fun r518 u t H1 locs ht hvm hw518 hB hz1 hk1 hS => ?_)
  obtain ⟨wmn, tmn, ⟨vm1, vn1, km1, km2, q4m, hI1⟩, hP1, hK1, hD1⟩ := hB
  rw [ht] at hP1
  have hK1 := va_K.moved hvm.symm hK1
  obtain ⟨hPx, jmx⟩ := lg_step hPx (dj_symm jxm) hk1 hD1
  have jxm := dj_symm jmx
  obtain ⟨hPo, jmo⟩ := lg_step hPo jmo hk1 hD1
  have hD1 := hD1.weaken (fun _ _ _ h9 => hFc _ h9)
  clear hPm hDm hKm hFc hk1 hz1 hfs518
  have hIM := hI1; have hPm := hP1; have hDm := hD1; have hKm := hK1; clear hI1 hP1 hD1 hK1
  clear ht; generalize H1 = H at hPx hPm hPo hS ⊢
  refine lv_pop hx hb dL_law_521 rfl ?_
  refine lv_goto (tgt := 1941) hx hb dL_law_522 (by decide) ?_
  have hWn : lr_5 vi1 vm1 := l5_no q4x q4m
  have hRn : lr_R tp vi1 vf1 vm1 vn1 := ⟨by rw [kx2 0 (by decide), km2 0 (by decide)]; exact hR.1, lr_keep (fun k9 h9 => kx1 k9 (kp_dis (by decide) h9)) (fun k9 h9 => kx2 k9 (kp_dis (by decide) h9)) (fun k9 h9 => km1 k9 (kp_dis (by decide) h9)) (fun k9 h9 => km2 k9 (kp_dis (by decide) h9)) hR.2⟩
  have hRn := And.intro hRn hWn
  exact kk _ _ _ _ _ (Nat.le_add_right _ _) (Nat.le_add_right _ _) ⟨tp, _, _, _, _, _, _, _, _, _, hIX, hIM, hRn, hKx, hKm, hPx, hPm, hPo, hDx, hDm, hDo, jxm, jxo, jmo⟩ hS (lv_sub hl [0, 1, 2, 3, 4] rfl)

set_option maxHeartbeats 4000000 in
set_option maxRecDepth 100000 in
theorem lc_9 {p : Program} {l : Launch} {e : Env} {s : State} {m : MethodId} {below : List Frame} {meth : Method} {c : Code} {b L : Nat} {xs : Nat → Int32} {A : Nat → Prop} {dC : Nat → ClassId} {dI : Nat → Nat → Nat} (hl0 : l.stackTraces = false) (hL : L ≤ 3072) (hA : ∀ q, s.heap.size ≤ q → A q) (hA2 : ∀ q, A q → s.heap.size ≤ q) (C0 : lw_At p s m meth c b L xs) (sd : Nat → Nat) (sa : Nat) (hE : lg_E A sd sa s) (x mo oa : Nat) (ko : ClassId) (hKo : va_K (dC, dI) vwCl [(ko, .long)] s) (i : Int32) (hi0 : (0 : Int) ≤ i.toInt) (hi6 : i.toInt + 6 ≤ (L : Int)) {H : Heap} {locs : List Loc} {cells slots : Nat} (hc9 : cells + 1 ≤ 601024) (hs9 : slots + 6 ≤ 7293034) (hG : lg_S dC dI A s x mo oa ko H) (hS : va_S A s.heap H locs) {ls : Array Slot} (hl : lv_has ls 7 [(4, .int i), (3, .ref oa), (2, .ref mo), (1, .ref x), (0, .ref b)])
    (kk : ∀ (H : Heap) (locs : List Loc) (ls : Array Slot) (k9 n9 : Nat), k9 ≤ cells + 1 → n9 ≤ slots + 6 → lg_S dC dI A s x mo oa ko H → va_S A s.heap H locs → lv_has ls 7 [(4, .int i), (3, .ref oa), (2, .ref mo), (1, .ref x), (0, .ref b)] → W p l e room_1 s m #[Value.ref b] below meth c H locs k9 n9 (lw_Z below #[Value.ref b] s) (F0 m 1941 ls [])) : W p l e room_1 s m #[Value.ref b] below meth c H locs cells slots (lw_Z below #[Value.ref b] s) (F0 m 525 ls []) := by
  obtain ⟨hx, hb, hr, hml, hown0, htl, hX, hbl, hlocks, hgv⟩ := id C0
  have hown : s.vm.findClass RL = some m.cls := hown0
  have hts : ∀ w ∈ wlT, w.before #[Value.ref b] s = true := fun w h => htl w (wlT_in w h)
  have hbA : ¬ A b := fun h => absurd (hA2 b h) (Nat.not_le.mpr hbl)
  obtain ⟨tp, wx, wm, tx, tm, fo, vi, vf, vm, vn, hIX, hIM, ⟨hR, hW⟩, hKx, hKm, hPx, hPm, hPo, hDx, hDm, hDo, jxm, jxo, jmo⟩ := hG
  have hiM : i.toInt ≤ (3066 : Int) := by omega
  have hcc : cells ≤ 601024 := by omega
  have hss : slots ≤ 7293034 := by omega
  have htpb := ix_tp hIX
  refine lv_aload_n hx hb dL_law_525 rfl (lv_at hl 3 rfl) ?_
  refine lv_aload_n hx hb dL_law_526 rfl (lv_at hl 4 rfl) ?_
  refine lv_iload hx hb dL_law_527 (lv_at hl 0 rfl) ?_
  refine lv_iconst (v := 1) hx hb dL_law_529 zk_iconst_1 ?_
  refine lv_iadd hx hb dL_law_530 ?_
  refine lv_topi (fun ix1 eix1 => ?_)
  have qix1 : ix1.toInt = i.toInt + 1 := ai_add eix1 ⟨hi0, hiM⟩ ⟨zq1, zq0⟩ (by decide) (by decide)
  refine va_sld (L := L) (i := ix1) hx hb hX hbl hbA hS (vp_in_iff.mpr ⟨by omega, by omega⟩) dL_law_531 ?_
  refine lv_topi (fun vix1 evix1 => ?_)
  have hFc := lg_free hDx hS hA
  obtain ⟨fs532, hfs532⟩ := ix_recv hIX
  refine va_calli (va_runV (As := [.int vix1]) (rest := []) ⟨hx, hb, hml, hown, hts⟩ (k_X7_turnOf l dC dI H.size x tp vi vf wx tx hIX vix1) (cwV 1 hts gd_X7_turnOf rfl rfl rfl (by decide +kernel) ⟨Nat.le_of_ble_eq_true rfl, Nat.le_of_ble_eq_true rfl⟩) ⟨ax_blind (fun _ _ _ _ _ => trivial), va_recv hKx hPx (ci := 7) (q0 := 0) rfl hfs532, ax_preE hPx hKx hDx (fun _ _ _ => trivial)⟩ rfl rfl hl.1 rfl (lv_room (Nat.le_of_ble_eq_true rfl)) dL_law_532 ⟨hcc, hss⟩) hS (fun q _ h => hFc q h) hFc (fun r532 u t H1 locs ht hvm hw532 hB hz1 hk1 hS => ?_)
  obtain ⟨wxn, txn, ⟨vi1, vf1, kx1, kx2, q4x, hI1⟩, hP1, hK1, hD1⟩ := hB
  rw [ht] at hP1
  have hK1 := va_K.moved hvm.symm hK1
  obtain ⟨hPm, jxm⟩ := lg_step hPm jxm hk1 hD1
  obtain ⟨hPo, jxo⟩ := lg_step hPo jxo hk1 hD1
  have hD1 := hD1.weaken (fun _ _ _ h9 => hFc _ h9)
  clear hPx hDx hKx hFc hk1 hz1 hfs532
  have hIX := hI1; have hPx := hP1; have hDx := hD1; have hKx := hK1; clear hI1 hP1 hD1 hK1
  clear ht; generalize H1 = H at hPx hPm hPo hS ⊢
  refine lv_pop hx hb dL_law_535 rfl ?_
  refine lv_aload_n hx hb dL_law_536 rfl (lv_at hl 2 rfl) ?_
  refine lv_aload_n hx hb dL_law_537 rfl (lv_at hl 4 rfl) ?_
  refine lv_iload hx hb dL_law_538 (lv_at hl 0 rfl) ?_
  refine lv_iconst (v := 1) hx hb dL_law_540 zk_iconst_1 ?_
  refine lv_iadd hx hb dL_law_541 ?_
  refine ax_ti ix1 eix1.symm ?_
  refine va_sld (L := L) (i := ix1) hx hb hX hbl hbA hS (vp_in_iff.mpr ⟨by omega, by omega⟩) dL_law_542 ?_
  refine ax_ti vix1 evix1.symm ?_
  have hFc := lg_free hDm hS hA
  obtain ⟨fs543, hfs543⟩ := im_recv hIM
  refine va_calli (va_runV (As := [.int vix1]) (rest := []) ⟨hx, hb, hml, hown, hts⟩ (k_X8_turnOf l dC dI H.size mo tp vm vn wm tm hIM vix1) (cwV 1 hts gd_X8_turnOf rfl rfl rfl (by decide +kernel) ⟨Nat.le_of_ble_eq_true rfl, Nat.le_of_ble_eq_true rfl⟩) ⟨ax_blind (fun _ _ _ _ _ => trivial), va_recv hKm hPm (ci := 8) (q0 := 0) rfl hfs543, ax_preE hPm hKm hDm (fun _ _ _ => trivial)⟩ rfl rfl hl.1 rfl (lv_room (Nat.le_of_ble_eq_true rfl)) dL_law_543 ⟨hcc, hss⟩) hS (fun q _ h => hFc q h) hFc (fun r543 u t H1 locs ht hvm hw543 hB hz1 hk1 hS => ?_)
  obtain ⟨wmn, tmn, ⟨vm1, vn1, km1, km2, q4m, hI1⟩, hP1, hK1, hD1⟩ := hB
  rw [ht] at hP1
  have hK1 := va_K.moved hvm.symm hK1
  obtain ⟨hPx, jmx⟩ := lg_step hPx (dj_symm jxm) hk1 hD1
  have jxm := dj_symm jmx
  obtain ⟨hPo, jmo⟩ := lg_step hPo jmo hk1 hD1
  have hD1 := hD1.weaken (fun _ _ _ h9 => hFc _ h9)
  clear hPm hDm hKm hFc hk1 hz1 hfs543
  have hIM := hI1; have hPm := hP1; have hDm := hD1; have hKm := hK1; clear hI1 hP1 hD1 hK1
  clear ht; generalize H1 = H at hPx hPm hPo hS ⊢
  refine lv_pop hx hb dL_law_546 rfl ?_
  refine lv_goto (tgt := 1941) hx hb dL_law_547 (by decide) ?_
  have hWn : lr_5 vi1 vm1 := l5_no q4x q4m
  have hRn : lr_R tp vi1 vf1 vm1 vn1 := ⟨by rw [kx2 0 (by decide), km2 0 (by decide)]; exact hR.1, lr_keep (fun k9 h9 => kx1 k9 (kp_dis (by decide) h9)) (fun k9 h9 => kx2 k9 (kp_dis (by decide) h9)) (fun k9 h9 => km1 k9 (kp_dis (by decide) h9)) (fun k9 h9 => km2 k9 (kp_dis (by decide) h9)) hR.2⟩
  have hRn := And.intro hRn hWn
  exact kk _ _ _ _ _ (Nat.le_add_right _ _) (Nat.le_add_right _ _) ⟨tp, _, _, _, _, _, _, _, _, _, hIX, hIM, hRn, hKx, hKm, hPx, hPm, hPo, hDx, hDm, hDo, jxm, jxo, jmo⟩ hS (lv_sub hl [0, 1, 2, 3, 4] rfl)

set_option maxHeartbeats 4000000 in
set_option maxRecDepth 100000 in
theorem lc_10 {p : Program} {l : Launch} {e : Env} {s : State} {m : MethodId} {below : List Frame} {meth : Method} {c : Code} {b L : Nat} {xs : Nat → Int32} {A : Nat → Prop} {dC : Nat → ClassId} {dI : Nat → Nat → Nat} (hl0 : l.stackTraces = false) (hL : L ≤ 3072) (hA : ∀ q, s.heap.size ≤ q → A q) (hA2 : ∀ q, A q → s.heap.size ≤ q) (C0 : lw_At p s m meth c b L xs) (sd : Nat → Nat) (sa : Nat) (hE : lg_E A sd sa s) (x mo oa : Nat) (ko : ClassId) (hKo : va_K (dC, dI) vwCl [(ko, .long)] s) (i : Int32) (hi0 : (0 : Int) ≤ i.toInt) (hi6 : i.toInt + 6 ≤ (L : Int)) {H : Heap} {locs : List Loc} {cells slots : Nat} (hc9 : cells + 1 ≤ 601024) (hs9 : slots + 6 ≤ 7293034) (hG : lg_S dC dI A s x mo oa ko H) (hS : va_S A s.heap H locs) {ls : Array Slot} (hl : lv_has ls 7 [(4, .int i), (3, .ref oa), (2, .ref mo), (1, .ref x), (0, .ref b)])
    (kk : ∀ (H : Heap) (locs : List Loc) (ls : Array Slot) (k9 n9 : Nat), k9 ≤ cells + 1 → n9 ≤ slots + 6 → lg_S dC dI A s x mo oa ko H → va_S A s.heap H locs → lv_has ls 7 [(4, .int i), (3, .ref oa), (2, .ref mo), (1, .ref x), (0, .ref b)] → W p l e room_1 s m #[Value.ref b] below meth c H locs k9 n9 (lw_Z below #[Value.ref b] s) (F0 m 1941 ls [])) : W p l e room_1 s m #[Value.ref b] below meth c H locs cells slots (lw_Z below #[Value.ref b] s) (F0 m 550 ls []) := by
  obtain ⟨hx, hb, hr, hml, hown0, htl, hX, hbl, hlocks, hgv⟩ := id C0
  have hown : s.vm.findClass RL = some m.cls := hown0
  have hts : ∀ w ∈ wlT, w.before #[Value.ref b] s = true := fun w h => htl w (wlT_in w h)
  have hbA : ¬ A b := fun h => absurd (hA2 b h) (Nat.not_le.mpr hbl)
  obtain ⟨tp, wx, wm, tx, tm, fo, vi, vf, vm, vn, hIX, hIM, ⟨hR, hW⟩, hKx, hKm, hPx, hPm, hPo, hDx, hDm, hDo, jxm, jxo, jmo⟩ := hG
  have hiM : i.toInt ≤ (3066 : Int) := by omega
  have hcc : cells ≤ 601024 := by omega
  have hss : slots ≤ 7293034 := by omega
  have htpb := ix_tp hIX
  refine lv_aload_n hx hb dL_law_550 rfl (lv_at hl 3 rfl) ?_
  refine lv_aload_n hx hb dL_law_551 rfl (lv_at hl 4 rfl) ?_
  refine lv_iload hx hb dL_law_552 (lv_at hl 0 rfl) ?_
  refine lv_iconst (v := 1) hx hb dL_law_554 zk_iconst_1 ?_
  refine lv_iadd hx hb dL_law_555 ?_
  refine lv_topi (fun ix1 eix1 => ?_)
  have qix1 : ix1.toInt = i.toInt + 1 := ai_add eix1 ⟨hi0, hiM⟩ ⟨zq1, zq0⟩ (by decide) (by decide)
  refine va_sld (L := L) (i := ix1) hx hb hX hbl hbA hS (vp_in_iff.mpr ⟨by omega, by omega⟩) dL_law_556 ?_
  refine lv_topi (fun vix1 evix1 => ?_)
  have hFc := lg_free hDx hS hA
  obtain ⟨fs557, hfs557⟩ := ix_recv hIX
  refine va_calli (va_runV (As := [.int vix1]) (rest := []) ⟨hx, hb, hml, hown, hts⟩ (k_X7_turnIn l dC dI H.size x tp vi vf wx tx hIX vix1) (cwV 1 hts gd_X7_turnIn rfl rfl rfl (by decide +kernel) ⟨Nat.le_of_ble_eq_true rfl, Nat.le_of_ble_eq_true rfl⟩) ⟨ax_blind (fun _ _ _ _ _ => trivial), va_recv hKx hPx (ci := 7) (q0 := 0) rfl hfs557, ax_preE hPx hKx hDx (fun _ _ _ => trivial)⟩ rfl rfl hl.1 rfl (lv_room (Nat.le_of_ble_eq_true rfl)) dL_law_557 ⟨hcc, hss⟩) hS (fun q _ h => hFc q h) hFc (fun r557 u t H1 locs ht hvm hw557 hB hz1 hk1 hS => ?_)
  obtain ⟨wxn, txn, ⟨vi1, vf1, kx1, kx2, q4x, hI1⟩, hP1, hK1, hD1⟩ := hB
  rw [ht] at hP1
  have hK1 := va_K.moved hvm.symm hK1
  obtain ⟨hPm, jxm⟩ := lg_step hPm jxm hk1 hD1
  obtain ⟨hPo, jxo⟩ := lg_step hPo jxo hk1 hD1
  have hD1 := hD1.weaken (fun _ _ _ h9 => hFc _ h9)
  clear hPx hDx hKx hFc hk1 hz1 hfs557
  have hIX := hI1; have hPx := hP1; have hDx := hD1; have hKx := hK1; clear hI1 hP1 hD1 hK1
  clear ht; generalize H1 = H at hPx hPm hPo hS ⊢
  refine lv_pop hx hb dL_law_560 rfl ?_
  refine lv_aload_n hx hb dL_law_561 rfl (lv_at hl 2 rfl) ?_
  refine lv_aload_n hx hb dL_law_562 rfl (lv_at hl 4 rfl) ?_
  refine lv_iload hx hb dL_law_563 (lv_at hl 0 rfl) ?_
  refine lv_iconst (v := 1) hx hb dL_law_565 zk_iconst_1 ?_
  refine lv_iadd hx hb dL_law_566 ?_
  refine ax_ti ix1 eix1.symm ?_
  refine va_sld (L := L) (i := ix1) hx hb hX hbl hbA hS (vp_in_iff.mpr ⟨by omega, by omega⟩) dL_law_567 ?_
  refine ax_ti vix1 evix1.symm ?_
  have hFc := lg_free hDm hS hA
  obtain ⟨fs568, hfs568⟩ := im_recv hIM
  refine va_calli (va_runV (As := [.int vix1]) (rest := []) ⟨hx, hb, hml, hown, hts⟩ (k_X8_turnIn l dC dI H.size mo tp vm vn wm tm hIM vix1) (cwV 1 hts gd_X8_turnIn rfl rfl rfl (by decide +kernel) ⟨Nat.le_of_ble_eq_true rfl, Nat.le_of_ble_eq_true rfl⟩) ⟨ax_blind (fun _ _ _ _ _ => trivial), va_recv hKm hPm (ci := 8) (q0 := 0) rfl hfs568, ax_preE hPm hKm hDm (fun _ _ _ => trivial)⟩ rfl rfl hl.1 rfl (lv_room (Nat.le_of_ble_eq_true rfl)) dL_law_568 ⟨hcc, hss⟩) hS (fun q _ h => hFc q h) hFc (fun r568 u t H1 locs ht hvm hw568 hB hz1 hk1 hS => ?_)
  obtain ⟨wmn, tmn, ⟨vm1, vn1, km1, km2, q4m, hI1⟩, hP1, hK1, hD1⟩ := hB
  rw [ht] at hP1
  have hK1 := va_K.moved hvm.symm hK1
  obtain ⟨hPx, jmx⟩ := lg_step hPx (dj_symm jxm) hk1 hD1
  have jxm := dj_symm jmx
  obtain ⟨hPo, jmo⟩ := lg_step hPo jmo hk1 hD1
  have hD1 := hD1.weaken (fun _ _ _ h9 => hFc _ h9)
  clear hPm hDm hKm hFc hk1 hz1 hfs568
  have hIM := hI1; have hPm := hP1; have hDm := hD1; have hKm := hK1; clear hI1 hP1 hD1 hK1
  clear ht; generalize H1 = H at hPx hPm hPo hS ⊢
  refine lv_pop hx hb dL_law_571 rfl ?_
  refine lv_goto (tgt := 1941) hx hb dL_law_572 (by decide) ?_
  have hWn : lr_5 vi1 vm1 := l5_no q4x q4m
  have hRn : lr_R tp vi1 vf1 vm1 vn1 := ⟨by rw [kx2 0 (by decide), km2 0 (by decide)]; exact hR.1, lr_keep (fun k9 h9 => kx1 k9 (kp_dis (by decide) h9)) (fun k9 h9 => kx2 k9 (kp_dis (by decide) h9)) (fun k9 h9 => km1 k9 (kp_dis (by decide) h9)) (fun k9 h9 => km2 k9 (kp_dis (by decide) h9)) hR.2⟩
  have hRn := And.intro hRn hWn
  exact kk _ _ _ _ _ (Nat.le_add_right _ _) (Nat.le_add_right _ _) ⟨tp, _, _, _, _, _, _, _, _, _, hIX, hIM, hRn, hKx, hKm, hPx, hPm, hPo, hDx, hDm, hDo, jxm, jxo, jmo⟩ hS (lv_sub hl [0, 1, 2, 3, 4] rfl)

set_option maxHeartbeats 4000000 in
set_option maxRecDepth 100000 in
theorem lc_11 {p : Program} {l : Launch} {e : Env} {s : State} {m : MethodId} {below : List Frame} {meth : Method} {c : Code} {b L : Nat} {xs : Nat → Int32} {A : Nat → Prop} {dC : Nat → ClassId} {dI : Nat → Nat → Nat} (hl0 : l.stackTraces = false) (hL : L ≤ 3072) (hA : ∀ q, s.heap.size ≤ q → A q) (hA2 : ∀ q, A q → s.heap.size ≤ q) (C0 : lw_At p s m meth c b L xs) (sd : Nat → Nat) (sa : Nat) (hE : lg_E A sd sa s) (x mo oa : Nat) (ko : ClassId) (hKo : va_K (dC, dI) vwCl [(ko, .long)] s) (i : Int32) (hi0 : (0 : Int) ≤ i.toInt) (hi6 : i.toInt + 6 ≤ (L : Int)) {H : Heap} {locs : List Loc} {cells slots : Nat} (hc9 : cells + 1 ≤ 601024) (hs9 : slots + 6 ≤ 7293034) (hG : lg_S dC dI A s x mo oa ko H) (hS : va_S A s.heap H locs) {ls : Array Slot} (hl : lv_has ls 7 [(4, .int i), (3, .ref oa), (2, .ref mo), (1, .ref x), (0, .ref b)])
    (kk : ∀ (H : Heap) (locs : List Loc) (ls : Array Slot) (k9 n9 : Nat), k9 ≤ cells + 1 → n9 ≤ slots + 6 → lg_S dC dI A s x mo oa ko H → va_S A s.heap H locs → lv_has ls 7 [(4, .int i), (3, .ref oa), (2, .ref mo), (1, .ref x), (0, .ref b)] → W p l e room_1 s m #[Value.ref b] below meth c H locs k9 n9 (lw_Z below #[Value.ref b] s) (F0 m 1941 ls [])) : W p l e room_1 s m #[Value.ref b] below meth c H locs cells slots (lw_Z below #[Value.ref b] s) (F0 m 575 ls []) := by
  obtain ⟨hx, hb, hr, hml, hown0, htl, hX, hbl, hlocks, hgv⟩ := id C0
  have hown : s.vm.findClass RL = some m.cls := hown0
  have hts : ∀ w ∈ wlT, w.before #[Value.ref b] s = true := fun w h => htl w (wlT_in w h)
  have hbA : ¬ A b := fun h => absurd (hA2 b h) (Nat.not_le.mpr hbl)
  obtain ⟨tp, wx, wm, tx, tm, fo, vi, vf, vm, vn, hIX, hIM, ⟨hR, hW⟩, hKx, hKm, hPx, hPm, hPo, hDx, hDm, hDo, jxm, jxo, jmo⟩ := hG
  have hiM : i.toInt ≤ (3066 : Int) := by omega
  have hcc : cells ≤ 601024 := by omega
  have hss : slots ≤ 7293034 := by omega
  have htpb := ix_tp hIX
  refine lv_aload_n hx hb dL_law_575 rfl (lv_at hl 3 rfl) ?_
  have hFc := lg_free hDx hS hA
  obtain ⟨fs576, hfs576⟩ := ix_recv hIX
  refine va_calli (va_runV (As := []) (rest := []) ⟨hx, hb, hml, hown, hts⟩ (k_X7_settles l dC dI H.size x tp vi vf wx tx hIX ) (cwV 0 hts gd_X7_settles rfl rfl rfl (by decide +kernel) ⟨Nat.le_of_ble_eq_true rfl, Nat.le_of_ble_eq_true rfl⟩) ⟨ax_blind (fun _ _ _ _ _ => trivial), va_recv hKx hPx (ci := 7) (q0 := 0) rfl hfs576, ax_preE hPx hKx hDx (fun _ _ _ => trivial)⟩ rfl rfl hl.1 rfl (lv_room (Nat.le_of_ble_eq_true rfl)) dL_law_576 ⟨hcc, hss⟩) hS (fun q _ h => hFc q h) hFc (fun r576 u t H1 locs ht hvm hw576 hB hz1 hk1 hS => ?_)
  obtain ⟨wxn, txn, ⟨vi1, vf1, kx1, kx2, q4x, hI1⟩, hP1, hK1, hD1⟩ := hB
  rw [ht] at hP1
  have hK1 := va_K.moved hvm.symm hK1
  obtain ⟨hPm, jxm⟩ := lg_step hPm jxm hk1 hD1
  obtain ⟨hPo, jxo⟩ := lg_step hPo jxo hk1 hD1
  have hD1 := hD1.weaken (fun _ _ _ h9 => hFc _ h9)
  clear hPx hDx hKx hFc hk1 hz1 hfs576
  have hIX := hI1; have hPx := hP1; have hDx := hD1; have hKx := hK1; clear hI1 hP1 hD1 hK1
  clear ht; generalize H1 = H at hPx hPm hPo hS ⊢
  refine lv_pop hx hb dL_law_579 rfl ?_
  refine lv_aload_n hx hb dL_law_580 rfl (lv_at hl 2 rfl) ?_
  have hFc := lg_free hDm hS hA
  obtain ⟨fs581, hfs581⟩ := im_recv hIM
  refine va_calli (va_runV (As := []) (rest := []) ⟨hx, hb, hml, hown, hts⟩ (k_X8_settles l dC dI H.size mo tp vm vn wm tm hIM ) (cwV 0 hts gd_X8_settles rfl rfl rfl (by decide +kernel) ⟨Nat.le_of_ble_eq_true rfl, Nat.le_of_ble_eq_true rfl⟩) ⟨ax_blind (fun _ _ _ _ _ => trivial), va_recv hKm hPm (ci := 8) (q0 := 0) rfl hfs581, ax_preE hPm hKm hDm (fun _ _ _ => trivial)⟩ rfl rfl hl.1 rfl (lv_room (Nat.le_of_ble_eq_true rfl)) dL_law_581 ⟨hcc, hss⟩) hS (fun q _ h => hFc q h) hFc (fun r581 u t H1 locs ht hvm hw581 hB hz1 hk1 hS => ?_)
  obtain ⟨wmn, tmn, ⟨vm1, vn1, km1, km2, q4m, hI1⟩, hP1, hK1, hD1⟩ := hB
  rw [ht] at hP1
  have hK1 := va_K.moved hvm.symm hK1
  obtain ⟨hPx, jmx⟩ := lg_step hPx (dj_symm jxm) hk1 hD1
  have jxm := dj_symm jmx
  obtain ⟨hPo, jmo⟩ := lg_step hPo jmo hk1 hD1
  have hD1 := hD1.weaken (fun _ _ _ h9 => hFc _ h9)
  clear hPm hDm hKm hFc hk1 hz1 hfs581
  have hIM := hI1; have hPm := hP1; have hDm := hD1; have hKm := hK1; clear hI1 hP1 hD1 hK1
  clear ht; generalize H1 = H at hPx hPm hPo hS ⊢
  refine lv_pop hx hb dL_law_584 rfl ?_
  refine lv_goto (tgt := 1941) hx hb dL_law_585 (by decide) ?_
  have hWn : lr_5 vi1 vm1 := l5_no q4x q4m
  have hRn : lr_R tp vi1 vf1 vm1 vn1 := ⟨by rw [kx2 0 (by decide), km2 0 (by decide)]; exact hR.1, lr_keep (fun k9 h9 => kx1 k9 (kp_dis (by decide) h9)) (fun k9 h9 => kx2 k9 (kp_dis (by decide) h9)) (fun k9 h9 => km1 k9 (kp_dis (by decide) h9)) (fun k9 h9 => km2 k9 (kp_dis (by decide) h9)) hR.2⟩
  have hRn := And.intro hRn hWn
  exact kk _ _ _ _ _ (Nat.le_add_right _ _) (Nat.le_add_right _ _) ⟨tp, _, _, _, _, _, _, _, _, _, hIX, hIM, hRn, hKx, hKm, hPx, hPm, hPo, hDx, hDm, hDo, jxm, jxo, jmo⟩ hS (lv_sub hl [0, 1, 2, 3, 4] rfl)

set_option maxHeartbeats 4000000 in
set_option maxRecDepth 100000 in
theorem lc_12 {p : Program} {l : Launch} {e : Env} {s : State} {m : MethodId} {below : List Frame} {meth : Method} {c : Code} {b L : Nat} {xs : Nat → Int32} {A : Nat → Prop} {dC : Nat → ClassId} {dI : Nat → Nat → Nat} (hl0 : l.stackTraces = false) (hL : L ≤ 3072) (hA : ∀ q, s.heap.size ≤ q → A q) (hA2 : ∀ q, A q → s.heap.size ≤ q) (C0 : lw_At p s m meth c b L xs) (sd : Nat → Nat) (sa : Nat) (hE : lg_E A sd sa s) (x mo oa : Nat) (ko : ClassId) (hKo : va_K (dC, dI) vwCl [(ko, .long)] s) (i : Int32) (hi0 : (0 : Int) ≤ i.toInt) (hi6 : i.toInt + 6 ≤ (L : Int)) {H : Heap} {locs : List Loc} {cells slots : Nat} (hc9 : cells + 1 ≤ 601024) (hs9 : slots + 6 ≤ 7293034) (hG : lg_S dC dI A s x mo oa ko H) (hS : va_S A s.heap H locs) {ls : Array Slot} (hl : lv_has ls 7 [(4, .int i), (3, .ref oa), (2, .ref mo), (1, .ref x), (0, .ref b)])
    (kk : ∀ (H : Heap) (locs : List Loc) (ls : Array Slot) (k9 n9 : Nat), k9 ≤ cells + 1 → n9 ≤ slots + 6 → lg_S dC dI A s x mo oa ko H → va_S A s.heap H locs → lv_has ls 7 [(4, .int i), (3, .ref oa), (2, .ref mo), (1, .ref x), (0, .ref b)] → W p l e room_1 s m #[Value.ref b] below meth c H locs k9 n9 (lw_Z below #[Value.ref b] s) (F0 m 1941 ls [])) : W p l e room_1 s m #[Value.ref b] below meth c H locs cells slots (lw_Z below #[Value.ref b] s) (F0 m 588 ls []) := by
  obtain ⟨hx, hb, hr, hml, hown0, htl, hX, hbl, hlocks, hgv⟩ := id C0
  have hown : s.vm.findClass RL = some m.cls := hown0
  have hts : ∀ w ∈ wlT, w.before #[Value.ref b] s = true := fun w h => htl w (wlT_in w h)
  have hbA : ¬ A b := fun h => absurd (hA2 b h) (Nat.not_le.mpr hbl)
  obtain ⟨tp, wx, wm, tx, tm, fo, vi, vf, vm, vn, hIX, hIM, ⟨hR, hW⟩, hKx, hKm, hPx, hPm, hPo, hDx, hDm, hDo, jxm, jxo, jmo⟩ := hG
  have hiM : i.toInt ≤ (3066 : Int) := by omega
  have hcc : cells ≤ 601024 := by omega
  have hss : slots ≤ 7293034 := by omega
  have htpb := ix_tp hIX
  refine lv_aload_n hx hb dL_law_588 rfl (lv_at hl 3 rfl) ?_
  have hFc := lg_free hDx hS hA
  obtain ⟨fs589, hfs589⟩ := ix_recv hIX
  refine va_calli (va_runV (As := []) (rest := []) ⟨hx, hb, hml, hown, hts⟩ (k_X7_round l dC dI H.size x tp vi vf wx tx hIX ) (cwV 0 hts gd_X7_round rfl rfl rfl (by decide +kernel) ⟨Nat.le_of_ble_eq_true rfl, Nat.le_of_ble_eq_true rfl⟩) ⟨ax_blind (fun _ _ _ _ _ => trivial), va_recv hKx hPx (ci := 7) (q0 := 0) rfl hfs589, ax_preE hPx hKx hDx (fun _ _ _ => trivial)⟩ rfl rfl hl.1 rfl (lv_room (Nat.le_of_ble_eq_true rfl)) dL_law_589 ⟨hcc, hss⟩) hS (fun q _ h => hFc q h) hFc (fun r589 u t H1 locs ht hvm hw589 hB hz1 hk1 hS => ?_)
  obtain ⟨wxn, txn, ⟨vi1, vf1, kx1, kx2, q4x, hI1⟩, hP1, hK1, hD1⟩ := hB
  rw [ht] at hP1
  have hK1 := va_K.moved hvm.symm hK1
  obtain ⟨hPm, jxm⟩ := lg_step hPm jxm hk1 hD1
  obtain ⟨hPo, jxo⟩ := lg_step hPo jxo hk1 hD1
  have hD1 := hD1.weaken (fun _ _ _ h9 => hFc _ h9)
  clear hPx hDx hKx hFc hk1 hz1 hfs589
  have hIX := hI1; have hPx := hP1; have hDx := hD1; have hKx := hK1; clear hI1 hP1 hD1 hK1
  clear ht; generalize H1 = H at hPx hPm hPo hS ⊢
  refine lv_pop hx hb dL_law_592 rfl ?_
  refine lv_aload_n hx hb dL_law_593 rfl (lv_at hl 2 rfl) ?_
  have hFc := lg_free hDm hS hA
  obtain ⟨fs594, hfs594⟩ := im_recv hIM
  refine va_calli (va_runV (As := []) (rest := []) ⟨hx, hb, hml, hown, hts⟩ (k_X8_round l dC dI H.size mo tp vm vn wm tm hIM ) (cwV 0 hts gd_X8_round rfl rfl rfl (by decide +kernel) ⟨Nat.le_of_ble_eq_true rfl, Nat.le_of_ble_eq_true rfl⟩) ⟨ax_blind (fun _ _ _ _ _ => trivial), va_recv hKm hPm (ci := 8) (q0 := 0) rfl hfs594, ax_preE hPm hKm hDm (fun _ _ _ => trivial)⟩ rfl rfl hl.1 rfl (lv_room (Nat.le_of_ble_eq_true rfl)) dL_law_594 ⟨hcc, hss⟩) hS (fun q _ h => hFc q h) hFc (fun r594 u t H1 locs ht hvm hw594 hB hz1 hk1 hS => ?_)
  obtain ⟨wmn, tmn, ⟨vm1, vn1, km1, km2, q4m, hI1⟩, hP1, hK1, hD1⟩ := hB
  rw [ht] at hP1
  have hK1 := va_K.moved hvm.symm hK1
  obtain ⟨hPx, jmx⟩ := lg_step hPx (dj_symm jxm) hk1 hD1
  have jxm := dj_symm jmx
  obtain ⟨hPo, jmo⟩ := lg_step hPo jmo hk1 hD1
  have hD1 := hD1.weaken (fun _ _ _ h9 => hFc _ h9)
  clear hPm hDm hKm hFc hk1 hz1 hfs594
  have hIM := hI1; have hPm := hP1; have hDm := hD1; have hKm := hK1; clear hI1 hP1 hD1 hK1
  clear ht; generalize H1 = H at hPx hPm hPo hS ⊢
  refine lv_pop hx hb dL_law_597 rfl ?_
  refine lv_goto (tgt := 1941) hx hb dL_law_598 (by decide) ?_
  have hWn : lr_5 vi1 vm1 := l5_no q4x q4m
  have hRn : lr_R tp vi1 vf1 vm1 vn1 := ⟨by rw [kx2 0 (by decide), km2 0 (by decide)]; exact hR.1, lr_keep (fun k9 h9 => kx1 k9 (kp_dis (by decide) h9)) (fun k9 h9 => kx2 k9 (kp_dis (by decide) h9)) (fun k9 h9 => km1 k9 (kp_dis (by decide) h9)) (fun k9 h9 => km2 k9 (kp_dis (by decide) h9)) hR.2⟩
  have hRn := And.intro hRn hWn
  exact kk _ _ _ _ _ (Nat.le_add_right _ _) (Nat.le_add_right _ _) ⟨tp, _, _, _, _, _, _, _, _, _, hIX, hIM, hRn, hKx, hKm, hPx, hPm, hPo, hDx, hDm, hDo, jxm, jxo, jmo⟩ hS (lv_sub hl [0, 1, 2, 3, 4] rfl)

set_option maxHeartbeats 4000000 in
set_option maxRecDepth 100000 in
theorem lc_13 {p : Program} {l : Launch} {e : Env} {s : State} {m : MethodId} {below : List Frame} {meth : Method} {c : Code} {b L : Nat} {xs : Nat → Int32} {A : Nat → Prop} {dC : Nat → ClassId} {dI : Nat → Nat → Nat} (hl0 : l.stackTraces = false) (hL : L ≤ 3072) (hA : ∀ q, s.heap.size ≤ q → A q) (hA2 : ∀ q, A q → s.heap.size ≤ q) (C0 : lw_At p s m meth c b L xs) (sd : Nat → Nat) (sa : Nat) (hE : lg_E A sd sa s) (x mo oa : Nat) (ko : ClassId) (hKo : va_K (dC, dI) vwCl [(ko, .long)] s) (i : Int32) (hi0 : (0 : Int) ≤ i.toInt) (hi6 : i.toInt + 6 ≤ (L : Int)) {H : Heap} {locs : List Loc} {cells slots : Nat} (hc9 : cells + 1 ≤ 601024) (hs9 : slots + 6 ≤ 7293034) (hG : lg_S dC dI A s x mo oa ko H) (hS : va_S A s.heap H locs) {ls : Array Slot} (hl : lv_has ls 7 [(4, .int i), (3, .ref oa), (2, .ref mo), (1, .ref x), (0, .ref b)])
    (kk : ∀ (H : Heap) (locs : List Loc) (ls : Array Slot) (k9 n9 : Nat), k9 ≤ cells + 1 → n9 ≤ slots + 6 → lg_S dC dI A s x mo oa ko H → va_S A s.heap H locs → lv_has ls 7 [(4, .int i), (3, .ref oa), (2, .ref mo), (1, .ref x), (0, .ref b)] → W p l e room_1 s m #[Value.ref b] below meth c H locs k9 n9 (lw_Z below #[Value.ref b] s) (F0 m 1941 ls [])) : W p l e room_1 s m #[Value.ref b] below meth c H locs cells slots (lw_Z below #[Value.ref b] s) (F0 m 601 ls []) := by
  obtain ⟨hx, hb, hr, hml, hown0, htl, hX, hbl, hlocks, hgv⟩ := id C0
  have hown : s.vm.findClass RL = some m.cls := hown0
  have hts : ∀ w ∈ wlT, w.before #[Value.ref b] s = true := fun w h => htl w (wlT_in w h)
  have hbA : ¬ A b := fun h => absurd (hA2 b h) (Nat.not_le.mpr hbl)
  obtain ⟨tp, wx, wm, tx, tm, fo, vi, vf, vm, vn, hIX, hIM, ⟨hR, hW⟩, hKx, hKm, hPx, hPm, hPo, hDx, hDm, hDo, jxm, jxo, jmo⟩ := hG
  have hiM : i.toInt ≤ (3066 : Int) := by omega
  have hcc : cells ≤ 601024 := by omega
  have hss : slots ≤ 7293034 := by omega
  have htpb := ix_tp hIX
  refine lv_aload_n hx hb dL_law_601 rfl (lv_at hl 3 rfl) ?_
  have hFc := lg_free hDx hS hA
  obtain ⟨fs602, hfs602⟩ := ix_recv hIX
  refine va_calli (va_runV (As := []) (rest := []) ⟨hx, hb, hml, hown, hts⟩ (k_X7_called l dC dI H.size x tp vi vf wx tx hIX ) (cwV 0 hts gd_X7_called rfl rfl rfl (by decide +kernel) ⟨Nat.le_of_ble_eq_true rfl, Nat.le_of_ble_eq_true rfl⟩) ⟨ax_blind (fun _ _ _ _ _ => trivial), va_recv hKx hPx (ci := 7) (q0 := 0) rfl hfs602, ax_preE hPx hKx hDx (fun _ _ _ => trivial)⟩ rfl rfl hl.1 rfl (lv_room (Nat.le_of_ble_eq_true rfl)) dL_law_602 ⟨hcc, hss⟩) hS (fun q _ h => hFc q h) hFc (fun r602 u t H1 locs ht hvm hw602 hB hz1 hk1 hS => ?_)
  obtain ⟨wxn, txn, ⟨vi1, vf1, kx1, kx2, q4x, hI1⟩, hP1, hK1, hD1⟩ := hB
  rw [ht] at hP1
  have hK1 := va_K.moved hvm.symm hK1
  obtain ⟨hPm, jxm⟩ := lg_step hPm jxm hk1 hD1
  obtain ⟨hPo, jxo⟩ := lg_step hPo jxo hk1 hD1
  have hD1 := hD1.weaken (fun _ _ _ h9 => hFc _ h9)
  clear hPx hDx hKx hFc hk1 hz1 hfs602
  have hIX := hI1; have hPx := hP1; have hDx := hD1; have hKx := hK1; clear hI1 hP1 hD1 hK1
  clear ht; generalize H1 = H at hPx hPm hPo hS ⊢
  refine lv_pop hx hb dL_law_605 rfl ?_
  refine lv_aload_n hx hb dL_law_606 rfl (lv_at hl 2 rfl) ?_
  have hFc := lg_free hDm hS hA
  obtain ⟨fs607, hfs607⟩ := im_recv hIM
  refine va_calli (va_runV (As := []) (rest := []) ⟨hx, hb, hml, hown, hts⟩ (k_X8_called l dC dI H.size mo tp vm vn wm tm hIM ) (cwV 0 hts gd_X8_called rfl rfl rfl (by decide +kernel) ⟨Nat.le_of_ble_eq_true rfl, Nat.le_of_ble_eq_true rfl⟩) ⟨ax_blind (fun _ _ _ _ _ => trivial), va_recv hKm hPm (ci := 8) (q0 := 0) rfl hfs607, ax_preE hPm hKm hDm (fun _ _ _ => trivial)⟩ rfl rfl hl.1 rfl (lv_room (Nat.le_of_ble_eq_true rfl)) dL_law_607 ⟨hcc, hss⟩) hS (fun q _ h => hFc q h) hFc (fun r607 u t H1 locs ht hvm hw607 hB hz1 hk1 hS => ?_)
  obtain ⟨wmn, tmn, ⟨vm1, vn1, km1, km2, q4m, hI1⟩, hP1, hK1, hD1⟩ := hB
  rw [ht] at hP1
  have hK1 := va_K.moved hvm.symm hK1
  obtain ⟨hPx, jmx⟩ := lg_step hPx (dj_symm jxm) hk1 hD1
  have jxm := dj_symm jmx
  obtain ⟨hPo, jmo⟩ := lg_step hPo jmo hk1 hD1
  have hD1 := hD1.weaken (fun _ _ _ h9 => hFc _ h9)
  clear hPm hDm hKm hFc hk1 hz1 hfs607
  have hIM := hI1; have hPm := hP1; have hDm := hD1; have hKm := hK1; clear hI1 hP1 hD1 hK1
  clear ht; generalize H1 = H at hPx hPm hPo hS ⊢
  refine lv_pop hx hb dL_law_610 rfl ?_
  refine lv_goto (tgt := 1941) hx hb dL_law_611 (by decide) ?_
  have hWn : lr_5 vi1 vm1 := l5_no q4x q4m
  have hRn : lr_R tp vi1 vf1 vm1 vn1 := ⟨by rw [kx2 0 (by decide), km2 0 (by decide)]; exact hR.1, lr_keep (fun k9 h9 => kx1 k9 (kp_dis (by decide) h9)) (fun k9 h9 => kx2 k9 (kp_dis (by decide) h9)) (fun k9 h9 => km1 k9 (kp_dis (by decide) h9)) (fun k9 h9 => km2 k9 (kp_dis (by decide) h9)) hR.2⟩
  have hRn := And.intro hRn hWn
  exact kk _ _ _ _ _ (Nat.le_add_right _ _) (Nat.le_add_right _ _) ⟨tp, _, _, _, _, _, _, _, _, _, hIX, hIM, hRn, hKx, hKm, hPx, hPm, hPo, hDx, hDm, hDo, jxm, jxo, jmo⟩ hS (lv_sub hl [0, 1, 2, 3, 4] rfl)

set_option maxHeartbeats 4000000 in
set_option maxRecDepth 100000 in
theorem lc_14 {p : Program} {l : Launch} {e : Env} {s : State} {m : MethodId} {below : List Frame} {meth : Method} {c : Code} {b L : Nat} {xs : Nat → Int32} {A : Nat → Prop} {dC : Nat → ClassId} {dI : Nat → Nat → Nat} (hl0 : l.stackTraces = false) (hL : L ≤ 3072) (hA : ∀ q, s.heap.size ≤ q → A q) (hA2 : ∀ q, A q → s.heap.size ≤ q) (C0 : lw_At p s m meth c b L xs) (sd : Nat → Nat) (sa : Nat) (hE : lg_E A sd sa s) (x mo oa : Nat) (ko : ClassId) (hKo : va_K (dC, dI) vwCl [(ko, .long)] s) (i : Int32) (hi0 : (0 : Int) ≤ i.toInt) (hi6 : i.toInt + 6 ≤ (L : Int)) {H : Heap} {locs : List Loc} {cells slots : Nat} (hc9 : cells + 1 ≤ 601024) (hs9 : slots + 6 ≤ 7293034) (hG : lg_S dC dI A s x mo oa ko H) (hS : va_S A s.heap H locs) {ls : Array Slot} (hl : lv_has ls 7 [(4, .int i), (3, .ref oa), (2, .ref mo), (1, .ref x), (0, .ref b)])
    (kk : ∀ (H : Heap) (locs : List Loc) (ls : Array Slot) (k9 n9 : Nat), k9 ≤ cells + 1 → n9 ≤ slots + 6 → lg_S dC dI A s x mo oa ko H → va_S A s.heap H locs → lv_has ls 7 [(4, .int i), (3, .ref oa), (2, .ref mo), (1, .ref x), (0, .ref b)] → W p l e room_1 s m #[Value.ref b] below meth c H locs k9 n9 (lw_Z below #[Value.ref b] s) (F0 m 1941 ls [])) : W p l e room_1 s m #[Value.ref b] below meth c H locs cells slots (lw_Z below #[Value.ref b] s) (F0 m 614 ls []) := by
  obtain ⟨hx, hb, hr, hml, hown0, htl, hX, hbl, hlocks, hgv⟩ := id C0
  have hown : s.vm.findClass RL = some m.cls := hown0
  have hts : ∀ w ∈ wlT, w.before #[Value.ref b] s = true := fun w h => htl w (wlT_in w h)
  have hbA : ¬ A b := fun h => absurd (hA2 b h) (Nat.not_le.mpr hbl)
  obtain ⟨tp, wx, wm, tx, tm, fo, vi, vf, vm, vn, hIX, hIM, ⟨hR, hW⟩, hKx, hKm, hPx, hPm, hPo, hDx, hDm, hDo, jxm, jxo, jmo⟩ := hG
  have hiM : i.toInt ≤ (3066 : Int) := by omega
  have hcc : cells ≤ 601024 := by omega
  have hss : slots ≤ 7293034 := by omega
  have htpb := ix_tp hIX
  refine lv_aload_n hx hb dL_law_614 rfl (lv_at hl 3 rfl) ?_
  refine lv_aload_n hx hb dL_law_615 rfl (lv_at hl 4 rfl) ?_
  refine lv_iload hx hb dL_law_616 (lv_at hl 0 rfl) ?_
  refine lv_iconst (v := 1) hx hb dL_law_618 zk_iconst_1 ?_
  refine lv_iadd hx hb dL_law_619 ?_
  refine lv_topi (fun ix1 eix1 => ?_)
  have qix1 : ix1.toInt = i.toInt + 1 := ai_add eix1 ⟨hi0, hiM⟩ ⟨zq1, zq0⟩ (by decide) (by decide)
  refine va_sld (L := L) (i := ix1) hx hb hX hbl hbA hS (vp_in_iff.mpr ⟨by omega, by omega⟩) dL_law_620 ?_
  refine lv_topi (fun vix1 evix1 => ?_)
  refine lv_aload_n hx hb dL_law_621 rfl (lv_at hl 4 rfl) ?_
  refine lv_iload hx hb dL_law_622 (lv_at hl 0 rfl) ?_
  refine lv_iconst (v := 2) hx hb dL_law_624 zk_iconst_2 ?_
  refine lv_iadd hx hb dL_law_625 ?_
  refine lv_topi (fun ix2 eix2 => ?_)
  have qix2 : ix2.toInt = i.toInt + 2 := ai_add eix2 ⟨hi0, hiM⟩ ⟨zq12, zq13⟩ (by decide) (by decide)
  refine va_sld (L := L) (i := ix2) hx hb hX hbl hbA hS (vp_in_iff.mpr ⟨by omega, by omega⟩) dL_law_626 ?_
  refine lv_topi (fun vix2 evix2 => ?_)
  have hFc := lg_free hDx hS hA
  obtain ⟨fs627, hfs627⟩ := ix_recv hIX
  refine va_calli (va_runV (As := [.int vix1, .int vix2]) (rest := []) ⟨hx, hb, hml, hown, hts⟩ (k_X7_minutesOf l dC dI H.size x tp vi vf wx tx hIX vix1 vix2) (cwV 2 hts gd_X7_minutesOf rfl rfl rfl (by decide +kernel) ⟨Nat.le_of_ble_eq_true rfl, Nat.le_of_ble_eq_true rfl⟩) ⟨ax_blind (fun _ _ _ _ _ => trivial), va_recv hKx hPx (ci := 7) (q0 := 0) rfl hfs627, ax_preE hPx hKx hDx (fun _ _ _ => trivial)⟩ rfl rfl hl.1 rfl (lv_room (Nat.le_of_ble_eq_true rfl)) dL_law_627 ⟨hcc, hss⟩) hS (fun q _ h => hFc q h) hFc (fun r627 u t H1 locs ht hvm hw627 hB hz1 hk1 hS => ?_)
  obtain ⟨wxn, txn, ⟨vi1, vf1, kx1, kx2, q4x, hI1⟩, hP1, hK1, hD1⟩ := hB
  rw [ht] at hP1
  have hK1 := va_K.moved hvm.symm hK1
  obtain ⟨hPm, jxm⟩ := lg_step hPm jxm hk1 hD1
  obtain ⟨hPo, jxo⟩ := lg_step hPo jxo hk1 hD1
  have hD1 := hD1.weaken (fun _ _ _ h9 => hFc _ h9)
  clear hPx hDx hKx hFc hk1 hz1 hfs627
  have hIX := hI1; have hPx := hP1; have hDx := hD1; have hKx := hK1; clear hI1 hP1 hD1 hK1
  clear ht; generalize H1 = H at hPx hPm hPo hS ⊢
  refine lv_pop hx hb dL_law_630 rfl ?_
  refine lv_aload_n hx hb dL_law_631 rfl (lv_at hl 2 rfl) ?_
  refine lv_aload_n hx hb dL_law_632 rfl (lv_at hl 4 rfl) ?_
  refine lv_iload hx hb dL_law_633 (lv_at hl 0 rfl) ?_
  refine lv_iconst (v := 1) hx hb dL_law_635 zk_iconst_1 ?_
  refine lv_iadd hx hb dL_law_636 ?_
  refine ax_ti ix1 eix1.symm ?_
  refine va_sld (L := L) (i := ix1) hx hb hX hbl hbA hS (vp_in_iff.mpr ⟨by omega, by omega⟩) dL_law_637 ?_
  refine ax_ti vix1 evix1.symm ?_
  refine lv_aload_n hx hb dL_law_638 rfl (lv_at hl 4 rfl) ?_
  refine lv_iload hx hb dL_law_639 (lv_at hl 0 rfl) ?_
  refine lv_iconst (v := 2) hx hb dL_law_641 zk_iconst_2 ?_
  refine lv_iadd hx hb dL_law_642 ?_
  refine ax_ti ix2 eix2.symm ?_
  refine va_sld (L := L) (i := ix2) hx hb hX hbl hbA hS (vp_in_iff.mpr ⟨by omega, by omega⟩) dL_law_643 ?_
  refine ax_ti vix2 evix2.symm ?_
  have hFc := lg_free hDm hS hA
  obtain ⟨fs644, hfs644⟩ := im_recv hIM
  refine va_calli (va_runV (As := [.int vix1, .int vix2]) (rest := []) ⟨hx, hb, hml, hown, hts⟩ (k_X8_minutesOf l dC dI H.size mo tp vm vn wm tm hIM vix1 vix2) (cwV 2 hts gd_X8_minutesOf rfl rfl rfl (by decide +kernel) ⟨Nat.le_of_ble_eq_true rfl, Nat.le_of_ble_eq_true rfl⟩) ⟨ax_blind (fun _ _ _ _ _ => trivial), va_recv hKm hPm (ci := 8) (q0 := 0) rfl hfs644, ax_preE hPm hKm hDm (fun _ _ _ => trivial)⟩ rfl rfl hl.1 rfl (lv_room (Nat.le_of_ble_eq_true rfl)) dL_law_644 ⟨hcc, hss⟩) hS (fun q _ h => hFc q h) hFc (fun r644 u t H1 locs ht hvm hw644 hB hz1 hk1 hS => ?_)
  obtain ⟨wmn, tmn, ⟨vm1, vn1, km1, km2, q4m, hI1⟩, hP1, hK1, hD1⟩ := hB
  rw [ht] at hP1
  have hK1 := va_K.moved hvm.symm hK1
  obtain ⟨hPx, jmx⟩ := lg_step hPx (dj_symm jxm) hk1 hD1
  have jxm := dj_symm jmx
  obtain ⟨hPo, jmo⟩ := lg_step hPo jmo hk1 hD1
  have hD1 := hD1.weaken (fun _ _ _ h9 => hFc _ h9)
  clear hPm hDm hKm hFc hk1 hz1 hfs644
  have hIM := hI1; have hPm := hP1; have hDm := hD1; have hKm := hK1; clear hI1 hP1 hD1 hK1
  clear ht; generalize H1 = H at hPx hPm hPo hS ⊢
  refine lv_pop hx hb dL_law_647 rfl ?_
  refine lv_goto (tgt := 1941) hx hb dL_law_648 (by decide) ?_
  have hWn : lr_5 vi1 vm1 := l5_no q4x q4m
  have hRn : lr_R tp vi1 vf1 vm1 vn1 := ⟨by rw [kx2 0 (by decide), km2 0 (by decide)]; exact hR.1, lr_keep (fun k9 h9 => kx1 k9 (kp_dis (by decide) h9)) (fun k9 h9 => kx2 k9 (kp_dis (by decide) h9)) (fun k9 h9 => km1 k9 (kp_dis (by decide) h9)) (fun k9 h9 => km2 k9 (kp_dis (by decide) h9)) hR.2⟩
  have hRn := And.intro hRn hWn
  exact kk _ _ _ _ _ (Nat.le_add_right _ _) (Nat.le_add_right _ _) ⟨tp, _, _, _, _, _, _, _, _, _, hIX, hIM, hRn, hKx, hKm, hPx, hPm, hPo, hDx, hDm, hDo, jxm, jxo, jmo⟩ hS (lv_sub hl [0, 1, 2, 3, 4] rfl)
end P443_cases_0
section P443_cases_1
set_option maxHeartbeats 4000000 in
set_option maxRecDepth 100000 in
theorem lc_15 {p : Program} {l : Launch} {e : Env} {s : State} {m : MethodId} {below : List Frame} {meth : Method} {c : Code} {b L : Nat} {xs : Nat → Int32} {A : Nat → Prop} {dC : Nat → ClassId} {dI : Nat → Nat → Nat} (hl0 : l.stackTraces = false) (hL : L ≤ 3072) (hA : ∀ q, s.heap.size ≤ q → A q) (hA2 : ∀ q, A q → s.heap.size ≤ q) (C0 : lw_At p s m meth c b L xs) (sd : Nat → Nat) (sa : Nat) (hE : lg_E A sd sa s) (x mo oa : Nat) (ko : ClassId) (hKo : va_K (dC, dI) vwCl [(ko, .long)] s) (i : Int32) (hi0 : (0 : Int) ≤ i.toInt) (hi6 : i.toInt + 6 ≤ (L : Int)) {H : Heap} {locs : List Loc} {cells slots : Nat} (hc9 : cells + 1 ≤ 601024) (hs9 : slots + 6 ≤ 7293034) (hG : lg_S dC dI A s x mo oa ko H) (hS : va_S A s.heap H locs) {ls : Array Slot} (hl : lv_has ls 7 [(4, .int i), (3, .ref oa), (2, .ref mo), (1, .ref x), (0, .ref b)])
    (kk : ∀ (H : Heap) (locs : List Loc) (ls : Array Slot) (k9 n9 : Nat), k9 ≤ cells + 1 → n9 ≤ slots + 6 → lg_S dC dI A s x mo oa ko H → va_S A s.heap H locs → lv_has ls 7 [(4, .int i), (3, .ref oa), (2, .ref mo), (1, .ref x), (0, .ref b)] → W p l e room_1 s m #[Value.ref b] below meth c H locs k9 n9 (lw_Z below #[Value.ref b] s) (F0 m 1941 ls [])) : W p l e room_1 s m #[Value.ref b] below meth c H locs cells slots (lw_Z below #[Value.ref b] s) (F0 m 651 ls []) := by
  obtain ⟨hx, hb, hr, hml, hown0, htl, hX, hbl, hlocks, hgv⟩ := id C0
  have hown : s.vm.findClass RL = some m.cls := hown0
  have hts : ∀ w ∈ wlT, w.before #[Value.ref b] s = true := fun w h => htl w (wlT_in w h)
  have hbA : ¬ A b := fun h => absurd (hA2 b h) (Nat.not_le.mpr hbl)
  obtain ⟨tp, wx, wm, tx, tm, fo, vi, vf, vm, vn, hIX, hIM, ⟨hR, hW⟩, hKx, hKm, hPx, hPm, hPo, hDx, hDm, hDo, jxm, jxo, jmo⟩ := hG
  have hiM : i.toInt ≤ (3066 : Int) := by omega
  have hcc : cells ≤ 601024 := by omega
  have hss : slots ≤ 7293034 := by omega
  have htpb := ix_tp hIX
  refine lv_aload_n hx hb dL_law_651 rfl (lv_at hl 3 rfl) ?_
  refine lv_aload_n hx hb dL_law_652 rfl (lv_at hl 4 rfl) ?_
  refine lv_iload hx hb dL_law_653 (lv_at hl 0 rfl) ?_
  refine lv_iconst (v := 1) hx hb dL_law_655 zk_iconst_1 ?_
  refine lv_iadd hx hb dL_law_656 ?_
  refine lv_topi (fun ix1 eix1 => ?_)
  have qix1 : ix1.toInt = i.toInt + 1 := ai_add eix1 ⟨hi0, hiM⟩ ⟨zq1, zq0⟩ (by decide) (by decide)
  refine va_sld (L := L) (i := ix1) hx hb hX hbl hbA hS (vp_in_iff.mpr ⟨by omega, by omega⟩) dL_law_657 ?_
  refine lv_topi (fun vix1 evix1 => ?_)
  refine lv_aload_n hx hb dL_law_658 rfl (lv_at hl 4 rfl) ?_
  refine lv_iload hx hb dL_law_659 (lv_at hl 0 rfl) ?_
  refine lv_iconst (v := 2) hx hb dL_law_661 zk_iconst_2 ?_
  refine lv_iadd hx hb dL_law_662 ?_
  refine lv_topi (fun ix2 eix2 => ?_)
  have qix2 : ix2.toInt = i.toInt + 2 := ai_add eix2 ⟨hi0, hiM⟩ ⟨zq12, zq13⟩ (by decide) (by decide)
  refine va_sld (L := L) (i := ix2) hx hb hX hbl hbA hS (vp_in_iff.mpr ⟨by omega, by omega⟩) dL_law_663 ?_
  refine lv_topi (fun vix2 evix2 => ?_)
  have hFc := lg_free hDx hS hA
  obtain ⟨fs664, hfs664⟩ := ix_recv hIX
  refine va_calli (va_runV (As := [.int vix1, .int vix2]) (rest := []) ⟨hx, hb, hml, hown, hts⟩ (k_X7_place l dC dI H.size x tp vi vf wx tx hIX vix1 vix2) (cwV 2 hts gd_X7_place rfl rfl rfl (by decide +kernel) ⟨Nat.le_of_ble_eq_true rfl, Nat.le_of_ble_eq_true rfl⟩) ⟨ax_blind (fun _ _ _ _ hq => ⟨va_Nw.same rfl rfl (hq.1), va_Nw.same rfl rfl (hq.2.1), va_Nw.same rfl rfl (hq.2.2)⟩), va_recv hKx hPx (ci := 7) (q0 := 0) rfl hfs664, ax_preE hPx hKx hDx (fun U hU hW => ⟨va_Nw.warmM hW (hE.2.2.2.1), va_Nw.warmM hW (hE.2.2.1), va_Nw.warmM hW (hE.2.2.2.2.1)⟩)⟩ rfl rfl hl.1 rfl (lv_room (Nat.le_of_ble_eq_true rfl)) dL_law_664 ⟨hcc, hss⟩) hS (fun q _ h => hFc q h) hFc (fun r664 u t H1 locs ht hvm hw664 hB hz1 hk1 hS => ?_)
  obtain ⟨wxn, txn, ⟨vi1, vf1, kx1, kx2, q4x, hI1⟩, hP1, hK1, hD1⟩ := hB
  rw [ht] at hP1
  have hK1 := va_K.moved hvm.symm hK1
  obtain ⟨hPm, jxm⟩ := lg_step hPm jxm hk1 hD1
  obtain ⟨hPo, jxo⟩ := lg_step hPo jxo hk1 hD1
  have hD1 := hD1.weaken (fun _ _ _ h9 => hFc _ h9)
  clear hPx hDx hKx hFc hk1 hz1 hfs664
  have hIX := hI1; have hPx := hP1; have hDx := hD1; have hKx := hK1; clear hI1 hP1 hD1 hK1
  clear ht; generalize H1 = H at hPx hPm hPo hS ⊢
  refine lv_pop hx hb dL_law_667 rfl ?_
  refine lv_aload_n hx hb dL_law_668 rfl (lv_at hl 2 rfl) ?_
  refine lv_aload_n hx hb dL_law_669 rfl (lv_at hl 4 rfl) ?_
  refine lv_iload hx hb dL_law_670 (lv_at hl 0 rfl) ?_
  refine lv_iconst (v := 1) hx hb dL_law_672 zk_iconst_1 ?_
  refine lv_iadd hx hb dL_law_673 ?_
  refine ax_ti ix1 eix1.symm ?_
  refine va_sld (L := L) (i := ix1) hx hb hX hbl hbA hS (vp_in_iff.mpr ⟨by omega, by omega⟩) dL_law_674 ?_
  refine ax_ti vix1 evix1.symm ?_
  refine lv_aload_n hx hb dL_law_675 rfl (lv_at hl 4 rfl) ?_
  refine lv_iload hx hb dL_law_676 (lv_at hl 0 rfl) ?_
  refine lv_iconst (v := 2) hx hb dL_law_678 zk_iconst_2 ?_
  refine lv_iadd hx hb dL_law_679 ?_
  refine ax_ti ix2 eix2.symm ?_
  refine va_sld (L := L) (i := ix2) hx hb hX hbl hbA hS (vp_in_iff.mpr ⟨by omega, by omega⟩) dL_law_680 ?_
  refine ax_ti vix2 evix2.symm ?_
  have hFc := lg_free hDm hS hA
  obtain ⟨fs681, hfs681⟩ := im_recv hIM
  refine va_calli (va_runV (As := [.int vix1, .int vix2]) (rest := []) ⟨hx, hb, hml, hown, hts⟩ (k_X8_place l dC dI H.size mo tp vm vn wm tm hIM vix1 vix2) (cwV 2 hts gd_X8_place rfl rfl rfl (by decide +kernel) ⟨Nat.le_of_ble_eq_true rfl, Nat.le_of_ble_eq_true rfl⟩) ⟨ax_blind (fun _ _ _ _ _ => trivial), va_recv hKm hPm (ci := 8) (q0 := 0) rfl hfs681, ax_preE hPm hKm hDm (fun _ _ _ => trivial)⟩ rfl rfl hl.1 rfl (lv_room (Nat.le_of_ble_eq_true rfl)) dL_law_681 ⟨hcc, hss⟩) hS (fun q _ h => hFc q h) hFc (fun r681 u t H1 locs ht hvm hw681 hB hz1 hk1 hS => ?_)
  obtain ⟨wmn, tmn, ⟨vm1, vn1, km1, km2, q4m, hI1⟩, hP1, hK1, hD1⟩ := hB
  rw [ht] at hP1
  have hK1 := va_K.moved hvm.symm hK1
  obtain ⟨hPx, jmx⟩ := lg_step hPx (dj_symm jxm) hk1 hD1
  have jxm := dj_symm jmx
  obtain ⟨hPo, jmo⟩ := lg_step hPo jmo hk1 hD1
  have hD1 := hD1.weaken (fun _ _ _ h9 => hFc _ h9)
  clear hPm hDm hKm hFc hk1 hz1 hfs681
  have hIM := hI1; have hPm := hP1; have hDm := hD1; have hKm := hK1; clear hI1 hP1 hD1 hK1
  clear ht; generalize H1 = H at hPx hPm hPo hS ⊢
  refine lv_pop hx hb dL_law_684 rfl ?_
  refine lv_goto (tgt := 1941) hx hb dL_law_685 (by decide) ?_
  have hWn : lr_5 vi1 vm1 := l5_no q4x q4m
  have hRn : lr_R tp vi1 vf1 vm1 vn1 := ⟨by rw [kx2 0 (by decide), km2 0 (by decide)]; exact hR.1, lr_keep (fun k9 h9 => kx1 k9 (kp_dis (by decide) h9)) (fun k9 h9 => kx2 k9 (kp_dis (by decide) h9)) (fun k9 h9 => km1 k9 (kp_dis (by decide) h9)) (fun k9 h9 => km2 k9 (kp_dis (by decide) h9)) hR.2⟩
  have hRn := And.intro hRn hWn
  exact kk _ _ _ _ _ (Nat.le_add_right _ _) (Nat.le_add_right _ _) ⟨tp, _, _, _, _, _, _, _, _, _, hIX, hIM, hRn, hKx, hKm, hPx, hPm, hPo, hDx, hDm, hDo, jxm, jxo, jmo⟩ hS (lv_sub hl [0, 1, 2, 3, 4] rfl)

set_option maxHeartbeats 4000000 in
set_option maxRecDepth 100000 in
theorem lc_16 {p : Program} {l : Launch} {e : Env} {s : State} {m : MethodId} {below : List Frame} {meth : Method} {c : Code} {b L : Nat} {xs : Nat → Int32} {A : Nat → Prop} {dC : Nat → ClassId} {dI : Nat → Nat → Nat} (hl0 : l.stackTraces = false) (hL : L ≤ 3072) (hA : ∀ q, s.heap.size ≤ q → A q) (hA2 : ∀ q, A q → s.heap.size ≤ q) (C0 : lw_At p s m meth c b L xs) (sd : Nat → Nat) (sa : Nat) (hE : lg_E A sd sa s) (x mo oa : Nat) (ko : ClassId) (hKo : va_K (dC, dI) vwCl [(ko, .long)] s) (i : Int32) (hi0 : (0 : Int) ≤ i.toInt) (hi6 : i.toInt + 6 ≤ (L : Int)) {H : Heap} {locs : List Loc} {cells slots : Nat} (hc9 : cells + 1 ≤ 601024) (hs9 : slots + 6 ≤ 7293034) (hG : lg_S dC dI A s x mo oa ko H) (hS : va_S A s.heap H locs) {ls : Array Slot} (hl : lv_has ls 7 [(4, .int i), (3, .ref oa), (2, .ref mo), (1, .ref x), (0, .ref b)])
    (kk : ∀ (H : Heap) (locs : List Loc) (ls : Array Slot) (k9 n9 : Nat), k9 ≤ cells + 1 → n9 ≤ slots + 6 → lg_S dC dI A s x mo oa ko H → va_S A s.heap H locs → lv_has ls 7 [(4, .int i), (3, .ref oa), (2, .ref mo), (1, .ref x), (0, .ref b)] → W p l e room_1 s m #[Value.ref b] below meth c H locs k9 n9 (lw_Z below #[Value.ref b] s) (F0 m 1941 ls [])) : W p l e room_1 s m #[Value.ref b] below meth c H locs cells slots (lw_Z below #[Value.ref b] s) (F0 m 688 ls []) := by
  obtain ⟨hx, hb, hr, hml, hown0, htl, hX, hbl, hlocks, hgv⟩ := id C0
  have hown : s.vm.findClass RL = some m.cls := hown0
  have hts : ∀ w ∈ wlT, w.before #[Value.ref b] s = true := fun w h => htl w (wlT_in w h)
  have hbA : ¬ A b := fun h => absurd (hA2 b h) (Nat.not_le.mpr hbl)
  obtain ⟨tp, wx, wm, tx, tm, fo, vi, vf, vm, vn, hIX, hIM, ⟨hR, hW⟩, hKx, hKm, hPx, hPm, hPo, hDx, hDm, hDo, jxm, jxo, jmo⟩ := hG
  have hiM : i.toInt ≤ (3066 : Int) := by omega
  have hcc : cells ≤ 601024 := by omega
  have hss : slots ≤ 7293034 := by omega
  have htpb := ix_tp hIX
  refine lv_aload_n hx hb dL_law_688 rfl (lv_at hl 3 rfl) ?_
  refine lv_aload_n hx hb dL_law_689 rfl (lv_at hl 4 rfl) ?_
  refine lv_iload hx hb dL_law_690 (lv_at hl 0 rfl) ?_
  refine lv_iconst (v := 1) hx hb dL_law_692 zk_iconst_1 ?_
  refine lv_iadd hx hb dL_law_693 ?_
  refine lv_topi (fun ix1 eix1 => ?_)
  have qix1 : ix1.toInt = i.toInt + 1 := ai_add eix1 ⟨hi0, hiM⟩ ⟨zq1, zq0⟩ (by decide) (by decide)
  refine va_sld (L := L) (i := ix1) hx hb hX hbl hbA hS (vp_in_iff.mpr ⟨by omega, by omega⟩) dL_law_694 ?_
  refine lv_topi (fun vix1 evix1 => ?_)
  refine lv_aload_n hx hb dL_law_695 rfl (lv_at hl 4 rfl) ?_
  refine lv_iload hx hb dL_law_696 (lv_at hl 0 rfl) ?_
  refine lv_iconst (v := 2) hx hb dL_law_698 zk_iconst_2 ?_
  refine lv_iadd hx hb dL_law_699 ?_
  refine lv_topi (fun ix2 eix2 => ?_)
  have qix2 : ix2.toInt = i.toInt + 2 := ai_add eix2 ⟨hi0, hiM⟩ ⟨zq12, zq13⟩ (by decide) (by decide)
  refine va_sld (L := L) (i := ix2) hx hb hX hbl hbA hS (vp_in_iff.mpr ⟨by omega, by omega⟩) dL_law_700 ?_
  refine lv_topi (fun vix2 evix2 => ?_)
  have hFc := lg_free hDx hS hA
  obtain ⟨fs701, hfs701⟩ := ix_recv hIX
  refine va_calli (va_runV (As := [.int vix1, .int vix2]) (rest := []) ⟨hx, hb, hml, hown, hts⟩ (k_X7_watch l dC dI H.size x tp vi vf wx tx hIX vix1 vix2) (cwV 2 hts gd_X7_watch rfl rfl rfl (by decide +kernel) ⟨Nat.le_of_ble_eq_true rfl, Nat.le_of_ble_eq_true rfl⟩) ⟨ax_blind (fun _ _ _ _ _ => trivial), va_recv hKx hPx (ci := 7) (q0 := 0) rfl hfs701, ax_preE hPx hKx hDx (fun _ _ _ => trivial)⟩ rfl rfl hl.1 rfl (lv_room (Nat.le_of_ble_eq_true rfl)) dL_law_701 ⟨hcc, hss⟩) hS (fun q _ h => hFc q h) hFc (fun r701 u t H1 locs ht hvm hw701 hB hz1 hk1 hS => ?_)
  obtain ⟨wxn, txn, ⟨vi1, vf1, kx1, kx2, q4x, hI1⟩, hP1, hK1, hD1⟩ := hB
  rw [ht] at hP1
  have hK1 := va_K.moved hvm.symm hK1
  obtain ⟨hPm, jxm⟩ := lg_step hPm jxm hk1 hD1
  obtain ⟨hPo, jxo⟩ := lg_step hPo jxo hk1 hD1
  have hD1 := hD1.weaken (fun _ _ _ h9 => hFc _ h9)
  clear hPx hDx hKx hFc hk1 hz1 hfs701
  have hIX := hI1; have hPx := hP1; have hDx := hD1; have hKx := hK1; clear hI1 hP1 hD1 hK1
  clear ht; generalize H1 = H at hPx hPm hPo hS ⊢
  refine lv_pop hx hb dL_law_704 rfl ?_
  refine lv_aload_n hx hb dL_law_705 rfl (lv_at hl 2 rfl) ?_
  refine lv_aload_n hx hb dL_law_706 rfl (lv_at hl 4 rfl) ?_
  refine lv_iload hx hb dL_law_707 (lv_at hl 0 rfl) ?_
  refine lv_iconst (v := 1) hx hb dL_law_709 zk_iconst_1 ?_
  refine lv_iadd hx hb dL_law_710 ?_
  refine ax_ti ix1 eix1.symm ?_
  refine va_sld (L := L) (i := ix1) hx hb hX hbl hbA hS (vp_in_iff.mpr ⟨by omega, by omega⟩) dL_law_711 ?_
  refine ax_ti vix1 evix1.symm ?_
  refine lv_aload_n hx hb dL_law_712 rfl (lv_at hl 4 rfl) ?_
  refine lv_iload hx hb dL_law_713 (lv_at hl 0 rfl) ?_
  refine lv_iconst (v := 2) hx hb dL_law_715 zk_iconst_2 ?_
  refine lv_iadd hx hb dL_law_716 ?_
  refine ax_ti ix2 eix2.symm ?_
  refine va_sld (L := L) (i := ix2) hx hb hX hbl hbA hS (vp_in_iff.mpr ⟨by omega, by omega⟩) dL_law_717 ?_
  refine ax_ti vix2 evix2.symm ?_
  have hFc := lg_free hDm hS hA
  obtain ⟨fs718, hfs718⟩ := im_recv hIM
  refine va_calli (va_runV (As := [.int vix1, .int vix2]) (rest := []) ⟨hx, hb, hml, hown, hts⟩ (k_X8_watch l dC dI H.size mo tp vm vn wm tm hIM vix1 vix2) (cwV 2 hts gd_X8_watch rfl rfl rfl (by decide +kernel) ⟨Nat.le_of_ble_eq_true rfl, Nat.le_of_ble_eq_true rfl⟩) ⟨ax_blind (fun _ _ _ _ _ => trivial), va_recv hKm hPm (ci := 8) (q0 := 0) rfl hfs718, ax_preE hPm hKm hDm (fun _ _ _ => trivial)⟩ rfl rfl hl.1 rfl (lv_room (Nat.le_of_ble_eq_true rfl)) dL_law_718 ⟨hcc, hss⟩) hS (fun q _ h => hFc q h) hFc (fun r718 u t H1 locs ht hvm hw718 hB hz1 hk1 hS => ?_)
  obtain ⟨wmn, tmn, ⟨vm1, vn1, km1, km2, q4m, hI1⟩, hP1, hK1, hD1⟩ := hB
  rw [ht] at hP1
  have hK1 := va_K.moved hvm.symm hK1
  obtain ⟨hPx, jmx⟩ := lg_step hPx (dj_symm jxm) hk1 hD1
  have jxm := dj_symm jmx
  obtain ⟨hPo, jmo⟩ := lg_step hPo jmo hk1 hD1
  have hD1 := hD1.weaken (fun _ _ _ h9 => hFc _ h9)
  clear hPm hDm hKm hFc hk1 hz1 hfs718
  have hIM := hI1; have hPm := hP1; have hDm := hD1; have hKm := hK1; clear hI1 hP1 hD1 hK1
  clear ht; generalize H1 = H at hPx hPm hPo hS ⊢
  refine lv_pop hx hb dL_law_721 rfl ?_
  refine lv_goto (tgt := 1941) hx hb dL_law_722 (by decide) ?_
  have hWn : lr_5 vi1 vm1 := l5_no q4x q4m
  have hRn : lr_R tp vi1 vf1 vm1 vn1 := ⟨by rw [kx2 0 (by decide), km2 0 (by decide)]; exact hR.1, lr_keep (fun k9 h9 => kx1 k9 (kp_dis (by decide) h9)) (fun k9 h9 => kx2 k9 (kp_dis (by decide) h9)) (fun k9 h9 => km1 k9 (kp_dis (by decide) h9)) (fun k9 h9 => km2 k9 (kp_dis (by decide) h9)) hR.2⟩
  have hRn := And.intro hRn hWn
  exact kk _ _ _ _ _ (Nat.le_add_right _ _) (Nat.le_add_right _ _) ⟨tp, _, _, _, _, _, _, _, _, _, hIX, hIM, hRn, hKx, hKm, hPx, hPm, hPo, hDx, hDm, hDo, jxm, jxo, jmo⟩ hS (lv_sub hl [0, 1, 2, 3, 4] rfl)

set_option maxHeartbeats 4000000 in
set_option maxRecDepth 100000 in
theorem lc_17 {p : Program} {l : Launch} {e : Env} {s : State} {m : MethodId} {below : List Frame} {meth : Method} {c : Code} {b L : Nat} {xs : Nat → Int32} {A : Nat → Prop} {dC : Nat → ClassId} {dI : Nat → Nat → Nat} (hl0 : l.stackTraces = false) (hL : L ≤ 3072) (hA : ∀ q, s.heap.size ≤ q → A q) (hA2 : ∀ q, A q → s.heap.size ≤ q) (C0 : lw_At p s m meth c b L xs) (sd : Nat → Nat) (sa : Nat) (hE : lg_E A sd sa s) (x mo oa : Nat) (ko : ClassId) (hKo : va_K (dC, dI) vwCl [(ko, .long)] s) (i : Int32) (hi0 : (0 : Int) ≤ i.toInt) (hi6 : i.toInt + 6 ≤ (L : Int)) {H : Heap} {locs : List Loc} {cells slots : Nat} (hc9 : cells + 1 ≤ 601024) (hs9 : slots + 6 ≤ 7293034) (hG : lg_S dC dI A s x mo oa ko H) (hS : va_S A s.heap H locs) {ls : Array Slot} (hl : lv_has ls 7 [(4, .int i), (3, .ref oa), (2, .ref mo), (1, .ref x), (0, .ref b)])
    (kk : ∀ (H : Heap) (locs : List Loc) (ls : Array Slot) (k9 n9 : Nat), k9 ≤ cells + 1 → n9 ≤ slots + 6 → lg_S dC dI A s x mo oa ko H → va_S A s.heap H locs → lv_has ls 7 [(4, .int i), (3, .ref oa), (2, .ref mo), (1, .ref x), (0, .ref b)] → W p l e room_1 s m #[Value.ref b] below meth c H locs k9 n9 (lw_Z below #[Value.ref b] s) (F0 m 1941 ls [])) : W p l e room_1 s m #[Value.ref b] below meth c H locs cells slots (lw_Z below #[Value.ref b] s) (F0 m 725 ls []) := by
  obtain ⟨hx, hb, hr, hml, hown0, htl, hX, hbl, hlocks, hgv⟩ := id C0
  have hown : s.vm.findClass RL = some m.cls := hown0
  have hts : ∀ w ∈ wlT, w.before #[Value.ref b] s = true := fun w h => htl w (wlT_in w h)
  have hbA : ¬ A b := fun h => absurd (hA2 b h) (Nat.not_le.mpr hbl)
  obtain ⟨tp, wx, wm, tx, tm, fo, vi, vf, vm, vn, hIX, hIM, ⟨hR, hW⟩, hKx, hKm, hPx, hPm, hPo, hDx, hDm, hDo, jxm, jxo, jmo⟩ := hG
  have hiM : i.toInt ≤ (3066 : Int) := by omega
  have hcc : cells ≤ 601024 := by omega
  have hss : slots ≤ 7293034 := by omega
  have htpb := ix_tp hIX
  refine lv_aload_n hx hb dL_law_725 rfl (lv_at hl 3 rfl) ?_
  refine lv_aload_n hx hb dL_law_726 rfl (lv_at hl 4 rfl) ?_
  refine lv_iload hx hb dL_law_727 (lv_at hl 0 rfl) ?_
  refine lv_iconst (v := 1) hx hb dL_law_729 zk_iconst_1 ?_
  refine lv_iadd hx hb dL_law_730 ?_
  refine lv_topi (fun ix1 eix1 => ?_)
  have qix1 : ix1.toInt = i.toInt + 1 := ai_add eix1 ⟨hi0, hiM⟩ ⟨zq1, zq0⟩ (by decide) (by decide)
  refine va_sld (L := L) (i := ix1) hx hb hX hbl hbA hS (vp_in_iff.mpr ⟨by omega, by omega⟩) dL_law_731 ?_
  refine lv_topi (fun vix1 evix1 => ?_)
  have hFc := lg_free hDx hS hA
  obtain ⟨fs732, hfs732⟩ := ix_recv hIX
  refine va_calli (va_runV (As := [.int vix1]) (rest := []) ⟨hx, hb, hml, hown, hts⟩ (k_X7_gone l dC dI H.size x tp vi vf wx tx hIX vix1) (cwV 1 hts gd_X7_gone rfl rfl rfl (by decide +kernel) ⟨Nat.le_of_ble_eq_true rfl, Nat.le_of_ble_eq_true rfl⟩) ⟨ax_blind (fun _ _ _ _ hq => ⟨va_Nw.same rfl rfl (hq.1), va_Nw.same rfl rfl (hq.2.1), va_Nw.same rfl rfl (hq.2.2)⟩), va_recv hKx hPx (ci := 7) (q0 := 0) rfl hfs732, ax_preE hPx hKx hDx (fun U hU hW => ⟨va_Nw.warmM hW (hE.2.2.2.1), va_Nw.warmM hW (hE.2.2.1), va_Nw.warmM hW (hE.2.2.2.2.1)⟩)⟩ rfl rfl hl.1 rfl (lv_room (Nat.le_of_ble_eq_true rfl)) dL_law_732 ⟨hcc, hss⟩) hS (fun q _ h => hFc q h) hFc (fun r732 u t H1 locs ht hvm hw732 hB hz1 hk1 hS => ?_)
  obtain ⟨wxn, txn, ⟨vi1, vf1, kx1, kx2, q4x, hI1⟩, hP1, hK1, hD1⟩ := hB
  rw [ht] at hP1
  have hK1 := va_K.moved hvm.symm hK1
  obtain ⟨hPm, jxm⟩ := lg_step hPm jxm hk1 hD1
  obtain ⟨hPo, jxo⟩ := lg_step hPo jxo hk1 hD1
  have hD1 := hD1.weaken (fun _ _ _ h9 => hFc _ h9)
  clear hPx hDx hKx hFc hk1 hz1 hfs732
  have hIX := hI1; have hPx := hP1; have hDx := hD1; have hKx := hK1; clear hI1 hP1 hD1 hK1
  clear ht; generalize H1 = H at hPx hPm hPo hS ⊢
  refine lv_pop hx hb dL_law_735 rfl ?_
  refine lv_aload_n hx hb dL_law_736 rfl (lv_at hl 2 rfl) ?_
  refine lv_aload_n hx hb dL_law_737 rfl (lv_at hl 4 rfl) ?_
  refine lv_iload hx hb dL_law_738 (lv_at hl 0 rfl) ?_
  refine lv_iconst (v := 1) hx hb dL_law_740 zk_iconst_1 ?_
  refine lv_iadd hx hb dL_law_741 ?_
  refine ax_ti ix1 eix1.symm ?_
  refine va_sld (L := L) (i := ix1) hx hb hX hbl hbA hS (vp_in_iff.mpr ⟨by omega, by omega⟩) dL_law_742 ?_
  refine ax_ti vix1 evix1.symm ?_
  have hFc := lg_free hDm hS hA
  obtain ⟨fs743, hfs743⟩ := im_recv hIM
  refine va_calli (va_runV (As := [.int vix1]) (rest := []) ⟨hx, hb, hml, hown, hts⟩ (k_X8_gone l dC dI H.size mo tp vm vn wm tm hIM vix1) (cwV 1 hts gd_X8_gone rfl rfl rfl (by decide +kernel) ⟨Nat.le_of_ble_eq_true rfl, Nat.le_of_ble_eq_true rfl⟩) ⟨ax_blind (fun _ _ _ _ _ => trivial), va_recv hKm hPm (ci := 8) (q0 := 0) rfl hfs743, ax_preE hPm hKm hDm (fun _ _ _ => trivial)⟩ rfl rfl hl.1 rfl (lv_room (Nat.le_of_ble_eq_true rfl)) dL_law_743 ⟨hcc, hss⟩) hS (fun q _ h => hFc q h) hFc (fun r743 u t H1 locs ht hvm hw743 hB hz1 hk1 hS => ?_)
  obtain ⟨wmn, tmn, ⟨vm1, vn1, km1, km2, q4m, hI1⟩, hP1, hK1, hD1⟩ := hB
  rw [ht] at hP1
  have hK1 := va_K.moved hvm.symm hK1
  obtain ⟨hPx, jmx⟩ := lg_step hPx (dj_symm jxm) hk1 hD1
  have jxm := dj_symm jmx
  obtain ⟨hPo, jmo⟩ := lg_step hPo jmo hk1 hD1
  have hD1 := hD1.weaken (fun _ _ _ h9 => hFc _ h9)
  clear hPm hDm hKm hFc hk1 hz1 hfs743
  have hIM := hI1; have hPm := hP1; have hDm := hD1; have hKm := hK1; clear hI1 hP1 hD1 hK1
  clear ht; generalize H1 = H at hPx hPm hPo hS ⊢
  refine lv_pop hx hb dL_law_746 rfl ?_
  refine lv_goto (tgt := 1941) hx hb dL_law_747 (by decide) ?_
  have hWn : lr_5 vi1 vm1 := l5_no q4x q4m
  have hRn : lr_R tp vi1 vf1 vm1 vn1 := ⟨by rw [kx2 0 (by decide), km2 0 (by decide)]; exact hR.1, lr_keep (fun k9 h9 => kx1 k9 (kp_dis (by decide) h9)) (fun k9 h9 => kx2 k9 (kp_dis (by decide) h9)) (fun k9 h9 => km1 k9 (kp_dis (by decide) h9)) (fun k9 h9 => km2 k9 (kp_dis (by decide) h9)) hR.2⟩
  have hRn := And.intro hRn hWn
  exact kk _ _ _ _ _ (Nat.le_add_right _ _) (Nat.le_add_right _ _) ⟨tp, _, _, _, _, _, _, _, _, _, hIX, hIM, hRn, hKx, hKm, hPx, hPm, hPo, hDx, hDm, hDo, jxm, jxo, jmo⟩ hS (lv_sub hl [0, 1, 2, 3, 4] rfl)

set_option maxHeartbeats 4000000 in
set_option maxRecDepth 100000 in
theorem lc_18 {p : Program} {l : Launch} {e : Env} {s : State} {m : MethodId} {below : List Frame} {meth : Method} {c : Code} {b L : Nat} {xs : Nat → Int32} {A : Nat → Prop} {dC : Nat → ClassId} {dI : Nat → Nat → Nat} (hl0 : l.stackTraces = false) (hL : L ≤ 3072) (hA : ∀ q, s.heap.size ≤ q → A q) (hA2 : ∀ q, A q → s.heap.size ≤ q) (C0 : lw_At p s m meth c b L xs) (sd : Nat → Nat) (sa : Nat) (hE : lg_E A sd sa s) (x mo oa : Nat) (ko : ClassId) (hKo : va_K (dC, dI) vwCl [(ko, .long)] s) (i : Int32) (hi0 : (0 : Int) ≤ i.toInt) (hi6 : i.toInt + 6 ≤ (L : Int)) {H : Heap} {locs : List Loc} {cells slots : Nat} (hc9 : cells + 1 ≤ 601024) (hs9 : slots + 6 ≤ 7293034) (hG : lg_S dC dI A s x mo oa ko H) (hS : va_S A s.heap H locs) {ls : Array Slot} (hl : lv_has ls 7 [(4, .int i), (3, .ref oa), (2, .ref mo), (1, .ref x), (0, .ref b)])
    (kk : ∀ (H : Heap) (locs : List Loc) (ls : Array Slot) (k9 n9 : Nat), k9 ≤ cells + 1 → n9 ≤ slots + 6 → lg_S dC dI A s x mo oa ko H → va_S A s.heap H locs → lv_has ls 7 [(4, .int i), (3, .ref oa), (2, .ref mo), (1, .ref x), (0, .ref b)] → W p l e room_1 s m #[Value.ref b] below meth c H locs k9 n9 (lw_Z below #[Value.ref b] s) (F0 m 1941 ls [])) : W p l e room_1 s m #[Value.ref b] below meth c H locs cells slots (lw_Z below #[Value.ref b] s) (F0 m 750 ls []) := by
  obtain ⟨hx, hb, hr, hml, hown0, htl, hX, hbl, hlocks, hgv⟩ := id C0
  have hown : s.vm.findClass RL = some m.cls := hown0
  have hts : ∀ w ∈ wlT, w.before #[Value.ref b] s = true := fun w h => htl w (wlT_in w h)
  have hbA : ¬ A b := fun h => absurd (hA2 b h) (Nat.not_le.mpr hbl)
  obtain ⟨tp, wx, wm, tx, tm, fo, vi, vf, vm, vn, hIX, hIM, ⟨hR, hW⟩, hKx, hKm, hPx, hPm, hPo, hDx, hDm, hDo, jxm, jxo, jmo⟩ := hG
  have hiM : i.toInt ≤ (3066 : Int) := by omega
  have hcc : cells ≤ 601024 := by omega
  have hss : slots ≤ 7293034 := by omega
  have htpb := ix_tp hIX
  refine lv_aload_n hx hb dL_law_750 rfl (lv_at hl 3 rfl) ?_
  have hFc := lg_free hDx hS hA
  obtain ⟨fs751, hfs751⟩ := ix_recv hIX
  refine va_calli (va_runV (As := []) (rest := []) ⟨hx, hb, hml, hown, hts⟩ (k_X7_stairs l dC dI H.size x tp vi vf wx tx hIX ) (cwV 0 hts gd_X7_stairs rfl rfl rfl (by decide +kernel) ⟨Nat.le_of_ble_eq_true rfl, Nat.le_of_ble_eq_true rfl⟩) ⟨ax_blind (fun _ _ _ _ hq => ⟨va_Nw.same rfl rfl (hq.1), va_Nw.same rfl rfl (hq.2.1), va_Nw.same rfl rfl (hq.2.2)⟩), va_recv hKx hPx (ci := 7) (q0 := 0) rfl hfs751, ax_preE hPx hKx hDx (fun U hU hW => ⟨va_Nw.warmM hW (hE.2.2.2.1), va_Nw.warmM hW (hE.2.2.1), va_Nw.warmM hW (hE.2.2.2.2.1)⟩)⟩ rfl rfl hl.1 rfl (lv_room (Nat.le_of_ble_eq_true rfl)) dL_law_751 ⟨hcc, hss⟩) hS (fun q _ h => hFc q h) hFc (fun r751 u t H1 locs ht hvm hw751 hB hz1 hk1 hS => ?_)
  obtain ⟨wxn, txn, ⟨vi1, vf1, kx1, kx2, q4x, hI1⟩, hP1, hK1, hD1⟩ := hB
  rw [ht] at hP1
  have hK1 := va_K.moved hvm.symm hK1
  obtain ⟨hPm, jxm⟩ := lg_step hPm jxm hk1 hD1
  obtain ⟨hPo, jxo⟩ := lg_step hPo jxo hk1 hD1
  have hD1 := hD1.weaken (fun _ _ _ h9 => hFc _ h9)
  clear hPx hDx hKx hFc hk1 hz1 hfs751
  have hIX := hI1; have hPx := hP1; have hDx := hD1; have hKx := hK1; clear hI1 hP1 hD1 hK1
  clear ht; generalize H1 = H at hPx hPm hPo hS ⊢
  refine lv_pop hx hb dL_law_754 rfl ?_
  refine lv_aload_n hx hb dL_law_755 rfl (lv_at hl 2 rfl) ?_
  have hFc := lg_free hDm hS hA
  obtain ⟨fs756, hfs756⟩ := im_recv hIM
  refine va_calli (va_runV (As := []) (rest := []) ⟨hx, hb, hml, hown, hts⟩ (k_X8_stairs l dC dI H.size mo tp vm vn wm tm hIM ) (cwV 0 hts gd_X8_stairs rfl rfl rfl (by decide +kernel) ⟨Nat.le_of_ble_eq_true rfl, Nat.le_of_ble_eq_true rfl⟩) ⟨ax_blind (fun _ _ _ _ _ => trivial), va_recv hKm hPm (ci := 8) (q0 := 0) rfl hfs756, ax_preE hPm hKm hDm (fun _ _ _ => trivial)⟩ rfl rfl hl.1 rfl (lv_room (Nat.le_of_ble_eq_true rfl)) dL_law_756 ⟨hcc, hss⟩) hS (fun q _ h => hFc q h) hFc (fun r756 u t H1 locs ht hvm hw756 hB hz1 hk1 hS => ?_)
  obtain ⟨wmn, tmn, ⟨vm1, vn1, km1, km2, q4m, hI1⟩, hP1, hK1, hD1⟩ := hB
  rw [ht] at hP1
  have hK1 := va_K.moved hvm.symm hK1
  obtain ⟨hPx, jmx⟩ := lg_step hPx (dj_symm jxm) hk1 hD1
  have jxm := dj_symm jmx
  obtain ⟨hPo, jmo⟩ := lg_step hPo jmo hk1 hD1
  have hD1 := hD1.weaken (fun _ _ _ h9 => hFc _ h9)
  clear hPm hDm hKm hFc hk1 hz1 hfs756
  have hIM := hI1; have hPm := hP1; have hDm := hD1; have hKm := hK1; clear hI1 hP1 hD1 hK1
  clear ht; generalize H1 = H at hPx hPm hPo hS ⊢
  refine lv_pop hx hb dL_law_759 rfl ?_
  refine lv_goto (tgt := 1941) hx hb dL_law_760 (by decide) ?_
  have hWn : lr_5 vi1 vm1 := l5_no q4x q4m
  have hRn : lr_R tp vi1 vf1 vm1 vn1 := ⟨by rw [kx2 0 (by decide), km2 0 (by decide)]; exact hR.1, lr_keep (fun k9 h9 => kx1 k9 (kp_dis (by decide) h9)) (fun k9 h9 => kx2 k9 (kp_dis (by decide) h9)) (fun k9 h9 => km1 k9 (kp_dis (by decide) h9)) (fun k9 h9 => km2 k9 (kp_dis (by decide) h9)) hR.2⟩
  have hRn := And.intro hRn hWn
  exact kk _ _ _ _ _ (Nat.le_add_right _ _) (Nat.le_add_right _ _) ⟨tp, _, _, _, _, _, _, _, _, _, hIX, hIM, hRn, hKx, hKm, hPx, hPm, hPo, hDx, hDm, hDo, jxm, jxo, jmo⟩ hS (lv_sub hl [0, 1, 2, 3, 4] rfl)

set_option maxHeartbeats 4000000 in
set_option maxRecDepth 100000 in
theorem lc_19 {p : Program} {l : Launch} {e : Env} {s : State} {m : MethodId} {below : List Frame} {meth : Method} {c : Code} {b L : Nat} {xs : Nat → Int32} {A : Nat → Prop} {dC : Nat → ClassId} {dI : Nat → Nat → Nat} (hl0 : l.stackTraces = false) (hL : L ≤ 3072) (hA : ∀ q, s.heap.size ≤ q → A q) (hA2 : ∀ q, A q → s.heap.size ≤ q) (C0 : lw_At p s m meth c b L xs) (sd : Nat → Nat) (sa : Nat) (hE : lg_E A sd sa s) (x mo oa : Nat) (ko : ClassId) (hKo : va_K (dC, dI) vwCl [(ko, .long)] s) (i : Int32) (hi0 : (0 : Int) ≤ i.toInt) (hi6 : i.toInt + 6 ≤ (L : Int)) {H : Heap} {locs : List Loc} {cells slots : Nat} (hc9 : cells + 1 ≤ 601024) (hs9 : slots + 6 ≤ 7293034) (hG : lg_S dC dI A s x mo oa ko H) (hS : va_S A s.heap H locs) {ls : Array Slot} (hl : lv_has ls 7 [(4, .int i), (3, .ref oa), (2, .ref mo), (1, .ref x), (0, .ref b)])
    (kk : ∀ (H : Heap) (locs : List Loc) (ls : Array Slot) (k9 n9 : Nat), k9 ≤ cells + 1 → n9 ≤ slots + 6 → lg_S dC dI A s x mo oa ko H → va_S A s.heap H locs → lv_has ls 7 [(4, .int i), (3, .ref oa), (2, .ref mo), (1, .ref x), (0, .ref b)] → W p l e room_1 s m #[Value.ref b] below meth c H locs k9 n9 (lw_Z below #[Value.ref b] s) (F0 m 1941 ls [])) : W p l e room_1 s m #[Value.ref b] below meth c H locs cells slots (lw_Z below #[Value.ref b] s) (F0 m 763 ls []) := by
  obtain ⟨hx, hb, hr, hml, hown0, htl, hX, hbl, hlocks, hgv⟩ := id C0
  have hown : s.vm.findClass RL = some m.cls := hown0
  have hts : ∀ w ∈ wlT, w.before #[Value.ref b] s = true := fun w h => htl w (wlT_in w h)
  have hbA : ¬ A b := fun h => absurd (hA2 b h) (Nat.not_le.mpr hbl)
  obtain ⟨tp, wx, wm, tx, tm, fo, vi, vf, vm, vn, hIX, hIM, ⟨hR, hW⟩, hKx, hKm, hPx, hPm, hPo, hDx, hDm, hDo, jxm, jxo, jmo⟩ := hG
  have hiM : i.toInt ≤ (3066 : Int) := by omega
  have hcc : cells ≤ 601024 := by omega
  have hss : slots ≤ 7293034 := by omega
  have htpb := ix_tp hIX
  refine lv_aload_n hx hb dL_law_763 rfl (lv_at hl 3 rfl) ?_
  refine lv_aload_n hx hb dL_law_764 rfl (lv_at hl 4 rfl) ?_
  refine lv_iload hx hb dL_law_765 (lv_at hl 0 rfl) ?_
  refine lv_iconst (v := 1) hx hb dL_law_767 zk_iconst_1 ?_
  refine lv_iadd hx hb dL_law_768 ?_
  refine lv_topi (fun ix1 eix1 => ?_)
  have qix1 : ix1.toInt = i.toInt + 1 := ai_add eix1 ⟨hi0, hiM⟩ ⟨zq1, zq0⟩ (by decide) (by decide)
  refine va_sld (L := L) (i := ix1) hx hb hX hbl hbA hS (vp_in_iff.mpr ⟨by omega, by omega⟩) dL_law_769 ?_
  refine lv_topi (fun vix1 evix1 => ?_)
  have hFc := lg_free hDx hS hA
  obtain ⟨fs770, hfs770⟩ := ix_recv hIX
  refine va_calli (va_runV (As := [.int vix1]) (rest := []) ⟨hx, hb, hml, hown, hts⟩ (k_X7_catches l dC dI H.size x tp vi vf wx tx hIX vix1) (cwV 1 hts gd_X7_catches rfl rfl rfl (by decide +kernel) ⟨Nat.le_of_ble_eq_true rfl, Nat.le_of_ble_eq_true rfl⟩) ⟨ax_blind (fun _ _ _ _ hq => ⟨va_Nw.same rfl rfl (hq.1), va_Nw.same rfl rfl (hq.2.1), va_Nw.same rfl rfl (hq.2.2)⟩), va_recv hKx hPx (ci := 7) (q0 := 0) rfl hfs770, ax_preE hPx hKx hDx (fun U hU hW => ⟨va_Nw.warmM hW (hE.2.2.2.1), va_Nw.warmM hW (hE.2.2.1), va_Nw.warmM hW (hE.2.2.2.2.1)⟩)⟩ rfl rfl hl.1 rfl (lv_room (Nat.le_of_ble_eq_true rfl)) dL_law_770 ⟨hcc, hss⟩) hS (fun q _ h => hFc q h) hFc (fun r770 u t H1 locs ht hvm hw770 hB hz1 hk1 hS => ?_)
  obtain ⟨wxn, txn, ⟨vi1, vf1, kx1, kx2, q4x, hI1⟩, hP1, hK1, hD1⟩ := hB
  rw [ht] at hP1
  have hK1 := va_K.moved hvm.symm hK1
  obtain ⟨hPm, jxm⟩ := lg_step hPm jxm hk1 hD1
  obtain ⟨hPo, jxo⟩ := lg_step hPo jxo hk1 hD1
  have hD1 := hD1.weaken (fun _ _ _ h9 => hFc _ h9)
  clear hPx hDx hKx hFc hk1 hz1 hfs770
  have hIX := hI1; have hPx := hP1; have hDx := hD1; have hKx := hK1; clear hI1 hP1 hD1 hK1
  clear ht; generalize H1 = H at hPx hPm hPo hS ⊢
  refine lv_pop hx hb dL_law_773 rfl ?_
  refine lv_aload_n hx hb dL_law_774 rfl (lv_at hl 2 rfl) ?_
  refine lv_aload_n hx hb dL_law_775 rfl (lv_at hl 4 rfl) ?_
  refine lv_iload hx hb dL_law_776 (lv_at hl 0 rfl) ?_
  refine lv_iconst (v := 1) hx hb dL_law_778 zk_iconst_1 ?_
  refine lv_iadd hx hb dL_law_779 ?_
  refine ax_ti ix1 eix1.symm ?_
  refine va_sld (L := L) (i := ix1) hx hb hX hbl hbA hS (vp_in_iff.mpr ⟨by omega, by omega⟩) dL_law_780 ?_
  refine ax_ti vix1 evix1.symm ?_
  have hFc := lg_free hDm hS hA
  obtain ⟨fs781, hfs781⟩ := im_recv hIM
  refine va_calli (va_runV (As := [.int vix1]) (rest := []) ⟨hx, hb, hml, hown, hts⟩ (k_X8_catches l dC dI H.size mo tp vm vn wm tm hIM vix1) (cwV 1 hts gd_X8_catches rfl rfl rfl (by decide +kernel) ⟨Nat.le_of_ble_eq_true rfl, Nat.le_of_ble_eq_true rfl⟩) ⟨ax_blind (fun _ _ _ _ _ => trivial), va_recv hKm hPm (ci := 8) (q0 := 0) rfl hfs781, ax_preE hPm hKm hDm (fun _ _ _ => trivial)⟩ rfl rfl hl.1 rfl (lv_room (Nat.le_of_ble_eq_true rfl)) dL_law_781 ⟨hcc, hss⟩) hS (fun q _ h => hFc q h) hFc (fun r781 u t H1 locs ht hvm hw781 hB hz1 hk1 hS => ?_)
  obtain ⟨wmn, tmn, ⟨vm1, vn1, km1, km2, q4m, hI1⟩, hP1, hK1, hD1⟩ := hB
  rw [ht] at hP1
  have hK1 := va_K.moved hvm.symm hK1
  obtain ⟨hPx, jmx⟩ := lg_step hPx (dj_symm jxm) hk1 hD1
  have jxm := dj_symm jmx
  obtain ⟨hPo, jmo⟩ := lg_step hPo jmo hk1 hD1
  have hD1 := hD1.weaken (fun _ _ _ h9 => hFc _ h9)
  clear hPm hDm hKm hFc hk1 hz1 hfs781
  have hIM := hI1; have hPm := hP1; have hDm := hD1; have hKm := hK1; clear hI1 hP1 hD1 hK1
  clear ht; generalize H1 = H at hPx hPm hPo hS ⊢
  refine lv_pop hx hb dL_law_784 rfl ?_
  refine lv_goto (tgt := 1941) hx hb dL_law_785 (by decide) ?_
  have hWn : lr_5 vi1 vm1 := l5_no q4x q4m
  have hRn : lr_R tp vi1 vf1 vm1 vn1 := ⟨by rw [kx2 0 (by decide), km2 0 (by decide)]; exact hR.1, lr_keep (fun k9 h9 => kx1 k9 (kp_dis (by decide) h9)) (fun k9 h9 => kx2 k9 (kp_dis (by decide) h9)) (fun k9 h9 => km1 k9 (kp_dis (by decide) h9)) (fun k9 h9 => km2 k9 (kp_dis (by decide) h9)) hR.2⟩
  have hRn := And.intro hRn hWn
  exact kk _ _ _ _ _ (Nat.le_add_right _ _) (Nat.le_add_right _ _) ⟨tp, _, _, _, _, _, _, _, _, _, hIX, hIM, hRn, hKx, hKm, hPx, hPm, hPo, hDx, hDm, hDo, jxm, jxo, jmo⟩ hS (lv_sub hl [0, 1, 2, 3, 4] rfl)

set_option maxHeartbeats 4000000 in
set_option maxRecDepth 100000 in
theorem lc_20 {p : Program} {l : Launch} {e : Env} {s : State} {m : MethodId} {below : List Frame} {meth : Method} {c : Code} {b L : Nat} {xs : Nat → Int32} {A : Nat → Prop} {dC : Nat → ClassId} {dI : Nat → Nat → Nat} (hl0 : l.stackTraces = false) (hL : L ≤ 3072) (hA : ∀ q, s.heap.size ≤ q → A q) (hA2 : ∀ q, A q → s.heap.size ≤ q) (C0 : lw_At p s m meth c b L xs) (sd : Nat → Nat) (sa : Nat) (hE : lg_E A sd sa s) (x mo oa : Nat) (ko : ClassId) (hKo : va_K (dC, dI) vwCl [(ko, .long)] s) (i : Int32) (hi0 : (0 : Int) ≤ i.toInt) (hi6 : i.toInt + 6 ≤ (L : Int)) {H : Heap} {locs : List Loc} {cells slots : Nat} (hc9 : cells + 1 ≤ 601024) (hs9 : slots + 6 ≤ 7293034) (hG : lg_S dC dI A s x mo oa ko H) (hS : va_S A s.heap H locs) {ls : Array Slot} (hl : lv_has ls 7 [(4, .int i), (3, .ref oa), (2, .ref mo), (1, .ref x), (0, .ref b)])
    (kk : ∀ (H : Heap) (locs : List Loc) (ls : Array Slot) (k9 n9 : Nat), k9 ≤ cells + 1 → n9 ≤ slots + 6 → lg_S dC dI A s x mo oa ko H → va_S A s.heap H locs → lv_has ls 7 [(4, .int i), (3, .ref oa), (2, .ref mo), (1, .ref x), (0, .ref b)] → W p l e room_1 s m #[Value.ref b] below meth c H locs k9 n9 (lw_Z below #[Value.ref b] s) (F0 m 1941 ls [])) : W p l e room_1 s m #[Value.ref b] below meth c H locs cells slots (lw_Z below #[Value.ref b] s) (F0 m 788 ls []) := by
  obtain ⟨hx, hb, hr, hml, hown0, htl, hX, hbl, hlocks, hgv⟩ := id C0
  have hown : s.vm.findClass RL = some m.cls := hown0
  have hts : ∀ w ∈ wlT, w.before #[Value.ref b] s = true := fun w h => htl w (wlT_in w h)
  have hbA : ¬ A b := fun h => absurd (hA2 b h) (Nat.not_le.mpr hbl)
  obtain ⟨tp, wx, wm, tx, tm, fo, vi, vf, vm, vn, hIX, hIM, ⟨hR, hW⟩, hKx, hKm, hPx, hPm, hPo, hDx, hDm, hDo, jxm, jxo, jmo⟩ := hG
  have hiM : i.toInt ≤ (3066 : Int) := by omega
  have hcc : cells ≤ 601024 := by omega
  have hss : slots ≤ 7293034 := by omega
  have htpb := ix_tp hIX
  refine lv_aload_n hx hb dL_law_788 rfl (lv_at hl 3 rfl) ?_
  refine lv_aload_n hx hb dL_law_789 rfl (lv_at hl 4 rfl) ?_
  refine lv_iload hx hb dL_law_790 (lv_at hl 0 rfl) ?_
  refine lv_iconst (v := 1) hx hb dL_law_792 zk_iconst_1 ?_
  refine lv_iadd hx hb dL_law_793 ?_
  refine lv_topi (fun ix1 eix1 => ?_)
  have qix1 : ix1.toInt = i.toInt + 1 := ai_add eix1 ⟨hi0, hiM⟩ ⟨zq1, zq0⟩ (by decide) (by decide)
  refine va_sld (L := L) (i := ix1) hx hb hX hbl hbA hS (vp_in_iff.mpr ⟨by omega, by omega⟩) dL_law_794 ?_
  refine lv_topi (fun vix1 evix1 => ?_)
  refine lv_aload_n hx hb dL_law_795 rfl (lv_at hl 4 rfl) ?_
  refine lv_iload hx hb dL_law_796 (lv_at hl 0 rfl) ?_
  refine lv_iconst (v := 2) hx hb dL_law_798 zk_iconst_2 ?_
  refine lv_iadd hx hb dL_law_799 ?_
  refine lv_topi (fun ix2 eix2 => ?_)
  have qix2 : ix2.toInt = i.toInt + 2 := ai_add eix2 ⟨hi0, hiM⟩ ⟨zq12, zq13⟩ (by decide) (by decide)
  refine va_sld (L := L) (i := ix2) hx hb hX hbl hbA hS (vp_in_iff.mpr ⟨by omega, by omega⟩) dL_law_800 ?_
  refine lv_topi (fun vix2 evix2 => ?_)
  have hFc := lg_free hDx hS hA
  obtain ⟨fs801, hfs801⟩ := ix_recv hIX
  refine va_calli (va_runV (As := [.int vix1, .int vix2]) (rest := []) ⟨hx, hb, hml, hown, hts⟩ (k_X7_heard l dC dI H.size x tp vi vf wx tx hIX vix1 vix2) (cwV 2 hts gd_X7_heard rfl rfl rfl (by decide +kernel) ⟨Nat.le_of_ble_eq_true rfl, Nat.le_of_ble_eq_true rfl⟩) ⟨ax_blind (fun _ _ _ _ hq => ⟨va_Nw.same rfl rfl (hq.1), va_Nw.same rfl rfl (hq.2.1), va_Nw.same rfl rfl (hq.2.2)⟩), va_recv hKx hPx (ci := 7) (q0 := 0) rfl hfs801, ax_preE hPx hKx hDx (fun U hU hW => ⟨va_Nw.warmM hW (hE.2.2.2.1), va_Nw.warmM hW (hE.2.2.1), va_Nw.warmM hW (hE.2.2.2.2.1)⟩)⟩ rfl rfl hl.1 rfl (lv_room (Nat.le_of_ble_eq_true rfl)) dL_law_801 ⟨hcc, hss⟩) hS (fun q _ h => hFc q h) hFc (fun r801 u t H1 locs ht hvm hw801 hB hz1 hk1 hS => ?_)
  obtain ⟨wxn, txn, ⟨vi1, vf1, kx1, kx2, q4x, hI1⟩, hP1, hK1, hD1⟩ := hB
  rw [ht] at hP1
  have hK1 := va_K.moved hvm.symm hK1
  obtain ⟨hPm, jxm⟩ := lg_step hPm jxm hk1 hD1
  obtain ⟨hPo, jxo⟩ := lg_step hPo jxo hk1 hD1
  have hD1 := hD1.weaken (fun _ _ _ h9 => hFc _ h9)
  clear hPx hDx hKx hFc hk1 hz1 hfs801
  have hIX := hI1; have hPx := hP1; have hDx := hD1; have hKx := hK1; clear hI1 hP1 hD1 hK1
  clear ht; generalize H1 = H at hPx hPm hPo hS ⊢
  refine lv_pop hx hb dL_law_804 rfl ?_
  refine lv_aload_n hx hb dL_law_805 rfl (lv_at hl 2 rfl) ?_
  refine lv_aload_n hx hb dL_law_806 rfl (lv_at hl 4 rfl) ?_
  refine lv_iload hx hb dL_law_807 (lv_at hl 0 rfl) ?_
  refine lv_iconst (v := 1) hx hb dL_law_809 zk_iconst_1 ?_
  refine lv_iadd hx hb dL_law_810 ?_
  refine ax_ti ix1 eix1.symm ?_
  refine va_sld (L := L) (i := ix1) hx hb hX hbl hbA hS (vp_in_iff.mpr ⟨by omega, by omega⟩) dL_law_811 ?_
  refine ax_ti vix1 evix1.symm ?_
  refine lv_aload_n hx hb dL_law_812 rfl (lv_at hl 4 rfl) ?_
  refine lv_iload hx hb dL_law_813 (lv_at hl 0 rfl) ?_
  refine lv_iconst (v := 2) hx hb dL_law_815 zk_iconst_2 ?_
  refine lv_iadd hx hb dL_law_816 ?_
  refine ax_ti ix2 eix2.symm ?_
  refine va_sld (L := L) (i := ix2) hx hb hX hbl hbA hS (vp_in_iff.mpr ⟨by omega, by omega⟩) dL_law_817 ?_
  refine ax_ti vix2 evix2.symm ?_
  have hFc := lg_free hDm hS hA
  obtain ⟨fs818, hfs818⟩ := im_recv hIM
  refine va_calli (va_runV (As := [.int vix1, .int vix2]) (rest := []) ⟨hx, hb, hml, hown, hts⟩ (k_X8_heard l dC dI H.size mo tp vm vn wm tm hIM vix1 vix2) (cwV 2 hts gd_X8_heard rfl rfl rfl (by decide +kernel) ⟨Nat.le_of_ble_eq_true rfl, Nat.le_of_ble_eq_true rfl⟩) ⟨ax_blind (fun _ _ _ _ _ => trivial), va_recv hKm hPm (ci := 8) (q0 := 0) rfl hfs818, ax_preE hPm hKm hDm (fun _ _ _ => trivial)⟩ rfl rfl hl.1 rfl (lv_room (Nat.le_of_ble_eq_true rfl)) dL_law_818 ⟨hcc, hss⟩) hS (fun q _ h => hFc q h) hFc (fun r818 u t H1 locs ht hvm hw818 hB hz1 hk1 hS => ?_)
  obtain ⟨wmn, tmn, ⟨vm1, vn1, km1, km2, q4m, hI1⟩, hP1, hK1, hD1⟩ := hB
  rw [ht] at hP1
  have hK1 := va_K.moved hvm.symm hK1
  obtain ⟨hPx, jmx⟩ := lg_step hPx (dj_symm jxm) hk1 hD1
  have jxm := dj_symm jmx
  obtain ⟨hPo, jmo⟩ := lg_step hPo jmo hk1 hD1
  have hD1 := hD1.weaken (fun _ _ _ h9 => hFc _ h9)
  clear hPm hDm hKm hFc hk1 hz1 hfs818
  have hIM := hI1; have hPm := hP1; have hDm := hD1; have hKm := hK1; clear hI1 hP1 hD1 hK1
  clear ht; generalize H1 = H at hPx hPm hPo hS ⊢
  refine lv_pop hx hb dL_law_821 rfl ?_
  refine lv_goto (tgt := 1941) hx hb dL_law_822 (by decide) ?_
  have hWn : lr_5 vi1 vm1 := l5_no q4x q4m
  have hRn : lr_R tp vi1 vf1 vm1 vn1 := ⟨by rw [kx2 0 (by decide), km2 0 (by decide)]; exact hR.1, lr_keep (fun k9 h9 => kx1 k9 (kp_dis (by decide) h9)) (fun k9 h9 => kx2 k9 (kp_dis (by decide) h9)) (fun k9 h9 => km1 k9 (kp_dis (by decide) h9)) (fun k9 h9 => km2 k9 (kp_dis (by decide) h9)) hR.2⟩
  have hRn := And.intro hRn hWn
  exact kk _ _ _ _ _ (Nat.le_add_right _ _) (Nat.le_add_right _ _) ⟨tp, _, _, _, _, _, _, _, _, _, hIX, hIM, hRn, hKx, hKm, hPx, hPm, hPo, hDx, hDm, hDo, jxm, jxo, jmo⟩ hS (lv_sub hl [0, 1, 2, 3, 4] rfl)

set_option maxHeartbeats 4000000 in
set_option maxRecDepth 100000 in
theorem lc_21 {p : Program} {l : Launch} {e : Env} {s : State} {m : MethodId} {below : List Frame} {meth : Method} {c : Code} {b L : Nat} {xs : Nat → Int32} {A : Nat → Prop} {dC : Nat → ClassId} {dI : Nat → Nat → Nat} (hl0 : l.stackTraces = false) (hL : L ≤ 3072) (hA : ∀ q, s.heap.size ≤ q → A q) (hA2 : ∀ q, A q → s.heap.size ≤ q) (C0 : lw_At p s m meth c b L xs) (sd : Nat → Nat) (sa : Nat) (hE : lg_E A sd sa s) (x mo oa : Nat) (ko : ClassId) (hKo : va_K (dC, dI) vwCl [(ko, .long)] s) (i : Int32) (hi0 : (0 : Int) ≤ i.toInt) (hi6 : i.toInt + 6 ≤ (L : Int)) {H : Heap} {locs : List Loc} {cells slots : Nat} (hc9 : cells + 1 ≤ 601024) (hs9 : slots + 6 ≤ 7293034) (hG : lg_S dC dI A s x mo oa ko H) (hS : va_S A s.heap H locs) {ls : Array Slot} (hl : lv_has ls 7 [(4, .int i), (3, .ref oa), (2, .ref mo), (1, .ref x), (0, .ref b)])
    (kk : ∀ (H : Heap) (locs : List Loc) (ls : Array Slot) (k9 n9 : Nat), k9 ≤ cells + 1 → n9 ≤ slots + 6 → lg_S dC dI A s x mo oa ko H → va_S A s.heap H locs → lv_has ls 7 [(4, .int i), (3, .ref oa), (2, .ref mo), (1, .ref x), (0, .ref b)] → W p l e room_1 s m #[Value.ref b] below meth c H locs k9 n9 (lw_Z below #[Value.ref b] s) (F0 m 1941 ls [])) : W p l e room_1 s m #[Value.ref b] below meth c H locs cells slots (lw_Z below #[Value.ref b] s) (F0 m 825 ls []) := by
  obtain ⟨hx, hb, hr, hml, hown0, htl, hX, hbl, hlocks, hgv⟩ := id C0
  have hown : s.vm.findClass RL = some m.cls := hown0
  have hts : ∀ w ∈ wlT, w.before #[Value.ref b] s = true := fun w h => htl w (wlT_in w h)
  have hbA : ¬ A b := fun h => absurd (hA2 b h) (Nat.not_le.mpr hbl)
  obtain ⟨tp, wx, wm, tx, tm, fo, vi, vf, vm, vn, hIX, hIM, ⟨hR, hW⟩, hKx, hKm, hPx, hPm, hPo, hDx, hDm, hDo, jxm, jxo, jmo⟩ := hG
  have hiM : i.toInt ≤ (3066 : Int) := by omega
  have hcc : cells ≤ 601024 := by omega
  have hss : slots ≤ 7293034 := by omega
  have htpb := ix_tp hIX
  refine lv_aload_n hx hb dL_law_825 rfl (lv_at hl 3 rfl) ?_
  refine lv_aload_n hx hb dL_law_826 rfl (lv_at hl 4 rfl) ?_
  refine lv_iload hx hb dL_law_827 (lv_at hl 0 rfl) ?_
  refine lv_iconst (v := 1) hx hb dL_law_829 zk_iconst_1 ?_
  refine lv_iadd hx hb dL_law_830 ?_
  refine lv_topi (fun ix1 eix1 => ?_)
  have qix1 : ix1.toInt = i.toInt + 1 := ai_add eix1 ⟨hi0, hiM⟩ ⟨zq1, zq0⟩ (by decide) (by decide)
  refine va_sld (L := L) (i := ix1) hx hb hX hbl hbA hS (vp_in_iff.mpr ⟨by omega, by omega⟩) dL_law_831 ?_
  refine lv_topi (fun vix1 evix1 => ?_)
  have hFc := lg_free hDx hS hA
  obtain ⟨fs832, hfs832⟩ := ix_recv hIX
  refine va_calli (va_runV (As := [.int vix1]) (rest := []) ⟨hx, hb, hml, hown, hts⟩ (k_X7_allIn l dC dI H.size x tp vi vf wx tx hIX vix1) (cwV 1 hts gd_X7_allIn rfl rfl rfl (by decide +kernel) ⟨Nat.le_of_ble_eq_true rfl, Nat.le_of_ble_eq_true rfl⟩) ⟨ax_blind (fun _ _ _ _ hq => ⟨va_Nw.same rfl rfl (hq.1), va_Nw.same rfl rfl (hq.2.1), va_Nw.same rfl rfl (hq.2.2)⟩), va_recv hKx hPx (ci := 7) (q0 := 0) rfl hfs832, ax_preE hPx hKx hDx (fun U hU hW => ⟨va_Nw.warmM hW (hE.2.2.2.1), va_Nw.warmM hW (hE.2.2.1), va_Nw.warmM hW (hE.2.2.2.2.1)⟩)⟩ rfl rfl hl.1 rfl (lv_room (Nat.le_of_ble_eq_true rfl)) dL_law_832 ⟨hcc, hss⟩) hS (fun q _ h => hFc q h) hFc (fun r832 u t H1 locs ht hvm hw832 hB hz1 hk1 hS => ?_)
  obtain ⟨wxn, txn, ⟨vi1, vf1, kx1, kx2, q4x, hI1⟩, hP1, hK1, hD1⟩ := hB
  rw [ht] at hP1
  have hK1 := va_K.moved hvm.symm hK1
  obtain ⟨hPm, jxm⟩ := lg_step hPm jxm hk1 hD1
  obtain ⟨hPo, jxo⟩ := lg_step hPo jxo hk1 hD1
  have hD1 := hD1.weaken (fun _ _ _ h9 => hFc _ h9)
  clear hPx hDx hKx hFc hk1 hz1 hfs832
  have hIX := hI1; have hPx := hP1; have hDx := hD1; have hKx := hK1; clear hI1 hP1 hD1 hK1
  clear ht; generalize H1 = H at hPx hPm hPo hS ⊢
  refine lv_pop hx hb dL_law_835 rfl ?_
  refine lv_aload_n hx hb dL_law_836 rfl (lv_at hl 2 rfl) ?_
  refine lv_aload_n hx hb dL_law_837 rfl (lv_at hl 4 rfl) ?_
  refine lv_iload hx hb dL_law_838 (lv_at hl 0 rfl) ?_
  refine lv_iconst (v := 1) hx hb dL_law_840 zk_iconst_1 ?_
  refine lv_iadd hx hb dL_law_841 ?_
  refine ax_ti ix1 eix1.symm ?_
  refine va_sld (L := L) (i := ix1) hx hb hX hbl hbA hS (vp_in_iff.mpr ⟨by omega, by omega⟩) dL_law_842 ?_
  refine ax_ti vix1 evix1.symm ?_
  have hFc := lg_free hDm hS hA
  obtain ⟨fs843, hfs843⟩ := im_recv hIM
  refine va_calli (va_runV (As := [.int vix1]) (rest := []) ⟨hx, hb, hml, hown, hts⟩ (k_X8_allIn l dC dI H.size mo tp vm vn wm tm hIM vix1) (cwV 1 hts gd_X8_allIn rfl rfl rfl (by decide +kernel) ⟨Nat.le_of_ble_eq_true rfl, Nat.le_of_ble_eq_true rfl⟩) ⟨ax_blind (fun _ _ _ _ _ => trivial), va_recv hKm hPm (ci := 8) (q0 := 0) rfl hfs843, ax_preE hPm hKm hDm (fun _ _ _ => trivial)⟩ rfl rfl hl.1 rfl (lv_room (Nat.le_of_ble_eq_true rfl)) dL_law_843 ⟨hcc, hss⟩) hS (fun q _ h => hFc q h) hFc (fun r843 u t H1 locs ht hvm hw843 hB hz1 hk1 hS => ?_)
  obtain ⟨wmn, tmn, ⟨vm1, vn1, km1, km2, q4m, hI1⟩, hP1, hK1, hD1⟩ := hB
  rw [ht] at hP1
  have hK1 := va_K.moved hvm.symm hK1
  obtain ⟨hPx, jmx⟩ := lg_step hPx (dj_symm jxm) hk1 hD1
  have jxm := dj_symm jmx
  obtain ⟨hPo, jmo⟩ := lg_step hPo jmo hk1 hD1
  have hD1 := hD1.weaken (fun _ _ _ h9 => hFc _ h9)
  clear hPm hDm hKm hFc hk1 hz1 hfs843
  have hIM := hI1; have hPm := hP1; have hDm := hD1; have hKm := hK1; clear hI1 hP1 hD1 hK1
  clear ht; generalize H1 = H at hPx hPm hPo hS ⊢
  refine lv_pop hx hb dL_law_846 rfl ?_
  refine lv_goto (tgt := 1941) hx hb dL_law_847 (by decide) ?_
  have hWn : lr_5 vi1 vm1 := l5_no q4x q4m
  have hRn : lr_R tp vi1 vf1 vm1 vn1 := ⟨by rw [kx2 0 (by decide), km2 0 (by decide)]; exact hR.1, lr_keep (fun k9 h9 => kx1 k9 (kp_dis (by decide) h9)) (fun k9 h9 => kx2 k9 (kp_dis (by decide) h9)) (fun k9 h9 => km1 k9 (kp_dis (by decide) h9)) (fun k9 h9 => km2 k9 (kp_dis (by decide) h9)) hR.2⟩
  have hRn := And.intro hRn hWn
  exact kk _ _ _ _ _ (Nat.le_add_right _ _) (Nat.le_add_right _ _) ⟨tp, _, _, _, _, _, _, _, _, _, hIX, hIM, hRn, hKx, hKm, hPx, hPm, hPo, hDx, hDm, hDo, jxm, jxo, jmo⟩ hS (lv_sub hl [0, 1, 2, 3, 4] rfl)

set_option maxHeartbeats 4000000 in
set_option maxRecDepth 100000 in
theorem lc_22 {p : Program} {l : Launch} {e : Env} {s : State} {m : MethodId} {below : List Frame} {meth : Method} {c : Code} {b L : Nat} {xs : Nat → Int32} {A : Nat → Prop} {dC : Nat → ClassId} {dI : Nat → Nat → Nat} (hl0 : l.stackTraces = false) (hL : L ≤ 3072) (hA : ∀ q, s.heap.size ≤ q → A q) (hA2 : ∀ q, A q → s.heap.size ≤ q) (C0 : lw_At p s m meth c b L xs) (sd : Nat → Nat) (sa : Nat) (hE : lg_E A sd sa s) (x mo oa : Nat) (ko : ClassId) (hKo : va_K (dC, dI) vwCl [(ko, .long)] s) (i : Int32) (hi0 : (0 : Int) ≤ i.toInt) (hi6 : i.toInt + 6 ≤ (L : Int)) {H : Heap} {locs : List Loc} {cells slots : Nat} (hc9 : cells + 1 ≤ 601024) (hs9 : slots + 6 ≤ 7293034) (hG : lg_S dC dI A s x mo oa ko H) (hS : va_S A s.heap H locs) {ls : Array Slot} (hl : lv_has ls 7 [(4, .int i), (3, .ref oa), (2, .ref mo), (1, .ref x), (0, .ref b)])
    (kk : ∀ (H : Heap) (locs : List Loc) (ls : Array Slot) (k9 n9 : Nat), k9 ≤ cells + 1 → n9 ≤ slots + 6 → lg_S dC dI A s x mo oa ko H → va_S A s.heap H locs → lv_has ls 7 [(4, .int i), (3, .ref oa), (2, .ref mo), (1, .ref x), (0, .ref b)] → W p l e room_1 s m #[Value.ref b] below meth c H locs k9 n9 (lw_Z below #[Value.ref b] s) (F0 m 1941 ls [])) : W p l e room_1 s m #[Value.ref b] below meth c H locs cells slots (lw_Z below #[Value.ref b] s) (F0 m 850 ls []) := by
  obtain ⟨hx, hb, hr, hml, hown0, htl, hX, hbl, hlocks, hgv⟩ := id C0
  have hown : s.vm.findClass RL = some m.cls := hown0
  have hts : ∀ w ∈ wlT, w.before #[Value.ref b] s = true := fun w h => htl w (wlT_in w h)
  have hbA : ¬ A b := fun h => absurd (hA2 b h) (Nat.not_le.mpr hbl)
  obtain ⟨tp, wx, wm, tx, tm, fo, vi, vf, vm, vn, hIX, hIM, ⟨hR, hW⟩, hKx, hKm, hPx, hPm, hPo, hDx, hDm, hDo, jxm, jxo, jmo⟩ := hG
  have hiM : i.toInt ≤ (3066 : Int) := by omega
  have hcc : cells ≤ 601024 := by omega
  have hss : slots ≤ 7293034 := by omega
  have htpb := ix_tp hIX
  refine lv_aload_n hx hb dL_law_850 rfl (lv_at hl 3 rfl) ?_
  refine lv_aload_n hx hb dL_law_851 rfl (lv_at hl 4 rfl) ?_
  refine lv_iload hx hb dL_law_852 (lv_at hl 0 rfl) ?_
  refine lv_iconst (v := 1) hx hb dL_law_854 zk_iconst_1 ?_
  refine lv_iadd hx hb dL_law_855 ?_
  refine lv_topi (fun ix1 eix1 => ?_)
  have qix1 : ix1.toInt = i.toInt + 1 := ai_add eix1 ⟨hi0, hiM⟩ ⟨zq1, zq0⟩ (by decide) (by decide)
  refine va_sld (L := L) (i := ix1) hx hb hX hbl hbA hS (vp_in_iff.mpr ⟨by omega, by omega⟩) dL_law_856 ?_
  refine lv_topi (fun vix1 evix1 => ?_)
  have hFc := lg_free hDx hS hA
  obtain ⟨fs857, hfs857⟩ := ix_recv hIX
  refine va_calli (va_runV (As := [.int vix1]) (rest := []) ⟨hx, hb, hml, hown, hts⟩ (k_X7_meets l dC dI H.size x tp vi vf wx tx hIX vix1) (cwV 1 hts gd_X7_meets rfl rfl rfl (by decide +kernel) ⟨Nat.le_of_ble_eq_true rfl, Nat.le_of_ble_eq_true rfl⟩) ⟨ax_blind (fun _ _ _ _ hq => ⟨va_Nw.same rfl rfl (hq.1), va_Nw.same rfl rfl (hq.2.1), va_Nw.same rfl rfl (hq.2.2)⟩), va_recv hKx hPx (ci := 7) (q0 := 0) rfl hfs857, ax_preE hPx hKx hDx (fun U hU hW => ⟨va_Nw.warmM hW (hE.2.2.2.1), va_Nw.warmM hW (hE.2.2.1), va_Nw.warmM hW (hE.2.2.2.2.1)⟩)⟩ rfl rfl hl.1 rfl (lv_room (Nat.le_of_ble_eq_true rfl)) dL_law_857 ⟨hcc, hss⟩) hS (fun q _ h => hFc q h) hFc (fun r857 u t H1 locs ht hvm hw857 hB hz1 hk1 hS => ?_)
  obtain ⟨wxn, txn, ⟨vi1, vf1, kx1, kx2, q4x, hI1⟩, hP1, hK1, hD1⟩ := hB
  rw [ht] at hP1
  have hK1 := va_K.moved hvm.symm hK1
  obtain ⟨hPm, jxm⟩ := lg_step hPm jxm hk1 hD1
  obtain ⟨hPo, jxo⟩ := lg_step hPo jxo hk1 hD1
  have hD1 := hD1.weaken (fun _ _ _ h9 => hFc _ h9)
  clear hPx hDx hKx hFc hk1 hz1 hfs857
  have hIX := hI1; have hPx := hP1; have hDx := hD1; have hKx := hK1; clear hI1 hP1 hD1 hK1
  clear ht; generalize H1 = H at hPx hPm hPo hS ⊢
  refine lv_pop hx hb dL_law_860 rfl ?_
  refine lv_aload_n hx hb dL_law_861 rfl (lv_at hl 2 rfl) ?_
  refine lv_aload_n hx hb dL_law_862 rfl (lv_at hl 4 rfl) ?_
  refine lv_iload hx hb dL_law_863 (lv_at hl 0 rfl) ?_
  refine lv_iconst (v := 1) hx hb dL_law_865 zk_iconst_1 ?_
  refine lv_iadd hx hb dL_law_866 ?_
  refine ax_ti ix1 eix1.symm ?_
  refine va_sld (L := L) (i := ix1) hx hb hX hbl hbA hS (vp_in_iff.mpr ⟨by omega, by omega⟩) dL_law_867 ?_
  refine ax_ti vix1 evix1.symm ?_
  have hFc := lg_free hDm hS hA
  obtain ⟨fs868, hfs868⟩ := im_recv hIM
  refine va_calli (va_runV (As := [.int vix1]) (rest := []) ⟨hx, hb, hml, hown, hts⟩ (k_X8_meets l dC dI H.size mo tp vm vn wm tm hIM vix1) (cwV 1 hts gd_X8_meets rfl rfl rfl (by decide +kernel) ⟨Nat.le_of_ble_eq_true rfl, Nat.le_of_ble_eq_true rfl⟩) ⟨ax_blind (fun _ _ _ _ _ => trivial), va_recv hKm hPm (ci := 8) (q0 := 0) rfl hfs868, ax_preE hPm hKm hDm (fun _ _ _ => trivial)⟩ rfl rfl hl.1 rfl (lv_room (Nat.le_of_ble_eq_true rfl)) dL_law_868 ⟨hcc, hss⟩) hS (fun q _ h => hFc q h) hFc (fun r868 u t H1 locs ht hvm hw868 hB hz1 hk1 hS => ?_)
  obtain ⟨wmn, tmn, ⟨vm1, vn1, km1, km2, q4m, hI1⟩, hP1, hK1, hD1⟩ := hB
  rw [ht] at hP1
  have hK1 := va_K.moved hvm.symm hK1
  obtain ⟨hPx, jmx⟩ := lg_step hPx (dj_symm jxm) hk1 hD1
  have jxm := dj_symm jmx
  obtain ⟨hPo, jmo⟩ := lg_step hPo jmo hk1 hD1
  have hD1 := hD1.weaken (fun _ _ _ h9 => hFc _ h9)
  clear hPm hDm hKm hFc hk1 hz1 hfs868
  have hIM := hI1; have hPm := hP1; have hDm := hD1; have hKm := hK1; clear hI1 hP1 hD1 hK1
  clear ht; generalize H1 = H at hPx hPm hPo hS ⊢
  refine lv_pop hx hb dL_law_871 rfl ?_
  refine lv_goto (tgt := 1941) hx hb dL_law_872 (by decide) ?_
  have hWn : lr_5 vi1 vm1 := l5_no q4x q4m
  have hRn : lr_R tp vi1 vf1 vm1 vn1 := ⟨by rw [kx2 0 (by decide), km2 0 (by decide)]; exact hR.1, lr_keep (fun k9 h9 => kx1 k9 (kp_dis (by decide) h9)) (fun k9 h9 => kx2 k9 (kp_dis (by decide) h9)) (fun k9 h9 => km1 k9 (kp_dis (by decide) h9)) (fun k9 h9 => km2 k9 (kp_dis (by decide) h9)) hR.2⟩
  have hRn := And.intro hRn hWn
  exact kk _ _ _ _ _ (Nat.le_add_right _ _) (Nat.le_add_right _ _) ⟨tp, _, _, _, _, _, _, _, _, _, hIX, hIM, hRn, hKx, hKm, hPx, hPm, hPo, hDx, hDm, hDo, jxm, jxo, jmo⟩ hS (lv_sub hl [0, 1, 2, 3, 4] rfl)

set_option maxHeartbeats 4000000 in
set_option maxRecDepth 100000 in
theorem lc_23 {p : Program} {l : Launch} {e : Env} {s : State} {m : MethodId} {below : List Frame} {meth : Method} {c : Code} {b L : Nat} {xs : Nat → Int32} {A : Nat → Prop} {dC : Nat → ClassId} {dI : Nat → Nat → Nat} (hl0 : l.stackTraces = false) (hL : L ≤ 3072) (hA : ∀ q, s.heap.size ≤ q → A q) (hA2 : ∀ q, A q → s.heap.size ≤ q) (C0 : lw_At p s m meth c b L xs) (sd : Nat → Nat) (sa : Nat) (hE : lg_E A sd sa s) (x mo oa : Nat) (ko : ClassId) (hKo : va_K (dC, dI) vwCl [(ko, .long)] s) (i : Int32) (hi0 : (0 : Int) ≤ i.toInt) (hi6 : i.toInt + 6 ≤ (L : Int)) {H : Heap} {locs : List Loc} {cells slots : Nat} (hc9 : cells + 1 ≤ 601024) (hs9 : slots + 6 ≤ 7293034) (hG : lg_S dC dI A s x mo oa ko H) (hS : va_S A s.heap H locs) {ls : Array Slot} (hl : lv_has ls 7 [(4, .int i), (3, .ref oa), (2, .ref mo), (1, .ref x), (0, .ref b)])
    (kk : ∀ (H : Heap) (locs : List Loc) (ls : Array Slot) (k9 n9 : Nat), k9 ≤ cells + 1 → n9 ≤ slots + 6 → lg_S dC dI A s x mo oa ko H → va_S A s.heap H locs → lv_has ls 7 [(4, .int i), (3, .ref oa), (2, .ref mo), (1, .ref x), (0, .ref b)] → W p l e room_1 s m #[Value.ref b] below meth c H locs k9 n9 (lw_Z below #[Value.ref b] s) (F0 m 1941 ls [])) : W p l e room_1 s m #[Value.ref b] below meth c H locs cells slots (lw_Z below #[Value.ref b] s) (F0 m 875 ls []) := by
  obtain ⟨hx, hb, hr, hml, hown0, htl, hX, hbl, hlocks, hgv⟩ := id C0
  have hown : s.vm.findClass RL = some m.cls := hown0
  have hts : ∀ w ∈ wlT, w.before #[Value.ref b] s = true := fun w h => htl w (wlT_in w h)
  have hbA : ¬ A b := fun h => absurd (hA2 b h) (Nat.not_le.mpr hbl)
  obtain ⟨tp, wx, wm, tx, tm, fo, vi, vf, vm, vn, hIX, hIM, ⟨hR, hW⟩, hKx, hKm, hPx, hPm, hPo, hDx, hDm, hDo, jxm, jxo, jmo⟩ := hG
  have hiM : i.toInt ≤ (3066 : Int) := by omega
  have hcc : cells ≤ 601024 := by omega
  have hss : slots ≤ 7293034 := by omega
  have htpb := ix_tp hIX
  refine lv_aload_n hx hb dL_law_875 rfl (lv_at hl 3 rfl) ?_
  refine lv_aload_n hx hb dL_law_876 rfl (lv_at hl 4 rfl) ?_
  refine lv_iload hx hb dL_law_877 (lv_at hl 0 rfl) ?_
  refine lv_iconst (v := 1) hx hb dL_law_879 zk_iconst_1 ?_
  refine lv_iadd hx hb dL_law_880 ?_
  refine lv_topi (fun ix1 eix1 => ?_)
  have qix1 : ix1.toInt = i.toInt + 1 := ai_add eix1 ⟨hi0, hiM⟩ ⟨zq1, zq0⟩ (by decide) (by decide)
  refine va_sld (L := L) (i := ix1) hx hb hX hbl hbA hS (vp_in_iff.mpr ⟨by omega, by omega⟩) dL_law_881 ?_
  refine lv_topi (fun vix1 evix1 => ?_)
  have hFc := lg_free hDx hS hA
  obtain ⟨fs882, hfs882⟩ := ix_recv hIX
  refine va_calli (va_runV (As := [.int vix1]) (rest := []) ⟨hx, hb, hml, hown, hts⟩ (k_X7_crowd l dC dI H.size x tp vi vf wx tx hIX vix1) (cwV 1 hts gd_X7_crowd rfl rfl rfl (by decide +kernel) ⟨Nat.le_of_ble_eq_true rfl, Nat.le_of_ble_eq_true rfl⟩) ⟨ax_blind (fun _ _ _ _ hq => ⟨va_Nw.same rfl rfl (hq.1), va_Nw.same rfl rfl (hq.2.1), va_Nw.same rfl rfl (hq.2.2)⟩), va_recv hKx hPx (ci := 7) (q0 := 0) rfl hfs882, ax_preE hPx hKx hDx (fun U hU hW => ⟨va_Nw.warmM hW (hE.2.2.2.1), va_Nw.warmM hW (hE.2.2.1), va_Nw.warmM hW (hE.2.2.2.2.1)⟩)⟩ rfl rfl hl.1 rfl (lv_room (Nat.le_of_ble_eq_true rfl)) dL_law_882 ⟨hcc, hss⟩) hS (fun q _ h => hFc q h) hFc (fun r882 u t H1 locs ht hvm hw882 hB hz1 hk1 hS => ?_)
  obtain ⟨wxn, txn, ⟨vi1, vf1, kx1, kx2, q4x, hI1⟩, hP1, hK1, hD1⟩ := hB
  rw [ht] at hP1
  have hK1 := va_K.moved hvm.symm hK1
  obtain ⟨hPm, jxm⟩ := lg_step hPm jxm hk1 hD1
  obtain ⟨hPo, jxo⟩ := lg_step hPo jxo hk1 hD1
  have hD1 := hD1.weaken (fun _ _ _ h9 => hFc _ h9)
  clear hPx hDx hKx hFc hk1 hz1 hfs882
  have hIX := hI1; have hPx := hP1; have hDx := hD1; have hKx := hK1; clear hI1 hP1 hD1 hK1
  clear ht; generalize H1 = H at hPx hPm hPo hS ⊢
  refine lv_pop hx hb dL_law_885 rfl ?_
  refine lv_aload_n hx hb dL_law_886 rfl (lv_at hl 2 rfl) ?_
  refine lv_aload_n hx hb dL_law_887 rfl (lv_at hl 4 rfl) ?_
  refine lv_iload hx hb dL_law_888 (lv_at hl 0 rfl) ?_
  refine lv_iconst (v := 1) hx hb dL_law_890 zk_iconst_1 ?_
  refine lv_iadd hx hb dL_law_891 ?_
  refine ax_ti ix1 eix1.symm ?_
  refine va_sld (L := L) (i := ix1) hx hb hX hbl hbA hS (vp_in_iff.mpr ⟨by omega, by omega⟩) dL_law_892 ?_
  refine ax_ti vix1 evix1.symm ?_
  have hFc := lg_free hDm hS hA
  obtain ⟨fs893, hfs893⟩ := im_recv hIM
  refine va_calli (va_runV (As := [.int vix1]) (rest := []) ⟨hx, hb, hml, hown, hts⟩ (k_X8_crowd l dC dI H.size mo tp vm vn wm tm hIM vix1) (cwV 1 hts gd_X8_crowd rfl rfl rfl (by decide +kernel) ⟨Nat.le_of_ble_eq_true rfl, Nat.le_of_ble_eq_true rfl⟩) ⟨ax_blind (fun _ _ _ _ _ => trivial), va_recv hKm hPm (ci := 8) (q0 := 0) rfl hfs893, ax_preE hPm hKm hDm (fun _ _ _ => trivial)⟩ rfl rfl hl.1 rfl (lv_room (Nat.le_of_ble_eq_true rfl)) dL_law_893 ⟨hcc, hss⟩) hS (fun q _ h => hFc q h) hFc (fun r893 u t H1 locs ht hvm hw893 hB hz1 hk1 hS => ?_)
  obtain ⟨wmn, tmn, ⟨vm1, vn1, km1, km2, q4m, hI1⟩, hP1, hK1, hD1⟩ := hB
  rw [ht] at hP1
  have hK1 := va_K.moved hvm.symm hK1
  obtain ⟨hPx, jmx⟩ := lg_step hPx (dj_symm jxm) hk1 hD1
  have jxm := dj_symm jmx
  obtain ⟨hPo, jmo⟩ := lg_step hPo jmo hk1 hD1
  have hD1 := hD1.weaken (fun _ _ _ h9 => hFc _ h9)
  clear hPm hDm hKm hFc hk1 hz1 hfs893
  have hIM := hI1; have hPm := hP1; have hDm := hD1; have hKm := hK1; clear hI1 hP1 hD1 hK1
  clear ht; generalize H1 = H at hPx hPm hPo hS ⊢
  refine lv_pop hx hb dL_law_896 rfl ?_
  refine lv_goto (tgt := 1941) hx hb dL_law_897 (by decide) ?_
  have hWn : lr_5 vi1 vm1 := l5_no q4x q4m
  have hRn : lr_R tp vi1 vf1 vm1 vn1 := ⟨by rw [kx2 0 (by decide), km2 0 (by decide)]; exact hR.1, lr_keep (fun k9 h9 => kx1 k9 (kp_dis (by decide) h9)) (fun k9 h9 => kx2 k9 (kp_dis (by decide) h9)) (fun k9 h9 => km1 k9 (kp_dis (by decide) h9)) (fun k9 h9 => km2 k9 (kp_dis (by decide) h9)) hR.2⟩
  have hRn := And.intro hRn hWn
  exact kk _ _ _ _ _ (Nat.le_add_right _ _) (Nat.le_add_right _ _) ⟨tp, _, _, _, _, _, _, _, _, _, hIX, hIM, hRn, hKx, hKm, hPx, hPm, hPo, hDx, hDm, hDo, jxm, jxo, jmo⟩ hS (lv_sub hl [0, 1, 2, 3, 4] rfl)

set_option maxHeartbeats 4000000 in
set_option maxRecDepth 100000 in
theorem lc_24 {p : Program} {l : Launch} {e : Env} {s : State} {m : MethodId} {below : List Frame} {meth : Method} {c : Code} {b L : Nat} {xs : Nat → Int32} {A : Nat → Prop} {dC : Nat → ClassId} {dI : Nat → Nat → Nat} (hl0 : l.stackTraces = false) (hL : L ≤ 3072) (hA : ∀ q, s.heap.size ≤ q → A q) (hA2 : ∀ q, A q → s.heap.size ≤ q) (C0 : lw_At p s m meth c b L xs) (sd : Nat → Nat) (sa : Nat) (hE : lg_E A sd sa s) (x mo oa : Nat) (ko : ClassId) (hKo : va_K (dC, dI) vwCl [(ko, .long)] s) (i : Int32) (hi0 : (0 : Int) ≤ i.toInt) (hi6 : i.toInt + 6 ≤ (L : Int)) {H : Heap} {locs : List Loc} {cells slots : Nat} (hc9 : cells + 1 ≤ 601024) (hs9 : slots + 6 ≤ 7293034) (hG : lg_S dC dI A s x mo oa ko H) (hS : va_S A s.heap H locs) {ls : Array Slot} (hl : lv_has ls 7 [(4, .int i), (3, .ref oa), (2, .ref mo), (1, .ref x), (0, .ref b)])
    (kk : ∀ (H : Heap) (locs : List Loc) (ls : Array Slot) (k9 n9 : Nat), k9 ≤ cells + 1 → n9 ≤ slots + 6 → lg_S dC dI A s x mo oa ko H → va_S A s.heap H locs → lv_has ls 7 [(4, .int i), (3, .ref oa), (2, .ref mo), (1, .ref x), (0, .ref b)] → W p l e room_1 s m #[Value.ref b] below meth c H locs k9 n9 (lw_Z below #[Value.ref b] s) (F0 m 1941 ls [])) : W p l e room_1 s m #[Value.ref b] below meth c H locs cells slots (lw_Z below #[Value.ref b] s) (F0 m 900 ls []) := by
  obtain ⟨hx, hb, hr, hml, hown0, htl, hX, hbl, hlocks, hgv⟩ := id C0
  have hown : s.vm.findClass RL = some m.cls := hown0
  have hts : ∀ w ∈ wlT, w.before #[Value.ref b] s = true := fun w h => htl w (wlT_in w h)
  have hbA : ¬ A b := fun h => absurd (hA2 b h) (Nat.not_le.mpr hbl)
  obtain ⟨tp, wx, wm, tx, tm, fo, vi, vf, vm, vn, hIX, hIM, ⟨hR, hW⟩, hKx, hKm, hPx, hPm, hPo, hDx, hDm, hDo, jxm, jxo, jmo⟩ := hG
  have hiM : i.toInt ≤ (3066 : Int) := by omega
  have hcc : cells ≤ 601024 := by omega
  have hss : slots ≤ 7293034 := by omega
  have htpb := ix_tp hIX
  refine lv_aload_n hx hb dL_law_900 rfl (lv_at hl 3 rfl) ?_
  refine lv_aload_n hx hb dL_law_901 rfl (lv_at hl 4 rfl) ?_
  refine lv_iload hx hb dL_law_902 (lv_at hl 0 rfl) ?_
  refine lv_iconst (v := 1) hx hb dL_law_904 zk_iconst_1 ?_
  refine lv_iadd hx hb dL_law_905 ?_
  refine lv_topi (fun ix1 eix1 => ?_)
  have qix1 : ix1.toInt = i.toInt + 1 := ai_add eix1 ⟨hi0, hiM⟩ ⟨zq1, zq0⟩ (by decide) (by decide)
  refine va_sld (L := L) (i := ix1) hx hb hX hbl hbA hS (vp_in_iff.mpr ⟨by omega, by omega⟩) dL_law_906 ?_
  refine lv_topi (fun vix1 evix1 => ?_)
  have hFc := lg_free hDx hS hA
  obtain ⟨fs907, hfs907⟩ := ix_recv hIX
  refine va_calli (va_runV (As := [.int vix1]) (rest := []) ⟨hx, hb, hml, hown, hts⟩ (k_X7_farthest l dC dI H.size x tp vi vf wx tx hIX vix1) (cwV 1 hts gd_X7_farthest rfl rfl rfl (by decide +kernel) ⟨Nat.le_of_ble_eq_true rfl, Nat.le_of_ble_eq_true rfl⟩) ⟨ax_blind (fun _ _ _ _ hq => ⟨va_Nw.same rfl rfl (hq.1), va_Nw.same rfl rfl (hq.2.1), va_Nw.same rfl rfl (hq.2.2)⟩), va_recv hKx hPx (ci := 7) (q0 := 0) rfl hfs907, ax_preE hPx hKx hDx (fun U hU hW => ⟨va_Nw.warmM hW (hE.2.2.2.1), va_Nw.warmM hW (hE.2.2.1), va_Nw.warmM hW (hE.2.2.2.2.1)⟩)⟩ rfl rfl hl.1 rfl (lv_room (Nat.le_of_ble_eq_true rfl)) dL_law_907 ⟨hcc, hss⟩) hS (fun q _ h => hFc q h) hFc (fun r907 u t H1 locs ht hvm hw907 hB hz1 hk1 hS => ?_)
  obtain ⟨wxn, txn, ⟨vi1, vf1, kx1, kx2, q4x, hI1⟩, hP1, hK1, hD1⟩ := hB
  rw [ht] at hP1
  have hK1 := va_K.moved hvm.symm hK1
  obtain ⟨hPm, jxm⟩ := lg_step hPm jxm hk1 hD1
  obtain ⟨hPo, jxo⟩ := lg_step hPo jxo hk1 hD1
  have hD1 := hD1.weaken (fun _ _ _ h9 => hFc _ h9)
  clear hPx hDx hKx hFc hk1 hz1 hfs907
  have hIX := hI1; have hPx := hP1; have hDx := hD1; have hKx := hK1; clear hI1 hP1 hD1 hK1
  clear ht; generalize H1 = H at hPx hPm hPo hS ⊢
  refine lv_pop hx hb dL_law_910 rfl ?_
  refine lv_aload_n hx hb dL_law_911 rfl (lv_at hl 2 rfl) ?_
  refine lv_aload_n hx hb dL_law_912 rfl (lv_at hl 4 rfl) ?_
  refine lv_iload hx hb dL_law_913 (lv_at hl 0 rfl) ?_
  refine lv_iconst (v := 1) hx hb dL_law_915 zk_iconst_1 ?_
  refine lv_iadd hx hb dL_law_916 ?_
  refine ax_ti ix1 eix1.symm ?_
  refine va_sld (L := L) (i := ix1) hx hb hX hbl hbA hS (vp_in_iff.mpr ⟨by omega, by omega⟩) dL_law_917 ?_
  refine ax_ti vix1 evix1.symm ?_
  have hFc := lg_free hDm hS hA
  obtain ⟨fs918, hfs918⟩ := im_recv hIM
  refine va_calli (va_runV (As := [.int vix1]) (rest := []) ⟨hx, hb, hml, hown, hts⟩ (k_X8_farthest l dC dI H.size mo tp vm vn wm tm hIM vix1) (cwV 1 hts gd_X8_farthest rfl rfl rfl (by decide +kernel) ⟨Nat.le_of_ble_eq_true rfl, Nat.le_of_ble_eq_true rfl⟩) ⟨ax_blind (fun _ _ _ _ _ => trivial), va_recv hKm hPm (ci := 8) (q0 := 0) rfl hfs918, ax_preE hPm hKm hDm (fun _ _ _ => trivial)⟩ rfl rfl hl.1 rfl (lv_room (Nat.le_of_ble_eq_true rfl)) dL_law_918 ⟨hcc, hss⟩) hS (fun q _ h => hFc q h) hFc (fun r918 u t H1 locs ht hvm hw918 hB hz1 hk1 hS => ?_)
  obtain ⟨wmn, tmn, ⟨vm1, vn1, km1, km2, q4m, hI1⟩, hP1, hK1, hD1⟩ := hB
  rw [ht] at hP1
  have hK1 := va_K.moved hvm.symm hK1
  obtain ⟨hPx, jmx⟩ := lg_step hPx (dj_symm jxm) hk1 hD1
  have jxm := dj_symm jmx
  obtain ⟨hPo, jmo⟩ := lg_step hPo jmo hk1 hD1
  have hD1 := hD1.weaken (fun _ _ _ h9 => hFc _ h9)
  clear hPm hDm hKm hFc hk1 hz1 hfs918
  have hIM := hI1; have hPm := hP1; have hDm := hD1; have hKm := hK1; clear hI1 hP1 hD1 hK1
  clear ht; generalize H1 = H at hPx hPm hPo hS ⊢
  refine lv_pop hx hb dL_law_921 rfl ?_
  refine lv_goto (tgt := 1941) hx hb dL_law_922 (by decide) ?_
  have hWn : lr_5 vi1 vm1 := l5_no q4x q4m
  have hRn : lr_R tp vi1 vf1 vm1 vn1 := ⟨by rw [kx2 0 (by decide), km2 0 (by decide)]; exact hR.1, lr_keep (fun k9 h9 => kx1 k9 (kp_dis (by decide) h9)) (fun k9 h9 => kx2 k9 (kp_dis (by decide) h9)) (fun k9 h9 => km1 k9 (kp_dis (by decide) h9)) (fun k9 h9 => km2 k9 (kp_dis (by decide) h9)) hR.2⟩
  have hRn := And.intro hRn hWn
  exact kk _ _ _ _ _ (Nat.le_add_right _ _) (Nat.le_add_right _ _) ⟨tp, _, _, _, _, _, _, _, _, _, hIX, hIM, hRn, hKx, hKm, hPx, hPm, hPo, hDx, hDm, hDo, jxm, jxo, jmo⟩ hS (lv_sub hl [0, 1, 2, 3, 4] rfl)

set_option maxHeartbeats 4000000 in
set_option maxRecDepth 100000 in
theorem lc_25 {p : Program} {l : Launch} {e : Env} {s : State} {m : MethodId} {below : List Frame} {meth : Method} {c : Code} {b L : Nat} {xs : Nat → Int32} {A : Nat → Prop} {dC : Nat → ClassId} {dI : Nat → Nat → Nat} (hl0 : l.stackTraces = false) (hL : L ≤ 3072) (hA : ∀ q, s.heap.size ≤ q → A q) (hA2 : ∀ q, A q → s.heap.size ≤ q) (C0 : lw_At p s m meth c b L xs) (sd : Nat → Nat) (sa : Nat) (hE : lg_E A sd sa s) (x mo oa : Nat) (ko : ClassId) (hKo : va_K (dC, dI) vwCl [(ko, .long)] s) (i : Int32) (hi0 : (0 : Int) ≤ i.toInt) (hi6 : i.toInt + 6 ≤ (L : Int)) {H : Heap} {locs : List Loc} {cells slots : Nat} (hc9 : cells + 1 ≤ 601024) (hs9 : slots + 6 ≤ 7293034) (hG : lg_S dC dI A s x mo oa ko H) (hS : va_S A s.heap H locs) {ls : Array Slot} (hl : lv_has ls 7 [(4, .int i), (3, .ref oa), (2, .ref mo), (1, .ref x), (0, .ref b)])
    (kk : ∀ (H : Heap) (locs : List Loc) (ls : Array Slot) (k9 n9 : Nat), k9 ≤ cells + 1 → n9 ≤ slots + 6 → lg_S dC dI A s x mo oa ko H → va_S A s.heap H locs → lv_has ls 7 [(4, .int i), (3, .ref oa), (2, .ref mo), (1, .ref x), (0, .ref b)] → W p l e room_1 s m #[Value.ref b] below meth c H locs k9 n9 (lw_Z below #[Value.ref b] s) (F0 m 1941 ls [])) : W p l e room_1 s m #[Value.ref b] below meth c H locs cells slots (lw_Z below #[Value.ref b] s) (F0 m 925 ls []) := by
  obtain ⟨hx, hb, hr, hml, hown0, htl, hX, hbl, hlocks, hgv⟩ := id C0
  have hown : s.vm.findClass RL = some m.cls := hown0
  have hts : ∀ w ∈ wlT, w.before #[Value.ref b] s = true := fun w h => htl w (wlT_in w h)
  have hbA : ¬ A b := fun h => absurd (hA2 b h) (Nat.not_le.mpr hbl)
  obtain ⟨tp, wx, wm, tx, tm, fo, vi, vf, vm, vn, hIX, hIM, ⟨hR, hW⟩, hKx, hKm, hPx, hPm, hPo, hDx, hDm, hDo, jxm, jxo, jmo⟩ := hG
  have hiM : i.toInt ≤ (3066 : Int) := by omega
  have hcc : cells ≤ 601024 := by omega
  have hss : slots ≤ 7293034 := by omega
  have htpb := ix_tp hIX
  refine lv_aload_n hx hb dL_law_925 rfl (lv_at hl 3 rfl) ?_
  refine lv_aload_n hx hb dL_law_926 rfl (lv_at hl 4 rfl) ?_
  refine lv_iload hx hb dL_law_927 (lv_at hl 0 rfl) ?_
  refine lv_iconst (v := 1) hx hb dL_law_929 zk_iconst_1 ?_
  refine lv_iadd hx hb dL_law_930 ?_
  refine lv_topi (fun ix1 eix1 => ?_)
  have qix1 : ix1.toInt = i.toInt + 1 := ai_add eix1 ⟨hi0, hiM⟩ ⟨zq1, zq0⟩ (by decide) (by decide)
  refine va_sld (L := L) (i := ix1) hx hb hX hbl hbA hS (vp_in_iff.mpr ⟨by omega, by omega⟩) dL_law_931 ?_
  refine lv_topi (fun vix1 evix1 => ?_)
  refine lv_aload_n hx hb dL_law_932 rfl (lv_at hl 4 rfl) ?_
  refine lv_iload hx hb dL_law_933 (lv_at hl 0 rfl) ?_
  refine lv_iconst (v := 2) hx hb dL_law_935 zk_iconst_2 ?_
  refine lv_iadd hx hb dL_law_936 ?_
  refine lv_topi (fun ix2 eix2 => ?_)
  have qix2 : ix2.toInt = i.toInt + 2 := ai_add eix2 ⟨hi0, hiM⟩ ⟨zq12, zq13⟩ (by decide) (by decide)
  refine va_sld (L := L) (i := ix2) hx hb hX hbl hbA hS (vp_in_iff.mpr ⟨by omega, by omega⟩) dL_law_937 ?_
  refine lv_topi (fun vix2 evix2 => ?_)
  have hFc := lg_free hDx hS hA
  obtain ⟨fs938, hfs938⟩ := ix_recv hIX
  refine va_calli (va_runV (As := [.int vix1, .int vix2]) (rest := []) ⟨hx, hb, hml, hown, hts⟩ (k_X7_nearBy l dC dI H.size x tp vi vf wx tx hIX vix1 vix2) (cwV 2 hts gd_X7_nearBy rfl rfl rfl (by decide +kernel) ⟨Nat.le_of_ble_eq_true rfl, Nat.le_of_ble_eq_true rfl⟩) ⟨ax_blind (fun _ _ _ _ hq => ⟨va_Nw.same rfl rfl (hq.1), va_Nw.same rfl rfl (hq.2.1), va_Nw.same rfl rfl (hq.2.2)⟩), va_recv hKx hPx (ci := 7) (q0 := 0) rfl hfs938, ax_preE hPx hKx hDx (fun U hU hW => ⟨va_Nw.warmM hW (hE.2.2.2.1), va_Nw.warmM hW (hE.2.2.1), va_Nw.warmM hW (hE.2.2.2.2.1)⟩)⟩ rfl rfl hl.1 rfl (lv_room (Nat.le_of_ble_eq_true rfl)) dL_law_938 ⟨hcc, hss⟩) hS (fun q _ h => hFc q h) hFc (fun r938 u t H1 locs ht hvm hw938 hB hz1 hk1 hS => ?_)
  obtain ⟨wxn, txn, ⟨vi1, vf1, kx1, kx2, q4x, hI1⟩, hP1, hK1, hD1⟩ := hB
  rw [ht] at hP1
  have hK1 := va_K.moved hvm.symm hK1
  obtain ⟨hPm, jxm⟩ := lg_step hPm jxm hk1 hD1
  obtain ⟨hPo, jxo⟩ := lg_step hPo jxo hk1 hD1
  have hD1 := hD1.weaken (fun _ _ _ h9 => hFc _ h9)
  clear hPx hDx hKx hFc hk1 hz1 hfs938
  have hIX := hI1; have hPx := hP1; have hDx := hD1; have hKx := hK1; clear hI1 hP1 hD1 hK1
  clear ht; generalize H1 = H at hPx hPm hPo hS ⊢
  refine lv_pop hx hb dL_law_941 rfl ?_
  refine lv_aload_n hx hb dL_law_942 rfl (lv_at hl 2 rfl) ?_
  refine lv_aload_n hx hb dL_law_943 rfl (lv_at hl 4 rfl) ?_
  refine lv_iload hx hb dL_law_944 (lv_at hl 0 rfl) ?_
  refine lv_iconst (v := 1) hx hb dL_law_946 zk_iconst_1 ?_
  refine lv_iadd hx hb dL_law_947 ?_
  refine ax_ti ix1 eix1.symm ?_
  refine va_sld (L := L) (i := ix1) hx hb hX hbl hbA hS (vp_in_iff.mpr ⟨by omega, by omega⟩) dL_law_948 ?_
  refine ax_ti vix1 evix1.symm ?_
  refine lv_aload_n hx hb dL_law_949 rfl (lv_at hl 4 rfl) ?_
  refine lv_iload hx hb dL_law_950 (lv_at hl 0 rfl) ?_
  refine lv_iconst (v := 2) hx hb dL_law_952 zk_iconst_2 ?_
  refine lv_iadd hx hb dL_law_953 ?_
  refine ax_ti ix2 eix2.symm ?_
  refine va_sld (L := L) (i := ix2) hx hb hX hbl hbA hS (vp_in_iff.mpr ⟨by omega, by omega⟩) dL_law_954 ?_
  refine ax_ti vix2 evix2.symm ?_
  have hFc := lg_free hDm hS hA
  obtain ⟨fs955, hfs955⟩ := im_recv hIM
  refine va_calli (va_runV (As := [.int vix1, .int vix2]) (rest := []) ⟨hx, hb, hml, hown, hts⟩ (k_X8_nearBy l dC dI H.size mo tp vm vn wm tm hIM vix1 vix2) (cwV 2 hts gd_X8_nearBy rfl rfl rfl (by decide +kernel) ⟨Nat.le_of_ble_eq_true rfl, Nat.le_of_ble_eq_true rfl⟩) ⟨ax_blind (fun _ _ _ _ _ => trivial), va_recv hKm hPm (ci := 8) (q0 := 0) rfl hfs955, ax_preE hPm hKm hDm (fun _ _ _ => trivial)⟩ rfl rfl hl.1 rfl (lv_room (Nat.le_of_ble_eq_true rfl)) dL_law_955 ⟨hcc, hss⟩) hS (fun q _ h => hFc q h) hFc (fun r955 u t H1 locs ht hvm hw955 hB hz1 hk1 hS => ?_)
  obtain ⟨wmn, tmn, ⟨vm1, vn1, km1, km2, q4m, hI1⟩, hP1, hK1, hD1⟩ := hB
  rw [ht] at hP1
  have hK1 := va_K.moved hvm.symm hK1
  obtain ⟨hPx, jmx⟩ := lg_step hPx (dj_symm jxm) hk1 hD1
  have jxm := dj_symm jmx
  obtain ⟨hPo, jmo⟩ := lg_step hPo jmo hk1 hD1
  have hD1 := hD1.weaken (fun _ _ _ h9 => hFc _ h9)
  clear hPm hDm hKm hFc hk1 hz1 hfs955
  have hIM := hI1; have hPm := hP1; have hDm := hD1; have hKm := hK1; clear hI1 hP1 hD1 hK1
  clear ht; generalize H1 = H at hPx hPm hPo hS ⊢
  refine lv_pop hx hb dL_law_958 rfl ?_
  refine lv_goto (tgt := 1941) hx hb dL_law_959 (by decide) ?_
  have hWn : lr_5 vi1 vm1 := l5_no q4x q4m
  have hRn : lr_R tp vi1 vf1 vm1 vn1 := ⟨by rw [kx2 0 (by decide), km2 0 (by decide)]; exact hR.1, lr_keep (fun k9 h9 => kx1 k9 (kp_dis (by decide) h9)) (fun k9 h9 => kx2 k9 (kp_dis (by decide) h9)) (fun k9 h9 => km1 k9 (kp_dis (by decide) h9)) (fun k9 h9 => km2 k9 (kp_dis (by decide) h9)) hR.2⟩
  have hRn := And.intro hRn hWn
  exact kk _ _ _ _ _ (Nat.le_add_right _ _) (Nat.le_add_right _ _) ⟨tp, _, _, _, _, _, _, _, _, _, hIX, hIM, hRn, hKx, hKm, hPx, hPm, hPo, hDx, hDm, hDo, jxm, jxo, jmo⟩ hS (lv_sub hl [0, 1, 2, 3, 4] rfl)

set_option maxHeartbeats 4000000 in
set_option maxRecDepth 100000 in
theorem lc_26 {p : Program} {l : Launch} {e : Env} {s : State} {m : MethodId} {below : List Frame} {meth : Method} {c : Code} {b L : Nat} {xs : Nat → Int32} {A : Nat → Prop} {dC : Nat → ClassId} {dI : Nat → Nat → Nat} (hl0 : l.stackTraces = false) (hL : L ≤ 3072) (hA : ∀ q, s.heap.size ≤ q → A q) (hA2 : ∀ q, A q → s.heap.size ≤ q) (C0 : lw_At p s m meth c b L xs) (sd : Nat → Nat) (sa : Nat) (hE : lg_E A sd sa s) (x mo oa : Nat) (ko : ClassId) (hKo : va_K (dC, dI) vwCl [(ko, .long)] s) (i : Int32) (hi0 : (0 : Int) ≤ i.toInt) (hi6 : i.toInt + 6 ≤ (L : Int)) {H : Heap} {locs : List Loc} {cells slots : Nat} (hc9 : cells + 1 ≤ 601024) (hs9 : slots + 6 ≤ 7293034) (hG : lg_S dC dI A s x mo oa ko H) (hS : va_S A s.heap H locs) {ls : Array Slot} (hl : lv_has ls 7 [(4, .int i), (3, .ref oa), (2, .ref mo), (1, .ref x), (0, .ref b)])
    (kk : ∀ (H : Heap) (locs : List Loc) (ls : Array Slot) (k9 n9 : Nat), k9 ≤ cells + 1 → n9 ≤ slots + 6 → lg_S dC dI A s x mo oa ko H → va_S A s.heap H locs → lv_has ls 7 [(4, .int i), (3, .ref oa), (2, .ref mo), (1, .ref x), (0, .ref b)] → W p l e room_1 s m #[Value.ref b] below meth c H locs k9 n9 (lw_Z below #[Value.ref b] s) (F0 m 1941 ls [])) : W p l e room_1 s m #[Value.ref b] below meth c H locs cells slots (lw_Z below #[Value.ref b] s) (F0 m 962 ls []) := by
  obtain ⟨hx, hb, hr, hml, hown0, htl, hX, hbl, hlocks, hgv⟩ := id C0
  have hown : s.vm.findClass RL = some m.cls := hown0
  have hts : ∀ w ∈ wlT, w.before #[Value.ref b] s = true := fun w h => htl w (wlT_in w h)
  have hbA : ¬ A b := fun h => absurd (hA2 b h) (Nat.not_le.mpr hbl)
  obtain ⟨tp, wx, wm, tx, tm, fo, vi, vf, vm, vn, hIX, hIM, ⟨hR, hW⟩, hKx, hKm, hPx, hPm, hPo, hDx, hDm, hDo, jxm, jxo, jmo⟩ := hG
  have hiM : i.toInt ≤ (3066 : Int) := by omega
  have hcc : cells ≤ 601024 := by omega
  have hss : slots ≤ 7293034 := by omega
  have htpb := ix_tp hIX
  refine lv_aload_n hx hb dL_law_962 rfl (lv_at hl 3 rfl) ?_
  refine lv_aload_n hx hb dL_law_963 rfl (lv_at hl 4 rfl) ?_
  refine lv_iload hx hb dL_law_964 (lv_at hl 0 rfl) ?_
  refine lv_iconst (v := 1) hx hb dL_law_966 zk_iconst_1 ?_
  refine lv_iadd hx hb dL_law_967 ?_
  refine lv_topi (fun ix1 eix1 => ?_)
  have qix1 : ix1.toInt = i.toInt + 1 := ai_add eix1 ⟨hi0, hiM⟩ ⟨zq1, zq0⟩ (by decide) (by decide)
  refine va_sld (L := L) (i := ix1) hx hb hX hbl hbA hS (vp_in_iff.mpr ⟨by omega, by omega⟩) dL_law_968 ?_
  refine lv_topi (fun vix1 evix1 => ?_)
  refine lv_aload_n hx hb dL_law_969 rfl (lv_at hl 4 rfl) ?_
  refine lv_iload hx hb dL_law_970 (lv_at hl 0 rfl) ?_
  refine lv_iconst (v := 2) hx hb dL_law_972 zk_iconst_2 ?_
  refine lv_iadd hx hb dL_law_973 ?_
  refine lv_topi (fun ix2 eix2 => ?_)
  have qix2 : ix2.toInt = i.toInt + 2 := ai_add eix2 ⟨hi0, hiM⟩ ⟨zq12, zq13⟩ (by decide) (by decide)
  refine va_sld (L := L) (i := ix2) hx hb hX hbl hbA hS (vp_in_iff.mpr ⟨by omega, by omega⟩) dL_law_974 ?_
  refine lv_topi (fun vix2 evix2 => ?_)
  have hFc := lg_free hDx hS hA
  obtain ⟨fs975, hfs975⟩ := ix_recv hIX
  refine va_calli (va_runV (As := [.int vix1, .int vix2]) (rest := []) ⟨hx, hb, hml, hown, hts⟩ (k_X7_spoken l dC dI H.size x tp vi vf wx tx hIX vix1 vix2) (cwV 2 hts gd_X7_spoken rfl rfl rfl (by decide +kernel) ⟨Nat.le_of_ble_eq_true rfl, Nat.le_of_ble_eq_true rfl⟩) ⟨ax_blind (fun _ _ _ _ hq => ⟨va_Nw.same rfl rfl (hq.1), va_Nw.same rfl rfl (hq.2.1), va_Nw.same rfl rfl (hq.2.2)⟩), va_recv hKx hPx (ci := 7) (q0 := 0) rfl hfs975, ax_preE hPx hKx hDx (fun U hU hW => ⟨va_Nw.warmM hW (hE.2.2.2.1), va_Nw.warmM hW (hE.2.2.1), va_Nw.warmM hW (hE.2.2.2.2.1)⟩)⟩ rfl rfl hl.1 rfl (lv_room (Nat.le_of_ble_eq_true rfl)) dL_law_975 ⟨hcc, hss⟩) hS (fun q _ h => hFc q h) hFc (fun r975 u t H1 locs ht hvm hw975 hB hz1 hk1 hS => ?_)
  obtain ⟨wxn, txn, ⟨vi1, vf1, kx1, kx2, q4x, hI1⟩, hP1, hK1, hD1⟩ := hB
  rw [ht] at hP1
  have hK1 := va_K.moved hvm.symm hK1
  obtain ⟨hPm, jxm⟩ := lg_step hPm jxm hk1 hD1
  obtain ⟨hPo, jxo⟩ := lg_step hPo jxo hk1 hD1
  have hD1 := hD1.weaken (fun _ _ _ h9 => hFc _ h9)
  clear hPx hDx hKx hFc hk1 hz1 hfs975
  have hIX := hI1; have hPx := hP1; have hDx := hD1; have hKx := hK1; clear hI1 hP1 hD1 hK1
  clear ht; generalize H1 = H at hPx hPm hPo hS ⊢
  refine lv_pop hx hb dL_law_978 rfl ?_
  refine lv_aload_n hx hb dL_law_979 rfl (lv_at hl 2 rfl) ?_
  refine lv_aload_n hx hb dL_law_980 rfl (lv_at hl 4 rfl) ?_
  refine lv_iload hx hb dL_law_981 (lv_at hl 0 rfl) ?_
  refine lv_iconst (v := 1) hx hb dL_law_983 zk_iconst_1 ?_
  refine lv_iadd hx hb dL_law_984 ?_
  refine ax_ti ix1 eix1.symm ?_
  refine va_sld (L := L) (i := ix1) hx hb hX hbl hbA hS (vp_in_iff.mpr ⟨by omega, by omega⟩) dL_law_985 ?_
  refine ax_ti vix1 evix1.symm ?_
  refine lv_aload_n hx hb dL_law_986 rfl (lv_at hl 4 rfl) ?_
  refine lv_iload hx hb dL_law_987 (lv_at hl 0 rfl) ?_
  refine lv_iconst (v := 2) hx hb dL_law_989 zk_iconst_2 ?_
  refine lv_iadd hx hb dL_law_990 ?_
  refine ax_ti ix2 eix2.symm ?_
  refine va_sld (L := L) (i := ix2) hx hb hX hbl hbA hS (vp_in_iff.mpr ⟨by omega, by omega⟩) dL_law_991 ?_
  refine ax_ti vix2 evix2.symm ?_
  have hFc := lg_free hDm hS hA
  obtain ⟨fs992, hfs992⟩ := im_recv hIM
  refine va_calli (va_runV (As := [.int vix1, .int vix2]) (rest := []) ⟨hx, hb, hml, hown, hts⟩ (k_X8_spoken l dC dI H.size mo tp vm vn wm tm hIM vix1 vix2) (cwV 2 hts gd_X8_spoken rfl rfl rfl (by decide +kernel) ⟨Nat.le_of_ble_eq_true rfl, Nat.le_of_ble_eq_true rfl⟩) ⟨ax_blind (fun _ _ _ _ _ => trivial), va_recv hKm hPm (ci := 8) (q0 := 0) rfl hfs992, ax_preE hPm hKm hDm (fun _ _ _ => trivial)⟩ rfl rfl hl.1 rfl (lv_room (Nat.le_of_ble_eq_true rfl)) dL_law_992 ⟨hcc, hss⟩) hS (fun q _ h => hFc q h) hFc (fun r992 u t H1 locs ht hvm hw992 hB hz1 hk1 hS => ?_)
  obtain ⟨wmn, tmn, ⟨vm1, vn1, km1, km2, q4m, hI1⟩, hP1, hK1, hD1⟩ := hB
  rw [ht] at hP1
  have hK1 := va_K.moved hvm.symm hK1
  obtain ⟨hPx, jmx⟩ := lg_step hPx (dj_symm jxm) hk1 hD1
  have jxm := dj_symm jmx
  obtain ⟨hPo, jmo⟩ := lg_step hPo jmo hk1 hD1
  have hD1 := hD1.weaken (fun _ _ _ h9 => hFc _ h9)
  clear hPm hDm hKm hFc hk1 hz1 hfs992
  have hIM := hI1; have hPm := hP1; have hDm := hD1; have hKm := hK1; clear hI1 hP1 hD1 hK1
  clear ht; generalize H1 = H at hPx hPm hPo hS ⊢
  refine lv_pop hx hb dL_law_995 rfl ?_
  refine lv_goto (tgt := 1941) hx hb dL_law_996 (by decide) ?_
  have hWn : lr_5 vi1 vm1 := l5_no q4x q4m
  have hRn : lr_R tp vi1 vf1 vm1 vn1 := ⟨by rw [kx2 0 (by decide), km2 0 (by decide)]; exact hR.1, lr_keep (fun k9 h9 => kx1 k9 (kp_dis (by decide) h9)) (fun k9 h9 => kx2 k9 (kp_dis (by decide) h9)) (fun k9 h9 => km1 k9 (kp_dis (by decide) h9)) (fun k9 h9 => km2 k9 (kp_dis (by decide) h9)) hR.2⟩
  have hRn := And.intro hRn hWn
  exact kk _ _ _ _ _ (Nat.le_add_right _ _) (Nat.le_add_right _ _) ⟨tp, _, _, _, _, _, _, _, _, _, hIX, hIM, hRn, hKx, hKm, hPx, hPm, hPo, hDx, hDm, hDo, jxm, jxo, jmo⟩ hS (lv_sub hl [0, 1, 2, 3, 4] rfl)

set_option maxHeartbeats 4000000 in
set_option maxRecDepth 100000 in
theorem lc_27 {p : Program} {l : Launch} {e : Env} {s : State} {m : MethodId} {below : List Frame} {meth : Method} {c : Code} {b L : Nat} {xs : Nat → Int32} {A : Nat → Prop} {dC : Nat → ClassId} {dI : Nat → Nat → Nat} (hl0 : l.stackTraces = false) (hL : L ≤ 3072) (hA : ∀ q, s.heap.size ≤ q → A q) (hA2 : ∀ q, A q → s.heap.size ≤ q) (C0 : lw_At p s m meth c b L xs) (sd : Nat → Nat) (sa : Nat) (hE : lg_E A sd sa s) (x mo oa : Nat) (ko : ClassId) (hKo : va_K (dC, dI) vwCl [(ko, .long)] s) (i : Int32) (hi0 : (0 : Int) ≤ i.toInt) (hi6 : i.toInt + 6 ≤ (L : Int)) {H : Heap} {locs : List Loc} {cells slots : Nat} (hc9 : cells + 1 ≤ 601024) (hs9 : slots + 6 ≤ 7293034) (hG : lg_S dC dI A s x mo oa ko H) (hS : va_S A s.heap H locs) {ls : Array Slot} (hl : lv_has ls 7 [(4, .int i), (3, .ref oa), (2, .ref mo), (1, .ref x), (0, .ref b)])
    (kk : ∀ (H : Heap) (locs : List Loc) (ls : Array Slot) (k9 n9 : Nat), k9 ≤ cells + 1 → n9 ≤ slots + 6 → lg_S dC dI A s x mo oa ko H → va_S A s.heap H locs → lv_has ls 7 [(4, .int i), (3, .ref oa), (2, .ref mo), (1, .ref x), (0, .ref b)] → W p l e room_1 s m #[Value.ref b] below meth c H locs k9 n9 (lw_Z below #[Value.ref b] s) (F0 m 1941 ls [])) : W p l e room_1 s m #[Value.ref b] below meth c H locs cells slots (lw_Z below #[Value.ref b] s) (F0 m 999 ls []) := by
  obtain ⟨hx, hb, hr, hml, hown0, htl, hX, hbl, hlocks, hgv⟩ := id C0
  have hown : s.vm.findClass RL = some m.cls := hown0
  have hts : ∀ w ∈ wlT, w.before #[Value.ref b] s = true := fun w h => htl w (wlT_in w h)
  have hbA : ¬ A b := fun h => absurd (hA2 b h) (Nat.not_le.mpr hbl)
  obtain ⟨tp, wx, wm, tx, tm, fo, vi, vf, vm, vn, hIX, hIM, ⟨hR, hW⟩, hKx, hKm, hPx, hPm, hPo, hDx, hDm, hDo, jxm, jxo, jmo⟩ := hG
  have hiM : i.toInt ≤ (3066 : Int) := by omega
  have hcc : cells ≤ 601024 := by omega
  have hss : slots ≤ 7293034 := by omega
  have htpb := ix_tp hIX
  refine lv_aload_n hx hb dL_law_999 rfl (lv_at hl 3 rfl) ?_
  refine lv_aload_n hx hb dL_law_1000 rfl (lv_at hl 4 rfl) ?_
  refine lv_iload hx hb dL_law_1001 (lv_at hl 0 rfl) ?_
  refine lv_iconst (v := 1) hx hb dL_law_1003 zk_iconst_1 ?_
  refine lv_iadd hx hb dL_law_1004 ?_
  refine lv_topi (fun ix1 eix1 => ?_)
  have qix1 : ix1.toInt = i.toInt + 1 := ai_add eix1 ⟨hi0, hiM⟩ ⟨zq1, zq0⟩ (by decide) (by decide)
  refine va_sld (L := L) (i := ix1) hx hb hX hbl hbA hS (vp_in_iff.mpr ⟨by omega, by omega⟩) dL_law_1005 ?_
  refine lv_topi (fun vix1 evix1 => ?_)
  refine lv_aload_n hx hb dL_law_1006 rfl (lv_at hl 4 rfl) ?_
  refine lv_iload hx hb dL_law_1007 (lv_at hl 0 rfl) ?_
  refine lv_iconst (v := 2) hx hb dL_law_1009 zk_iconst_2 ?_
  refine lv_iadd hx hb dL_law_1010 ?_
  refine lv_topi (fun ix2 eix2 => ?_)
  have qix2 : ix2.toInt = i.toInt + 2 := ai_add eix2 ⟨hi0, hiM⟩ ⟨zq12, zq13⟩ (by decide) (by decide)
  refine va_sld (L := L) (i := ix2) hx hb hX hbl hbA hS (vp_in_iff.mpr ⟨by omega, by omega⟩) dL_law_1011 ?_
  refine lv_topi (fun vix2 evix2 => ?_)
  have hFc := lg_free hDx hS hA
  obtain ⟨fs1012, hfs1012⟩ := ix_recv hIX
  refine va_calli (va_runV (As := [.int vix1, .int vix2]) (rest := []) ⟨hx, hb, hml, hown, hts⟩ (k_X7_route l dC dI H.size x tp vi vf wx tx hIX vix1 vix2) (cwV 2 hts gd_X7_route rfl rfl rfl (by decide +kernel) ⟨Nat.le_of_ble_eq_true rfl, Nat.le_of_ble_eq_true rfl⟩) ⟨ax_blind (fun _ _ _ _ hq => ⟨va_Nw.same rfl rfl (hq.1), va_Nw.same rfl rfl (hq.2.1), va_Nw.same rfl rfl (hq.2.2.1), va_Nw.same rfl rfl (hq.2.2.2)⟩), va_recv hKx hPx (ci := 7) (q0 := 0) rfl hfs1012, ax_preE hPx hKx hDx (fun U hU hW => ⟨va_Nw.warmM hW (hE.2.2.2.1), va_Nw.warmM hW (hE.2.2.1), va_Nw.warmM hW (hE.2.2.2.2.1), va_Nw.warmM hW (hE.2.2.2.2.2.1)⟩)⟩ rfl rfl hl.1 rfl (lv_room (Nat.le_of_ble_eq_true rfl)) dL_law_1012 ⟨hcc, hss⟩) hS (fun q _ h => hFc q h) hFc (fun r1012 u t H1 locs ht hvm hw1012 hB hz1 hk1 hS => ?_)
  obtain ⟨wxn, txn, ⟨vi1, vf1, kx1, kx2, q4x, hI1⟩, hP1, hK1, hD1⟩ := hB
  rw [ht] at hP1
  have hK1 := va_K.moved hvm.symm hK1
  obtain ⟨hPm, jxm⟩ := lg_step hPm jxm hk1 hD1
  obtain ⟨hPo, jxo⟩ := lg_step hPo jxo hk1 hD1
  have hD1 := hD1.weaken (fun _ _ _ h9 => hFc _ h9)
  clear hPx hDx hKx hFc hk1 hz1 hfs1012
  have hIX := hI1; have hPx := hP1; have hDx := hD1; have hKx := hK1; clear hI1 hP1 hD1 hK1
  clear ht; generalize H1 = H at hPx hPm hPo hS ⊢
  refine lv_pop hx hb dL_law_1015 rfl ?_
  refine lv_aload_n hx hb dL_law_1016 rfl (lv_at hl 2 rfl) ?_
  refine lv_aload_n hx hb dL_law_1017 rfl (lv_at hl 4 rfl) ?_
  refine lv_iload hx hb dL_law_1018 (lv_at hl 0 rfl) ?_
  refine lv_iconst (v := 1) hx hb dL_law_1020 zk_iconst_1 ?_
  refine lv_iadd hx hb dL_law_1021 ?_
  refine ax_ti ix1 eix1.symm ?_
  refine va_sld (L := L) (i := ix1) hx hb hX hbl hbA hS (vp_in_iff.mpr ⟨by omega, by omega⟩) dL_law_1022 ?_
  refine ax_ti vix1 evix1.symm ?_
  refine lv_aload_n hx hb dL_law_1023 rfl (lv_at hl 4 rfl) ?_
  refine lv_iload hx hb dL_law_1024 (lv_at hl 0 rfl) ?_
  refine lv_iconst (v := 2) hx hb dL_law_1026 zk_iconst_2 ?_
  refine lv_iadd hx hb dL_law_1027 ?_
  refine ax_ti ix2 eix2.symm ?_
  refine va_sld (L := L) (i := ix2) hx hb hX hbl hbA hS (vp_in_iff.mpr ⟨by omega, by omega⟩) dL_law_1028 ?_
  refine ax_ti vix2 evix2.symm ?_
  have hFc := lg_free hDm hS hA
  obtain ⟨fs1029, hfs1029⟩ := im_recv hIM
  refine va_calli (va_runV (As := [.int vix1, .int vix2]) (rest := []) ⟨hx, hb, hml, hown, hts⟩ (k_X8_route l dC dI H.size mo tp vm vn wm tm hIM vix1 vix2) (cwV 2 hts gd_X8_route rfl rfl rfl (by decide +kernel) ⟨Nat.le_of_ble_eq_true rfl, Nat.le_of_ble_eq_true rfl⟩) ⟨ax_blind (fun _ _ _ _ _ => trivial), va_recv hKm hPm (ci := 8) (q0 := 0) rfl hfs1029, ax_preE hPm hKm hDm (fun _ _ _ => trivial)⟩ rfl rfl hl.1 rfl (lv_room (Nat.le_of_ble_eq_true rfl)) dL_law_1029 ⟨hcc, hss⟩) hS (fun q _ h => hFc q h) hFc (fun r1029 u t H1 locs ht hvm hw1029 hB hz1 hk1 hS => ?_)
  obtain ⟨wmn, tmn, ⟨vm1, vn1, km1, km2, q4m, hI1⟩, hP1, hK1, hD1⟩ := hB
  rw [ht] at hP1
  have hK1 := va_K.moved hvm.symm hK1
  obtain ⟨hPx, jmx⟩ := lg_step hPx (dj_symm jxm) hk1 hD1
  have jxm := dj_symm jmx
  obtain ⟨hPo, jmo⟩ := lg_step hPo jmo hk1 hD1
  have hD1 := hD1.weaken (fun _ _ _ h9 => hFc _ h9)
  clear hPm hDm hKm hFc hk1 hz1 hfs1029
  have hIM := hI1; have hPm := hP1; have hDm := hD1; have hKm := hK1; clear hI1 hP1 hD1 hK1
  clear ht; generalize H1 = H at hPx hPm hPo hS ⊢
  refine lv_pop hx hb dL_law_1032 rfl ?_
  refine lv_goto (tgt := 1941) hx hb dL_law_1033 (by decide) ?_
  have hWn : lr_5 vi1 vm1 := l5_no q4x q4m
  have hRn : lr_R tp vi1 vf1 vm1 vn1 := ⟨by rw [kx2 0 (by decide), km2 0 (by decide)]; exact hR.1, lr_keep (fun k9 h9 => kx1 k9 (kp_dis (by decide) h9)) (fun k9 h9 => kx2 k9 (kp_dis (by decide) h9)) (fun k9 h9 => km1 k9 (kp_dis (by decide) h9)) (fun k9 h9 => km2 k9 (kp_dis (by decide) h9)) hR.2⟩
  have hRn := And.intro hRn hWn
  exact kk _ _ _ _ _ (Nat.le_add_right _ _) (Nat.le_add_right _ _) ⟨tp, _, _, _, _, _, _, _, _, _, hIX, hIM, hRn, hKx, hKm, hPx, hPm, hPo, hDx, hDm, hDo, jxm, jxo, jmo⟩ hS (lv_sub hl [0, 1, 2, 3, 4] rfl)

set_option maxHeartbeats 4000000 in
set_option maxRecDepth 100000 in
theorem lc_28 {p : Program} {l : Launch} {e : Env} {s : State} {m : MethodId} {below : List Frame} {meth : Method} {c : Code} {b L : Nat} {xs : Nat → Int32} {A : Nat → Prop} {dC : Nat → ClassId} {dI : Nat → Nat → Nat} (hl0 : l.stackTraces = false) (hL : L ≤ 3072) (hA : ∀ q, s.heap.size ≤ q → A q) (hA2 : ∀ q, A q → s.heap.size ≤ q) (C0 : lw_At p s m meth c b L xs) (sd : Nat → Nat) (sa : Nat) (hE : lg_E A sd sa s) (x mo oa : Nat) (ko : ClassId) (hKo : va_K (dC, dI) vwCl [(ko, .long)] s) (i : Int32) (hi0 : (0 : Int) ≤ i.toInt) (hi6 : i.toInt + 6 ≤ (L : Int)) {H : Heap} {locs : List Loc} {cells slots : Nat} (hc9 : cells + 1 ≤ 601024) (hs9 : slots + 6 ≤ 7293034) (hG : lg_S dC dI A s x mo oa ko H) (hS : va_S A s.heap H locs) {ls : Array Slot} (hl : lv_has ls 7 [(4, .int i), (3, .ref oa), (2, .ref mo), (1, .ref x), (0, .ref b)])
    (kk : ∀ (H : Heap) (locs : List Loc) (ls : Array Slot) (k9 n9 : Nat), k9 ≤ cells + 1 → n9 ≤ slots + 6 → lg_S dC dI A s x mo oa ko H → va_S A s.heap H locs → lv_has ls 7 [(4, .int i), (3, .ref oa), (2, .ref mo), (1, .ref x), (0, .ref b)] → W p l e room_1 s m #[Value.ref b] below meth c H locs k9 n9 (lw_Z below #[Value.ref b] s) (F0 m 1941 ls [])) : W p l e room_1 s m #[Value.ref b] below meth c H locs cells slots (lw_Z below #[Value.ref b] s) (F0 m 1036 ls []) := by
  obtain ⟨hx, hb, hr, hml, hown0, htl, hX, hbl, hlocks, hgv⟩ := id C0
  have hown : s.vm.findClass RL = some m.cls := hown0
  have hts : ∀ w ∈ wlT, w.before #[Value.ref b] s = true := fun w h => htl w (wlT_in w h)
  have hbA : ¬ A b := fun h => absurd (hA2 b h) (Nat.not_le.mpr hbl)
  obtain ⟨tp, wx, wm, tx, tm, fo, vi, vf, vm, vn, hIX, hIM, ⟨hR, hW⟩, hKx, hKm, hPx, hPm, hPo, hDx, hDm, hDo, jxm, jxo, jmo⟩ := hG
  have hiM : i.toInt ≤ (3066 : Int) := by omega
  have hcc : cells ≤ 601024 := by omega
  have hss : slots ≤ 7293034 := by omega
  have htpb := ix_tp hIX
  refine lv_aload_n hx hb dL_law_1036 rfl (lv_at hl 3 rfl) ?_
  refine lv_aload_n hx hb dL_law_1037 rfl (lv_at hl 4 rfl) ?_
  refine lv_iload hx hb dL_law_1038 (lv_at hl 0 rfl) ?_
  refine lv_iconst (v := 1) hx hb dL_law_1040 zk_iconst_1 ?_
  refine lv_iadd hx hb dL_law_1041 ?_
  refine lv_topi (fun ix1 eix1 => ?_)
  have qix1 : ix1.toInt = i.toInt + 1 := ai_add eix1 ⟨hi0, hiM⟩ ⟨zq1, zq0⟩ (by decide) (by decide)
  refine va_sld (L := L) (i := ix1) hx hb hX hbl hbA hS (vp_in_iff.mpr ⟨by omega, by omega⟩) dL_law_1042 ?_
  refine lv_topi (fun vix1 evix1 => ?_)
  refine lv_aload_n hx hb dL_law_1043 rfl (lv_at hl 4 rfl) ?_
  refine lv_iload hx hb dL_law_1044 (lv_at hl 0 rfl) ?_
  refine lv_iconst (v := 2) hx hb dL_law_1046 zk_iconst_2 ?_
  refine lv_iadd hx hb dL_law_1047 ?_
  refine lv_topi (fun ix2 eix2 => ?_)
  have qix2 : ix2.toInt = i.toInt + 2 := ai_add eix2 ⟨hi0, hiM⟩ ⟨zq12, zq13⟩ (by decide) (by decide)
  refine va_sld (L := L) (i := ix2) hx hb hX hbl hbA hS (vp_in_iff.mpr ⟨by omega, by omega⟩) dL_law_1048 ?_
  refine lv_topi (fun vix2 evix2 => ?_)
  refine lv_aload_n hx hb dL_law_1049 rfl (lv_at hl 4 rfl) ?_
  refine lv_iload hx hb dL_law_1050 (lv_at hl 0 rfl) ?_
  refine lv_iconst (v := 3) hx hb dL_law_1052 zk_iconst_3 ?_
  refine lv_iadd hx hb dL_law_1053 ?_
  refine lv_topi (fun ix3 eix3 => ?_)
  have qix3 : ix3.toInt = i.toInt + 3 := ai_add eix3 ⟨hi0, hiM⟩ ⟨zq8, zq9⟩ (by decide) (by decide)
  refine va_sld (L := L) (i := ix3) hx hb hX hbl hbA hS (vp_in_iff.mpr ⟨by omega, by omega⟩) dL_law_1054 ?_
  refine lv_topi (fun vix3 evix3 => ?_)
  have hFc := lg_free hDx hS hA
  obtain ⟨fs1055, hfs1055⟩ := ix_recv hIX
  refine va_calli (va_runV (As := [.int vix1, .int vix2, .int vix3]) (rest := []) ⟨hx, hb, hml, hown, hts⟩ (k_X7_routeAt l dC dI H.size x tp vi vf wx tx hIX vix1 vix2 vix3) (cwV 3 hts gd_X7_routeAt rfl rfl rfl (by decide +kernel) ⟨Nat.le_of_ble_eq_true rfl, Nat.le_of_ble_eq_true rfl⟩) ⟨ax_blind (fun _ _ _ _ hq => ⟨va_Nw.same rfl rfl (hq.1), va_Nw.same rfl rfl (hq.2.1), va_Nw.same rfl rfl (hq.2.2.1), va_Nw.same rfl rfl (hq.2.2.2)⟩), va_recv hKx hPx (ci := 7) (q0 := 0) rfl hfs1055, ax_preE hPx hKx hDx (fun U hU hW => ⟨va_Nw.warmM hW (hE.2.2.2.1), va_Nw.warmM hW (hE.2.2.1), va_Nw.warmM hW (hE.2.2.2.2.1), va_Nw.warmM hW (hE.2.2.2.2.2.1)⟩)⟩ rfl rfl hl.1 rfl (lv_room (Nat.le_of_ble_eq_true rfl)) dL_law_1055 ⟨hcc, hss⟩) hS (fun q _ h => hFc q h) hFc (fun r1055 u t H1 locs ht hvm hw1055 hB hz1 hk1 hS => ?_)
  obtain ⟨wxn, txn, ⟨vi1, vf1, kx1, kx2, q4x, hI1⟩, hP1, hK1, hD1⟩ := hB
  rw [ht] at hP1
  have hK1 := va_K.moved hvm.symm hK1
  obtain ⟨hPm, jxm⟩ := lg_step hPm jxm hk1 hD1
  obtain ⟨hPo, jxo⟩ := lg_step hPo jxo hk1 hD1
  have hD1 := hD1.weaken (fun _ _ _ h9 => hFc _ h9)
  clear hPx hDx hKx hFc hk1 hz1 hfs1055
  have hIX := hI1; have hPx := hP1; have hDx := hD1; have hKx := hK1; clear hI1 hP1 hD1 hK1
  clear ht; generalize H1 = H at hPx hPm hPo hS ⊢
  refine lv_pop hx hb dL_law_1058 rfl ?_
  refine lv_aload_n hx hb dL_law_1059 rfl (lv_at hl 2 rfl) ?_
  refine lv_aload_n hx hb dL_law_1060 rfl (lv_at hl 4 rfl) ?_
  refine lv_iload hx hb dL_law_1061 (lv_at hl 0 rfl) ?_
  refine lv_iconst (v := 1) hx hb dL_law_1063 zk_iconst_1 ?_
  refine lv_iadd hx hb dL_law_1064 ?_
  refine ax_ti ix1 eix1.symm ?_
  refine va_sld (L := L) (i := ix1) hx hb hX hbl hbA hS (vp_in_iff.mpr ⟨by omega, by omega⟩) dL_law_1065 ?_
  refine ax_ti vix1 evix1.symm ?_
  refine lv_aload_n hx hb dL_law_1066 rfl (lv_at hl 4 rfl) ?_
  refine lv_iload hx hb dL_law_1067 (lv_at hl 0 rfl) ?_
  refine lv_iconst (v := 2) hx hb dL_law_1069 zk_iconst_2 ?_
  refine lv_iadd hx hb dL_law_1070 ?_
  refine ax_ti ix2 eix2.symm ?_
  refine va_sld (L := L) (i := ix2) hx hb hX hbl hbA hS (vp_in_iff.mpr ⟨by omega, by omega⟩) dL_law_1071 ?_
  refine ax_ti vix2 evix2.symm ?_
  refine lv_aload_n hx hb dL_law_1072 rfl (lv_at hl 4 rfl) ?_
  refine lv_iload hx hb dL_law_1073 (lv_at hl 0 rfl) ?_
  refine lv_iconst (v := 3) hx hb dL_law_1075 zk_iconst_3 ?_
  refine lv_iadd hx hb dL_law_1076 ?_
  refine ax_ti ix3 eix3.symm ?_
  refine va_sld (L := L) (i := ix3) hx hb hX hbl hbA hS (vp_in_iff.mpr ⟨by omega, by omega⟩) dL_law_1077 ?_
  refine ax_ti vix3 evix3.symm ?_
  have hFc := lg_free hDm hS hA
  obtain ⟨fs1078, hfs1078⟩ := im_recv hIM
  refine va_calli (va_runV (As := [.int vix1, .int vix2, .int vix3]) (rest := []) ⟨hx, hb, hml, hown, hts⟩ (k_X8_routeAt l dC dI H.size mo tp vm vn wm tm hIM vix1 vix2 vix3) (cwV 3 hts gd_X8_routeAt rfl rfl rfl (by decide +kernel) ⟨Nat.le_of_ble_eq_true rfl, Nat.le_of_ble_eq_true rfl⟩) ⟨ax_blind (fun _ _ _ _ _ => trivial), va_recv hKm hPm (ci := 8) (q0 := 0) rfl hfs1078, ax_preE hPm hKm hDm (fun _ _ _ => trivial)⟩ rfl rfl hl.1 rfl (lv_room (Nat.le_of_ble_eq_true rfl)) dL_law_1078 ⟨hcc, hss⟩) hS (fun q _ h => hFc q h) hFc (fun r1078 u t H1 locs ht hvm hw1078 hB hz1 hk1 hS => ?_)
  obtain ⟨wmn, tmn, ⟨vm1, vn1, km1, km2, q4m, hI1⟩, hP1, hK1, hD1⟩ := hB
  rw [ht] at hP1
  have hK1 := va_K.moved hvm.symm hK1
  obtain ⟨hPx, jmx⟩ := lg_step hPx (dj_symm jxm) hk1 hD1
  have jxm := dj_symm jmx
  obtain ⟨hPo, jmo⟩ := lg_step hPo jmo hk1 hD1
  have hD1 := hD1.weaken (fun _ _ _ h9 => hFc _ h9)
  clear hPm hDm hKm hFc hk1 hz1 hfs1078
  have hIM := hI1; have hPm := hP1; have hDm := hD1; have hKm := hK1; clear hI1 hP1 hD1 hK1
  clear ht; generalize H1 = H at hPx hPm hPo hS ⊢
  refine lv_pop hx hb dL_law_1081 rfl ?_
  refine lv_goto (tgt := 1941) hx hb dL_law_1082 (by decide) ?_
  have hWn : lr_5 vi1 vm1 := l5_no q4x q4m
  have hRn : lr_R tp vi1 vf1 vm1 vn1 := ⟨by rw [kx2 0 (by decide), km2 0 (by decide)]; exact hR.1, lr_keep (fun k9 h9 => kx1 k9 (kp_dis (by decide) h9)) (fun k9 h9 => kx2 k9 (kp_dis (by decide) h9)) (fun k9 h9 => km1 k9 (kp_dis (by decide) h9)) (fun k9 h9 => km2 k9 (kp_dis (by decide) h9)) hR.2⟩
  have hRn := And.intro hRn hWn
  exact kk _ _ _ _ _ (Nat.le_add_right _ _) (Nat.le_add_right _ _) ⟨tp, _, _, _, _, _, _, _, _, _, hIX, hIM, hRn, hKx, hKm, hPx, hPm, hPo, hDx, hDm, hDo, jxm, jxo, jmo⟩ hS (lv_sub hl [0, 1, 2, 3, 4] rfl)

set_option maxHeartbeats 4000000 in
set_option maxRecDepth 100000 in
theorem lc_29 {p : Program} {l : Launch} {e : Env} {s : State} {m : MethodId} {below : List Frame} {meth : Method} {c : Code} {b L : Nat} {xs : Nat → Int32} {A : Nat → Prop} {dC : Nat → ClassId} {dI : Nat → Nat → Nat} (hl0 : l.stackTraces = false) (hL : L ≤ 3072) (hA : ∀ q, s.heap.size ≤ q → A q) (hA2 : ∀ q, A q → s.heap.size ≤ q) (C0 : lw_At p s m meth c b L xs) (sd : Nat → Nat) (sa : Nat) (hE : lg_E A sd sa s) (x mo oa : Nat) (ko : ClassId) (hKo : va_K (dC, dI) vwCl [(ko, .long)] s) (i : Int32) (hi0 : (0 : Int) ≤ i.toInt) (hi6 : i.toInt + 6 ≤ (L : Int)) {H : Heap} {locs : List Loc} {cells slots : Nat} (hc9 : cells + 1 ≤ 601024) (hs9 : slots + 6 ≤ 7293034) (hG : lg_S dC dI A s x mo oa ko H) (hS : va_S A s.heap H locs) {ls : Array Slot} (hl : lv_has ls 7 [(4, .int i), (3, .ref oa), (2, .ref mo), (1, .ref x), (0, .ref b)])
    (kk : ∀ (H : Heap) (locs : List Loc) (ls : Array Slot) (k9 n9 : Nat), k9 ≤ cells + 1 → n9 ≤ slots + 6 → lg_S dC dI A s x mo oa ko H → va_S A s.heap H locs → lv_has ls 7 [(4, .int i), (3, .ref oa), (2, .ref mo), (1, .ref x), (0, .ref b)] → W p l e room_1 s m #[Value.ref b] below meth c H locs k9 n9 (lw_Z below #[Value.ref b] s) (F0 m 1941 ls [])) : W p l e room_1 s m #[Value.ref b] below meth c H locs cells slots (lw_Z below #[Value.ref b] s) (F0 m 1085 ls []) := by
  obtain ⟨hx, hb, hr, hml, hown0, htl, hX, hbl, hlocks, hgv⟩ := id C0
  have hown : s.vm.findClass RL = some m.cls := hown0
  have hts : ∀ w ∈ wlT, w.before #[Value.ref b] s = true := fun w h => htl w (wlT_in w h)
  have hbA : ¬ A b := fun h => absurd (hA2 b h) (Nat.not_le.mpr hbl)
  obtain ⟨tp, wx, wm, tx, tm, fo, vi, vf, vm, vn, hIX, hIM, ⟨hR, hW⟩, hKx, hKm, hPx, hPm, hPo, hDx, hDm, hDo, jxm, jxo, jmo⟩ := hG
  have hiM : i.toInt ≤ (3066 : Int) := by omega
  have hcc : cells ≤ 601024 := by omega
  have hss : slots ≤ 7293034 := by omega
  have htpb := ix_tp hIX
  refine lv_aload_n hx hb dL_law_1085 rfl (lv_at hl 3 rfl) ?_
  refine lv_aload_n hx hb dL_law_1086 rfl (lv_at hl 4 rfl) ?_
  refine lv_iload hx hb dL_law_1087 (lv_at hl 0 rfl) ?_
  refine lv_iconst (v := 1) hx hb dL_law_1089 zk_iconst_1 ?_
  refine lv_iadd hx hb dL_law_1090 ?_
  refine lv_topi (fun ix1 eix1 => ?_)
  have qix1 : ix1.toInt = i.toInt + 1 := ai_add eix1 ⟨hi0, hiM⟩ ⟨zq1, zq0⟩ (by decide) (by decide)
  refine va_sld (L := L) (i := ix1) hx hb hX hbl hbA hS (vp_in_iff.mpr ⟨by omega, by omega⟩) dL_law_1091 ?_
  refine lv_topi (fun vix1 evix1 => ?_)
  have hFc := lg_free hDx hS hA
  obtain ⟨fs1092, hfs1092⟩ := ix_recv hIX
  refine va_calli (va_runV (As := [.int vix1]) (rest := []) ⟨hx, hb, hml, hown, hts⟩ (k_X7_stand l dC dI H.size x tp vi vf wx tx hIX vix1) (cwV 1 hts gd_X7_stand rfl rfl rfl (by decide +kernel) ⟨Nat.le_of_ble_eq_true rfl, Nat.le_of_ble_eq_true rfl⟩) ⟨ax_blind (fun _ _ _ _ hq => ⟨va_Nw.same rfl rfl (hq.1), va_Nw.same rfl rfl (hq.2.1), va_Nw.same rfl rfl (hq.2.2.1), va_Nw.same rfl rfl (hq.2.2.2)⟩), va_recv hKx hPx (ci := 7) (q0 := 0) rfl hfs1092, ax_preE hPx hKx hDx (fun U hU hW => ⟨va_Nw.warmM hW (hE.2.2.2.1), va_Nw.warmM hW (hE.2.2.1), va_Nw.warmM hW (hE.2.2.2.2.1), va_Nw.warmM hW (hE.2.2.2.2.2.1)⟩)⟩ rfl rfl hl.1 rfl (lv_room (Nat.le_of_ble_eq_true rfl)) dL_law_1092 ⟨hcc, hss⟩) hS (fun q _ h => hFc q h) hFc (fun r1092 u t H1 locs ht hvm hw1092 hB hz1 hk1 hS => ?_)
  obtain ⟨wxn, txn, ⟨vi1, vf1, kx1, kx2, q4x, hI1⟩, hP1, hK1, hD1⟩ := hB
  rw [ht] at hP1
  have hK1 := va_K.moved hvm.symm hK1
  obtain ⟨hPm, jxm⟩ := lg_step hPm jxm hk1 hD1
  obtain ⟨hPo, jxo⟩ := lg_step hPo jxo hk1 hD1
  have hD1 := hD1.weaken (fun _ _ _ h9 => hFc _ h9)
  clear hPx hDx hKx hFc hk1 hz1 hfs1092
  have hIX := hI1; have hPx := hP1; have hDx := hD1; have hKx := hK1; clear hI1 hP1 hD1 hK1
  clear ht; generalize H1 = H at hPx hPm hPo hS ⊢
  refine lv_pop hx hb dL_law_1095 rfl ?_
  refine lv_aload_n hx hb dL_law_1096 rfl (lv_at hl 2 rfl) ?_
  refine lv_aload_n hx hb dL_law_1097 rfl (lv_at hl 4 rfl) ?_
  refine lv_iload hx hb dL_law_1098 (lv_at hl 0 rfl) ?_
  refine lv_iconst (v := 1) hx hb dL_law_1100 zk_iconst_1 ?_
  refine lv_iadd hx hb dL_law_1101 ?_
  refine ax_ti ix1 eix1.symm ?_
  refine va_sld (L := L) (i := ix1) hx hb hX hbl hbA hS (vp_in_iff.mpr ⟨by omega, by omega⟩) dL_law_1102 ?_
  refine ax_ti vix1 evix1.symm ?_
  have hFc := lg_free hDm hS hA
  obtain ⟨fs1103, hfs1103⟩ := im_recv hIM
  refine va_calli (va_runV (As := [.int vix1]) (rest := []) ⟨hx, hb, hml, hown, hts⟩ (k_X8_stand l dC dI H.size mo tp vm vn wm tm hIM vix1) (cwV 1 hts gd_X8_stand rfl rfl rfl (by decide +kernel) ⟨Nat.le_of_ble_eq_true rfl, Nat.le_of_ble_eq_true rfl⟩) ⟨ax_blind (fun _ _ _ _ _ => trivial), va_recv hKm hPm (ci := 8) (q0 := 0) rfl hfs1103, ax_preE hPm hKm hDm (fun _ _ _ => trivial)⟩ rfl rfl hl.1 rfl (lv_room (Nat.le_of_ble_eq_true rfl)) dL_law_1103 ⟨hcc, hss⟩) hS (fun q _ h => hFc q h) hFc (fun r1103 u t H1 locs ht hvm hw1103 hB hz1 hk1 hS => ?_)
  obtain ⟨wmn, tmn, ⟨vm1, vn1, km1, km2, q4m, hI1⟩, hP1, hK1, hD1⟩ := hB
  rw [ht] at hP1
  have hK1 := va_K.moved hvm.symm hK1
  obtain ⟨hPx, jmx⟩ := lg_step hPx (dj_symm jxm) hk1 hD1
  have jxm := dj_symm jmx
  obtain ⟨hPo, jmo⟩ := lg_step hPo jmo hk1 hD1
  have hD1 := hD1.weaken (fun _ _ _ h9 => hFc _ h9)
  clear hPm hDm hKm hFc hk1 hz1 hfs1103
  have hIM := hI1; have hPm := hP1; have hDm := hD1; have hKm := hK1; clear hI1 hP1 hD1 hK1
  clear ht; generalize H1 = H at hPx hPm hPo hS ⊢
  refine lv_pop hx hb dL_law_1106 rfl ?_
  refine lv_goto (tgt := 1941) hx hb dL_law_1107 (by decide) ?_
  have hWn : lr_5 vi1 vm1 := l5_no q4x q4m
  have hRn : lr_R tp vi1 vf1 vm1 vn1 := ⟨by rw [kx2 0 (by decide), km2 0 (by decide)]; exact hR.1, lr_keep (fun k9 h9 => kx1 k9 (kp_dis (by decide) h9)) (fun k9 h9 => kx2 k9 (kp_dis (by decide) h9)) (fun k9 h9 => km1 k9 (kp_dis (by decide) h9)) (fun k9 h9 => km2 k9 (kp_dis (by decide) h9)) hR.2⟩
  have hRn := And.intro hRn hWn
  exact kk _ _ _ _ _ (Nat.le_add_right _ _) (Nat.le_add_right _ _) ⟨tp, _, _, _, _, _, _, _, _, _, hIX, hIM, hRn, hKx, hKm, hPx, hPm, hPo, hDx, hDm, hDo, jxm, jxo, jmo⟩ hS (lv_sub hl [0, 1, 2, 3, 4] rfl)
end P443_cases_1
section P443_cases_2
set_option maxHeartbeats 4000000 in
set_option maxRecDepth 100000 in
theorem lc_30 {p : Program} {l : Launch} {e : Env} {s : State} {m : MethodId} {below : List Frame} {meth : Method} {c : Code} {b L : Nat} {xs : Nat → Int32} {A : Nat → Prop} {dC : Nat → ClassId} {dI : Nat → Nat → Nat} (hl0 : l.stackTraces = false) (hL : L ≤ 3072) (hA : ∀ q, s.heap.size ≤ q → A q) (hA2 : ∀ q, A q → s.heap.size ≤ q) (C0 : lw_At p s m meth c b L xs) (sd : Nat → Nat) (sa : Nat) (hE : lg_E A sd sa s) (x mo oa : Nat) (ko : ClassId) (hKo : va_K (dC, dI) vwCl [(ko, .long)] s) (i : Int32) (hi0 : (0 : Int) ≤ i.toInt) (hi6 : i.toInt + 6 ≤ (L : Int)) {H : Heap} {locs : List Loc} {cells slots : Nat} (hc9 : cells + 1 ≤ 601024) (hs9 : slots + 6 ≤ 7293034) (hG : lg_S dC dI A s x mo oa ko H) (hS : va_S A s.heap H locs) {ls : Array Slot} (hl : lv_has ls 7 [(4, .int i), (3, .ref oa), (2, .ref mo), (1, .ref x), (0, .ref b)])
    (kk : ∀ (H : Heap) (locs : List Loc) (ls : Array Slot) (k9 n9 : Nat), k9 ≤ cells + 1 → n9 ≤ slots + 6 → lg_S dC dI A s x mo oa ko H → va_S A s.heap H locs → lv_has ls 7 [(4, .int i), (3, .ref oa), (2, .ref mo), (1, .ref x), (0, .ref b)] → W p l e room_1 s m #[Value.ref b] below meth c H locs k9 n9 (lw_Z below #[Value.ref b] s) (F0 m 1941 ls [])) : W p l e room_1 s m #[Value.ref b] below meth c H locs cells slots (lw_Z below #[Value.ref b] s) (F0 m 1110 ls []) := by
  obtain ⟨hx, hb, hr, hml, hown0, htl, hX, hbl, hlocks, hgv⟩ := id C0
  have hown : s.vm.findClass RL = some m.cls := hown0
  have hts : ∀ w ∈ wlT, w.before #[Value.ref b] s = true := fun w h => htl w (wlT_in w h)
  have hbA : ¬ A b := fun h => absurd (hA2 b h) (Nat.not_le.mpr hbl)
  obtain ⟨tp, wx, wm, tx, tm, fo, vi, vf, vm, vn, hIX, hIM, ⟨hR, hW⟩, hKx, hKm, hPx, hPm, hPo, hDx, hDm, hDo, jxm, jxo, jmo⟩ := hG
  have hiM : i.toInt ≤ (3066 : Int) := by omega
  have hcc : cells ≤ 601024 := by omega
  have hss : slots ≤ 7293034 := by omega
  have htpb := ix_tp hIX
  refine lv_aload_n hx hb dL_law_1110 rfl (lv_at hl 3 rfl) ?_
  refine lv_aload_n hx hb dL_law_1111 rfl (lv_at hl 4 rfl) ?_
  refine lv_iload hx hb dL_law_1112 (lv_at hl 0 rfl) ?_
  refine lv_iconst (v := 1) hx hb dL_law_1114 zk_iconst_1 ?_
  refine lv_iadd hx hb dL_law_1115 ?_
  refine lv_topi (fun ix1 eix1 => ?_)
  have qix1 : ix1.toInt = i.toInt + 1 := ai_add eix1 ⟨hi0, hiM⟩ ⟨zq1, zq0⟩ (by decide) (by decide)
  refine va_sld (L := L) (i := ix1) hx hb hX hbl hbA hS (vp_in_iff.mpr ⟨by omega, by omega⟩) dL_law_1116 ?_
  refine lv_topi (fun vix1 evix1 => ?_)
  have hFc := lg_free hDx hS hA
  obtain ⟨fs1117, hfs1117⟩ := ix_recv hIX
  refine va_calli (va_runV (As := [.int vix1]) (rest := []) ⟨hx, hb, hml, hown, hts⟩ (k_X7_guard l dC dI H.size x tp vi vf wx tx hIX vix1) (cwV 1 hts gd_X7_guard rfl rfl rfl (by decide +kernel) ⟨Nat.le_of_ble_eq_true rfl, Nat.le_of_ble_eq_true rfl⟩) ⟨ax_blind (fun _ _ _ _ hq => ⟨va_Nw.same rfl rfl (hq.1), va_Nw.same rfl rfl (hq.2.1), va_Nw.same rfl rfl (hq.2.2)⟩), va_recv hKx hPx (ci := 7) (q0 := 0) rfl hfs1117, ax_preE hPx hKx hDx (fun U hU hW => ⟨va_Nw.warmM hW (hE.2.2.2.1), va_Nw.warmM hW (hE.2.2.1), va_Nw.warmM hW (hE.2.2.2.2.1)⟩)⟩ rfl rfl hl.1 rfl (lv_room (Nat.le_of_ble_eq_true rfl)) dL_law_1117 ⟨hcc, hss⟩) hS (fun q _ h => hFc q h) hFc (fun r1117 u t H1 locs ht hvm hw1117 hB hz1 hk1 hS => ?_)
  obtain ⟨wxn, txn, ⟨vi1, vf1, kx1, kx2, q4x, hI1⟩, hP1, hK1, hD1⟩ := hB
  rw [ht] at hP1
  have hK1 := va_K.moved hvm.symm hK1
  obtain ⟨hPm, jxm⟩ := lg_step hPm jxm hk1 hD1
  obtain ⟨hPo, jxo⟩ := lg_step hPo jxo hk1 hD1
  have hD1 := hD1.weaken (fun _ _ _ h9 => hFc _ h9)
  clear hPx hDx hKx hFc hk1 hz1 hfs1117
  have hIX := hI1; have hPx := hP1; have hDx := hD1; have hKx := hK1; clear hI1 hP1 hD1 hK1
  clear ht; generalize H1 = H at hPx hPm hPo hS ⊢
  refine lv_pop hx hb dL_law_1120 rfl ?_
  refine lv_aload_n hx hb dL_law_1121 rfl (lv_at hl 2 rfl) ?_
  refine lv_aload_n hx hb dL_law_1122 rfl (lv_at hl 4 rfl) ?_
  refine lv_iload hx hb dL_law_1123 (lv_at hl 0 rfl) ?_
  refine lv_iconst (v := 1) hx hb dL_law_1125 zk_iconst_1 ?_
  refine lv_iadd hx hb dL_law_1126 ?_
  refine ax_ti ix1 eix1.symm ?_
  refine va_sld (L := L) (i := ix1) hx hb hX hbl hbA hS (vp_in_iff.mpr ⟨by omega, by omega⟩) dL_law_1127 ?_
  refine ax_ti vix1 evix1.symm ?_
  have hFc := lg_free hDm hS hA
  obtain ⟨fs1128, hfs1128⟩ := im_recv hIM
  refine va_calli (va_runV (As := [.int vix1]) (rest := []) ⟨hx, hb, hml, hown, hts⟩ (k_X8_guard l dC dI H.size mo tp vm vn wm tm hIM vix1) (cwV 1 hts gd_X8_guard rfl rfl rfl (by decide +kernel) ⟨Nat.le_of_ble_eq_true rfl, Nat.le_of_ble_eq_true rfl⟩) ⟨ax_blind (fun _ _ _ _ _ => trivial), va_recv hKm hPm (ci := 8) (q0 := 0) rfl hfs1128, ax_preE hPm hKm hDm (fun _ _ _ => trivial)⟩ rfl rfl hl.1 rfl (lv_room (Nat.le_of_ble_eq_true rfl)) dL_law_1128 ⟨hcc, hss⟩) hS (fun q _ h => hFc q h) hFc (fun r1128 u t H1 locs ht hvm hw1128 hB hz1 hk1 hS => ?_)
  obtain ⟨wmn, tmn, ⟨vm1, vn1, km1, km2, q4m, hI1⟩, hP1, hK1, hD1⟩ := hB
  rw [ht] at hP1
  have hK1 := va_K.moved hvm.symm hK1
  obtain ⟨hPx, jmx⟩ := lg_step hPx (dj_symm jxm) hk1 hD1
  have jxm := dj_symm jmx
  obtain ⟨hPo, jmo⟩ := lg_step hPo jmo hk1 hD1
  have hD1 := hD1.weaken (fun _ _ _ h9 => hFc _ h9)
  clear hPm hDm hKm hFc hk1 hz1 hfs1128
  have hIM := hI1; have hPm := hP1; have hDm := hD1; have hKm := hK1; clear hI1 hP1 hD1 hK1
  clear ht; generalize H1 = H at hPx hPm hPo hS ⊢
  refine lv_pop hx hb dL_law_1131 rfl ?_
  refine lv_goto (tgt := 1941) hx hb dL_law_1132 (by decide) ?_
  have hWn : lr_5 vi1 vm1 := l5_no q4x q4m
  have hRn : lr_R tp vi1 vf1 vm1 vn1 := ⟨by rw [kx2 0 (by decide), km2 0 (by decide)]; exact hR.1, lr_keep (fun k9 h9 => kx1 k9 (kp_dis (by decide) h9)) (fun k9 h9 => kx2 k9 (kp_dis (by decide) h9)) (fun k9 h9 => km1 k9 (kp_dis (by decide) h9)) (fun k9 h9 => km2 k9 (kp_dis (by decide) h9)) hR.2⟩
  have hRn := And.intro hRn hWn
  exact kk _ _ _ _ _ (Nat.le_add_right _ _) (Nat.le_add_right _ _) ⟨tp, _, _, _, _, _, _, _, _, _, hIX, hIM, hRn, hKx, hKm, hPx, hPm, hPo, hDx, hDm, hDo, jxm, jxo, jmo⟩ hS (lv_sub hl [0, 1, 2, 3, 4] rfl)

set_option maxHeartbeats 4000000 in
set_option maxRecDepth 100000 in
theorem lc_31 {p : Program} {l : Launch} {e : Env} {s : State} {m : MethodId} {below : List Frame} {meth : Method} {c : Code} {b L : Nat} {xs : Nat → Int32} {A : Nat → Prop} {dC : Nat → ClassId} {dI : Nat → Nat → Nat} (hl0 : l.stackTraces = false) (hL : L ≤ 3072) (hA : ∀ q, s.heap.size ≤ q → A q) (hA2 : ∀ q, A q → s.heap.size ≤ q) (C0 : lw_At p s m meth c b L xs) (sd : Nat → Nat) (sa : Nat) (hE : lg_E A sd sa s) (x mo oa : Nat) (ko : ClassId) (hKo : va_K (dC, dI) vwCl [(ko, .long)] s) (i : Int32) (hi0 : (0 : Int) ≤ i.toInt) (hi6 : i.toInt + 6 ≤ (L : Int)) {H : Heap} {locs : List Loc} {cells slots : Nat} (hc9 : cells + 1 ≤ 601024) (hs9 : slots + 6 ≤ 7293034) (hG : lg_S dC dI A s x mo oa ko H) (hS : va_S A s.heap H locs) {ls : Array Slot} (hl : lv_has ls 7 [(4, .int i), (3, .ref oa), (2, .ref mo), (1, .ref x), (0, .ref b)])
    (kk : ∀ (H : Heap) (locs : List Loc) (ls : Array Slot) (k9 n9 : Nat), k9 ≤ cells + 1 → n9 ≤ slots + 6 → lg_S dC dI A s x mo oa ko H → va_S A s.heap H locs → lv_has ls 7 [(4, .int i), (3, .ref oa), (2, .ref mo), (1, .ref x), (0, .ref b)] → W p l e room_1 s m #[Value.ref b] below meth c H locs k9 n9 (lw_Z below #[Value.ref b] s) (F0 m 1941 ls [])) : W p l e room_1 s m #[Value.ref b] below meth c H locs cells slots (lw_Z below #[Value.ref b] s) (F0 m 1135 ls []) := by
  obtain ⟨hx, hb, hr, hml, hown0, htl, hX, hbl, hlocks, hgv⟩ := id C0
  have hown : s.vm.findClass RL = some m.cls := hown0
  have hts : ∀ w ∈ wlT, w.before #[Value.ref b] s = true := fun w h => htl w (wlT_in w h)
  have hbA : ¬ A b := fun h => absurd (hA2 b h) (Nat.not_le.mpr hbl)
  obtain ⟨tp, wx, wm, tx, tm, fo, vi, vf, vm, vn, hIX, hIM, ⟨hR, hW⟩, hKx, hKm, hPx, hPm, hPo, hDx, hDm, hDo, jxm, jxo, jmo⟩ := hG
  have hiM : i.toInt ≤ (3066 : Int) := by omega
  have hcc : cells ≤ 601024 := by omega
  have hss : slots ≤ 7293034 := by omega
  have htpb := ix_tp hIX
  refine lv_aload_n hx hb dL_law_1135 rfl (lv_at hl 3 rfl) ?_
  have hFc := lg_free hDx hS hA
  obtain ⟨fs1136, hfs1136⟩ := ix_recv hIX
  refine va_calli (va_runV (As := []) (rest := []) ⟨hx, hb, hml, hown, hts⟩ (k_X7_windBest l dC dI H.size x tp vi vf wx tx hIX ) (cwV 0 hts gd_X7_windBest rfl rfl rfl (by decide +kernel) ⟨Nat.le_of_ble_eq_true rfl, Nat.le_of_ble_eq_true rfl⟩) ⟨ax_blind (fun _ _ _ _ hq => ⟨va_Nw.same rfl rfl (hq.1), va_Nw.same rfl rfl (hq.2.1), va_Nw.same rfl rfl (hq.2.2)⟩), va_recv hKx hPx (ci := 7) (q0 := 0) rfl hfs1136, ax_preE hPx hKx hDx (fun U hU hW => ⟨va_Nw.warmM hW (hE.2.2.2.1), va_Nw.warmM hW (hE.2.2.1), va_Nw.warmM hW (hE.2.2.2.2.1)⟩)⟩ rfl rfl hl.1 rfl (lv_room (Nat.le_of_ble_eq_true rfl)) dL_law_1136 ⟨hcc, hss⟩) hS (fun q _ h => hFc q h) hFc (fun r1136 u t H1 locs ht hvm hw1136 hB hz1 hk1 hS => ?_)
  obtain ⟨wxn, txn, ⟨vi1, vf1, kx1, kx2, q4x, hI1⟩, hP1, hK1, hD1⟩ := hB
  rw [ht] at hP1
  have hK1 := va_K.moved hvm.symm hK1
  obtain ⟨hPm, jxm⟩ := lg_step hPm jxm hk1 hD1
  obtain ⟨hPo, jxo⟩ := lg_step hPo jxo hk1 hD1
  have hD1 := hD1.weaken (fun _ _ _ h9 => hFc _ h9)
  clear hPx hDx hKx hFc hk1 hz1 hfs1136
  have hIX := hI1; have hPx := hP1; have hDx := hD1; have hKx := hK1; clear hI1 hP1 hD1 hK1
  clear ht; generalize H1 = H at hPx hPm hPo hS ⊢
  refine lv_pop hx hb dL_law_1139 rfl ?_
  refine lv_aload_n hx hb dL_law_1140 rfl (lv_at hl 2 rfl) ?_
  have hFc := lg_free hDm hS hA
  obtain ⟨fs1141, hfs1141⟩ := im_recv hIM
  refine va_calli (va_runV (As := []) (rest := []) ⟨hx, hb, hml, hown, hts⟩ (k_X8_windBest l dC dI H.size mo tp vm vn wm tm hIM ) (cwV 0 hts gd_X8_windBest rfl rfl rfl (by decide +kernel) ⟨Nat.le_of_ble_eq_true rfl, Nat.le_of_ble_eq_true rfl⟩) ⟨ax_blind (fun _ _ _ _ _ => trivial), va_recv hKm hPm (ci := 8) (q0 := 0) rfl hfs1141, ax_preE hPm hKm hDm (fun _ _ _ => trivial)⟩ rfl rfl hl.1 rfl (lv_room (Nat.le_of_ble_eq_true rfl)) dL_law_1141 ⟨hcc, hss⟩) hS (fun q _ h => hFc q h) hFc (fun r1141 u t H1 locs ht hvm hw1141 hB hz1 hk1 hS => ?_)
  obtain ⟨wmn, tmn, ⟨vm1, vn1, km1, km2, q4m, hI1⟩, hP1, hK1, hD1⟩ := hB
  rw [ht] at hP1
  have hK1 := va_K.moved hvm.symm hK1
  obtain ⟨hPx, jmx⟩ := lg_step hPx (dj_symm jxm) hk1 hD1
  have jxm := dj_symm jmx
  obtain ⟨hPo, jmo⟩ := lg_step hPo jmo hk1 hD1
  have hD1 := hD1.weaken (fun _ _ _ h9 => hFc _ h9)
  clear hPm hDm hKm hFc hk1 hz1 hfs1141
  have hIM := hI1; have hPm := hP1; have hDm := hD1; have hKm := hK1; clear hI1 hP1 hD1 hK1
  clear ht; generalize H1 = H at hPx hPm hPo hS ⊢
  refine lv_pop hx hb dL_law_1144 rfl ?_
  refine lv_goto (tgt := 1941) hx hb dL_law_1145 (by decide) ?_
  have hWn : lr_5 vi1 vm1 := l5_no q4x q4m
  have hRn : lr_R tp vi1 vf1 vm1 vn1 := ⟨by rw [kx2 0 (by decide), km2 0 (by decide)]; exact hR.1, lr_keep (fun k9 h9 => kx1 k9 (kp_dis (by decide) h9)) (fun k9 h9 => kx2 k9 (kp_dis (by decide) h9)) (fun k9 h9 => km1 k9 (kp_dis (by decide) h9)) (fun k9 h9 => km2 k9 (kp_dis (by decide) h9)) hR.2⟩
  have hRn := And.intro hRn hWn
  exact kk _ _ _ _ _ (Nat.le_add_right _ _) (Nat.le_add_right _ _) ⟨tp, _, _, _, _, _, _, _, _, _, hIX, hIM, hRn, hKx, hKm, hPx, hPm, hPo, hDx, hDm, hDo, jxm, jxo, jmo⟩ hS (lv_sub hl [0, 1, 2, 3, 4] rfl)

set_option maxHeartbeats 4000000 in
set_option maxRecDepth 100000 in
theorem lc_32 {p : Program} {l : Launch} {e : Env} {s : State} {m : MethodId} {below : List Frame} {meth : Method} {c : Code} {b L : Nat} {xs : Nat → Int32} {A : Nat → Prop} {dC : Nat → ClassId} {dI : Nat → Nat → Nat} (hl0 : l.stackTraces = false) (hL : L ≤ 3072) (hA : ∀ q, s.heap.size ≤ q → A q) (hA2 : ∀ q, A q → s.heap.size ≤ q) (C0 : lw_At p s m meth c b L xs) (sd : Nat → Nat) (sa : Nat) (hE : lg_E A sd sa s) (x mo oa : Nat) (ko : ClassId) (hKo : va_K (dC, dI) vwCl [(ko, .long)] s) (i : Int32) (hi0 : (0 : Int) ≤ i.toInt) (hi6 : i.toInt + 6 ≤ (L : Int)) {H : Heap} {locs : List Loc} {cells slots : Nat} (hc9 : cells + 1 ≤ 601024) (hs9 : slots + 6 ≤ 7293034) (hG : lg_S dC dI A s x mo oa ko H) (hS : va_S A s.heap H locs) {ls : Array Slot} (hl : lv_has ls 7 [(4, .int i), (3, .ref oa), (2, .ref mo), (1, .ref x), (0, .ref b)])
    (kk : ∀ (H : Heap) (locs : List Loc) (ls : Array Slot) (k9 n9 : Nat), k9 ≤ cells + 1 → n9 ≤ slots + 6 → lg_S dC dI A s x mo oa ko H → va_S A s.heap H locs → lv_has ls 7 [(4, .int i), (3, .ref oa), (2, .ref mo), (1, .ref x), (0, .ref b)] → W p l e room_1 s m #[Value.ref b] below meth c H locs k9 n9 (lw_Z below #[Value.ref b] s) (F0 m 1941 ls [])) : W p l e room_1 s m #[Value.ref b] below meth c H locs cells slots (lw_Z below #[Value.ref b] s) (F0 m 1148 ls []) := by
  obtain ⟨hx, hb, hr, hml, hown0, htl, hX, hbl, hlocks, hgv⟩ := id C0
  have hown : s.vm.findClass RL = some m.cls := hown0
  have hts : ∀ w ∈ wlT, w.before #[Value.ref b] s = true := fun w h => htl w (wlT_in w h)
  have hbA : ¬ A b := fun h => absurd (hA2 b h) (Nat.not_le.mpr hbl)
  obtain ⟨tp, wx, wm, tx, tm, fo, vi, vf, vm, vn, hIX, hIM, ⟨hR, hW⟩, hKx, hKm, hPx, hPm, hPo, hDx, hDm, hDo, jxm, jxo, jmo⟩ := hG
  have hiM : i.toInt ≤ (3066 : Int) := by omega
  have hcc : cells ≤ 601024 := by omega
  have hss : slots ≤ 7293034 := by omega
  have htpb := ix_tp hIX
  refine lv_aload_n hx hb dL_law_1148 rfl (lv_at hl 3 rfl) ?_
  refine lv_aload_n hx hb dL_law_1149 rfl (lv_at hl 4 rfl) ?_
  refine lv_iload hx hb dL_law_1150 (lv_at hl 0 rfl) ?_
  refine lv_iconst (v := 1) hx hb dL_law_1152 zk_iconst_1 ?_
  refine lv_iadd hx hb dL_law_1153 ?_
  refine lv_topi (fun ix1 eix1 => ?_)
  have qix1 : ix1.toInt = i.toInt + 1 := ai_add eix1 ⟨hi0, hiM⟩ ⟨zq1, zq0⟩ (by decide) (by decide)
  refine va_sld (L := L) (i := ix1) hx hb hX hbl hbA hS (vp_in_iff.mpr ⟨by omega, by omega⟩) dL_law_1154 ?_
  refine lv_topi (fun vix1 evix1 => ?_)
  refine lv_aload_n hx hb dL_law_1155 rfl (lv_at hl 4 rfl) ?_
  refine lv_iload hx hb dL_law_1156 (lv_at hl 0 rfl) ?_
  refine lv_iconst (v := 2) hx hb dL_law_1158 zk_iconst_2 ?_
  refine lv_iadd hx hb dL_law_1159 ?_
  refine lv_topi (fun ix2 eix2 => ?_)
  have qix2 : ix2.toInt = i.toInt + 2 := ai_add eix2 ⟨hi0, hiM⟩ ⟨zq12, zq13⟩ (by decide) (by decide)
  refine va_sld (L := L) (i := ix2) hx hb hX hbl hbA hS (vp_in_iff.mpr ⟨by omega, by omega⟩) dL_law_1160 ?_
  refine lv_topi (fun vix2 evix2 => ?_)
  have hFc := lg_free hDx hS hA
  obtain ⟨fs1161, hfs1161⟩ := ix_recv hIX
  refine va_calli (va_runV (As := [.int vix1, .int vix2]) (rest := []) ⟨hx, hb, hml, hown, hts⟩ (k_X7_patrol l dC dI H.size x tp vi vf wx tx hIX vix1 vix2) (cwV 2 hts gd_X7_patrol rfl rfl rfl (by decide +kernel) ⟨Nat.le_of_ble_eq_true rfl, Nat.le_of_ble_eq_true rfl⟩) ⟨ax_blind (fun _ _ _ _ hq => ⟨va_Nw.same rfl rfl (hq.1), va_Nw.same rfl rfl (hq.2.1), va_Nw.same rfl rfl (hq.2.2)⟩), va_recv hKx hPx (ci := 7) (q0 := 0) rfl hfs1161, ax_preE hPx hKx hDx (fun U hU hW => ⟨va_Nw.warmM hW (hE.2.2.2.1), va_Nw.warmM hW (hE.2.2.1), va_Nw.warmM hW (hE.2.2.2.2.1)⟩)⟩ rfl rfl hl.1 rfl (lv_room (Nat.le_of_ble_eq_true rfl)) dL_law_1161 ⟨hcc, hss⟩) hS (fun q _ h => hFc q h) hFc (fun r1161 u t H1 locs ht hvm hw1161 hB hz1 hk1 hS => ?_)
  obtain ⟨wxn, txn, ⟨vi1, vf1, kx1, kx2, q4x, hI1⟩, hP1, hK1, hD1⟩ := hB
  rw [ht] at hP1
  have hK1 := va_K.moved hvm.symm hK1
  obtain ⟨hPm, jxm⟩ := lg_step hPm jxm hk1 hD1
  obtain ⟨hPo, jxo⟩ := lg_step hPo jxo hk1 hD1
  have hD1 := hD1.weaken (fun _ _ _ h9 => hFc _ h9)
  clear hPx hDx hKx hFc hk1 hz1 hfs1161
  have hIX := hI1; have hPx := hP1; have hDx := hD1; have hKx := hK1; clear hI1 hP1 hD1 hK1
  clear ht; generalize H1 = H at hPx hPm hPo hS ⊢
  refine lv_pop hx hb dL_law_1164 rfl ?_
  refine lv_aload_n hx hb dL_law_1165 rfl (lv_at hl 2 rfl) ?_
  refine lv_aload_n hx hb dL_law_1166 rfl (lv_at hl 4 rfl) ?_
  refine lv_iload hx hb dL_law_1167 (lv_at hl 0 rfl) ?_
  refine lv_iconst (v := 1) hx hb dL_law_1169 zk_iconst_1 ?_
  refine lv_iadd hx hb dL_law_1170 ?_
  refine ax_ti ix1 eix1.symm ?_
  refine va_sld (L := L) (i := ix1) hx hb hX hbl hbA hS (vp_in_iff.mpr ⟨by omega, by omega⟩) dL_law_1171 ?_
  refine ax_ti vix1 evix1.symm ?_
  refine lv_aload_n hx hb dL_law_1172 rfl (lv_at hl 4 rfl) ?_
  refine lv_iload hx hb dL_law_1173 (lv_at hl 0 rfl) ?_
  refine lv_iconst (v := 2) hx hb dL_law_1175 zk_iconst_2 ?_
  refine lv_iadd hx hb dL_law_1176 ?_
  refine ax_ti ix2 eix2.symm ?_
  refine va_sld (L := L) (i := ix2) hx hb hX hbl hbA hS (vp_in_iff.mpr ⟨by omega, by omega⟩) dL_law_1177 ?_
  refine ax_ti vix2 evix2.symm ?_
  have hFc := lg_free hDm hS hA
  obtain ⟨fs1178, hfs1178⟩ := im_recv hIM
  refine va_calli (va_runV (As := [.int vix1, .int vix2]) (rest := []) ⟨hx, hb, hml, hown, hts⟩ (k_X8_patrol l dC dI H.size mo tp vm vn wm tm hIM vix1 vix2) (cwV 2 hts gd_X8_patrol rfl rfl rfl (by decide +kernel) ⟨Nat.le_of_ble_eq_true rfl, Nat.le_of_ble_eq_true rfl⟩) ⟨ax_blind (fun _ _ _ _ _ => trivial), va_recv hKm hPm (ci := 8) (q0 := 0) rfl hfs1178, ax_preE hPm hKm hDm (fun _ _ _ => trivial)⟩ rfl rfl hl.1 rfl (lv_room (Nat.le_of_ble_eq_true rfl)) dL_law_1178 ⟨hcc, hss⟩) hS (fun q _ h => hFc q h) hFc (fun r1178 u t H1 locs ht hvm hw1178 hB hz1 hk1 hS => ?_)
  obtain ⟨wmn, tmn, ⟨vm1, vn1, km1, km2, q4m, hI1⟩, hP1, hK1, hD1⟩ := hB
  rw [ht] at hP1
  have hK1 := va_K.moved hvm.symm hK1
  obtain ⟨hPx, jmx⟩ := lg_step hPx (dj_symm jxm) hk1 hD1
  have jxm := dj_symm jmx
  obtain ⟨hPo, jmo⟩ := lg_step hPo jmo hk1 hD1
  have hD1 := hD1.weaken (fun _ _ _ h9 => hFc _ h9)
  clear hPm hDm hKm hFc hk1 hz1 hfs1178
  have hIM := hI1; have hPm := hP1; have hDm := hD1; have hKm := hK1; clear hI1 hP1 hD1 hK1
  clear ht; generalize H1 = H at hPx hPm hPo hS ⊢
  refine lv_pop hx hb dL_law_1181 rfl ?_
  refine lv_goto (tgt := 1941) hx hb dL_law_1182 (by decide) ?_
  have hWn : lr_5 vi1 vm1 := l5_no q4x q4m
  have hRn : lr_R tp vi1 vf1 vm1 vn1 := ⟨by rw [kx2 0 (by decide), km2 0 (by decide)]; exact hR.1, lr_keep (fun k9 h9 => kx1 k9 (kp_dis (by decide) h9)) (fun k9 h9 => kx2 k9 (kp_dis (by decide) h9)) (fun k9 h9 => km1 k9 (kp_dis (by decide) h9)) (fun k9 h9 => km2 k9 (kp_dis (by decide) h9)) hR.2⟩
  have hRn := And.intro hRn hWn
  exact kk _ _ _ _ _ (Nat.le_add_right _ _) (Nat.le_add_right _ _) ⟨tp, _, _, _, _, _, _, _, _, _, hIX, hIM, hRn, hKx, hKm, hPx, hPm, hPo, hDx, hDm, hDo, jxm, jxo, jmo⟩ hS (lv_sub hl [0, 1, 2, 3, 4] rfl)

set_option maxHeartbeats 4000000 in
set_option maxRecDepth 100000 in
theorem lc_33 {p : Program} {l : Launch} {e : Env} {s : State} {m : MethodId} {below : List Frame} {meth : Method} {c : Code} {b L : Nat} {xs : Nat → Int32} {A : Nat → Prop} {dC : Nat → ClassId} {dI : Nat → Nat → Nat} (hl0 : l.stackTraces = false) (hL : L ≤ 3072) (hA : ∀ q, s.heap.size ≤ q → A q) (hA2 : ∀ q, A q → s.heap.size ≤ q) (C0 : lw_At p s m meth c b L xs) (sd : Nat → Nat) (sa : Nat) (hE : lg_E A sd sa s) (x mo oa : Nat) (ko : ClassId) (hKo : va_K (dC, dI) vwCl [(ko, .long)] s) (i : Int32) (hi0 : (0 : Int) ≤ i.toInt) (hi6 : i.toInt + 6 ≤ (L : Int)) {H : Heap} {locs : List Loc} {cells slots : Nat} (hc9 : cells + 1 ≤ 601024) (hs9 : slots + 6 ≤ 7293034) (hG : lg_S dC dI A s x mo oa ko H) (hS : va_S A s.heap H locs) {ls : Array Slot} (hl : lv_has ls 7 [(4, .int i), (3, .ref oa), (2, .ref mo), (1, .ref x), (0, .ref b)])
    (kk : ∀ (H : Heap) (locs : List Loc) (ls : Array Slot) (k9 n9 : Nat), k9 ≤ cells + 1 → n9 ≤ slots + 6 → lg_S dC dI A s x mo oa ko H → va_S A s.heap H locs → lv_has ls 7 [(4, .int i), (3, .ref oa), (2, .ref mo), (1, .ref x), (0, .ref b)] → W p l e room_1 s m #[Value.ref b] below meth c H locs k9 n9 (lw_Z below #[Value.ref b] s) (F0 m 1941 ls [])) : W p l e room_1 s m #[Value.ref b] below meth c H locs cells slots (lw_Z below #[Value.ref b] s) (F0 m 1185 ls []) := by
  obtain ⟨hx, hb, hr, hml, hown0, htl, hX, hbl, hlocks, hgv⟩ := id C0
  have hown : s.vm.findClass RL = some m.cls := hown0
  have hts : ∀ w ∈ wlT, w.before #[Value.ref b] s = true := fun w h => htl w (wlT_in w h)
  have hbA : ¬ A b := fun h => absurd (hA2 b h) (Nat.not_le.mpr hbl)
  obtain ⟨tp, wx, wm, tx, tm, fo, vi, vf, vm, vn, hIX, hIM, ⟨hR, hW⟩, hKx, hKm, hPx, hPm, hPo, hDx, hDm, hDo, jxm, jxo, jmo⟩ := hG
  have hiM : i.toInt ≤ (3066 : Int) := by omega
  have hcc : cells ≤ 601024 := by omega
  have hss : slots ≤ 7293034 := by omega
  have htpb := ix_tp hIX
  refine lv_aload_n hx hb dL_law_1185 rfl (lv_at hl 3 rfl) ?_
  have hFc := lg_free hDx hS hA
  obtain ⟨fs1186, hfs1186⟩ := ix_recv hIX
  refine va_calli (va_runV (As := []) (rest := []) ⟨hx, hb, hml, hown, hts⟩ (k_X7_fits l dC dI H.size x tp vi vf wx tx hIX ) (cwV 0 hts gd_X7_fits rfl rfl rfl (by decide +kernel) ⟨Nat.le_of_ble_eq_true rfl, Nat.le_of_ble_eq_true rfl⟩) ⟨ax_blind (fun _ _ _ _ hq => va_Nw.same rfl rfl (hq)), va_recv hKx hPx (ci := 7) (q0 := 0) rfl hfs1186, ax_preE hPx hKx hDx (fun U hU hW => va_Nw.warmM hW (hE.2.2.2.2.2.2.1))⟩ rfl rfl hl.1 rfl (lv_room (Nat.le_of_ble_eq_true rfl)) dL_law_1186 ⟨hcc, hss⟩) hS (fun q _ h => hFc q h) hFc (fun r1186 u t H1 locs ht hvm hw1186 hB hz1 hk1 hS => ?_)
  obtain ⟨wxn, txn, ⟨vi1, vf1, kx1, kx2, q4x, hI1⟩, hP1, hK1, hD1⟩ := hB
  rw [ht] at hP1
  have hK1 := va_K.moved hvm.symm hK1
  obtain ⟨hPm, jxm⟩ := lg_step hPm jxm hk1 hD1
  obtain ⟨hPo, jxo⟩ := lg_step hPo jxo hk1 hD1
  have hD1 := hD1.weaken (fun _ _ _ h9 => hFc _ h9)
  clear hPx hDx hKx hFc hk1 hz1 hfs1186
  have hIX := hI1; have hPx := hP1; have hDx := hD1; have hKx := hK1; clear hI1 hP1 hD1 hK1
  clear ht; generalize H1 = H at hPx hPm hPo hS ⊢
  refine lv_pop hx hb dL_law_1189 rfl ?_
  refine lv_aload_n hx hb dL_law_1190 rfl (lv_at hl 2 rfl) ?_
  have hFc := lg_free hDm hS hA
  obtain ⟨fs1191, hfs1191⟩ := im_recv hIM
  refine va_calli (va_runV (As := []) (rest := []) ⟨hx, hb, hml, hown, hts⟩ (k_X8_fits l dC dI H.size mo tp vm vn wm tm hIM ) (cwV 0 hts gd_X8_fits rfl rfl rfl (by decide +kernel) ⟨Nat.le_of_ble_eq_true rfl, Nat.le_of_ble_eq_true rfl⟩) ⟨ax_blind (fun _ _ _ _ _ => trivial), va_recv hKm hPm (ci := 8) (q0 := 0) rfl hfs1191, ax_preE hPm hKm hDm (fun _ _ _ => trivial)⟩ rfl rfl hl.1 rfl (lv_room (Nat.le_of_ble_eq_true rfl)) dL_law_1191 ⟨hcc, hss⟩) hS (fun q _ h => hFc q h) hFc (fun r1191 u t H1 locs ht hvm hw1191 hB hz1 hk1 hS => ?_)
  obtain ⟨wmn, tmn, ⟨vm1, vn1, km1, km2, q4m, hI1⟩, hP1, hK1, hD1⟩ := hB
  rw [ht] at hP1
  have hK1 := va_K.moved hvm.symm hK1
  obtain ⟨hPx, jmx⟩ := lg_step hPx (dj_symm jxm) hk1 hD1
  have jxm := dj_symm jmx
  obtain ⟨hPo, jmo⟩ := lg_step hPo jmo hk1 hD1
  have hD1 := hD1.weaken (fun _ _ _ h9 => hFc _ h9)
  clear hPm hDm hKm hFc hk1 hz1 hfs1191
  have hIM := hI1; have hPm := hP1; have hDm := hD1; have hKm := hK1; clear hI1 hP1 hD1 hK1
  clear ht; generalize H1 = H at hPx hPm hPo hS ⊢
  refine lv_pop hx hb dL_law_1194 rfl ?_
  refine lv_goto (tgt := 1941) hx hb dL_law_1195 (by decide) ?_
  have hWn : lr_5 vi1 vm1 := l5_no q4x q4m
  have hRn : lr_R tp vi1 vf1 vm1 vn1 := ⟨by rw [kx2 0 (by decide), km2 0 (by decide)]; exact hR.1, lr_keep (fun k9 h9 => kx1 k9 (kp_dis (by decide) h9)) (fun k9 h9 => kx2 k9 (kp_dis (by decide) h9)) (fun k9 h9 => km1 k9 (kp_dis (by decide) h9)) (fun k9 h9 => km2 k9 (kp_dis (by decide) h9)) hR.2⟩
  have hRn := And.intro hRn hWn
  exact kk _ _ _ _ _ (Nat.le_add_right _ _) (Nat.le_add_right _ _) ⟨tp, _, _, _, _, _, _, _, _, _, hIX, hIM, hRn, hKx, hKm, hPx, hPm, hPo, hDx, hDm, hDo, jxm, jxo, jmo⟩ hS (lv_sub hl [0, 1, 2, 3, 4] rfl)

set_option maxHeartbeats 4000000 in
set_option maxRecDepth 100000 in
theorem lc_34 {p : Program} {l : Launch} {e : Env} {s : State} {m : MethodId} {below : List Frame} {meth : Method} {c : Code} {b L : Nat} {xs : Nat → Int32} {A : Nat → Prop} {dC : Nat → ClassId} {dI : Nat → Nat → Nat} (hl0 : l.stackTraces = false) (hL : L ≤ 3072) (hA : ∀ q, s.heap.size ≤ q → A q) (hA2 : ∀ q, A q → s.heap.size ≤ q) (C0 : lw_At p s m meth c b L xs) (sd : Nat → Nat) (sa : Nat) (hE : lg_E A sd sa s) (x mo oa : Nat) (ko : ClassId) (hKo : va_K (dC, dI) vwCl [(ko, .long)] s) (i : Int32) (hi0 : (0 : Int) ≤ i.toInt) (hi6 : i.toInt + 6 ≤ (L : Int)) {H : Heap} {locs : List Loc} {cells slots : Nat} (hc9 : cells + 1 ≤ 601024) (hs9 : slots + 6 ≤ 7293034) (hG : lg_S dC dI A s x mo oa ko H) (hS : va_S A s.heap H locs) {ls : Array Slot} (hl : lv_has ls 7 [(4, .int i), (3, .ref oa), (2, .ref mo), (1, .ref x), (0, .ref b)])
    (kk : ∀ (H : Heap) (locs : List Loc) (ls : Array Slot) (k9 n9 : Nat), k9 ≤ cells + 1 → n9 ≤ slots + 6 → lg_S dC dI A s x mo oa ko H → va_S A s.heap H locs → lv_has ls 7 [(4, .int i), (3, .ref oa), (2, .ref mo), (1, .ref x), (0, .ref b)] → W p l e room_1 s m #[Value.ref b] below meth c H locs k9 n9 (lw_Z below #[Value.ref b] s) (F0 m 1941 ls [])) : W p l e room_1 s m #[Value.ref b] below meth c H locs cells slots (lw_Z below #[Value.ref b] s) (F0 m 1198 ls []) := by
  obtain ⟨hx, hb, hr, hml, hown0, htl, hX, hbl, hlocks, hgv⟩ := id C0
  have hown : s.vm.findClass RL = some m.cls := hown0
  have hts : ∀ w ∈ wlT, w.before #[Value.ref b] s = true := fun w h => htl w (wlT_in w h)
  have hbA : ¬ A b := fun h => absurd (hA2 b h) (Nat.not_le.mpr hbl)
  obtain ⟨tp, wx, wm, tx, tm, fo, vi, vf, vm, vn, hIX, hIM, ⟨hR, hW⟩, hKx, hKm, hPx, hPm, hPo, hDx, hDm, hDo, jxm, jxo, jmo⟩ := hG
  have hiM : i.toInt ≤ (3066 : Int) := by omega
  have hcc : cells ≤ 601024 := by omega
  have hss : slots ≤ 7293034 := by omega
  have htpb := ix_tp hIX
  refine lv_aload_n hx hb dL_law_1198 rfl (lv_at hl 3 rfl) ?_
  refine lv_aload_n hx hb dL_law_1199 rfl (lv_at hl 4 rfl) ?_
  refine lv_iload hx hb dL_law_1200 (lv_at hl 0 rfl) ?_
  refine lv_iconst (v := 1) hx hb dL_law_1202 zk_iconst_1 ?_
  refine lv_iadd hx hb dL_law_1203 ?_
  refine lv_topi (fun ix1 eix1 => ?_)
  have qix1 : ix1.toInt = i.toInt + 1 := ai_add eix1 ⟨hi0, hiM⟩ ⟨zq1, zq0⟩ (by decide) (by decide)
  refine va_sld (L := L) (i := ix1) hx hb hX hbl hbA hS (vp_in_iff.mpr ⟨by omega, by omega⟩) dL_law_1204 ?_
  refine lv_topi (fun vix1 evix1 => ?_)
  have hFc := lg_free hDx hS hA
  obtain ⟨fs1205, hfs1205⟩ := ix_recv hIX
  refine va_calli (va_runV (As := [.int vix1]) (rest := []) ⟨hx, hb, hml, hown, hts⟩ (k_X7_fitAt l dC dI H.size x tp vi vf wx tx hIX vix1) (cwV 1 hts gd_X7_fitAt rfl rfl rfl (by decide +kernel) ⟨Nat.le_of_ble_eq_true rfl, Nat.le_of_ble_eq_true rfl⟩) ⟨ax_blind (fun _ _ _ _ hq => va_Nw.same rfl rfl (hq)), va_recv hKx hPx (ci := 7) (q0 := 0) rfl hfs1205, ax_preE hPx hKx hDx (fun U hU hW => va_Nw.warmM hW (hE.2.2.2.2.2.2.1))⟩ rfl rfl hl.1 rfl (lv_room (Nat.le_of_ble_eq_true rfl)) dL_law_1205 ⟨hcc, hss⟩) hS (fun q _ h => hFc q h) hFc (fun r1205 u t H1 locs ht hvm hw1205 hB hz1 hk1 hS => ?_)
  obtain ⟨wxn, txn, ⟨vi1, vf1, kx1, kx2, q4x, hI1⟩, hP1, hK1, hD1⟩ := hB
  rw [ht] at hP1
  have hK1 := va_K.moved hvm.symm hK1
  obtain ⟨hPm, jxm⟩ := lg_step hPm jxm hk1 hD1
  obtain ⟨hPo, jxo⟩ := lg_step hPo jxo hk1 hD1
  have hD1 := hD1.weaken (fun _ _ _ h9 => hFc _ h9)
  clear hPx hDx hKx hFc hk1 hz1 hfs1205
  have hIX := hI1; have hPx := hP1; have hDx := hD1; have hKx := hK1; clear hI1 hP1 hD1 hK1
  clear ht; generalize H1 = H at hPx hPm hPo hS ⊢
  refine lv_pop hx hb dL_law_1208 rfl ?_
  refine lv_aload_n hx hb dL_law_1209 rfl (lv_at hl 2 rfl) ?_
  refine lv_aload_n hx hb dL_law_1210 rfl (lv_at hl 4 rfl) ?_
  refine lv_iload hx hb dL_law_1211 (lv_at hl 0 rfl) ?_
  refine lv_iconst (v := 1) hx hb dL_law_1213 zk_iconst_1 ?_
  refine lv_iadd hx hb dL_law_1214 ?_
  refine ax_ti ix1 eix1.symm ?_
  refine va_sld (L := L) (i := ix1) hx hb hX hbl hbA hS (vp_in_iff.mpr ⟨by omega, by omega⟩) dL_law_1215 ?_
  refine ax_ti vix1 evix1.symm ?_
  have hFc := lg_free hDm hS hA
  obtain ⟨fs1216, hfs1216⟩ := im_recv hIM
  refine va_calli (va_runV (As := [.int vix1]) (rest := []) ⟨hx, hb, hml, hown, hts⟩ (k_X8_fitAt l dC dI H.size mo tp vm vn wm tm hIM vix1) (cwV 1 hts gd_X8_fitAt rfl rfl rfl (by decide +kernel) ⟨Nat.le_of_ble_eq_true rfl, Nat.le_of_ble_eq_true rfl⟩) ⟨ax_blind (fun _ _ _ _ _ => trivial), va_recv hKm hPm (ci := 8) (q0 := 0) rfl hfs1216, ax_preE hPm hKm hDm (fun _ _ _ => trivial)⟩ rfl rfl hl.1 rfl (lv_room (Nat.le_of_ble_eq_true rfl)) dL_law_1216 ⟨hcc, hss⟩) hS (fun q _ h => hFc q h) hFc (fun r1216 u t H1 locs ht hvm hw1216 hB hz1 hk1 hS => ?_)
  obtain ⟨wmn, tmn, ⟨vm1, vn1, km1, km2, q4m, hI1⟩, hP1, hK1, hD1⟩ := hB
  rw [ht] at hP1
  have hK1 := va_K.moved hvm.symm hK1
  obtain ⟨hPx, jmx⟩ := lg_step hPx (dj_symm jxm) hk1 hD1
  have jxm := dj_symm jmx
  obtain ⟨hPo, jmo⟩ := lg_step hPo jmo hk1 hD1
  have hD1 := hD1.weaken (fun _ _ _ h9 => hFc _ h9)
  clear hPm hDm hKm hFc hk1 hz1 hfs1216
  have hIM := hI1; have hPm := hP1; have hDm := hD1; have hKm := hK1; clear hI1 hP1 hD1 hK1
  clear ht; generalize H1 = H at hPx hPm hPo hS ⊢
  refine lv_pop hx hb dL_law_1219 rfl ?_
  refine lv_goto (tgt := 1941) hx hb dL_law_1220 (by decide) ?_
  have hWn : lr_5 vi1 vm1 := l5_no q4x q4m
  have hRn : lr_R tp vi1 vf1 vm1 vn1 := ⟨by rw [kx2 0 (by decide), km2 0 (by decide)]; exact hR.1, lr_keep (fun k9 h9 => kx1 k9 (kp_dis (by decide) h9)) (fun k9 h9 => kx2 k9 (kp_dis (by decide) h9)) (fun k9 h9 => km1 k9 (kp_dis (by decide) h9)) (fun k9 h9 => km2 k9 (kp_dis (by decide) h9)) hR.2⟩
  have hRn := And.intro hRn hWn
  exact kk _ _ _ _ _ (Nat.le_add_right _ _) (Nat.le_add_right _ _) ⟨tp, _, _, _, _, _, _, _, _, _, hIX, hIM, hRn, hKx, hKm, hPx, hPm, hPo, hDx, hDm, hDo, jxm, jxo, jmo⟩ hS (lv_sub hl [0, 1, 2, 3, 4] rfl)

set_option maxHeartbeats 4000000 in
set_option maxRecDepth 100000 in
theorem lc_35 {p : Program} {l : Launch} {e : Env} {s : State} {m : MethodId} {below : List Frame} {meth : Method} {c : Code} {b L : Nat} {xs : Nat → Int32} {A : Nat → Prop} {dC : Nat → ClassId} {dI : Nat → Nat → Nat} (hl0 : l.stackTraces = false) (hL : L ≤ 3072) (hA : ∀ q, s.heap.size ≤ q → A q) (hA2 : ∀ q, A q → s.heap.size ≤ q) (C0 : lw_At p s m meth c b L xs) (sd : Nat → Nat) (sa : Nat) (hE : lg_E A sd sa s) (x mo oa : Nat) (ko : ClassId) (hKo : va_K (dC, dI) vwCl [(ko, .long)] s) (i : Int32) (hi0 : (0 : Int) ≤ i.toInt) (hi6 : i.toInt + 6 ≤ (L : Int)) {H : Heap} {locs : List Loc} {cells slots : Nat} (hc9 : cells + 1 ≤ 601024) (hs9 : slots + 6 ≤ 7293034) (hG : lg_S dC dI A s x mo oa ko H) (hS : va_S A s.heap H locs) {ls : Array Slot} (hl : lv_has ls 7 [(4, .int i), (3, .ref oa), (2, .ref mo), (1, .ref x), (0, .ref b)])
    (kk : ∀ (H : Heap) (locs : List Loc) (ls : Array Slot) (k9 n9 : Nat), k9 ≤ cells + 1 → n9 ≤ slots + 6 → lg_S dC dI A s x mo oa ko H → va_S A s.heap H locs → lv_has ls 7 [(4, .int i), (3, .ref oa), (2, .ref mo), (1, .ref x), (0, .ref b)] → W p l e room_1 s m #[Value.ref b] below meth c H locs k9 n9 (lw_Z below #[Value.ref b] s) (F0 m 1941 ls [])) : W p l e room_1 s m #[Value.ref b] below meth c H locs cells slots (lw_Z below #[Value.ref b] s) (F0 m 1223 ls []) := by
  obtain ⟨hx, hb, hr, hml, hown0, htl, hX, hbl, hlocks, hgv⟩ := id C0
  have hown : s.vm.findClass RL = some m.cls := hown0
  have hts : ∀ w ∈ wlT, w.before #[Value.ref b] s = true := fun w h => htl w (wlT_in w h)
  have hbA : ¬ A b := fun h => absurd (hA2 b h) (Nat.not_le.mpr hbl)
  obtain ⟨tp, wx, wm, tx, tm, fo, vi, vf, vm, vn, hIX, hIM, ⟨hR, hW⟩, hKx, hKm, hPx, hPm, hPo, hDx, hDm, hDo, jxm, jxo, jmo⟩ := hG
  have hiM : i.toInt ≤ (3066 : Int) := by omega
  have hcc : cells ≤ 601024 := by omega
  have hss : slots ≤ 7293034 := by omega
  have htpb := ix_tp hIX
  refine lv_aload_n hx hb dL_law_1223 rfl (lv_at hl 3 rfl) ?_
  refine lv_aload_n hx hb dL_law_1224 rfl (lv_at hl 4 rfl) ?_
  refine lv_iload hx hb dL_law_1225 (lv_at hl 0 rfl) ?_
  refine lv_iconst (v := 1) hx hb dL_law_1227 zk_iconst_1 ?_
  refine lv_iadd hx hb dL_law_1228 ?_
  refine lv_topi (fun ix1 eix1 => ?_)
  have qix1 : ix1.toInt = i.toInt + 1 := ai_add eix1 ⟨hi0, hiM⟩ ⟨zq1, zq0⟩ (by decide) (by decide)
  refine va_sld (L := L) (i := ix1) hx hb hX hbl hbA hS (vp_in_iff.mpr ⟨by omega, by omega⟩) dL_law_1229 ?_
  refine lv_topi (fun vix1 evix1 => ?_)
  have hFc := lg_free hDx hS hA
  obtain ⟨fs1230, hfs1230⟩ := ix_recv hIX
  refine va_calli (va_runV (As := [.int vix1]) (rest := []) ⟨hx, hb, hml, hown, hts⟩ (k_X7_could l dC dI H.size x tp vi vf wx tx hIX vix1) (cwV 1 hts gd_X7_could rfl rfl rfl (by decide +kernel) ⟨Nat.le_of_ble_eq_true rfl, Nat.le_of_ble_eq_true rfl⟩) ⟨ax_blind (fun _ _ _ _ hq => va_Nw.same rfl rfl (hq)), va_recv hKx hPx (ci := 7) (q0 := 0) rfl hfs1230, ax_preE hPx hKx hDx (fun U hU hW => va_Nw.warmM hW (hE.2.2.2.2.2.2.1))⟩ rfl rfl hl.1 rfl (lv_room (Nat.le_of_ble_eq_true rfl)) dL_law_1230 ⟨hcc, hss⟩) hS (fun q _ h => hFc q h) hFc (fun r1230 u t H1 locs ht hvm hw1230 hB hz1 hk1 hS => ?_)
  obtain ⟨wxn, txn, ⟨vi1, vf1, kx1, kx2, q4x, hI1⟩, hP1, hK1, hD1⟩ := hB
  rw [ht] at hP1
  have hK1 := va_K.moved hvm.symm hK1
  obtain ⟨hPm, jxm⟩ := lg_step hPm jxm hk1 hD1
  obtain ⟨hPo, jxo⟩ := lg_step hPo jxo hk1 hD1
  have hD1 := hD1.weaken (fun _ _ _ h9 => hFc _ h9)
  clear hPx hDx hKx hFc hk1 hz1 hfs1230
  have hIX := hI1; have hPx := hP1; have hDx := hD1; have hKx := hK1; clear hI1 hP1 hD1 hK1
  clear ht; generalize H1 = H at hPx hPm hPo hS ⊢
  refine lv_pop hx hb dL_law_1233 rfl ?_
  refine lv_aload_n hx hb dL_law_1234 rfl (lv_at hl 2 rfl) ?_
  refine lv_aload_n hx hb dL_law_1235 rfl (lv_at hl 4 rfl) ?_
  refine lv_iload hx hb dL_law_1236 (lv_at hl 0 rfl) ?_
  refine lv_iconst (v := 1) hx hb dL_law_1238 zk_iconst_1 ?_
  refine lv_iadd hx hb dL_law_1239 ?_
  refine ax_ti ix1 eix1.symm ?_
  refine va_sld (L := L) (i := ix1) hx hb hX hbl hbA hS (vp_in_iff.mpr ⟨by omega, by omega⟩) dL_law_1240 ?_
  refine ax_ti vix1 evix1.symm ?_
  have hFc := lg_free hDm hS hA
  obtain ⟨fs1241, hfs1241⟩ := im_recv hIM
  refine va_calli (va_runV (As := [.int vix1]) (rest := []) ⟨hx, hb, hml, hown, hts⟩ (k_X8_could l dC dI H.size mo tp vm vn wm tm hIM vix1) (cwV 1 hts gd_X8_could rfl rfl rfl (by decide +kernel) ⟨Nat.le_of_ble_eq_true rfl, Nat.le_of_ble_eq_true rfl⟩) ⟨ax_blind (fun _ _ _ _ _ => trivial), va_recv hKm hPm (ci := 8) (q0 := 0) rfl hfs1241, ax_preE hPm hKm hDm (fun _ _ _ => trivial)⟩ rfl rfl hl.1 rfl (lv_room (Nat.le_of_ble_eq_true rfl)) dL_law_1241 ⟨hcc, hss⟩) hS (fun q _ h => hFc q h) hFc (fun r1241 u t H1 locs ht hvm hw1241 hB hz1 hk1 hS => ?_)
  obtain ⟨wmn, tmn, ⟨vm1, vn1, km1, km2, q4m, hI1⟩, hP1, hK1, hD1⟩ := hB
  rw [ht] at hP1
  have hK1 := va_K.moved hvm.symm hK1
  obtain ⟨hPx, jmx⟩ := lg_step hPx (dj_symm jxm) hk1 hD1
  have jxm := dj_symm jmx
  obtain ⟨hPo, jmo⟩ := lg_step hPo jmo hk1 hD1
  have hD1 := hD1.weaken (fun _ _ _ h9 => hFc _ h9)
  clear hPm hDm hKm hFc hk1 hz1 hfs1241
  have hIM := hI1; have hPm := hP1; have hDm := hD1; have hKm := hK1; clear hI1 hP1 hD1 hK1
  clear ht; generalize H1 = H at hPx hPm hPo hS ⊢
  refine lv_pop hx hb dL_law_1244 rfl ?_
  refine lv_goto (tgt := 1941) hx hb dL_law_1245 (by decide) ?_
  have hWn : lr_5 vi1 vm1 := l5_no q4x q4m
  have hRn : lr_R tp vi1 vf1 vm1 vn1 := ⟨by rw [kx2 0 (by decide), km2 0 (by decide)]; exact hR.1, lr_keep (fun k9 h9 => kx1 k9 (kp_dis (by decide) h9)) (fun k9 h9 => kx2 k9 (kp_dis (by decide) h9)) (fun k9 h9 => km1 k9 (kp_dis (by decide) h9)) (fun k9 h9 => km2 k9 (kp_dis (by decide) h9)) hR.2⟩
  have hRn := And.intro hRn hWn
  exact kk _ _ _ _ _ (Nat.le_add_right _ _) (Nat.le_add_right _ _) ⟨tp, _, _, _, _, _, _, _, _, _, hIX, hIM, hRn, hKx, hKm, hPx, hPm, hPo, hDx, hDm, hDo, jxm, jxo, jmo⟩ hS (lv_sub hl [0, 1, 2, 3, 4] rfl)

set_option maxHeartbeats 4000000 in
set_option maxRecDepth 100000 in
theorem lc_36 {p : Program} {l : Launch} {e : Env} {s : State} {m : MethodId} {below : List Frame} {meth : Method} {c : Code} {b L : Nat} {xs : Nat → Int32} {A : Nat → Prop} {dC : Nat → ClassId} {dI : Nat → Nat → Nat} (hl0 : l.stackTraces = false) (hL : L ≤ 3072) (hA : ∀ q, s.heap.size ≤ q → A q) (hA2 : ∀ q, A q → s.heap.size ≤ q) (C0 : lw_At p s m meth c b L xs) (sd : Nat → Nat) (sa : Nat) (hE : lg_E A sd sa s) (x mo oa : Nat) (ko : ClassId) (hKo : va_K (dC, dI) vwCl [(ko, .long)] s) (i : Int32) (hi0 : (0 : Int) ≤ i.toInt) (hi6 : i.toInt + 6 ≤ (L : Int)) {H : Heap} {locs : List Loc} {cells slots : Nat} (hc9 : cells + 1 ≤ 601024) (hs9 : slots + 6 ≤ 7293034) (hG : lg_S dC dI A s x mo oa ko H) (hS : va_S A s.heap H locs) {ls : Array Slot} (hl : lv_has ls 7 [(4, .int i), (3, .ref oa), (2, .ref mo), (1, .ref x), (0, .ref b)])
    (kk : ∀ (H : Heap) (locs : List Loc) (ls : Array Slot) (k9 n9 : Nat), k9 ≤ cells + 1 → n9 ≤ slots + 6 → lg_S dC dI A s x mo oa ko H → va_S A s.heap H locs → lv_has ls 7 [(4, .int i), (3, .ref oa), (2, .ref mo), (1, .ref x), (0, .ref b)] → W p l e room_1 s m #[Value.ref b] below meth c H locs k9 n9 (lw_Z below #[Value.ref b] s) (F0 m 1941 ls [])) : W p l e room_1 s m #[Value.ref b] below meth c H locs cells slots (lw_Z below #[Value.ref b] s) (F0 m 1248 ls []) := by
  obtain ⟨hx, hb, hr, hml, hown0, htl, hX, hbl, hlocks, hgv⟩ := id C0
  have hown : s.vm.findClass RL = some m.cls := hown0
  have hts : ∀ w ∈ wlT, w.before #[Value.ref b] s = true := fun w h => htl w (wlT_in w h)
  have hbA : ¬ A b := fun h => absurd (hA2 b h) (Nat.not_le.mpr hbl)
  obtain ⟨tp, wx, wm, tx, tm, fo, vi, vf, vm, vn, hIX, hIM, ⟨hR, hW⟩, hKx, hKm, hPx, hPm, hPo, hDx, hDm, hDo, jxm, jxo, jmo⟩ := hG
  have hiM : i.toInt ≤ (3066 : Int) := by omega
  have hcc : cells ≤ 601024 := by omega
  have hss : slots ≤ 7293034 := by omega
  have htpb := ix_tp hIX
  refine lv_aload_n hx hb dL_law_1248 rfl (lv_at hl 3 rfl) ?_
  refine lv_aload_n hx hb dL_law_1249 rfl (lv_at hl 4 rfl) ?_
  refine lv_iload hx hb dL_law_1250 (lv_at hl 0 rfl) ?_
  refine lv_iconst (v := 1) hx hb dL_law_1252 zk_iconst_1 ?_
  refine lv_iadd hx hb dL_law_1253 ?_
  refine lv_topi (fun ix1 eix1 => ?_)
  have qix1 : ix1.toInt = i.toInt + 1 := ai_add eix1 ⟨hi0, hiM⟩ ⟨zq1, zq0⟩ (by decide) (by decide)
  refine va_sld (L := L) (i := ix1) hx hb hX hbl hbA hS (vp_in_iff.mpr ⟨by omega, by omega⟩) dL_law_1254 ?_
  refine lv_topi (fun vix1 evix1 => ?_)
  refine lv_aload_n hx hb dL_law_1255 rfl (lv_at hl 4 rfl) ?_
  refine lv_iload hx hb dL_law_1256 (lv_at hl 0 rfl) ?_
  refine lv_iconst (v := 2) hx hb dL_law_1258 zk_iconst_2 ?_
  refine lv_iadd hx hb dL_law_1259 ?_
  refine lv_topi (fun ix2 eix2 => ?_)
  have qix2 : ix2.toInt = i.toInt + 2 := ai_add eix2 ⟨hi0, hiM⟩ ⟨zq12, zq13⟩ (by decide) (by decide)
  refine va_sld (L := L) (i := ix2) hx hb hX hbl hbA hS (vp_in_iff.mpr ⟨by omega, by omega⟩) dL_law_1260 ?_
  refine lv_topi (fun vix2 evix2 => ?_)
  have hFc := lg_free hDx hS hA
  obtain ⟨fs1261, hfs1261⟩ := ix_recv hIX
  refine va_calli (va_runV (As := [.int vix1, .int vix2]) (rest := []) ⟨hx, hb, hml, hown, hts⟩ (k_X7_aliveBy l dC dI H.size x tp vi vf wx tx hIX vix1 vix2) (cwV 2 hts gd_X7_aliveBy rfl rfl rfl (by decide +kernel) ⟨Nat.le_of_ble_eq_true rfl, Nat.le_of_ble_eq_true rfl⟩) ⟨ax_blind (fun _ _ _ _ hq => va_Nw.same rfl rfl (hq)), va_recv hKx hPx (ci := 7) (q0 := 0) rfl hfs1261, ax_preE hPx hKx hDx (fun U hU hW => va_Nw.warmM hW (hE.2.2.2.2.2.2.1))⟩ rfl rfl hl.1 rfl (lv_room (Nat.le_of_ble_eq_true rfl)) dL_law_1261 ⟨hcc, hss⟩) hS (fun q _ h => hFc q h) hFc (fun r1261 u t H1 locs ht hvm hw1261 hB hz1 hk1 hS => ?_)
  obtain ⟨wxn, txn, ⟨vi1, vf1, kx1, kx2, q4x, hI1⟩, hP1, hK1, hD1⟩ := hB
  rw [ht] at hP1
  have hK1 := va_K.moved hvm.symm hK1
  obtain ⟨hPm, jxm⟩ := lg_step hPm jxm hk1 hD1
  obtain ⟨hPo, jxo⟩ := lg_step hPo jxo hk1 hD1
  have hD1 := hD1.weaken (fun _ _ _ h9 => hFc _ h9)
  clear hPx hDx hKx hFc hk1 hz1 hfs1261
  have hIX := hI1; have hPx := hP1; have hDx := hD1; have hKx := hK1; clear hI1 hP1 hD1 hK1
  clear ht; generalize H1 = H at hPx hPm hPo hS ⊢
  refine lv_pop hx hb dL_law_1264 rfl ?_
  refine lv_aload_n hx hb dL_law_1265 rfl (lv_at hl 2 rfl) ?_
  refine lv_aload_n hx hb dL_law_1266 rfl (lv_at hl 4 rfl) ?_
  refine lv_iload hx hb dL_law_1267 (lv_at hl 0 rfl) ?_
  refine lv_iconst (v := 1) hx hb dL_law_1269 zk_iconst_1 ?_
  refine lv_iadd hx hb dL_law_1270 ?_
  refine ax_ti ix1 eix1.symm ?_
  refine va_sld (L := L) (i := ix1) hx hb hX hbl hbA hS (vp_in_iff.mpr ⟨by omega, by omega⟩) dL_law_1271 ?_
  refine ax_ti vix1 evix1.symm ?_
  refine lv_aload_n hx hb dL_law_1272 rfl (lv_at hl 4 rfl) ?_
  refine lv_iload hx hb dL_law_1273 (lv_at hl 0 rfl) ?_
  refine lv_iconst (v := 2) hx hb dL_law_1275 zk_iconst_2 ?_
  refine lv_iadd hx hb dL_law_1276 ?_
  refine ax_ti ix2 eix2.symm ?_
  refine va_sld (L := L) (i := ix2) hx hb hX hbl hbA hS (vp_in_iff.mpr ⟨by omega, by omega⟩) dL_law_1277 ?_
  refine ax_ti vix2 evix2.symm ?_
  have hFc := lg_free hDm hS hA
  obtain ⟨fs1278, hfs1278⟩ := im_recv hIM
  refine va_calli (va_runV (As := [.int vix1, .int vix2]) (rest := []) ⟨hx, hb, hml, hown, hts⟩ (k_X8_aliveBy l dC dI H.size mo tp vm vn wm tm hIM vix1 vix2) (cwV 2 hts gd_X8_aliveBy rfl rfl rfl (by decide +kernel) ⟨Nat.le_of_ble_eq_true rfl, Nat.le_of_ble_eq_true rfl⟩) ⟨ax_blind (fun _ _ _ _ _ => trivial), va_recv hKm hPm (ci := 8) (q0 := 0) rfl hfs1278, ax_preE hPm hKm hDm (fun _ _ _ => trivial)⟩ rfl rfl hl.1 rfl (lv_room (Nat.le_of_ble_eq_true rfl)) dL_law_1278 ⟨hcc, hss⟩) hS (fun q _ h => hFc q h) hFc (fun r1278 u t H1 locs ht hvm hw1278 hB hz1 hk1 hS => ?_)
  obtain ⟨wmn, tmn, ⟨vm1, vn1, km1, km2, q4m, hI1⟩, hP1, hK1, hD1⟩ := hB
  rw [ht] at hP1
  have hK1 := va_K.moved hvm.symm hK1
  obtain ⟨hPx, jmx⟩ := lg_step hPx (dj_symm jxm) hk1 hD1
  have jxm := dj_symm jmx
  obtain ⟨hPo, jmo⟩ := lg_step hPo jmo hk1 hD1
  have hD1 := hD1.weaken (fun _ _ _ h9 => hFc _ h9)
  clear hPm hDm hKm hFc hk1 hz1 hfs1278
  have hIM := hI1; have hPm := hP1; have hDm := hD1; have hKm := hK1; clear hI1 hP1 hD1 hK1
  clear ht; generalize H1 = H at hPx hPm hPo hS ⊢
  refine lv_pop hx hb dL_law_1281 rfl ?_
  refine lv_goto (tgt := 1941) hx hb dL_law_1282 (by decide) ?_
  have hWn : lr_5 vi1 vm1 := l5_no q4x q4m
  have hRn : lr_R tp vi1 vf1 vm1 vn1 := ⟨by rw [kx2 0 (by decide), km2 0 (by decide)]; exact hR.1, lr_keep (fun k9 h9 => kx1 k9 (kp_dis (by decide) h9)) (fun k9 h9 => kx2 k9 (kp_dis (by decide) h9)) (fun k9 h9 => km1 k9 (kp_dis (by decide) h9)) (fun k9 h9 => km2 k9 (kp_dis (by decide) h9)) hR.2⟩
  have hRn := And.intro hRn hWn
  exact kk _ _ _ _ _ (Nat.le_add_right _ _) (Nat.le_add_right _ _) ⟨tp, _, _, _, _, _, _, _, _, _, hIX, hIM, hRn, hKx, hKm, hPx, hPm, hPo, hDx, hDm, hDo, jxm, jxo, jmo⟩ hS (lv_sub hl [0, 1, 2, 3, 4] rfl)

set_option maxHeartbeats 4000000 in
set_option maxRecDepth 100000 in
theorem lc_37 {p : Program} {l : Launch} {e : Env} {s : State} {m : MethodId} {below : List Frame} {meth : Method} {c : Code} {b L : Nat} {xs : Nat → Int32} {A : Nat → Prop} {dC : Nat → ClassId} {dI : Nat → Nat → Nat} (hl0 : l.stackTraces = false) (hL : L ≤ 3072) (hA : ∀ q, s.heap.size ≤ q → A q) (hA2 : ∀ q, A q → s.heap.size ≤ q) (C0 : lw_At p s m meth c b L xs) (sd : Nat → Nat) (sa : Nat) (hE : lg_E A sd sa s) (x mo oa : Nat) (ko : ClassId) (hKo : va_K (dC, dI) vwCl [(ko, .long)] s) (i : Int32) (hi0 : (0 : Int) ≤ i.toInt) (hi6 : i.toInt + 6 ≤ (L : Int)) {H : Heap} {locs : List Loc} {cells slots : Nat} (hc9 : cells + 1 ≤ 601024) (hs9 : slots + 6 ≤ 7293034) (hG : lg_S dC dI A s x mo oa ko H) (hS : va_S A s.heap H locs) {ls : Array Slot} (hl : lv_has ls 7 [(4, .int i), (3, .ref oa), (2, .ref mo), (1, .ref x), (0, .ref b)])
    (kk : ∀ (H : Heap) (locs : List Loc) (ls : Array Slot) (k9 n9 : Nat), k9 ≤ cells + 1 → n9 ≤ slots + 6 → lg_S dC dI A s x mo oa ko H → va_S A s.heap H locs → lv_has ls 7 [(4, .int i), (3, .ref oa), (2, .ref mo), (1, .ref x), (0, .ref b)] → W p l e room_1 s m #[Value.ref b] below meth c H locs k9 n9 (lw_Z below #[Value.ref b] s) (F0 m 1941 ls [])) : W p l e room_1 s m #[Value.ref b] below meth c H locs cells slots (lw_Z below #[Value.ref b] s) (F0 m 1285 ls []) := by
  obtain ⟨hx, hb, hr, hml, hown0, htl, hX, hbl, hlocks, hgv⟩ := id C0
  have hown : s.vm.findClass RL = some m.cls := hown0
  have hts : ∀ w ∈ wlT, w.before #[Value.ref b] s = true := fun w h => htl w (wlT_in w h)
  have hbA : ¬ A b := fun h => absurd (hA2 b h) (Nat.not_le.mpr hbl)
  obtain ⟨tp, wx, wm, tx, tm, fo, vi, vf, vm, vn, hIX, hIM, ⟨hR, hW⟩, hKx, hKm, hPx, hPm, hPo, hDx, hDm, hDo, jxm, jxo, jmo⟩ := hG
  have hiM : i.toInt ≤ (3066 : Int) := by omega
  have hcc : cells ≤ 601024 := by omega
  have hss : slots ≤ 7293034 := by omega
  have htpb := ix_tp hIX
  refine lv_aload_n hx hb dL_law_1285 rfl (lv_at hl 3 rfl) ?_
  have hFc := lg_free hDx hS hA
  obtain ⟨fs1286, hfs1286⟩ := ix_recv hIX
  refine va_calli (va_runV (As := []) (rest := []) ⟨hx, hb, hml, hown, hts⟩ (k_X7_look l dC dI H.size x tp vi vf wx tx hIX ) (cwV 0 hts gd_X7_look rfl rfl rfl (by decide +kernel) ⟨Nat.le_of_ble_eq_true rfl, Nat.le_of_ble_eq_true rfl⟩) ⟨ax_blind (fun _ _ _ _ hq => va_Nw.same rfl rfl (hq)), va_recv hKx hPx (ci := 7) (q0 := 0) rfl hfs1286, ax_preE hPx hKx hDx (fun U hU hW => va_Nw.warmM hW (hE.2.2.2.2.2.2.1))⟩ rfl rfl hl.1 rfl (lv_room (Nat.le_of_ble_eq_true rfl)) dL_law_1286 ⟨hcc, hss⟩) hS (fun q _ h => hFc q h) hFc (fun r1286 u t H1 locs ht hvm hw1286 hB hz1 hk1 hS => ?_)
  obtain ⟨wxn, txn, ⟨vi1, vf1, kx1, kx2, q4x, hI1⟩, hP1, hK1, hD1⟩ := hB
  rw [ht] at hP1
  have hK1 := va_K.moved hvm.symm hK1
  obtain ⟨hPm, jxm⟩ := lg_step hPm jxm hk1 hD1
  obtain ⟨hPo, jxo⟩ := lg_step hPo jxo hk1 hD1
  have hD1 := hD1.weaken (fun _ _ _ h9 => hFc _ h9)
  clear hPx hDx hKx hFc hk1 hz1 hfs1286
  have hIX := hI1; have hPx := hP1; have hDx := hD1; have hKx := hK1; clear hI1 hP1 hD1 hK1
  clear ht; generalize H1 = H at hPx hPm hPo hS ⊢
  refine lv_pop hx hb dL_law_1289 rfl ?_
  refine lv_aload_n hx hb dL_law_1290 rfl (lv_at hl 2 rfl) ?_
  have hFc := lg_free hDm hS hA
  obtain ⟨fs1291, hfs1291⟩ := im_recv hIM
  refine va_calli (va_runV (As := []) (rest := []) ⟨hx, hb, hml, hown, hts⟩ (k_X8_look l dC dI H.size mo tp vm vn wm tm hIM ) (cwV 0 hts gd_X8_look rfl rfl rfl (by decide +kernel) ⟨Nat.le_of_ble_eq_true rfl, Nat.le_of_ble_eq_true rfl⟩) ⟨ax_blind (fun _ _ _ _ _ => trivial), va_recv hKm hPm (ci := 8) (q0 := 0) rfl hfs1291, ax_preE hPm hKm hDm (fun _ _ _ => trivial)⟩ rfl rfl hl.1 rfl (lv_room (Nat.le_of_ble_eq_true rfl)) dL_law_1291 ⟨hcc, hss⟩) hS (fun q _ h => hFc q h) hFc (fun r1291 u t H1 locs ht hvm hw1291 hB hz1 hk1 hS => ?_)
  obtain ⟨wmn, tmn, ⟨vm1, vn1, km1, km2, q4m, hI1⟩, hP1, hK1, hD1⟩ := hB
  rw [ht] at hP1
  have hK1 := va_K.moved hvm.symm hK1
  obtain ⟨hPx, jmx⟩ := lg_step hPx (dj_symm jxm) hk1 hD1
  have jxm := dj_symm jmx
  obtain ⟨hPo, jmo⟩ := lg_step hPo jmo hk1 hD1
  have hD1 := hD1.weaken (fun _ _ _ h9 => hFc _ h9)
  clear hPm hDm hKm hFc hk1 hz1 hfs1291
  have hIM := hI1; have hPm := hP1; have hDm := hD1; have hKm := hK1; clear hI1 hP1 hD1 hK1
  clear ht; generalize H1 = H at hPx hPm hPo hS ⊢
  refine lv_pop hx hb dL_law_1294 rfl ?_
  refine lv_goto (tgt := 1941) hx hb dL_law_1295 (by decide) ?_
  have hWn : lr_5 vi1 vm1 := l5_no q4x q4m
  have hRn : lr_R tp vi1 vf1 vm1 vn1 := ⟨by rw [kx2 0 (by decide), km2 0 (by decide)]; exact hR.1, lr_keep (fun k9 h9 => kx1 k9 (kp_dis (by decide) h9)) (fun k9 h9 => kx2 k9 (kp_dis (by decide) h9)) (fun k9 h9 => km1 k9 (kp_dis (by decide) h9)) (fun k9 h9 => km2 k9 (kp_dis (by decide) h9)) hR.2⟩
  have hRn := And.intro hRn hWn
  exact kk _ _ _ _ _ (Nat.le_add_right _ _) (Nat.le_add_right _ _) ⟨tp, _, _, _, _, _, _, _, _, _, hIX, hIM, hRn, hKx, hKm, hPx, hPm, hPo, hDx, hDm, hDo, jxm, jxo, jmo⟩ hS (lv_sub hl [0, 1, 2, 3, 4] rfl)

set_option maxHeartbeats 4000000 in
set_option maxRecDepth 100000 in
theorem lc_38 {p : Program} {l : Launch} {e : Env} {s : State} {m : MethodId} {below : List Frame} {meth : Method} {c : Code} {b L : Nat} {xs : Nat → Int32} {A : Nat → Prop} {dC : Nat → ClassId} {dI : Nat → Nat → Nat} (hl0 : l.stackTraces = false) (hL : L ≤ 3072) (hA : ∀ q, s.heap.size ≤ q → A q) (hA2 : ∀ q, A q → s.heap.size ≤ q) (C0 : lw_At p s m meth c b L xs) (sd : Nat → Nat) (sa : Nat) (hE : lg_E A sd sa s) (x mo oa : Nat) (ko : ClassId) (hKo : va_K (dC, dI) vwCl [(ko, .long)] s) (i : Int32) (hi0 : (0 : Int) ≤ i.toInt) (hi6 : i.toInt + 6 ≤ (L : Int)) {H : Heap} {locs : List Loc} {cells slots : Nat} (hc9 : cells + 1 ≤ 601024) (hs9 : slots + 6 ≤ 7293034) (hG : lg_S dC dI A s x mo oa ko H) (hS : va_S A s.heap H locs) {ls : Array Slot} (hl : lv_has ls 7 [(4, .int i), (3, .ref oa), (2, .ref mo), (1, .ref x), (0, .ref b)])
    (kk : ∀ (H : Heap) (locs : List Loc) (ls : Array Slot) (k9 n9 : Nat), k9 ≤ cells + 1 → n9 ≤ slots + 6 → lg_S dC dI A s x mo oa ko H → va_S A s.heap H locs → lv_has ls 7 [(4, .int i), (3, .ref oa), (2, .ref mo), (1, .ref x), (0, .ref b)] → W p l e room_1 s m #[Value.ref b] below meth c H locs k9 n9 (lw_Z below #[Value.ref b] s) (F0 m 1941 ls [])) : W p l e room_1 s m #[Value.ref b] below meth c H locs cells slots (lw_Z below #[Value.ref b] s) (F0 m 1298 ls []) := by
  obtain ⟨hx, hb, hr, hml, hown0, htl, hX, hbl, hlocks, hgv⟩ := id C0
  have hown : s.vm.findClass RL = some m.cls := hown0
  have hts : ∀ w ∈ wlT, w.before #[Value.ref b] s = true := fun w h => htl w (wlT_in w h)
  have hbA : ¬ A b := fun h => absurd (hA2 b h) (Nat.not_le.mpr hbl)
  obtain ⟨tp, wx, wm, tx, tm, fo, vi, vf, vm, vn, hIX, hIM, ⟨hR, hW⟩, hKx, hKm, hPx, hPm, hPo, hDx, hDm, hDo, jxm, jxo, jmo⟩ := hG
  have hiM : i.toInt ≤ (3066 : Int) := by omega
  have hcc : cells ≤ 601024 := by omega
  have hss : slots ≤ 7293034 := by omega
  have htpb := ix_tp hIX
  refine lv_aload_n hx hb dL_law_1298 rfl (lv_at hl 3 rfl) ?_
  have hFc := lg_free hDx hS hA
  obtain ⟨fs1299, hfs1299⟩ := ix_recv hIX
  refine va_calli (va_runV (As := []) (rest := []) ⟨hx, hb, hml, hown, hts⟩ (k_X7_lookLeaves l dC dI H.size x tp vi vf wx tx hIX ) (cwV 0 hts gd_X7_lookLeaves rfl rfl rfl (by decide +kernel) ⟨Nat.le_of_ble_eq_true rfl, Nat.le_of_ble_eq_true rfl⟩) ⟨ax_blind (fun _ _ _ _ hq => va_Nw.same rfl rfl (hq)), va_recv hKx hPx (ci := 7) (q0 := 0) rfl hfs1299, ax_preE hPx hKx hDx (fun U hU hW => va_Nw.warmM hW (hE.2.2.2.2.2.2.1))⟩ rfl rfl hl.1 rfl (lv_room (Nat.le_of_ble_eq_true rfl)) dL_law_1299 ⟨hcc, hss⟩) hS (fun q _ h => hFc q h) hFc (fun r1299 u t H1 locs ht hvm hw1299 hB hz1 hk1 hS => ?_)
  obtain ⟨wxn, txn, ⟨vi1, vf1, kx1, kx2, q4x, hI1⟩, hP1, hK1, hD1⟩ := hB
  rw [ht] at hP1
  have hK1 := va_K.moved hvm.symm hK1
  obtain ⟨hPm, jxm⟩ := lg_step hPm jxm hk1 hD1
  obtain ⟨hPo, jxo⟩ := lg_step hPo jxo hk1 hD1
  have hD1 := hD1.weaken (fun _ _ _ h9 => hFc _ h9)
  clear hPx hDx hKx hFc hk1 hz1 hfs1299
  have hIX := hI1; have hPx := hP1; have hDx := hD1; have hKx := hK1; clear hI1 hP1 hD1 hK1
  clear ht; generalize H1 = H at hPx hPm hPo hS ⊢
  refine lv_pop hx hb dL_law_1302 rfl ?_
  refine lv_aload_n hx hb dL_law_1303 rfl (lv_at hl 2 rfl) ?_
  have hFc := lg_free hDm hS hA
  obtain ⟨fs1304, hfs1304⟩ := im_recv hIM
  refine va_calli (va_runV (As := []) (rest := []) ⟨hx, hb, hml, hown, hts⟩ (k_X8_lookLeaves l dC dI H.size mo tp vm vn wm tm hIM ) (cwV 0 hts gd_X8_lookLeaves rfl rfl rfl (by decide +kernel) ⟨Nat.le_of_ble_eq_true rfl, Nat.le_of_ble_eq_true rfl⟩) ⟨ax_blind (fun _ _ _ _ _ => trivial), va_recv hKm hPm (ci := 8) (q0 := 0) rfl hfs1304, ax_preE hPm hKm hDm (fun _ _ _ => trivial)⟩ rfl rfl hl.1 rfl (lv_room (Nat.le_of_ble_eq_true rfl)) dL_law_1304 ⟨hcc, hss⟩) hS (fun q _ h => hFc q h) hFc (fun r1304 u t H1 locs ht hvm hw1304 hB hz1 hk1 hS => ?_)
  obtain ⟨wmn, tmn, ⟨vm1, vn1, km1, km2, q4m, hI1⟩, hP1, hK1, hD1⟩ := hB
  rw [ht] at hP1
  have hK1 := va_K.moved hvm.symm hK1
  obtain ⟨hPx, jmx⟩ := lg_step hPx (dj_symm jxm) hk1 hD1
  have jxm := dj_symm jmx
  obtain ⟨hPo, jmo⟩ := lg_step hPo jmo hk1 hD1
  have hD1 := hD1.weaken (fun _ _ _ h9 => hFc _ h9)
  clear hPm hDm hKm hFc hk1 hz1 hfs1304
  have hIM := hI1; have hPm := hP1; have hDm := hD1; have hKm := hK1; clear hI1 hP1 hD1 hK1
  clear ht; generalize H1 = H at hPx hPm hPo hS ⊢
  refine lv_pop hx hb dL_law_1307 rfl ?_
  refine lv_goto (tgt := 1941) hx hb dL_law_1308 (by decide) ?_
  have hWn : lr_5 vi1 vm1 := l5_no q4x q4m
  have hRn : lr_R tp vi1 vf1 vm1 vn1 := ⟨by rw [kx2 0 (by decide), km2 0 (by decide)]; exact hR.1, lr_keep (fun k9 h9 => kx1 k9 (kp_dis (by decide) h9)) (fun k9 h9 => kx2 k9 (kp_dis (by decide) h9)) (fun k9 h9 => km1 k9 (kp_dis (by decide) h9)) (fun k9 h9 => km2 k9 (kp_dis (by decide) h9)) hR.2⟩
  have hRn := And.intro hRn hWn
  exact kk _ _ _ _ _ (Nat.le_add_right _ _) (Nat.le_add_right _ _) ⟨tp, _, _, _, _, _, _, _, _, _, hIX, hIM, hRn, hKx, hKm, hPx, hPm, hPo, hDx, hDm, hDo, jxm, jxo, jmo⟩ hS (lv_sub hl [0, 1, 2, 3, 4] rfl)

set_option maxHeartbeats 4000000 in
set_option maxRecDepth 100000 in
theorem lc_39 {p : Program} {l : Launch} {e : Env} {s : State} {m : MethodId} {below : List Frame} {meth : Method} {c : Code} {b L : Nat} {xs : Nat → Int32} {A : Nat → Prop} {dC : Nat → ClassId} {dI : Nat → Nat → Nat} (hl0 : l.stackTraces = false) (hL : L ≤ 3072) (hA : ∀ q, s.heap.size ≤ q → A q) (hA2 : ∀ q, A q → s.heap.size ≤ q) (C0 : lw_At p s m meth c b L xs) (sd : Nat → Nat) (sa : Nat) (hE : lg_E A sd sa s) (x mo oa : Nat) (ko : ClassId) (hKo : va_K (dC, dI) vwCl [(ko, .long)] s) (i : Int32) (hi0 : (0 : Int) ≤ i.toInt) (hi6 : i.toInt + 6 ≤ (L : Int)) {H : Heap} {locs : List Loc} {cells slots : Nat} (hc9 : cells + 1 ≤ 601024) (hs9 : slots + 6 ≤ 7293034) (hG : lg_S dC dI A s x mo oa ko H) (hS : va_S A s.heap H locs) {ls : Array Slot} (hl : lv_has ls 7 [(4, .int i), (3, .ref oa), (2, .ref mo), (1, .ref x), (0, .ref b)])
    (kk : ∀ (H : Heap) (locs : List Loc) (ls : Array Slot) (k9 n9 : Nat), k9 ≤ cells + 1 → n9 ≤ slots + 6 → lg_S dC dI A s x mo oa ko H → va_S A s.heap H locs → lv_has ls 7 [(4, .int i), (3, .ref oa), (2, .ref mo), (1, .ref x), (0, .ref b)] → W p l e room_1 s m #[Value.ref b] below meth c H locs k9 n9 (lw_Z below #[Value.ref b] s) (F0 m 1941 ls [])) : W p l e room_1 s m #[Value.ref b] below meth c H locs cells slots (lw_Z below #[Value.ref b] s) (F0 m 1311 ls []) := by
  obtain ⟨hx, hb, hr, hml, hown0, htl, hX, hbl, hlocks, hgv⟩ := id C0
  have hown : s.vm.findClass RL = some m.cls := hown0
  have hts : ∀ w ∈ wlT, w.before #[Value.ref b] s = true := fun w h => htl w (wlT_in w h)
  have hbA : ¬ A b := fun h => absurd (hA2 b h) (Nat.not_le.mpr hbl)
  obtain ⟨tp, wx, wm, tx, tm, fo, vi, vf, vm, vn, hIX, hIM, ⟨hR, hW⟩, hKx, hKm, hPx, hPm, hPo, hDx, hDm, hDo, jxm, jxo, jmo⟩ := hG
  have hiM : i.toInt ≤ (3066 : Int) := by omega
  have hcc : cells ≤ 601024 := by omega
  have hss : slots ≤ 7293034 := by omega
  have htpb := ix_tp hIX
  refine lv_aload_n hx hb dL_law_1311 rfl (lv_at hl 3 rfl) ?_
  have hFc := lg_free hDx hS hA
  obtain ⟨fs1312, hfs1312⟩ := ix_recv hIX
  refine va_calli (va_runV (As := []) (rest := []) ⟨hx, hb, hml, hown, hts⟩ (k_X7_lawsLike l dC dI H.size x tp vi vf wx tx hIX ) (cwV 0 hts gd_X7_lawsLike rfl rfl rfl (by decide +kernel) ⟨Nat.le_of_ble_eq_true rfl, Nat.le_of_ble_eq_true rfl⟩) ⟨ax_blind (fun _ _ _ _ _ => trivial), va_recv hKx hPx (ci := 7) (q0 := 0) rfl hfs1312, ax_preE hPx hKx hDx (fun _ _ _ => trivial)⟩ rfl rfl hl.1 rfl (lv_room (Nat.le_of_ble_eq_true rfl)) dL_law_1312 ⟨hcc, hss⟩) hS (fun q _ h => hFc q h) hFc (fun r1312 u t H1 locs ht hvm hw1312 hB hz1 hk1 hS => ?_)
  obtain ⟨wxn, txn, ⟨vi1, vf1, kx1, kx2, q4x, hI1⟩, hP1, hK1, hD1⟩ := hB
  rw [ht] at hP1
  have hK1 := va_K.moved hvm.symm hK1
  obtain ⟨hPm, jxm⟩ := lg_step hPm jxm hk1 hD1
  obtain ⟨hPo, jxo⟩ := lg_step hPo jxo hk1 hD1
  have hD1 := hD1.weaken (fun _ _ _ h9 => hFc _ h9)
  clear hPx hDx hKx hFc hk1 hz1 hfs1312
  have hIX := hI1; have hPx := hP1; have hDx := hD1; have hKx := hK1; clear hI1 hP1 hD1 hK1
  clear ht; generalize H1 = H at hPx hPm hPo hS ⊢
  refine lv_pop hx hb dL_law_1315 rfl ?_
  refine lv_aload_n hx hb dL_law_1316 rfl (lv_at hl 2 rfl) ?_
  have hFc := lg_free hDm hS hA
  obtain ⟨fs1317, hfs1317⟩ := im_recv hIM
  refine va_calli (va_runV (As := []) (rest := []) ⟨hx, hb, hml, hown, hts⟩ (k_X8_lawsLike l dC dI H.size mo tp vm vn wm tm hIM ) (cwV 0 hts gd_X8_lawsLike rfl rfl rfl (by decide +kernel) ⟨Nat.le_of_ble_eq_true rfl, Nat.le_of_ble_eq_true rfl⟩) ⟨ax_blind (fun _ _ _ _ _ => trivial), va_recv hKm hPm (ci := 8) (q0 := 0) rfl hfs1317, ax_preE hPm hKm hDm (fun _ _ _ => trivial)⟩ rfl rfl hl.1 rfl (lv_room (Nat.le_of_ble_eq_true rfl)) dL_law_1317 ⟨hcc, hss⟩) hS (fun q _ h => hFc q h) hFc (fun r1317 u t H1 locs ht hvm hw1317 hB hz1 hk1 hS => ?_)
  obtain ⟨wmn, tmn, ⟨vm1, vn1, km1, km2, q4m, hI1⟩, hP1, hK1, hD1⟩ := hB
  rw [ht] at hP1
  have hK1 := va_K.moved hvm.symm hK1
  obtain ⟨hPx, jmx⟩ := lg_step hPx (dj_symm jxm) hk1 hD1
  have jxm := dj_symm jmx
  obtain ⟨hPo, jmo⟩ := lg_step hPo jmo hk1 hD1
  have hD1 := hD1.weaken (fun _ _ _ h9 => hFc _ h9)
  clear hPm hDm hKm hFc hk1 hz1 hfs1317
  have hIM := hI1; have hPm := hP1; have hDm := hD1; have hKm := hK1; clear hI1 hP1 hD1 hK1
  clear ht; generalize H1 = H at hPx hPm hPo hS ⊢
  refine lv_pop hx hb dL_law_1320 rfl ?_
  refine lv_goto (tgt := 1941) hx hb dL_law_1321 (by decide) ?_
  have hWn : lr_5 vi1 vm1 := l5_no q4x q4m
  have hRn : lr_R tp vi1 vf1 vm1 vn1 := ⟨by rw [kx2 0 (by decide), km2 0 (by decide)]; exact hR.1, lr_keep (fun k9 h9 => kx1 k9 (kp_dis (by decide) h9)) (fun k9 h9 => kx2 k9 (kp_dis (by decide) h9)) (fun k9 h9 => km1 k9 (kp_dis (by decide) h9)) (fun k9 h9 => km2 k9 (kp_dis (by decide) h9)) hR.2⟩
  have hRn := And.intro hRn hWn
  exact kk _ _ _ _ _ (Nat.le_add_right _ _) (Nat.le_add_right _ _) ⟨tp, _, _, _, _, _, _, _, _, _, hIX, hIM, hRn, hKx, hKm, hPx, hPm, hPo, hDx, hDm, hDo, jxm, jxo, jmo⟩ hS (lv_sub hl [0, 1, 2, 3, 4] rfl)

set_option maxHeartbeats 4000000 in
set_option maxRecDepth 100000 in
theorem lc_40 {p : Program} {l : Launch} {e : Env} {s : State} {m : MethodId} {below : List Frame} {meth : Method} {c : Code} {b L : Nat} {xs : Nat → Int32} {A : Nat → Prop} {dC : Nat → ClassId} {dI : Nat → Nat → Nat} (hl0 : l.stackTraces = false) (hL : L ≤ 3072) (hA : ∀ q, s.heap.size ≤ q → A q) (hA2 : ∀ q, A q → s.heap.size ≤ q) (C0 : lw_At p s m meth c b L xs) (sd : Nat → Nat) (sa : Nat) (hE : lg_E A sd sa s) (x mo oa : Nat) (ko : ClassId) (hKo : va_K (dC, dI) vwCl [(ko, .long)] s) (i : Int32) (hi0 : (0 : Int) ≤ i.toInt) (hi6 : i.toInt + 6 ≤ (L : Int)) {H : Heap} {locs : List Loc} {cells slots : Nat} (hc9 : cells + 1 ≤ 601024) (hs9 : slots + 6 ≤ 7293034) (hG : lg_S dC dI A s x mo oa ko H) (hS : va_S A s.heap H locs) {ls : Array Slot} (hl : lv_has ls 7 [(4, .int i), (3, .ref oa), (2, .ref mo), (1, .ref x), (0, .ref b)])
    (kk : ∀ (H : Heap) (locs : List Loc) (ls : Array Slot) (k9 n9 : Nat), k9 ≤ cells + 1 → n9 ≤ slots + 6 → lg_S dC dI A s x mo oa ko H → va_S A s.heap H locs → lv_has ls 7 [(4, .int i), (3, .ref oa), (2, .ref mo), (1, .ref x), (0, .ref b)] → W p l e room_1 s m #[Value.ref b] below meth c H locs k9 n9 (lw_Z below #[Value.ref b] s) (F0 m 1941 ls [])) : W p l e room_1 s m #[Value.ref b] below meth c H locs cells slots (lw_Z below #[Value.ref b] s) (F0 m 1324 ls []) := by
  obtain ⟨hx, hb, hr, hml, hown0, htl, hX, hbl, hlocks, hgv⟩ := id C0
  have hown : s.vm.findClass RL = some m.cls := hown0
  have hts : ∀ w ∈ wlT, w.before #[Value.ref b] s = true := fun w h => htl w (wlT_in w h)
  have hbA : ¬ A b := fun h => absurd (hA2 b h) (Nat.not_le.mpr hbl)
  obtain ⟨tp, wx, wm, tx, tm, fo, vi, vf, vm, vn, hIX, hIM, ⟨hR, hW⟩, hKx, hKm, hPx, hPm, hPo, hDx, hDm, hDo, jxm, jxo, jmo⟩ := hG
  have hiM : i.toInt ≤ (3066 : Int) := by omega
  have hcc : cells ≤ 601024 := by omega
  have hss : slots ≤ 7293034 := by omega
  have htpb := ix_tp hIX
  refine lv_aload_n hx hb dL_law_1324 rfl (lv_at hl 3 rfl) ?_
  refine lv_aload_n hx hb dL_law_1325 rfl (lv_at hl 4 rfl) ?_
  refine lv_iload hx hb dL_law_1326 (lv_at hl 0 rfl) ?_
  refine lv_iconst (v := 1) hx hb dL_law_1328 zk_iconst_1 ?_
  refine lv_iadd hx hb dL_law_1329 ?_
  refine lv_topi (fun ix1 eix1 => ?_)
  have qix1 : ix1.toInt = i.toInt + 1 := ai_add eix1 ⟨hi0, hiM⟩ ⟨zq1, zq0⟩ (by decide) (by decide)
  refine va_sld (L := L) (i := ix1) hx hb hX hbl hbA hS (vp_in_iff.mpr ⟨by omega, by omega⟩) dL_law_1330 ?_
  refine lv_topi (fun vix1 evix1 => ?_)
  refine lv_aload_n hx hb dL_law_1331 rfl (lv_at hl 4 rfl) ?_
  refine lv_iload hx hb dL_law_1332 (lv_at hl 0 rfl) ?_
  refine lv_iconst (v := 2) hx hb dL_law_1334 zk_iconst_2 ?_
  refine lv_iadd hx hb dL_law_1335 ?_
  refine lv_topi (fun ix2 eix2 => ?_)
  have qix2 : ix2.toInt = i.toInt + 2 := ai_add eix2 ⟨hi0, hiM⟩ ⟨zq12, zq13⟩ (by decide) (by decide)
  refine va_sld (L := L) (i := ix2) hx hb hX hbl hbA hS (vp_in_iff.mpr ⟨by omega, by omega⟩) dL_law_1336 ?_
  refine lv_topi (fun vix2 evix2 => ?_)
  have hFc := lg_free hDx hS hA
  obtain ⟨fs1337, hfs1337⟩ := ix_recv hIX
  refine va_calli (va_runV (As := [.int vix1, .int vix2]) (rest := []) ⟨hx, hb, hml, hown, hts⟩ (k_X7_lawFor l dC dI H.size x tp vi vf wx tx hIX vix1 vix2) (cwV 2 hts gd_X7_lawFor rfl rfl rfl (by decide +kernel) ⟨Nat.le_of_ble_eq_true rfl, Nat.le_of_ble_eq_true rfl⟩) ⟨ax_blind (fun _ _ _ _ _ => trivial), va_recv hKx hPx (ci := 7) (q0 := 0) rfl hfs1337, ax_preE hPx hKx hDx (fun _ _ _ => trivial)⟩ rfl rfl hl.1 rfl (lv_room (Nat.le_of_ble_eq_true rfl)) dL_law_1337 ⟨hcc, hss⟩) hS (fun q _ h => hFc q h) hFc (fun r1337 u t H1 locs ht hvm hw1337 hB hz1 hk1 hS => ?_)
  obtain ⟨wxn, txn, ⟨vi1, vf1, kx1, kx2, q4x, hI1⟩, hP1, hK1, hD1⟩ := hB
  rw [ht] at hP1
  have hK1 := va_K.moved hvm.symm hK1
  obtain ⟨hPm, jxm⟩ := lg_step hPm jxm hk1 hD1
  obtain ⟨hPo, jxo⟩ := lg_step hPo jxo hk1 hD1
  have hD1 := hD1.weaken (fun _ _ _ h9 => hFc _ h9)
  clear hPx hDx hKx hFc hk1 hz1 hfs1337
  have hIX := hI1; have hPx := hP1; have hDx := hD1; have hKx := hK1; clear hI1 hP1 hD1 hK1
  clear ht; generalize H1 = H at hPx hPm hPo hS ⊢
  refine lv_pop hx hb dL_law_1340 rfl ?_
  refine lv_aload_n hx hb dL_law_1341 rfl (lv_at hl 2 rfl) ?_
  refine lv_aload_n hx hb dL_law_1342 rfl (lv_at hl 4 rfl) ?_
  refine lv_iload hx hb dL_law_1343 (lv_at hl 0 rfl) ?_
  refine lv_iconst (v := 1) hx hb dL_law_1345 zk_iconst_1 ?_
  refine lv_iadd hx hb dL_law_1346 ?_
  refine ax_ti ix1 eix1.symm ?_
  refine va_sld (L := L) (i := ix1) hx hb hX hbl hbA hS (vp_in_iff.mpr ⟨by omega, by omega⟩) dL_law_1347 ?_
  refine ax_ti vix1 evix1.symm ?_
  refine lv_aload_n hx hb dL_law_1348 rfl (lv_at hl 4 rfl) ?_
  refine lv_iload hx hb dL_law_1349 (lv_at hl 0 rfl) ?_
  refine lv_iconst (v := 2) hx hb dL_law_1351 zk_iconst_2 ?_
  refine lv_iadd hx hb dL_law_1352 ?_
  refine ax_ti ix2 eix2.symm ?_
  refine va_sld (L := L) (i := ix2) hx hb hX hbl hbA hS (vp_in_iff.mpr ⟨by omega, by omega⟩) dL_law_1353 ?_
  refine ax_ti vix2 evix2.symm ?_
  have hFc := lg_free hDm hS hA
  obtain ⟨fs1354, hfs1354⟩ := im_recv hIM
  refine va_calli (va_runV (As := [.int vix1, .int vix2]) (rest := []) ⟨hx, hb, hml, hown, hts⟩ (k_X8_lawFor l dC dI H.size mo tp vm vn wm tm hIM vix1 vix2) (cwV 2 hts gd_X8_lawFor rfl rfl rfl (by decide +kernel) ⟨Nat.le_of_ble_eq_true rfl, Nat.le_of_ble_eq_true rfl⟩) ⟨ax_blind (fun _ _ _ _ _ => trivial), va_recv hKm hPm (ci := 8) (q0 := 0) rfl hfs1354, ax_preE hPm hKm hDm (fun _ _ _ => trivial)⟩ rfl rfl hl.1 rfl (lv_room (Nat.le_of_ble_eq_true rfl)) dL_law_1354 ⟨hcc, hss⟩) hS (fun q _ h => hFc q h) hFc (fun r1354 u t H1 locs ht hvm hw1354 hB hz1 hk1 hS => ?_)
  obtain ⟨wmn, tmn, ⟨vm1, vn1, km1, km2, q4m, hI1⟩, hP1, hK1, hD1⟩ := hB
  rw [ht] at hP1
  have hK1 := va_K.moved hvm.symm hK1
  obtain ⟨hPx, jmx⟩ := lg_step hPx (dj_symm jxm) hk1 hD1
  have jxm := dj_symm jmx
  obtain ⟨hPo, jmo⟩ := lg_step hPo jmo hk1 hD1
  have hD1 := hD1.weaken (fun _ _ _ h9 => hFc _ h9)
  clear hPm hDm hKm hFc hk1 hz1 hfs1354
  have hIM := hI1; have hPm := hP1; have hDm := hD1; have hKm := hK1; clear hI1 hP1 hD1 hK1
  clear ht; generalize H1 = H at hPx hPm hPo hS ⊢
  refine lv_pop hx hb dL_law_1357 rfl ?_
  refine lv_goto (tgt := 1941) hx hb dL_law_1358 (by decide) ?_
  have hWn : lr_5 vi1 vm1 := l5_no q4x q4m
  have hRn : lr_R tp vi1 vf1 vm1 vn1 := ⟨by rw [kx2 0 (by decide), km2 0 (by decide)]; exact hR.1, lr_keep (fun k9 h9 => kx1 k9 (kp_dis (by decide) h9)) (fun k9 h9 => kx2 k9 (kp_dis (by decide) h9)) (fun k9 h9 => km1 k9 (kp_dis (by decide) h9)) (fun k9 h9 => km2 k9 (kp_dis (by decide) h9)) hR.2⟩
  have hRn := And.intro hRn hWn
  exact kk _ _ _ _ _ (Nat.le_add_right _ _) (Nat.le_add_right _ _) ⟨tp, _, _, _, _, _, _, _, _, _, hIX, hIM, hRn, hKx, hKm, hPx, hPm, hPo, hDx, hDm, hDo, jxm, jxo, jmo⟩ hS (lv_sub hl [0, 1, 2, 3, 4] rfl)

set_option maxHeartbeats 4000000 in
set_option maxRecDepth 100000 in
theorem lc_41 {p : Program} {l : Launch} {e : Env} {s : State} {m : MethodId} {below : List Frame} {meth : Method} {c : Code} {b L : Nat} {xs : Nat → Int32} {A : Nat → Prop} {dC : Nat → ClassId} {dI : Nat → Nat → Nat} (hl0 : l.stackTraces = false) (hL : L ≤ 3072) (hA : ∀ q, s.heap.size ≤ q → A q) (hA2 : ∀ q, A q → s.heap.size ≤ q) (C0 : lw_At p s m meth c b L xs) (sd : Nat → Nat) (sa : Nat) (hE : lg_E A sd sa s) (x mo oa : Nat) (ko : ClassId) (hKo : va_K (dC, dI) vwCl [(ko, .long)] s) (i : Int32) (hi0 : (0 : Int) ≤ i.toInt) (hi6 : i.toInt + 6 ≤ (L : Int)) {H : Heap} {locs : List Loc} {cells slots : Nat} (hc9 : cells + 1 ≤ 601024) (hs9 : slots + 6 ≤ 7293034) (hG : lg_S dC dI A s x mo oa ko H) (hS : va_S A s.heap H locs) {ls : Array Slot} (hl : lv_has ls 7 [(4, .int i), (3, .ref oa), (2, .ref mo), (1, .ref x), (0, .ref b)])
    (kk : ∀ (H : Heap) (locs : List Loc) (ls : Array Slot) (k9 n9 : Nat), k9 ≤ cells + 1 → n9 ≤ slots + 6 → lg_S dC dI A s x mo oa ko H → va_S A s.heap H locs → lv_has ls 7 [(4, .int i), (3, .ref oa), (2, .ref mo), (1, .ref x), (0, .ref b)] → W p l e room_1 s m #[Value.ref b] below meth c H locs k9 n9 (lw_Z below #[Value.ref b] s) (F0 m 1941 ls [])) : W p l e room_1 s m #[Value.ref b] below meth c H locs cells slots (lw_Z below #[Value.ref b] s) (F0 m 1361 ls []) := by
  obtain ⟨hx, hb, hr, hml, hown0, htl, hX, hbl, hlocks, hgv⟩ := id C0
  have hown : s.vm.findClass RL = some m.cls := hown0
  have hts : ∀ w ∈ wlT, w.before #[Value.ref b] s = true := fun w h => htl w (wlT_in w h)
  have hbA : ¬ A b := fun h => absurd (hA2 b h) (Nat.not_le.mpr hbl)
  obtain ⟨tp, wx, wm, tx, tm, fo, vi, vf, vm, vn, hIX, hIM, ⟨hR, hW⟩, hKx, hKm, hPx, hPm, hPo, hDx, hDm, hDo, jxm, jxo, jmo⟩ := hG
  have hiM : i.toInt ≤ (3066 : Int) := by omega
  have hcc : cells ≤ 601024 := by omega
  have hss : slots ≤ 7293034 := by omega
  have htpb := ix_tp hIX
  refine lv_aload_n hx hb dL_law_1361 rfl (lv_at hl 3 rfl) ?_
  have hFc := lg_free hDx hS hA
  obtain ⟨fs1362, hfs1362⟩ := ix_recv hIX
  refine va_calli (va_runV (As := []) (rest := []) ⟨hx, hb, hml, hown, hts⟩ (k_X7_judge l dC dI H.size x tp vi vf wx tx hIX ) (cwV 0 hts gd_X7_judge rfl rfl rfl (by decide +kernel) ⟨Nat.le_of_ble_eq_true rfl, Nat.le_of_ble_eq_true rfl⟩) ⟨ax_blind (fun _ _ _ _ hq => va_Nw.same rfl rfl (hq)), va_recv hKx hPx (ci := 7) (q0 := 0) rfl hfs1362, ax_preE hPx hKx hDx (fun U hU hW => va_Nw.warmM hW (hE.2.2.2.2.2.2.1))⟩ rfl rfl hl.1 rfl (lv_room (Nat.le_of_ble_eq_true rfl)) dL_law_1362 ⟨hcc, hss⟩) hS (fun q _ h => hFc q h) hFc (fun r1362 u t H1 locs ht hvm hw1362 hB hz1 hk1 hS => ?_)
  obtain ⟨wxn, txn, ⟨vi1, vf1, kx1, kx2, q4x, hI1⟩, hP1, hK1, hD1⟩ := hB
  rw [ht] at hP1
  have hK1 := va_K.moved hvm.symm hK1
  obtain ⟨hPm, jxm⟩ := lg_step hPm jxm hk1 hD1
  obtain ⟨hPo, jxo⟩ := lg_step hPo jxo hk1 hD1
  have hD1 := hD1.weaken (fun _ _ _ h9 => hFc _ h9)
  clear hPx hDx hKx hFc hk1 hz1 hfs1362
  have hIX := hI1; have hPx := hP1; have hDx := hD1; have hKx := hK1; clear hI1 hP1 hD1 hK1
  clear ht; generalize H1 = H at hPx hPm hPo hS ⊢
  refine lv_pop hx hb dL_law_1365 rfl ?_
  refine lv_aload_n hx hb dL_law_1366 rfl (lv_at hl 2 rfl) ?_
  have hFc := lg_free hDm hS hA
  obtain ⟨fs1367, hfs1367⟩ := im_recv hIM
  refine va_calli (va_runV (As := []) (rest := []) ⟨hx, hb, hml, hown, hts⟩ (k_X8_judge l dC dI H.size mo tp vm vn wm tm hIM ) (cwV 0 hts gd_X8_judge rfl rfl rfl (by decide +kernel) ⟨Nat.le_of_ble_eq_true rfl, Nat.le_of_ble_eq_true rfl⟩) ⟨ax_blind (fun _ _ _ _ _ => trivial), va_recv hKm hPm (ci := 8) (q0 := 0) rfl hfs1367, ax_preE hPm hKm hDm (fun _ _ _ => trivial)⟩ rfl rfl hl.1 rfl (lv_room (Nat.le_of_ble_eq_true rfl)) dL_law_1367 ⟨hcc, hss⟩) hS (fun q _ h => hFc q h) hFc (fun r1367 u t H1 locs ht hvm hw1367 hB hz1 hk1 hS => ?_)
  obtain ⟨wmn, tmn, ⟨vm1, vn1, km1, km2, q4m, hI1⟩, hP1, hK1, hD1⟩ := hB
  rw [ht] at hP1
  have hK1 := va_K.moved hvm.symm hK1
  obtain ⟨hPx, jmx⟩ := lg_step hPx (dj_symm jxm) hk1 hD1
  have jxm := dj_symm jmx
  obtain ⟨hPo, jmo⟩ := lg_step hPo jmo hk1 hD1
  have hD1 := hD1.weaken (fun _ _ _ h9 => hFc _ h9)
  clear hPm hDm hKm hFc hk1 hz1 hfs1367
  have hIM := hI1; have hPm := hP1; have hDm := hD1; have hKm := hK1; clear hI1 hP1 hD1 hK1
  clear ht; generalize H1 = H at hPx hPm hPo hS ⊢
  refine lv_pop hx hb dL_law_1370 rfl ?_
  refine lv_goto (tgt := 1941) hx hb dL_law_1371 (by decide) ?_
  have hWn : lr_5 vi1 vm1 := l5_no q4x q4m
  have hRn : lr_R tp vi1 vf1 vm1 vn1 := ⟨by rw [kx2 0 (by decide), km2 0 (by decide)]; exact hR.1, lr_keep (fun k9 h9 => kx1 k9 (kp_dis (by decide) h9)) (fun k9 h9 => kx2 k9 (kp_dis (by decide) h9)) (fun k9 h9 => km1 k9 (kp_dis (by decide) h9)) (fun k9 h9 => km2 k9 (kp_dis (by decide) h9)) hR.2⟩
  have hRn := And.intro hRn hWn
  exact kk _ _ _ _ _ (Nat.le_add_right _ _) (Nat.le_add_right _ _) ⟨tp, _, _, _, _, _, _, _, _, _, hIX, hIM, hRn, hKx, hKm, hPx, hPm, hPo, hDx, hDm, hDo, jxm, jxo, jmo⟩ hS (lv_sub hl [0, 1, 2, 3, 4] rfl)

set_option maxHeartbeats 4000000 in
set_option maxRecDepth 100000 in
theorem lc_42 {p : Program} {l : Launch} {e : Env} {s : State} {m : MethodId} {below : List Frame} {meth : Method} {c : Code} {b L : Nat} {xs : Nat → Int32} {A : Nat → Prop} {dC : Nat → ClassId} {dI : Nat → Nat → Nat} (hl0 : l.stackTraces = false) (hL : L ≤ 3072) (hA : ∀ q, s.heap.size ≤ q → A q) (hA2 : ∀ q, A q → s.heap.size ≤ q) (C0 : lw_At p s m meth c b L xs) (sd : Nat → Nat) (sa : Nat) (hE : lg_E A sd sa s) (x mo oa : Nat) (ko : ClassId) (hKo : va_K (dC, dI) vwCl [(ko, .long)] s) (i : Int32) (hi0 : (0 : Int) ≤ i.toInt) (hi6 : i.toInt + 6 ≤ (L : Int)) {H : Heap} {locs : List Loc} {cells slots : Nat} (hc9 : cells + 1 ≤ 601024) (hs9 : slots + 6 ≤ 7293034) (hG : lg_S dC dI A s x mo oa ko H) (hS : va_S A s.heap H locs) {ls : Array Slot} (hl : lv_has ls 7 [(4, .int i), (3, .ref oa), (2, .ref mo), (1, .ref x), (0, .ref b)])
    (kk : ∀ (H : Heap) (locs : List Loc) (ls : Array Slot) (k9 n9 : Nat), k9 ≤ cells + 1 → n9 ≤ slots + 6 → lg_S dC dI A s x mo oa ko H → va_S A s.heap H locs → lv_has ls 7 [(4, .int i), (3, .ref oa), (2, .ref mo), (1, .ref x), (0, .ref b)] → W p l e room_1 s m #[Value.ref b] below meth c H locs k9 n9 (lw_Z below #[Value.ref b] s) (F0 m 1941 ls [])) : W p l e room_1 s m #[Value.ref b] below meth c H locs cells slots (lw_Z below #[Value.ref b] s) (F0 m 1374 ls []) := by
  obtain ⟨hx, hb, hr, hml, hown0, htl, hX, hbl, hlocks, hgv⟩ := id C0
  have hown : s.vm.findClass RL = some m.cls := hown0
  have hts : ∀ w ∈ wlT, w.before #[Value.ref b] s = true := fun w h => htl w (wlT_in w h)
  have hbA : ¬ A b := fun h => absurd (hA2 b h) (Nat.not_le.mpr hbl)
  obtain ⟨tp, wx, wm, tx, tm, fo, vi, vf, vm, vn, hIX, hIM, ⟨hR, hW⟩, hKx, hKm, hPx, hPm, hPo, hDx, hDm, hDo, jxm, jxo, jmo⟩ := hG
  have hiM : i.toInt ≤ (3066 : Int) := by omega
  have hcc : cells ≤ 601024 := by omega
  have hss : slots ≤ 7293034 := by omega
  have htpb := ix_tp hIX
  refine lv_aload_n hx hb dL_law_1374 rfl (lv_at hl 3 rfl) ?_
  refine lv_aload_n hx hb dL_law_1375 rfl (lv_at hl 4 rfl) ?_
  refine lv_iload hx hb dL_law_1376 (lv_at hl 0 rfl) ?_
  refine lv_iconst (v := 1) hx hb dL_law_1378 zk_iconst_1 ?_
  refine lv_iadd hx hb dL_law_1379 ?_
  refine lv_topi (fun ix1 eix1 => ?_)
  have qix1 : ix1.toInt = i.toInt + 1 := ai_add eix1 ⟨hi0, hiM⟩ ⟨zq1, zq0⟩ (by decide) (by decide)
  refine va_sld (L := L) (i := ix1) hx hb hX hbl hbA hS (vp_in_iff.mpr ⟨by omega, by omega⟩) dL_law_1380 ?_
  refine lv_topi (fun vix1 evix1 => ?_)
  refine lv_aload_n hx hb dL_law_1381 rfl (lv_at hl 4 rfl) ?_
  refine lv_iload hx hb dL_law_1382 (lv_at hl 0 rfl) ?_
  refine lv_iconst (v := 2) hx hb dL_law_1384 zk_iconst_2 ?_
  refine lv_iadd hx hb dL_law_1385 ?_
  refine lv_topi (fun ix2 eix2 => ?_)
  have qix2 : ix2.toInt = i.toInt + 2 := ai_add eix2 ⟨hi0, hiM⟩ ⟨zq12, zq13⟩ (by decide) (by decide)
  refine va_sld (L := L) (i := ix2) hx hb hX hbl hbA hS (vp_in_iff.mpr ⟨by omega, by omega⟩) dL_law_1386 ?_
  refine lv_topi (fun vix2 evix2 => ?_)
  refine lv_if_eq (tgt := 1394) hx hb dL_law_1387 (by decide) (fun c_1 => ?_) (fun c_1 => ?_)
  · refine lv_iconst (v := 0) hx hb dL_law_1394 zk_iconst_0 ?_
    refine lv_aload_n hx hb dL_law_1395 rfl (lv_at hl 4 rfl) ?_
    refine lv_iload hx hb dL_law_1396 (lv_at hl 0 rfl) ?_
    refine lv_iconst (v := 3) hx hb dL_law_1398 zk_iconst_3 ?_
    refine lv_iadd hx hb dL_law_1399 ?_
    refine lv_topi (fun ix3 eix3 => ?_)
    have qix3 : ix3.toInt = i.toInt + 3 := ai_add eix3 ⟨hi0, hiM⟩ ⟨zq8, zq9⟩ (by decide) (by decide)
    refine va_sld (L := L) (i := ix3) hx hb hX hbl hbA hS (vp_in_iff.mpr ⟨by omega, by omega⟩) dL_law_1400 ?_
    refine lv_topi (fun vix3 evix3 => ?_)
    refine lv_if_eq (tgt := 1408) hx hb dL_law_1401 (by decide) (fun c_2 => ?_) (fun c_2 => ?_)
    · refine lv_iconst (v := 0) hx hb dL_law_1408 zk_iconst_0 ?_
      refine lv_aload_n hx hb dL_law_1409 rfl (lv_at hl 4 rfl) ?_
      refine lv_iload hx hb dL_law_1410 (lv_at hl 0 rfl) ?_
      refine lv_iconst (v := 4) hx hb dL_law_1412 zk_iconst_4 ?_
      refine lv_iadd hx hb dL_law_1413 ?_
      refine lv_topi (fun ix4 eix4 => ?_)
      have qix4 : ix4.toInt = i.toInt + 4 := ai_add eix4 ⟨hi0, hiM⟩ ⟨zq68, zq67⟩ (by decide) (by decide)
      refine va_sld (L := L) (i := ix4) hx hb hX hbl hbA hS (vp_in_iff.mpr ⟨by omega, by omega⟩) dL_law_1414 ?_
      refine lv_topi (fun vix4 evix4 => ?_)
      refine lv_if_eq (tgt := 1422) hx hb dL_law_1415 (by decide) (fun c_3 => ?_) (fun c_3 => ?_)
      · refine lv_iconst (v := 0) hx hb dL_law_1422 zk_iconst_0 ?_
        have hFc := lg_free hDx hS hA
        obtain ⟨fs1423, hfs1423⟩ := ix_recv hIX
        refine va_calli (va_runV (As := [.int vix1, .int 0, .int 0, .int 0]) (rest := []) ⟨hx, hb, hml, hown, hts⟩ (k_X7_dares l dC dI H.size x tp vi vf wx tx hIX vix1 0 0 0) (cwV 4 hts gd_X7_dares rfl rfl rfl (by decide +kernel) ⟨Nat.le_of_ble_eq_true rfl, Nat.le_of_ble_eq_true rfl⟩) ⟨ax_blind (fun _ _ _ _ _ => trivial), va_recv hKx hPx (ci := 7) (q0 := 0) rfl hfs1423, ax_preE hPx hKx hDx (fun _ _ _ => trivial)⟩ rfl rfl hl.1 rfl (lv_room (Nat.le_of_ble_eq_true rfl)) dL_law_1423 ⟨hcc, hss⟩) hS (fun q _ h => hFc q h) hFc (fun r1423 u t H1 locs ht hvm hw1423 hB hz1 hk1 hS => ?_)
        obtain ⟨wxn, txn, ⟨vi1, vf1, kx1, kx2, q4x, hI1⟩, hP1, hK1, hD1⟩ := hB
        rw [ht] at hP1
        have hK1 := va_K.moved hvm.symm hK1
        obtain ⟨hPm, jxm⟩ := lg_step hPm jxm hk1 hD1
        obtain ⟨hPo, jxo⟩ := lg_step hPo jxo hk1 hD1
        have hD1 := hD1.weaken (fun _ _ _ h9 => hFc _ h9)
        clear hPx hDx hKx hFc hk1 hz1 hfs1423
        have hIX := hI1; have hPx := hP1; have hDx := hD1; have hKx := hK1; clear hI1 hP1 hD1 hK1
        clear ht; generalize H1 = H at hPx hPm hPo hS ⊢
        refine lv_pop hx hb dL_law_1426 rfl ?_
        refine lv_aload_n hx hb dL_law_1427 rfl (lv_at hl 2 rfl) ?_
        refine lv_aload_n hx hb dL_law_1428 rfl (lv_at hl 4 rfl) ?_
        refine lv_iload hx hb dL_law_1429 (lv_at hl 0 rfl) ?_
        refine lv_iconst (v := 1) hx hb dL_law_1431 zk_iconst_1 ?_
        refine lv_iadd hx hb dL_law_1432 ?_
        refine ax_ti ix1 eix1.symm ?_
        refine va_sld (L := L) (i := ix1) hx hb hX hbl hbA hS (vp_in_iff.mpr ⟨by omega, by omega⟩) dL_law_1433 ?_
        refine ax_ti vix1 evix1.symm ?_
        refine lv_aload_n hx hb dL_law_1434 rfl (lv_at hl 4 rfl) ?_
        refine lv_iload hx hb dL_law_1435 (lv_at hl 0 rfl) ?_
        refine lv_iconst (v := 2) hx hb dL_law_1437 zk_iconst_2 ?_
        refine lv_iadd hx hb dL_law_1438 ?_
        refine ax_ti ix2 eix2.symm ?_
        refine va_sld (L := L) (i := ix2) hx hb hX hbl hbA hS (vp_in_iff.mpr ⟨by omega, by omega⟩) dL_law_1439 ?_
        refine ax_ti vix2 evix2.symm ?_
        refine lv_if_eq (tgt := 1447) hx hb dL_law_1440 (by decide) (fun _ => ?_) (fun c_4 => absurd c_1 c_4)
        refine lv_iconst (v := 0) hx hb dL_law_1447 zk_iconst_0 ?_
        refine lv_aload_n hx hb dL_law_1448 rfl (lv_at hl 4 rfl) ?_
        refine lv_iload hx hb dL_law_1449 (lv_at hl 0 rfl) ?_
        refine lv_iconst (v := 3) hx hb dL_law_1451 zk_iconst_3 ?_
        refine lv_iadd hx hb dL_law_1452 ?_
        refine ax_ti ix3 eix3.symm ?_
        refine va_sld (L := L) (i := ix3) hx hb hX hbl hbA hS (vp_in_iff.mpr ⟨by omega, by omega⟩) dL_law_1453 ?_
        refine ax_ti vix3 evix3.symm ?_
        refine lv_if_eq (tgt := 1461) hx hb dL_law_1454 (by decide) (fun _ => ?_) (fun c_5 => absurd c_2 c_5)
        refine lv_iconst (v := 0) hx hb dL_law_1461 zk_iconst_0 ?_
        refine lv_aload_n hx hb dL_law_1462 rfl (lv_at hl 4 rfl) ?_
        refine lv_iload hx hb dL_law_1463 (lv_at hl 0 rfl) ?_
        refine lv_iconst (v := 4) hx hb dL_law_1465 zk_iconst_4 ?_
        refine lv_iadd hx hb dL_law_1466 ?_
        refine ax_ti ix4 eix4.symm ?_
        refine va_sld (L := L) (i := ix4) hx hb hX hbl hbA hS (vp_in_iff.mpr ⟨by omega, by omega⟩) dL_law_1467 ?_
        refine ax_ti vix4 evix4.symm ?_
        refine lv_if_eq (tgt := 1475) hx hb dL_law_1468 (by decide) (fun _ => ?_) (fun c_6 => absurd c_3 c_6)
        refine lv_iconst (v := 0) hx hb dL_law_1475 zk_iconst_0 ?_
        have hFc := lg_free hDm hS hA
        obtain ⟨fs1476, hfs1476⟩ := im_recv hIM
        refine va_calli (va_runV (As := [.int vix1, .int 0, .int 0, .int 0]) (rest := []) ⟨hx, hb, hml, hown, hts⟩ (k_X8_dares l dC dI H.size mo tp vm vn wm tm hIM vix1 0 0 0) (cwV 4 hts gd_X8_dares rfl rfl rfl (by decide +kernel) ⟨Nat.le_of_ble_eq_true rfl, Nat.le_of_ble_eq_true rfl⟩) ⟨ax_blind (fun _ _ _ _ _ => trivial), va_recv hKm hPm (ci := 8) (q0 := 0) rfl hfs1476, ax_preE hPm hKm hDm (fun _ _ _ => trivial)⟩ rfl rfl hl.1 rfl (lv_room (Nat.le_of_ble_eq_true rfl)) dL_law_1476 ⟨hcc, hss⟩) hS (fun q _ h => hFc q h) hFc (fun r1476 u t H1 locs ht hvm hw1476 hB hz1 hk1 hS => ?_)
        obtain ⟨wmn, tmn, ⟨vm1, vn1, km1, km2, q4m, hI1⟩, hP1, hK1, hD1⟩ := hB
        rw [ht] at hP1
        have hK1 := va_K.moved hvm.symm hK1
        obtain ⟨hPx, jmx⟩ := lg_step hPx (dj_symm jxm) hk1 hD1
        have jxm := dj_symm jmx
        obtain ⟨hPo, jmo⟩ := lg_step hPo jmo hk1 hD1
        have hD1 := hD1.weaken (fun _ _ _ h9 => hFc _ h9)
        clear hPm hDm hKm hFc hk1 hz1 hfs1476
        have hIM := hI1; have hPm := hP1; have hDm := hD1; have hKm := hK1; clear hI1 hP1 hD1 hK1
        clear ht; generalize H1 = H at hPx hPm hPo hS ⊢
        refine lv_pop hx hb dL_law_1479 rfl ?_
        refine lv_goto (tgt := 1941) hx hb dL_law_1480 (by decide) ?_
        have hWn : lr_5 vi1 vm1 := l5_no q4x q4m
        have hRn : lr_R tp vi1 vf1 vm1 vn1 := ⟨by rw [kx2 0 (by decide), km2 0 (by decide)]; exact hR.1, lr_keep (fun k9 h9 => kx1 k9 (kp_dis (by decide) h9)) (fun k9 h9 => kx2 k9 (kp_dis (by decide) h9)) (fun k9 h9 => km1 k9 (kp_dis (by decide) h9)) (fun k9 h9 => km2 k9 (kp_dis (by decide) h9)) hR.2⟩
        have hRn := And.intro hRn hWn
        exact kk _ _ _ _ _ (Nat.le_add_right _ _) (Nat.le_add_right _ _) ⟨tp, _, _, _, _, _, _, _, _, _, hIX, hIM, hRn, hKx, hKm, hPx, hPm, hPo, hDx, hDm, hDo, jxm, jxo, jmo⟩ hS (lv_sub hl [0, 1, 2, 3, 4] rfl)
      · refine lv_iconst (v := 1) hx hb dL_law_1418 zk_iconst_1 ?_
        refine lv_goto (tgt := 1423) hx hb dL_law_1419 (by decide) ?_
        have hFc := lg_free hDx hS hA
        obtain ⟨fs1423, hfs1423⟩ := ix_recv hIX
        refine va_calli (va_runV (As := [.int vix1, .int 0, .int 0, .int 1]) (rest := []) ⟨hx, hb, hml, hown, hts⟩ (k_X7_dares l dC dI H.size x tp vi vf wx tx hIX vix1 0 0 1) (cwV 4 hts gd_X7_dares rfl rfl rfl (by decide +kernel) ⟨Nat.le_of_ble_eq_true rfl, Nat.le_of_ble_eq_true rfl⟩) ⟨ax_blind (fun _ _ _ _ _ => trivial), va_recv hKx hPx (ci := 7) (q0 := 0) rfl hfs1423, ax_preE hPx hKx hDx (fun _ _ _ => trivial)⟩ rfl rfl hl.1 rfl (lv_room (Nat.le_of_ble_eq_true rfl)) dL_law_1423 ⟨hcc, hss⟩) hS (fun q _ h => hFc q h) hFc (fun r1423 u t H1 locs ht hvm hw1423 hB hz1 hk1 hS => ?_)
        obtain ⟨wxn, txn, ⟨vi1, vf1, kx1, kx2, q4x, hI1⟩, hP1, hK1, hD1⟩ := hB
        rw [ht] at hP1
        have hK1 := va_K.moved hvm.symm hK1
        obtain ⟨hPm, jxm⟩ := lg_step hPm jxm hk1 hD1
        obtain ⟨hPo, jxo⟩ := lg_step hPo jxo hk1 hD1
        have hD1 := hD1.weaken (fun _ _ _ h9 => hFc _ h9)
        clear hPx hDx hKx hFc hk1 hz1 hfs1423
        have hIX := hI1; have hPx := hP1; have hDx := hD1; have hKx := hK1; clear hI1 hP1 hD1 hK1
        clear ht; generalize H1 = H at hPx hPm hPo hS ⊢
        refine lv_pop hx hb dL_law_1426 rfl ?_
        refine lv_aload_n hx hb dL_law_1427 rfl (lv_at hl 2 rfl) ?_
        refine lv_aload_n hx hb dL_law_1428 rfl (lv_at hl 4 rfl) ?_
        refine lv_iload hx hb dL_law_1429 (lv_at hl 0 rfl) ?_
        refine lv_iconst (v := 1) hx hb dL_law_1431 zk_iconst_1 ?_
        refine lv_iadd hx hb dL_law_1432 ?_
        refine ax_ti ix1 eix1.symm ?_
        refine va_sld (L := L) (i := ix1) hx hb hX hbl hbA hS (vp_in_iff.mpr ⟨by omega, by omega⟩) dL_law_1433 ?_
        refine ax_ti vix1 evix1.symm ?_
        refine lv_aload_n hx hb dL_law_1434 rfl (lv_at hl 4 rfl) ?_
        refine lv_iload hx hb dL_law_1435 (lv_at hl 0 rfl) ?_
        refine lv_iconst (v := 2) hx hb dL_law_1437 zk_iconst_2 ?_
        refine lv_iadd hx hb dL_law_1438 ?_
        refine ax_ti ix2 eix2.symm ?_
        refine va_sld (L := L) (i := ix2) hx hb hX hbl hbA hS (vp_in_iff.mpr ⟨by omega, by omega⟩) dL_law_1439 ?_
        refine ax_ti vix2 evix2.symm ?_
        refine lv_if_eq (tgt := 1447) hx hb dL_law_1440 (by decide) (fun _ => ?_) (fun c_7 => absurd c_1 c_7)
        refine lv_iconst (v := 0) hx hb dL_law_1447 zk_iconst_0 ?_
        refine lv_aload_n hx hb dL_law_1448 rfl (lv_at hl 4 rfl) ?_
        refine lv_iload hx hb dL_law_1449 (lv_at hl 0 rfl) ?_
        refine lv_iconst (v := 3) hx hb dL_law_1451 zk_iconst_3 ?_
        refine lv_iadd hx hb dL_law_1452 ?_
        refine ax_ti ix3 eix3.symm ?_
        refine va_sld (L := L) (i := ix3) hx hb hX hbl hbA hS (vp_in_iff.mpr ⟨by omega, by omega⟩) dL_law_1453 ?_
        refine ax_ti vix3 evix3.symm ?_
        refine lv_if_eq (tgt := 1461) hx hb dL_law_1454 (by decide) (fun _ => ?_) (fun c_8 => absurd c_2 c_8)
        refine lv_iconst (v := 0) hx hb dL_law_1461 zk_iconst_0 ?_
        refine lv_aload_n hx hb dL_law_1462 rfl (lv_at hl 4 rfl) ?_
        refine lv_iload hx hb dL_law_1463 (lv_at hl 0 rfl) ?_
        refine lv_iconst (v := 4) hx hb dL_law_1465 zk_iconst_4 ?_
        refine lv_iadd hx hb dL_law_1466 ?_
        refine ax_ti ix4 eix4.symm ?_
        refine va_sld (L := L) (i := ix4) hx hb hX hbl hbA hS (vp_in_iff.mpr ⟨by omega, by omega⟩) dL_law_1467 ?_
        refine ax_ti vix4 evix4.symm ?_
        refine lv_if_eq (tgt := 1475) hx hb dL_law_1468 (by decide) (fun c_9 => absurd c_9 c_3) (fun _ => ?_)
        refine lv_iconst (v := 1) hx hb dL_law_1471 zk_iconst_1 ?_
        refine lv_goto (tgt := 1476) hx hb dL_law_1472 (by decide) ?_
        have hFc := lg_free hDm hS hA
        obtain ⟨fs1476, hfs1476⟩ := im_recv hIM
        refine va_calli (va_runV (As := [.int vix1, .int 0, .int 0, .int 1]) (rest := []) ⟨hx, hb, hml, hown, hts⟩ (k_X8_dares l dC dI H.size mo tp vm vn wm tm hIM vix1 0 0 1) (cwV 4 hts gd_X8_dares rfl rfl rfl (by decide +kernel) ⟨Nat.le_of_ble_eq_true rfl, Nat.le_of_ble_eq_true rfl⟩) ⟨ax_blind (fun _ _ _ _ _ => trivial), va_recv hKm hPm (ci := 8) (q0 := 0) rfl hfs1476, ax_preE hPm hKm hDm (fun _ _ _ => trivial)⟩ rfl rfl hl.1 rfl (lv_room (Nat.le_of_ble_eq_true rfl)) dL_law_1476 ⟨hcc, hss⟩) hS (fun q _ h => hFc q h) hFc (fun r1476 u t H1 locs ht hvm hw1476 hB hz1 hk1 hS => ?_)
        obtain ⟨wmn, tmn, ⟨vm1, vn1, km1, km2, q4m, hI1⟩, hP1, hK1, hD1⟩ := hB
        rw [ht] at hP1
        have hK1 := va_K.moved hvm.symm hK1
        obtain ⟨hPx, jmx⟩ := lg_step hPx (dj_symm jxm) hk1 hD1
        have jxm := dj_symm jmx
        obtain ⟨hPo, jmo⟩ := lg_step hPo jmo hk1 hD1
        have hD1 := hD1.weaken (fun _ _ _ h9 => hFc _ h9)
        clear hPm hDm hKm hFc hk1 hz1 hfs1476
        have hIM := hI1; have hPm := hP1; have hDm := hD1; have hKm := hK1; clear hI1 hP1 hD1 hK1
        clear ht; generalize H1 = H at hPx hPm hPo hS ⊢
        refine lv_pop hx hb dL_law_1479 rfl ?_
        refine lv_goto (tgt := 1941) hx hb dL_law_1480 (by decide) ?_
        have hWn : lr_5 vi1 vm1 := l5_no q4x q4m
        have hRn : lr_R tp vi1 vf1 vm1 vn1 := ⟨by rw [kx2 0 (by decide), km2 0 (by decide)]; exact hR.1, lr_keep (fun k9 h9 => kx1 k9 (kp_dis (by decide) h9)) (fun k9 h9 => kx2 k9 (kp_dis (by decide) h9)) (fun k9 h9 => km1 k9 (kp_dis (by decide) h9)) (fun k9 h9 => km2 k9 (kp_dis (by decide) h9)) hR.2⟩
        have hRn := And.intro hRn hWn
        exact kk _ _ _ _ _ (Nat.le_add_right _ _) (Nat.le_add_right _ _) ⟨tp, _, _, _, _, _, _, _, _, _, hIX, hIM, hRn, hKx, hKm, hPx, hPm, hPo, hDx, hDm, hDo, jxm, jxo, jmo⟩ hS (lv_sub hl [0, 1, 2, 3, 4] rfl)
    · refine lv_iconst (v := 1) hx hb dL_law_1404 zk_iconst_1 ?_
      refine lv_goto (tgt := 1409) hx hb dL_law_1405 (by decide) ?_
      refine lv_aload_n hx hb dL_law_1409 rfl (lv_at hl 4 rfl) ?_
      refine lv_iload hx hb dL_law_1410 (lv_at hl 0 rfl) ?_
      refine lv_iconst (v := 4) hx hb dL_law_1412 zk_iconst_4 ?_
      refine lv_iadd hx hb dL_law_1413 ?_
      refine lv_topi (fun ix4 eix4 => ?_)
      have qix4 : ix4.toInt = i.toInt + 4 := ai_add eix4 ⟨hi0, hiM⟩ ⟨zq68, zq67⟩ (by decide) (by decide)
      refine va_sld (L := L) (i := ix4) hx hb hX hbl hbA hS (vp_in_iff.mpr ⟨by omega, by omega⟩) dL_law_1414 ?_
      refine lv_topi (fun vix4 evix4 => ?_)
      refine lv_if_eq (tgt := 1422) hx hb dL_law_1415 (by decide) (fun c_10 => ?_) (fun c_10 => ?_)
      · refine lv_iconst (v := 0) hx hb dL_law_1422 zk_iconst_0 ?_
        have hFc := lg_free hDx hS hA
        obtain ⟨fs1423, hfs1423⟩ := ix_recv hIX
        refine va_calli (va_runV (As := [.int vix1, .int 0, .int 1, .int 0]) (rest := []) ⟨hx, hb, hml, hown, hts⟩ (k_X7_dares l dC dI H.size x tp vi vf wx tx hIX vix1 0 1 0) (cwV 4 hts gd_X7_dares rfl rfl rfl (by decide +kernel) ⟨Nat.le_of_ble_eq_true rfl, Nat.le_of_ble_eq_true rfl⟩) ⟨ax_blind (fun _ _ _ _ _ => trivial), va_recv hKx hPx (ci := 7) (q0 := 0) rfl hfs1423, ax_preE hPx hKx hDx (fun _ _ _ => trivial)⟩ rfl rfl hl.1 rfl (lv_room (Nat.le_of_ble_eq_true rfl)) dL_law_1423 ⟨hcc, hss⟩) hS (fun q _ h => hFc q h) hFc (fun r1423 u t H1 locs ht hvm hw1423 hB hz1 hk1 hS => ?_)
        obtain ⟨wxn, txn, ⟨vi1, vf1, kx1, kx2, q4x, hI1⟩, hP1, hK1, hD1⟩ := hB
        rw [ht] at hP1
        have hK1 := va_K.moved hvm.symm hK1
        obtain ⟨hPm, jxm⟩ := lg_step hPm jxm hk1 hD1
        obtain ⟨hPo, jxo⟩ := lg_step hPo jxo hk1 hD1
        have hD1 := hD1.weaken (fun _ _ _ h9 => hFc _ h9)
        clear hPx hDx hKx hFc hk1 hz1 hfs1423
        have hIX := hI1; have hPx := hP1; have hDx := hD1; have hKx := hK1; clear hI1 hP1 hD1 hK1
        clear ht; generalize H1 = H at hPx hPm hPo hS ⊢
        refine lv_pop hx hb dL_law_1426 rfl ?_
        refine lv_aload_n hx hb dL_law_1427 rfl (lv_at hl 2 rfl) ?_
        refine lv_aload_n hx hb dL_law_1428 rfl (lv_at hl 4 rfl) ?_
        refine lv_iload hx hb dL_law_1429 (lv_at hl 0 rfl) ?_
        refine lv_iconst (v := 1) hx hb dL_law_1431 zk_iconst_1 ?_
        refine lv_iadd hx hb dL_law_1432 ?_
        refine ax_ti ix1 eix1.symm ?_
        refine va_sld (L := L) (i := ix1) hx hb hX hbl hbA hS (vp_in_iff.mpr ⟨by omega, by omega⟩) dL_law_1433 ?_
        refine ax_ti vix1 evix1.symm ?_
        refine lv_aload_n hx hb dL_law_1434 rfl (lv_at hl 4 rfl) ?_
        refine lv_iload hx hb dL_law_1435 (lv_at hl 0 rfl) ?_
        refine lv_iconst (v := 2) hx hb dL_law_1437 zk_iconst_2 ?_
        refine lv_iadd hx hb dL_law_1438 ?_
        refine ax_ti ix2 eix2.symm ?_
        refine va_sld (L := L) (i := ix2) hx hb hX hbl hbA hS (vp_in_iff.mpr ⟨by omega, by omega⟩) dL_law_1439 ?_
        refine ax_ti vix2 evix2.symm ?_
        refine lv_if_eq (tgt := 1447) hx hb dL_law_1440 (by decide) (fun _ => ?_) (fun c_11 => absurd c_1 c_11)
        refine lv_iconst (v := 0) hx hb dL_law_1447 zk_iconst_0 ?_
        refine lv_aload_n hx hb dL_law_1448 rfl (lv_at hl 4 rfl) ?_
        refine lv_iload hx hb dL_law_1449 (lv_at hl 0 rfl) ?_
        refine lv_iconst (v := 3) hx hb dL_law_1451 zk_iconst_3 ?_
        refine lv_iadd hx hb dL_law_1452 ?_
        refine ax_ti ix3 eix3.symm ?_
        refine va_sld (L := L) (i := ix3) hx hb hX hbl hbA hS (vp_in_iff.mpr ⟨by omega, by omega⟩) dL_law_1453 ?_
        refine ax_ti vix3 evix3.symm ?_
        refine lv_if_eq (tgt := 1461) hx hb dL_law_1454 (by decide) (fun c_12 => absurd c_12 c_2) (fun _ => ?_)
        refine lv_iconst (v := 1) hx hb dL_law_1457 zk_iconst_1 ?_
        refine lv_goto (tgt := 1462) hx hb dL_law_1458 (by decide) ?_
        refine lv_aload_n hx hb dL_law_1462 rfl (lv_at hl 4 rfl) ?_
        refine lv_iload hx hb dL_law_1463 (lv_at hl 0 rfl) ?_
        refine lv_iconst (v := 4) hx hb dL_law_1465 zk_iconst_4 ?_
        refine lv_iadd hx hb dL_law_1466 ?_
        refine ax_ti ix4 eix4.symm ?_
        refine va_sld (L := L) (i := ix4) hx hb hX hbl hbA hS (vp_in_iff.mpr ⟨by omega, by omega⟩) dL_law_1467 ?_
        refine ax_ti vix4 evix4.symm ?_
        refine lv_if_eq (tgt := 1475) hx hb dL_law_1468 (by decide) (fun _ => ?_) (fun c_13 => absurd c_10 c_13)
        refine lv_iconst (v := 0) hx hb dL_law_1475 zk_iconst_0 ?_
        have hFc := lg_free hDm hS hA
        obtain ⟨fs1476, hfs1476⟩ := im_recv hIM
        refine va_calli (va_runV (As := [.int vix1, .int 0, .int 1, .int 0]) (rest := []) ⟨hx, hb, hml, hown, hts⟩ (k_X8_dares l dC dI H.size mo tp vm vn wm tm hIM vix1 0 1 0) (cwV 4 hts gd_X8_dares rfl rfl rfl (by decide +kernel) ⟨Nat.le_of_ble_eq_true rfl, Nat.le_of_ble_eq_true rfl⟩) ⟨ax_blind (fun _ _ _ _ _ => trivial), va_recv hKm hPm (ci := 8) (q0 := 0) rfl hfs1476, ax_preE hPm hKm hDm (fun _ _ _ => trivial)⟩ rfl rfl hl.1 rfl (lv_room (Nat.le_of_ble_eq_true rfl)) dL_law_1476 ⟨hcc, hss⟩) hS (fun q _ h => hFc q h) hFc (fun r1476 u t H1 locs ht hvm hw1476 hB hz1 hk1 hS => ?_)
        obtain ⟨wmn, tmn, ⟨vm1, vn1, km1, km2, q4m, hI1⟩, hP1, hK1, hD1⟩ := hB
        rw [ht] at hP1
        have hK1 := va_K.moved hvm.symm hK1
        obtain ⟨hPx, jmx⟩ := lg_step hPx (dj_symm jxm) hk1 hD1
        have jxm := dj_symm jmx
        obtain ⟨hPo, jmo⟩ := lg_step hPo jmo hk1 hD1
        have hD1 := hD1.weaken (fun _ _ _ h9 => hFc _ h9)
        clear hPm hDm hKm hFc hk1 hz1 hfs1476
        have hIM := hI1; have hPm := hP1; have hDm := hD1; have hKm := hK1; clear hI1 hP1 hD1 hK1
        clear ht; generalize H1 = H at hPx hPm hPo hS ⊢
        refine lv_pop hx hb dL_law_1479 rfl ?_
        refine lv_goto (tgt := 1941) hx hb dL_law_1480 (by decide) ?_
        have hWn : lr_5 vi1 vm1 := l5_no q4x q4m
        have hRn : lr_R tp vi1 vf1 vm1 vn1 := ⟨by rw [kx2 0 (by decide), km2 0 (by decide)]; exact hR.1, lr_keep (fun k9 h9 => kx1 k9 (kp_dis (by decide) h9)) (fun k9 h9 => kx2 k9 (kp_dis (by decide) h9)) (fun k9 h9 => km1 k9 (kp_dis (by decide) h9)) (fun k9 h9 => km2 k9 (kp_dis (by decide) h9)) hR.2⟩
        have hRn := And.intro hRn hWn
        exact kk _ _ _ _ _ (Nat.le_add_right _ _) (Nat.le_add_right _ _) ⟨tp, _, _, _, _, _, _, _, _, _, hIX, hIM, hRn, hKx, hKm, hPx, hPm, hPo, hDx, hDm, hDo, jxm, jxo, jmo⟩ hS (lv_sub hl [0, 1, 2, 3, 4] rfl)
      · refine lv_iconst (v := 1) hx hb dL_law_1418 zk_iconst_1 ?_
        refine lv_goto (tgt := 1423) hx hb dL_law_1419 (by decide) ?_
        have hFc := lg_free hDx hS hA
        obtain ⟨fs1423, hfs1423⟩ := ix_recv hIX
        refine va_calli (va_runV (As := [.int vix1, .int 0, .int 1, .int 1]) (rest := []) ⟨hx, hb, hml, hown, hts⟩ (k_X7_dares l dC dI H.size x tp vi vf wx tx hIX vix1 0 1 1) (cwV 4 hts gd_X7_dares rfl rfl rfl (by decide +kernel) ⟨Nat.le_of_ble_eq_true rfl, Nat.le_of_ble_eq_true rfl⟩) ⟨ax_blind (fun _ _ _ _ _ => trivial), va_recv hKx hPx (ci := 7) (q0 := 0) rfl hfs1423, ax_preE hPx hKx hDx (fun _ _ _ => trivial)⟩ rfl rfl hl.1 rfl (lv_room (Nat.le_of_ble_eq_true rfl)) dL_law_1423 ⟨hcc, hss⟩) hS (fun q _ h => hFc q h) hFc (fun r1423 u t H1 locs ht hvm hw1423 hB hz1 hk1 hS => ?_)
        obtain ⟨wxn, txn, ⟨vi1, vf1, kx1, kx2, q4x, hI1⟩, hP1, hK1, hD1⟩ := hB
        rw [ht] at hP1
        have hK1 := va_K.moved hvm.symm hK1
        obtain ⟨hPm, jxm⟩ := lg_step hPm jxm hk1 hD1
        obtain ⟨hPo, jxo⟩ := lg_step hPo jxo hk1 hD1
        have hD1 := hD1.weaken (fun _ _ _ h9 => hFc _ h9)
        clear hPx hDx hKx hFc hk1 hz1 hfs1423
        have hIX := hI1; have hPx := hP1; have hDx := hD1; have hKx := hK1; clear hI1 hP1 hD1 hK1
        clear ht; generalize H1 = H at hPx hPm hPo hS ⊢
        refine lv_pop hx hb dL_law_1426 rfl ?_
        refine lv_aload_n hx hb dL_law_1427 rfl (lv_at hl 2 rfl) ?_
        refine lv_aload_n hx hb dL_law_1428 rfl (lv_at hl 4 rfl) ?_
        refine lv_iload hx hb dL_law_1429 (lv_at hl 0 rfl) ?_
        refine lv_iconst (v := 1) hx hb dL_law_1431 zk_iconst_1 ?_
        refine lv_iadd hx hb dL_law_1432 ?_
        refine ax_ti ix1 eix1.symm ?_
        refine va_sld (L := L) (i := ix1) hx hb hX hbl hbA hS (vp_in_iff.mpr ⟨by omega, by omega⟩) dL_law_1433 ?_
        refine ax_ti vix1 evix1.symm ?_
        refine lv_aload_n hx hb dL_law_1434 rfl (lv_at hl 4 rfl) ?_
        refine lv_iload hx hb dL_law_1435 (lv_at hl 0 rfl) ?_
        refine lv_iconst (v := 2) hx hb dL_law_1437 zk_iconst_2 ?_
        refine lv_iadd hx hb dL_law_1438 ?_
        refine ax_ti ix2 eix2.symm ?_
        refine va_sld (L := L) (i := ix2) hx hb hX hbl hbA hS (vp_in_iff.mpr ⟨by omega, by omega⟩) dL_law_1439 ?_
        refine ax_ti vix2 evix2.symm ?_
        refine lv_if_eq (tgt := 1447) hx hb dL_law_1440 (by decide) (fun _ => ?_) (fun c_14 => absurd c_1 c_14)
        refine lv_iconst (v := 0) hx hb dL_law_1447 zk_iconst_0 ?_
        refine lv_aload_n hx hb dL_law_1448 rfl (lv_at hl 4 rfl) ?_
        refine lv_iload hx hb dL_law_1449 (lv_at hl 0 rfl) ?_
        refine lv_iconst (v := 3) hx hb dL_law_1451 zk_iconst_3 ?_
        refine lv_iadd hx hb dL_law_1452 ?_
        refine ax_ti ix3 eix3.symm ?_
        refine va_sld (L := L) (i := ix3) hx hb hX hbl hbA hS (vp_in_iff.mpr ⟨by omega, by omega⟩) dL_law_1453 ?_
        refine ax_ti vix3 evix3.symm ?_
        refine lv_if_eq (tgt := 1461) hx hb dL_law_1454 (by decide) (fun c_15 => absurd c_15 c_2) (fun _ => ?_)
        refine lv_iconst (v := 1) hx hb dL_law_1457 zk_iconst_1 ?_
        refine lv_goto (tgt := 1462) hx hb dL_law_1458 (by decide) ?_
        refine lv_aload_n hx hb dL_law_1462 rfl (lv_at hl 4 rfl) ?_
        refine lv_iload hx hb dL_law_1463 (lv_at hl 0 rfl) ?_
        refine lv_iconst (v := 4) hx hb dL_law_1465 zk_iconst_4 ?_
        refine lv_iadd hx hb dL_law_1466 ?_
        refine ax_ti ix4 eix4.symm ?_
        refine va_sld (L := L) (i := ix4) hx hb hX hbl hbA hS (vp_in_iff.mpr ⟨by omega, by omega⟩) dL_law_1467 ?_
        refine ax_ti vix4 evix4.symm ?_
        refine lv_if_eq (tgt := 1475) hx hb dL_law_1468 (by decide) (fun c_16 => absurd c_16 c_10) (fun _ => ?_)
        refine lv_iconst (v := 1) hx hb dL_law_1471 zk_iconst_1 ?_
        refine lv_goto (tgt := 1476) hx hb dL_law_1472 (by decide) ?_
        have hFc := lg_free hDm hS hA
        obtain ⟨fs1476, hfs1476⟩ := im_recv hIM
        refine va_calli (va_runV (As := [.int vix1, .int 0, .int 1, .int 1]) (rest := []) ⟨hx, hb, hml, hown, hts⟩ (k_X8_dares l dC dI H.size mo tp vm vn wm tm hIM vix1 0 1 1) (cwV 4 hts gd_X8_dares rfl rfl rfl (by decide +kernel) ⟨Nat.le_of_ble_eq_true rfl, Nat.le_of_ble_eq_true rfl⟩) ⟨ax_blind (fun _ _ _ _ _ => trivial), va_recv hKm hPm (ci := 8) (q0 := 0) rfl hfs1476, ax_preE hPm hKm hDm (fun _ _ _ => trivial)⟩ rfl rfl hl.1 rfl (lv_room (Nat.le_of_ble_eq_true rfl)) dL_law_1476 ⟨hcc, hss⟩) hS (fun q _ h => hFc q h) hFc (fun r1476 u t H1 locs ht hvm hw1476 hB hz1 hk1 hS => ?_)
        obtain ⟨wmn, tmn, ⟨vm1, vn1, km1, km2, q4m, hI1⟩, hP1, hK1, hD1⟩ := hB
        rw [ht] at hP1
        have hK1 := va_K.moved hvm.symm hK1
        obtain ⟨hPx, jmx⟩ := lg_step hPx (dj_symm jxm) hk1 hD1
        have jxm := dj_symm jmx
        obtain ⟨hPo, jmo⟩ := lg_step hPo jmo hk1 hD1
        have hD1 := hD1.weaken (fun _ _ _ h9 => hFc _ h9)
        clear hPm hDm hKm hFc hk1 hz1 hfs1476
        have hIM := hI1; have hPm := hP1; have hDm := hD1; have hKm := hK1; clear hI1 hP1 hD1 hK1
        clear ht; generalize H1 = H at hPx hPm hPo hS ⊢
        refine lv_pop hx hb dL_law_1479 rfl ?_
        refine lv_goto (tgt := 1941) hx hb dL_law_1480 (by decide) ?_
        have hWn : lr_5 vi1 vm1 := l5_no q4x q4m
        have hRn : lr_R tp vi1 vf1 vm1 vn1 := ⟨by rw [kx2 0 (by decide), km2 0 (by decide)]; exact hR.1, lr_keep (fun k9 h9 => kx1 k9 (kp_dis (by decide) h9)) (fun k9 h9 => kx2 k9 (kp_dis (by decide) h9)) (fun k9 h9 => km1 k9 (kp_dis (by decide) h9)) (fun k9 h9 => km2 k9 (kp_dis (by decide) h9)) hR.2⟩
        have hRn := And.intro hRn hWn
        exact kk _ _ _ _ _ (Nat.le_add_right _ _) (Nat.le_add_right _ _) ⟨tp, _, _, _, _, _, _, _, _, _, hIX, hIM, hRn, hKx, hKm, hPx, hPm, hPo, hDx, hDm, hDo, jxm, jxo, jmo⟩ hS (lv_sub hl [0, 1, 2, 3, 4] rfl)
  · refine lv_iconst (v := 1) hx hb dL_law_1390 zk_iconst_1 ?_
    refine lv_goto (tgt := 1395) hx hb dL_law_1391 (by decide) ?_
    refine lv_aload_n hx hb dL_law_1395 rfl (lv_at hl 4 rfl) ?_
    refine lv_iload hx hb dL_law_1396 (lv_at hl 0 rfl) ?_
    refine lv_iconst (v := 3) hx hb dL_law_1398 zk_iconst_3 ?_
    refine lv_iadd hx hb dL_law_1399 ?_
    refine lv_topi (fun ix3 eix3 => ?_)
    have qix3 : ix3.toInt = i.toInt + 3 := ai_add eix3 ⟨hi0, hiM⟩ ⟨zq8, zq9⟩ (by decide) (by decide)
    refine va_sld (L := L) (i := ix3) hx hb hX hbl hbA hS (vp_in_iff.mpr ⟨by omega, by omega⟩) dL_law_1400 ?_
    refine lv_topi (fun vix3 evix3 => ?_)
    refine lv_if_eq (tgt := 1408) hx hb dL_law_1401 (by decide) (fun c_17 => ?_) (fun c_17 => ?_)
    · refine lv_iconst (v := 0) hx hb dL_law_1408 zk_iconst_0 ?_
      refine lv_aload_n hx hb dL_law_1409 rfl (lv_at hl 4 rfl) ?_
      refine lv_iload hx hb dL_law_1410 (lv_at hl 0 rfl) ?_
      refine lv_iconst (v := 4) hx hb dL_law_1412 zk_iconst_4 ?_
      refine lv_iadd hx hb dL_law_1413 ?_
      refine lv_topi (fun ix4 eix4 => ?_)
      have qix4 : ix4.toInt = i.toInt + 4 := ai_add eix4 ⟨hi0, hiM⟩ ⟨zq68, zq67⟩ (by decide) (by decide)
      refine va_sld (L := L) (i := ix4) hx hb hX hbl hbA hS (vp_in_iff.mpr ⟨by omega, by omega⟩) dL_law_1414 ?_
      refine lv_topi (fun vix4 evix4 => ?_)
      refine lv_if_eq (tgt := 1422) hx hb dL_law_1415 (by decide) (fun c_18 => ?_) (fun c_18 => ?_)
      · refine lv_iconst (v := 0) hx hb dL_law_1422 zk_iconst_0 ?_
        have hFc := lg_free hDx hS hA
        obtain ⟨fs1423, hfs1423⟩ := ix_recv hIX
        refine va_calli (va_runV (As := [.int vix1, .int 1, .int 0, .int 0]) (rest := []) ⟨hx, hb, hml, hown, hts⟩ (k_X7_dares l dC dI H.size x tp vi vf wx tx hIX vix1 1 0 0) (cwV 4 hts gd_X7_dares rfl rfl rfl (by decide +kernel) ⟨Nat.le_of_ble_eq_true rfl, Nat.le_of_ble_eq_true rfl⟩) ⟨ax_blind (fun _ _ _ _ _ => trivial), va_recv hKx hPx (ci := 7) (q0 := 0) rfl hfs1423, ax_preE hPx hKx hDx (fun _ _ _ => trivial)⟩ rfl rfl hl.1 rfl (lv_room (Nat.le_of_ble_eq_true rfl)) dL_law_1423 ⟨hcc, hss⟩) hS (fun q _ h => hFc q h) hFc (fun r1423 u t H1 locs ht hvm hw1423 hB hz1 hk1 hS => ?_)
        obtain ⟨wxn, txn, ⟨vi1, vf1, kx1, kx2, q4x, hI1⟩, hP1, hK1, hD1⟩ := hB
        rw [ht] at hP1
        have hK1 := va_K.moved hvm.symm hK1
        obtain ⟨hPm, jxm⟩ := lg_step hPm jxm hk1 hD1
        obtain ⟨hPo, jxo⟩ := lg_step hPo jxo hk1 hD1
        have hD1 := hD1.weaken (fun _ _ _ h9 => hFc _ h9)
        clear hPx hDx hKx hFc hk1 hz1 hfs1423
        have hIX := hI1; have hPx := hP1; have hDx := hD1; have hKx := hK1; clear hI1 hP1 hD1 hK1
        clear ht; generalize H1 = H at hPx hPm hPo hS ⊢
        refine lv_pop hx hb dL_law_1426 rfl ?_
        refine lv_aload_n hx hb dL_law_1427 rfl (lv_at hl 2 rfl) ?_
        refine lv_aload_n hx hb dL_law_1428 rfl (lv_at hl 4 rfl) ?_
        refine lv_iload hx hb dL_law_1429 (lv_at hl 0 rfl) ?_
        refine lv_iconst (v := 1) hx hb dL_law_1431 zk_iconst_1 ?_
        refine lv_iadd hx hb dL_law_1432 ?_
        refine ax_ti ix1 eix1.symm ?_
        refine va_sld (L := L) (i := ix1) hx hb hX hbl hbA hS (vp_in_iff.mpr ⟨by omega, by omega⟩) dL_law_1433 ?_
        refine ax_ti vix1 evix1.symm ?_
        refine lv_aload_n hx hb dL_law_1434 rfl (lv_at hl 4 rfl) ?_
        refine lv_iload hx hb dL_law_1435 (lv_at hl 0 rfl) ?_
        refine lv_iconst (v := 2) hx hb dL_law_1437 zk_iconst_2 ?_
        refine lv_iadd hx hb dL_law_1438 ?_
        refine ax_ti ix2 eix2.symm ?_
        refine va_sld (L := L) (i := ix2) hx hb hX hbl hbA hS (vp_in_iff.mpr ⟨by omega, by omega⟩) dL_law_1439 ?_
        refine ax_ti vix2 evix2.symm ?_
        refine lv_if_eq (tgt := 1447) hx hb dL_law_1440 (by decide) (fun c_19 => absurd c_19 c_1) (fun _ => ?_)
        refine lv_iconst (v := 1) hx hb dL_law_1443 zk_iconst_1 ?_
        refine lv_goto (tgt := 1448) hx hb dL_law_1444 (by decide) ?_
        refine lv_aload_n hx hb dL_law_1448 rfl (lv_at hl 4 rfl) ?_
        refine lv_iload hx hb dL_law_1449 (lv_at hl 0 rfl) ?_
        refine lv_iconst (v := 3) hx hb dL_law_1451 zk_iconst_3 ?_
        refine lv_iadd hx hb dL_law_1452 ?_
        refine ax_ti ix3 eix3.symm ?_
        refine va_sld (L := L) (i := ix3) hx hb hX hbl hbA hS (vp_in_iff.mpr ⟨by omega, by omega⟩) dL_law_1453 ?_
        refine ax_ti vix3 evix3.symm ?_
        refine lv_if_eq (tgt := 1461) hx hb dL_law_1454 (by decide) (fun _ => ?_) (fun c_20 => absurd c_17 c_20)
        refine lv_iconst (v := 0) hx hb dL_law_1461 zk_iconst_0 ?_
        refine lv_aload_n hx hb dL_law_1462 rfl (lv_at hl 4 rfl) ?_
        refine lv_iload hx hb dL_law_1463 (lv_at hl 0 rfl) ?_
        refine lv_iconst (v := 4) hx hb dL_law_1465 zk_iconst_4 ?_
        refine lv_iadd hx hb dL_law_1466 ?_
        refine ax_ti ix4 eix4.symm ?_
        refine va_sld (L := L) (i := ix4) hx hb hX hbl hbA hS (vp_in_iff.mpr ⟨by omega, by omega⟩) dL_law_1467 ?_
        refine ax_ti vix4 evix4.symm ?_
        refine lv_if_eq (tgt := 1475) hx hb dL_law_1468 (by decide) (fun _ => ?_) (fun c_21 => absurd c_18 c_21)
        refine lv_iconst (v := 0) hx hb dL_law_1475 zk_iconst_0 ?_
        have hFc := lg_free hDm hS hA
        obtain ⟨fs1476, hfs1476⟩ := im_recv hIM
        refine va_calli (va_runV (As := [.int vix1, .int 1, .int 0, .int 0]) (rest := []) ⟨hx, hb, hml, hown, hts⟩ (k_X8_dares l dC dI H.size mo tp vm vn wm tm hIM vix1 1 0 0) (cwV 4 hts gd_X8_dares rfl rfl rfl (by decide +kernel) ⟨Nat.le_of_ble_eq_true rfl, Nat.le_of_ble_eq_true rfl⟩) ⟨ax_blind (fun _ _ _ _ _ => trivial), va_recv hKm hPm (ci := 8) (q0 := 0) rfl hfs1476, ax_preE hPm hKm hDm (fun _ _ _ => trivial)⟩ rfl rfl hl.1 rfl (lv_room (Nat.le_of_ble_eq_true rfl)) dL_law_1476 ⟨hcc, hss⟩) hS (fun q _ h => hFc q h) hFc (fun r1476 u t H1 locs ht hvm hw1476 hB hz1 hk1 hS => ?_)
        obtain ⟨wmn, tmn, ⟨vm1, vn1, km1, km2, q4m, hI1⟩, hP1, hK1, hD1⟩ := hB
        rw [ht] at hP1
        have hK1 := va_K.moved hvm.symm hK1
        obtain ⟨hPx, jmx⟩ := lg_step hPx (dj_symm jxm) hk1 hD1
        have jxm := dj_symm jmx
        obtain ⟨hPo, jmo⟩ := lg_step hPo jmo hk1 hD1
        have hD1 := hD1.weaken (fun _ _ _ h9 => hFc _ h9)
        clear hPm hDm hKm hFc hk1 hz1 hfs1476
        have hIM := hI1; have hPm := hP1; have hDm := hD1; have hKm := hK1; clear hI1 hP1 hD1 hK1
        clear ht; generalize H1 = H at hPx hPm hPo hS ⊢
        refine lv_pop hx hb dL_law_1479 rfl ?_
        refine lv_goto (tgt := 1941) hx hb dL_law_1480 (by decide) ?_
        have hWn : lr_5 vi1 vm1 := l5_no q4x q4m
        have hRn : lr_R tp vi1 vf1 vm1 vn1 := ⟨by rw [kx2 0 (by decide), km2 0 (by decide)]; exact hR.1, lr_keep (fun k9 h9 => kx1 k9 (kp_dis (by decide) h9)) (fun k9 h9 => kx2 k9 (kp_dis (by decide) h9)) (fun k9 h9 => km1 k9 (kp_dis (by decide) h9)) (fun k9 h9 => km2 k9 (kp_dis (by decide) h9)) hR.2⟩
        have hRn := And.intro hRn hWn
        exact kk _ _ _ _ _ (Nat.le_add_right _ _) (Nat.le_add_right _ _) ⟨tp, _, _, _, _, _, _, _, _, _, hIX, hIM, hRn, hKx, hKm, hPx, hPm, hPo, hDx, hDm, hDo, jxm, jxo, jmo⟩ hS (lv_sub hl [0, 1, 2, 3, 4] rfl)
      · refine lv_iconst (v := 1) hx hb dL_law_1418 zk_iconst_1 ?_
        refine lv_goto (tgt := 1423) hx hb dL_law_1419 (by decide) ?_
        have hFc := lg_free hDx hS hA
        obtain ⟨fs1423, hfs1423⟩ := ix_recv hIX
        refine va_calli (va_runV (As := [.int vix1, .int 1, .int 0, .int 1]) (rest := []) ⟨hx, hb, hml, hown, hts⟩ (k_X7_dares l dC dI H.size x tp vi vf wx tx hIX vix1 1 0 1) (cwV 4 hts gd_X7_dares rfl rfl rfl (by decide +kernel) ⟨Nat.le_of_ble_eq_true rfl, Nat.le_of_ble_eq_true rfl⟩) ⟨ax_blind (fun _ _ _ _ _ => trivial), va_recv hKx hPx (ci := 7) (q0 := 0) rfl hfs1423, ax_preE hPx hKx hDx (fun _ _ _ => trivial)⟩ rfl rfl hl.1 rfl (lv_room (Nat.le_of_ble_eq_true rfl)) dL_law_1423 ⟨hcc, hss⟩) hS (fun q _ h => hFc q h) hFc (fun r1423 u t H1 locs ht hvm hw1423 hB hz1 hk1 hS => ?_)
        obtain ⟨wxn, txn, ⟨vi1, vf1, kx1, kx2, q4x, hI1⟩, hP1, hK1, hD1⟩ := hB
        rw [ht] at hP1
        have hK1 := va_K.moved hvm.symm hK1
        obtain ⟨hPm, jxm⟩ := lg_step hPm jxm hk1 hD1
        obtain ⟨hPo, jxo⟩ := lg_step hPo jxo hk1 hD1
        have hD1 := hD1.weaken (fun _ _ _ h9 => hFc _ h9)
        clear hPx hDx hKx hFc hk1 hz1 hfs1423
        have hIX := hI1; have hPx := hP1; have hDx := hD1; have hKx := hK1; clear hI1 hP1 hD1 hK1
        clear ht; generalize H1 = H at hPx hPm hPo hS ⊢
        refine lv_pop hx hb dL_law_1426 rfl ?_
        refine lv_aload_n hx hb dL_law_1427 rfl (lv_at hl 2 rfl) ?_
        refine lv_aload_n hx hb dL_law_1428 rfl (lv_at hl 4 rfl) ?_
        refine lv_iload hx hb dL_law_1429 (lv_at hl 0 rfl) ?_
        refine lv_iconst (v := 1) hx hb dL_law_1431 zk_iconst_1 ?_
        refine lv_iadd hx hb dL_law_1432 ?_
        refine ax_ti ix1 eix1.symm ?_
        refine va_sld (L := L) (i := ix1) hx hb hX hbl hbA hS (vp_in_iff.mpr ⟨by omega, by omega⟩) dL_law_1433 ?_
        refine ax_ti vix1 evix1.symm ?_
        refine lv_aload_n hx hb dL_law_1434 rfl (lv_at hl 4 rfl) ?_
        refine lv_iload hx hb dL_law_1435 (lv_at hl 0 rfl) ?_
        refine lv_iconst (v := 2) hx hb dL_law_1437 zk_iconst_2 ?_
        refine lv_iadd hx hb dL_law_1438 ?_
        refine ax_ti ix2 eix2.symm ?_
        refine va_sld (L := L) (i := ix2) hx hb hX hbl hbA hS (vp_in_iff.mpr ⟨by omega, by omega⟩) dL_law_1439 ?_
        refine ax_ti vix2 evix2.symm ?_
        refine lv_if_eq (tgt := 1447) hx hb dL_law_1440 (by decide) (fun c_22 => absurd c_22 c_1) (fun _ => ?_)
        refine lv_iconst (v := 1) hx hb dL_law_1443 zk_iconst_1 ?_
        refine lv_goto (tgt := 1448) hx hb dL_law_1444 (by decide) ?_
        refine lv_aload_n hx hb dL_law_1448 rfl (lv_at hl 4 rfl) ?_
        refine lv_iload hx hb dL_law_1449 (lv_at hl 0 rfl) ?_
        refine lv_iconst (v := 3) hx hb dL_law_1451 zk_iconst_3 ?_
        refine lv_iadd hx hb dL_law_1452 ?_
        refine ax_ti ix3 eix3.symm ?_
        refine va_sld (L := L) (i := ix3) hx hb hX hbl hbA hS (vp_in_iff.mpr ⟨by omega, by omega⟩) dL_law_1453 ?_
        refine ax_ti vix3 evix3.symm ?_
        refine lv_if_eq (tgt := 1461) hx hb dL_law_1454 (by decide) (fun _ => ?_) (fun c_23 => absurd c_17 c_23)
        refine lv_iconst (v := 0) hx hb dL_law_1461 zk_iconst_0 ?_
        refine lv_aload_n hx hb dL_law_1462 rfl (lv_at hl 4 rfl) ?_
        refine lv_iload hx hb dL_law_1463 (lv_at hl 0 rfl) ?_
        refine lv_iconst (v := 4) hx hb dL_law_1465 zk_iconst_4 ?_
        refine lv_iadd hx hb dL_law_1466 ?_
        refine ax_ti ix4 eix4.symm ?_
        refine va_sld (L := L) (i := ix4) hx hb hX hbl hbA hS (vp_in_iff.mpr ⟨by omega, by omega⟩) dL_law_1467 ?_
        refine ax_ti vix4 evix4.symm ?_
        refine lv_if_eq (tgt := 1475) hx hb dL_law_1468 (by decide) (fun c_24 => absurd c_24 c_18) (fun _ => ?_)
        refine lv_iconst (v := 1) hx hb dL_law_1471 zk_iconst_1 ?_
        refine lv_goto (tgt := 1476) hx hb dL_law_1472 (by decide) ?_
        have hFc := lg_free hDm hS hA
        obtain ⟨fs1476, hfs1476⟩ := im_recv hIM
        refine va_calli (va_runV (As := [.int vix1, .int 1, .int 0, .int 1]) (rest := []) ⟨hx, hb, hml, hown, hts⟩ (k_X8_dares l dC dI H.size mo tp vm vn wm tm hIM vix1 1 0 1) (cwV 4 hts gd_X8_dares rfl rfl rfl (by decide +kernel) ⟨Nat.le_of_ble_eq_true rfl, Nat.le_of_ble_eq_true rfl⟩) ⟨ax_blind (fun _ _ _ _ _ => trivial), va_recv hKm hPm (ci := 8) (q0 := 0) rfl hfs1476, ax_preE hPm hKm hDm (fun _ _ _ => trivial)⟩ rfl rfl hl.1 rfl (lv_room (Nat.le_of_ble_eq_true rfl)) dL_law_1476 ⟨hcc, hss⟩) hS (fun q _ h => hFc q h) hFc (fun r1476 u t H1 locs ht hvm hw1476 hB hz1 hk1 hS => ?_)
        obtain ⟨wmn, tmn, ⟨vm1, vn1, km1, km2, q4m, hI1⟩, hP1, hK1, hD1⟩ := hB
        rw [ht] at hP1
        have hK1 := va_K.moved hvm.symm hK1
        obtain ⟨hPx, jmx⟩ := lg_step hPx (dj_symm jxm) hk1 hD1
        have jxm := dj_symm jmx
        obtain ⟨hPo, jmo⟩ := lg_step hPo jmo hk1 hD1
        have hD1 := hD1.weaken (fun _ _ _ h9 => hFc _ h9)
        clear hPm hDm hKm hFc hk1 hz1 hfs1476
        have hIM := hI1; have hPm := hP1; have hDm := hD1; have hKm := hK1; clear hI1 hP1 hD1 hK1
        clear ht; generalize H1 = H at hPx hPm hPo hS ⊢
        refine lv_pop hx hb dL_law_1479 rfl ?_
        refine lv_goto (tgt := 1941) hx hb dL_law_1480 (by decide) ?_
        have hWn : lr_5 vi1 vm1 := l5_no q4x q4m
        have hRn : lr_R tp vi1 vf1 vm1 vn1 := ⟨by rw [kx2 0 (by decide), km2 0 (by decide)]; exact hR.1, lr_keep (fun k9 h9 => kx1 k9 (kp_dis (by decide) h9)) (fun k9 h9 => kx2 k9 (kp_dis (by decide) h9)) (fun k9 h9 => km1 k9 (kp_dis (by decide) h9)) (fun k9 h9 => km2 k9 (kp_dis (by decide) h9)) hR.2⟩
        have hRn := And.intro hRn hWn
        exact kk _ _ _ _ _ (Nat.le_add_right _ _) (Nat.le_add_right _ _) ⟨tp, _, _, _, _, _, _, _, _, _, hIX, hIM, hRn, hKx, hKm, hPx, hPm, hPo, hDx, hDm, hDo, jxm, jxo, jmo⟩ hS (lv_sub hl [0, 1, 2, 3, 4] rfl)
    · refine lv_iconst (v := 1) hx hb dL_law_1404 zk_iconst_1 ?_
      refine lv_goto (tgt := 1409) hx hb dL_law_1405 (by decide) ?_
      refine lv_aload_n hx hb dL_law_1409 rfl (lv_at hl 4 rfl) ?_
      refine lv_iload hx hb dL_law_1410 (lv_at hl 0 rfl) ?_
      refine lv_iconst (v := 4) hx hb dL_law_1412 zk_iconst_4 ?_
      refine lv_iadd hx hb dL_law_1413 ?_
      refine lv_topi (fun ix4 eix4 => ?_)
      have qix4 : ix4.toInt = i.toInt + 4 := ai_add eix4 ⟨hi0, hiM⟩ ⟨zq68, zq67⟩ (by decide) (by decide)
      refine va_sld (L := L) (i := ix4) hx hb hX hbl hbA hS (vp_in_iff.mpr ⟨by omega, by omega⟩) dL_law_1414 ?_
      refine lv_topi (fun vix4 evix4 => ?_)
      refine lv_if_eq (tgt := 1422) hx hb dL_law_1415 (by decide) (fun c_25 => ?_) (fun c_25 => ?_)
      · refine lv_iconst (v := 0) hx hb dL_law_1422 zk_iconst_0 ?_
        have hFc := lg_free hDx hS hA
        obtain ⟨fs1423, hfs1423⟩ := ix_recv hIX
        refine va_calli (va_runV (As := [.int vix1, .int 1, .int 1, .int 0]) (rest := []) ⟨hx, hb, hml, hown, hts⟩ (k_X7_dares l dC dI H.size x tp vi vf wx tx hIX vix1 1 1 0) (cwV 4 hts gd_X7_dares rfl rfl rfl (by decide +kernel) ⟨Nat.le_of_ble_eq_true rfl, Nat.le_of_ble_eq_true rfl⟩) ⟨ax_blind (fun _ _ _ _ _ => trivial), va_recv hKx hPx (ci := 7) (q0 := 0) rfl hfs1423, ax_preE hPx hKx hDx (fun _ _ _ => trivial)⟩ rfl rfl hl.1 rfl (lv_room (Nat.le_of_ble_eq_true rfl)) dL_law_1423 ⟨hcc, hss⟩) hS (fun q _ h => hFc q h) hFc (fun r1423 u t H1 locs ht hvm hw1423 hB hz1 hk1 hS => ?_)
        obtain ⟨wxn, txn, ⟨vi1, vf1, kx1, kx2, q4x, hI1⟩, hP1, hK1, hD1⟩ := hB
        rw [ht] at hP1
        have hK1 := va_K.moved hvm.symm hK1
        obtain ⟨hPm, jxm⟩ := lg_step hPm jxm hk1 hD1
        obtain ⟨hPo, jxo⟩ := lg_step hPo jxo hk1 hD1
        have hD1 := hD1.weaken (fun _ _ _ h9 => hFc _ h9)
        clear hPx hDx hKx hFc hk1 hz1 hfs1423
        have hIX := hI1; have hPx := hP1; have hDx := hD1; have hKx := hK1; clear hI1 hP1 hD1 hK1
        clear ht; generalize H1 = H at hPx hPm hPo hS ⊢
        refine lv_pop hx hb dL_law_1426 rfl ?_
        refine lv_aload_n hx hb dL_law_1427 rfl (lv_at hl 2 rfl) ?_
        refine lv_aload_n hx hb dL_law_1428 rfl (lv_at hl 4 rfl) ?_
        refine lv_iload hx hb dL_law_1429 (lv_at hl 0 rfl) ?_
        refine lv_iconst (v := 1) hx hb dL_law_1431 zk_iconst_1 ?_
        refine lv_iadd hx hb dL_law_1432 ?_
        refine ax_ti ix1 eix1.symm ?_
        refine va_sld (L := L) (i := ix1) hx hb hX hbl hbA hS (vp_in_iff.mpr ⟨by omega, by omega⟩) dL_law_1433 ?_
        refine ax_ti vix1 evix1.symm ?_
        refine lv_aload_n hx hb dL_law_1434 rfl (lv_at hl 4 rfl) ?_
        refine lv_iload hx hb dL_law_1435 (lv_at hl 0 rfl) ?_
        refine lv_iconst (v := 2) hx hb dL_law_1437 zk_iconst_2 ?_
        refine lv_iadd hx hb dL_law_1438 ?_
        refine ax_ti ix2 eix2.symm ?_
        refine va_sld (L := L) (i := ix2) hx hb hX hbl hbA hS (vp_in_iff.mpr ⟨by omega, by omega⟩) dL_law_1439 ?_
        refine ax_ti vix2 evix2.symm ?_
        refine lv_if_eq (tgt := 1447) hx hb dL_law_1440 (by decide) (fun c_26 => absurd c_26 c_1) (fun _ => ?_)
        refine lv_iconst (v := 1) hx hb dL_law_1443 zk_iconst_1 ?_
        refine lv_goto (tgt := 1448) hx hb dL_law_1444 (by decide) ?_
        refine lv_aload_n hx hb dL_law_1448 rfl (lv_at hl 4 rfl) ?_
        refine lv_iload hx hb dL_law_1449 (lv_at hl 0 rfl) ?_
        refine lv_iconst (v := 3) hx hb dL_law_1451 zk_iconst_3 ?_
        refine lv_iadd hx hb dL_law_1452 ?_
        refine ax_ti ix3 eix3.symm ?_
        refine va_sld (L := L) (i := ix3) hx hb hX hbl hbA hS (vp_in_iff.mpr ⟨by omega, by omega⟩) dL_law_1453 ?_
        refine ax_ti vix3 evix3.symm ?_
        refine lv_if_eq (tgt := 1461) hx hb dL_law_1454 (by decide) (fun c_27 => absurd c_27 c_17) (fun _ => ?_)
        refine lv_iconst (v := 1) hx hb dL_law_1457 zk_iconst_1 ?_
        refine lv_goto (tgt := 1462) hx hb dL_law_1458 (by decide) ?_
        refine lv_aload_n hx hb dL_law_1462 rfl (lv_at hl 4 rfl) ?_
        refine lv_iload hx hb dL_law_1463 (lv_at hl 0 rfl) ?_
        refine lv_iconst (v := 4) hx hb dL_law_1465 zk_iconst_4 ?_
        refine lv_iadd hx hb dL_law_1466 ?_
        refine ax_ti ix4 eix4.symm ?_
        refine va_sld (L := L) (i := ix4) hx hb hX hbl hbA hS (vp_in_iff.mpr ⟨by omega, by omega⟩) dL_law_1467 ?_
        refine ax_ti vix4 evix4.symm ?_
        refine lv_if_eq (tgt := 1475) hx hb dL_law_1468 (by decide) (fun _ => ?_) (fun c_28 => absurd c_25 c_28)
        refine lv_iconst (v := 0) hx hb dL_law_1475 zk_iconst_0 ?_
        have hFc := lg_free hDm hS hA
        obtain ⟨fs1476, hfs1476⟩ := im_recv hIM
        refine va_calli (va_runV (As := [.int vix1, .int 1, .int 1, .int 0]) (rest := []) ⟨hx, hb, hml, hown, hts⟩ (k_X8_dares l dC dI H.size mo tp vm vn wm tm hIM vix1 1 1 0) (cwV 4 hts gd_X8_dares rfl rfl rfl (by decide +kernel) ⟨Nat.le_of_ble_eq_true rfl, Nat.le_of_ble_eq_true rfl⟩) ⟨ax_blind (fun _ _ _ _ _ => trivial), va_recv hKm hPm (ci := 8) (q0 := 0) rfl hfs1476, ax_preE hPm hKm hDm (fun _ _ _ => trivial)⟩ rfl rfl hl.1 rfl (lv_room (Nat.le_of_ble_eq_true rfl)) dL_law_1476 ⟨hcc, hss⟩) hS (fun q _ h => hFc q h) hFc (fun r1476 u t H1 locs ht hvm hw1476 hB hz1 hk1 hS => ?_)
        obtain ⟨wmn, tmn, ⟨vm1, vn1, km1, km2, q4m, hI1⟩, hP1, hK1, hD1⟩ := hB
        rw [ht] at hP1
        have hK1 := va_K.moved hvm.symm hK1
        obtain ⟨hPx, jmx⟩ := lg_step hPx (dj_symm jxm) hk1 hD1
        have jxm := dj_symm jmx
        obtain ⟨hPo, jmo⟩ := lg_step hPo jmo hk1 hD1
        have hD1 := hD1.weaken (fun _ _ _ h9 => hFc _ h9)
        clear hPm hDm hKm hFc hk1 hz1 hfs1476
        have hIM := hI1; have hPm := hP1; have hDm := hD1; have hKm := hK1; clear hI1 hP1 hD1 hK1
        clear ht; generalize H1 = H at hPx hPm hPo hS ⊢
        refine lv_pop hx hb dL_law_1479 rfl ?_
        refine lv_goto (tgt := 1941) hx hb dL_law_1480 (by decide) ?_
        have hWn : lr_5 vi1 vm1 := l5_no q4x q4m
        have hRn : lr_R tp vi1 vf1 vm1 vn1 := ⟨by rw [kx2 0 (by decide), km2 0 (by decide)]; exact hR.1, lr_keep (fun k9 h9 => kx1 k9 (kp_dis (by decide) h9)) (fun k9 h9 => kx2 k9 (kp_dis (by decide) h9)) (fun k9 h9 => km1 k9 (kp_dis (by decide) h9)) (fun k9 h9 => km2 k9 (kp_dis (by decide) h9)) hR.2⟩
        have hRn := And.intro hRn hWn
        exact kk _ _ _ _ _ (Nat.le_add_right _ _) (Nat.le_add_right _ _) ⟨tp, _, _, _, _, _, _, _, _, _, hIX, hIM, hRn, hKx, hKm, hPx, hPm, hPo, hDx, hDm, hDo, jxm, jxo, jmo⟩ hS (lv_sub hl [0, 1, 2, 3, 4] rfl)
      · refine lv_iconst (v := 1) hx hb dL_law_1418 zk_iconst_1 ?_
        refine lv_goto (tgt := 1423) hx hb dL_law_1419 (by decide) ?_
        have hFc := lg_free hDx hS hA
        obtain ⟨fs1423, hfs1423⟩ := ix_recv hIX
        refine va_calli (va_runV (As := [.int vix1, .int 1, .int 1, .int 1]) (rest := []) ⟨hx, hb, hml, hown, hts⟩ (k_X7_dares l dC dI H.size x tp vi vf wx tx hIX vix1 1 1 1) (cwV 4 hts gd_X7_dares rfl rfl rfl (by decide +kernel) ⟨Nat.le_of_ble_eq_true rfl, Nat.le_of_ble_eq_true rfl⟩) ⟨ax_blind (fun _ _ _ _ _ => trivial), va_recv hKx hPx (ci := 7) (q0 := 0) rfl hfs1423, ax_preE hPx hKx hDx (fun _ _ _ => trivial)⟩ rfl rfl hl.1 rfl (lv_room (Nat.le_of_ble_eq_true rfl)) dL_law_1423 ⟨hcc, hss⟩) hS (fun q _ h => hFc q h) hFc (fun r1423 u t H1 locs ht hvm hw1423 hB hz1 hk1 hS => ?_)
        obtain ⟨wxn, txn, ⟨vi1, vf1, kx1, kx2, q4x, hI1⟩, hP1, hK1, hD1⟩ := hB
        rw [ht] at hP1
        have hK1 := va_K.moved hvm.symm hK1
        obtain ⟨hPm, jxm⟩ := lg_step hPm jxm hk1 hD1
        obtain ⟨hPo, jxo⟩ := lg_step hPo jxo hk1 hD1
        have hD1 := hD1.weaken (fun _ _ _ h9 => hFc _ h9)
        clear hPx hDx hKx hFc hk1 hz1 hfs1423
        have hIX := hI1; have hPx := hP1; have hDx := hD1; have hKx := hK1; clear hI1 hP1 hD1 hK1
        clear ht; generalize H1 = H at hPx hPm hPo hS ⊢
        refine lv_pop hx hb dL_law_1426 rfl ?_
        refine lv_aload_n hx hb dL_law_1427 rfl (lv_at hl 2 rfl) ?_
        refine lv_aload_n hx hb dL_law_1428 rfl (lv_at hl 4 rfl) ?_
        refine lv_iload hx hb dL_law_1429 (lv_at hl 0 rfl) ?_
        refine lv_iconst (v := 1) hx hb dL_law_1431 zk_iconst_1 ?_
        refine lv_iadd hx hb dL_law_1432 ?_
        refine ax_ti ix1 eix1.symm ?_
        refine va_sld (L := L) (i := ix1) hx hb hX hbl hbA hS (vp_in_iff.mpr ⟨by omega, by omega⟩) dL_law_1433 ?_
        refine ax_ti vix1 evix1.symm ?_
        refine lv_aload_n hx hb dL_law_1434 rfl (lv_at hl 4 rfl) ?_
        refine lv_iload hx hb dL_law_1435 (lv_at hl 0 rfl) ?_
        refine lv_iconst (v := 2) hx hb dL_law_1437 zk_iconst_2 ?_
        refine lv_iadd hx hb dL_law_1438 ?_
        refine ax_ti ix2 eix2.symm ?_
        refine va_sld (L := L) (i := ix2) hx hb hX hbl hbA hS (vp_in_iff.mpr ⟨by omega, by omega⟩) dL_law_1439 ?_
        refine ax_ti vix2 evix2.symm ?_
        refine lv_if_eq (tgt := 1447) hx hb dL_law_1440 (by decide) (fun c_29 => absurd c_29 c_1) (fun _ => ?_)
        refine lv_iconst (v := 1) hx hb dL_law_1443 zk_iconst_1 ?_
        refine lv_goto (tgt := 1448) hx hb dL_law_1444 (by decide) ?_
        refine lv_aload_n hx hb dL_law_1448 rfl (lv_at hl 4 rfl) ?_
        refine lv_iload hx hb dL_law_1449 (lv_at hl 0 rfl) ?_
        refine lv_iconst (v := 3) hx hb dL_law_1451 zk_iconst_3 ?_
        refine lv_iadd hx hb dL_law_1452 ?_
        refine ax_ti ix3 eix3.symm ?_
        refine va_sld (L := L) (i := ix3) hx hb hX hbl hbA hS (vp_in_iff.mpr ⟨by omega, by omega⟩) dL_law_1453 ?_
        refine ax_ti vix3 evix3.symm ?_
        refine lv_if_eq (tgt := 1461) hx hb dL_law_1454 (by decide) (fun c_30 => absurd c_30 c_17) (fun _ => ?_)
        refine lv_iconst (v := 1) hx hb dL_law_1457 zk_iconst_1 ?_
        refine lv_goto (tgt := 1462) hx hb dL_law_1458 (by decide) ?_
        refine lv_aload_n hx hb dL_law_1462 rfl (lv_at hl 4 rfl) ?_
        refine lv_iload hx hb dL_law_1463 (lv_at hl 0 rfl) ?_
        refine lv_iconst (v := 4) hx hb dL_law_1465 zk_iconst_4 ?_
        refine lv_iadd hx hb dL_law_1466 ?_
        refine ax_ti ix4 eix4.symm ?_
        refine va_sld (L := L) (i := ix4) hx hb hX hbl hbA hS (vp_in_iff.mpr ⟨by omega, by omega⟩) dL_law_1467 ?_
        refine ax_ti vix4 evix4.symm ?_
        refine lv_if_eq (tgt := 1475) hx hb dL_law_1468 (by decide) (fun c_31 => absurd c_31 c_25) (fun _ => ?_)
        refine lv_iconst (v := 1) hx hb dL_law_1471 zk_iconst_1 ?_
        refine lv_goto (tgt := 1476) hx hb dL_law_1472 (by decide) ?_
        have hFc := lg_free hDm hS hA
        obtain ⟨fs1476, hfs1476⟩ := im_recv hIM
        refine va_calli (va_runV (As := [.int vix1, .int 1, .int 1, .int 1]) (rest := []) ⟨hx, hb, hml, hown, hts⟩ (k_X8_dares l dC dI H.size mo tp vm vn wm tm hIM vix1 1 1 1) (cwV 4 hts gd_X8_dares rfl rfl rfl (by decide +kernel) ⟨Nat.le_of_ble_eq_true rfl, Nat.le_of_ble_eq_true rfl⟩) ⟨ax_blind (fun _ _ _ _ _ => trivial), va_recv hKm hPm (ci := 8) (q0 := 0) rfl hfs1476, ax_preE hPm hKm hDm (fun _ _ _ => trivial)⟩ rfl rfl hl.1 rfl (lv_room (Nat.le_of_ble_eq_true rfl)) dL_law_1476 ⟨hcc, hss⟩) hS (fun q _ h => hFc q h) hFc (fun r1476 u t H1 locs ht hvm hw1476 hB hz1 hk1 hS => ?_)
        obtain ⟨wmn, tmn, ⟨vm1, vn1, km1, km2, q4m, hI1⟩, hP1, hK1, hD1⟩ := hB
        rw [ht] at hP1
        have hK1 := va_K.moved hvm.symm hK1
        obtain ⟨hPx, jmx⟩ := lg_step hPx (dj_symm jxm) hk1 hD1
        have jxm := dj_symm jmx
        obtain ⟨hPo, jmo⟩ := lg_step hPo jmo hk1 hD1
        have hD1 := hD1.weaken (fun _ _ _ h9 => hFc _ h9)
        clear hPm hDm hKm hFc hk1 hz1 hfs1476
        have hIM := hI1; have hPm := hP1; have hDm := hD1; have hKm := hK1; clear hI1 hP1 hD1 hK1
        clear ht; generalize H1 = H at hPx hPm hPo hS ⊢
        refine lv_pop hx hb dL_law_1479 rfl ?_
        refine lv_goto (tgt := 1941) hx hb dL_law_1480 (by decide) ?_
        have hWn : lr_5 vi1 vm1 := l5_no q4x q4m
        have hRn : lr_R tp vi1 vf1 vm1 vn1 := ⟨by rw [kx2 0 (by decide), km2 0 (by decide)]; exact hR.1, lr_keep (fun k9 h9 => kx1 k9 (kp_dis (by decide) h9)) (fun k9 h9 => kx2 k9 (kp_dis (by decide) h9)) (fun k9 h9 => km1 k9 (kp_dis (by decide) h9)) (fun k9 h9 => km2 k9 (kp_dis (by decide) h9)) hR.2⟩
        have hRn := And.intro hRn hWn
        exact kk _ _ _ _ _ (Nat.le_add_right _ _) (Nat.le_add_right _ _) ⟨tp, _, _, _, _, _, _, _, _, _, hIX, hIM, hRn, hKx, hKm, hPx, hPm, hPo, hDx, hDm, hDo, jxm, jxo, jmo⟩ hS (lv_sub hl [0, 1, 2, 3, 4] rfl)

set_option maxHeartbeats 4000000 in
set_option maxRecDepth 100000 in
theorem lc_43 {p : Program} {l : Launch} {e : Env} {s : State} {m : MethodId} {below : List Frame} {meth : Method} {c : Code} {b L : Nat} {xs : Nat → Int32} {A : Nat → Prop} {dC : Nat → ClassId} {dI : Nat → Nat → Nat} (hl0 : l.stackTraces = false) (hL : L ≤ 3072) (hA : ∀ q, s.heap.size ≤ q → A q) (hA2 : ∀ q, A q → s.heap.size ≤ q) (C0 : lw_At p s m meth c b L xs) (sd : Nat → Nat) (sa : Nat) (hE : lg_E A sd sa s) (x mo oa : Nat) (ko : ClassId) (hKo : va_K (dC, dI) vwCl [(ko, .long)] s) (i : Int32) (hi0 : (0 : Int) ≤ i.toInt) (hi6 : i.toInt + 6 ≤ (L : Int)) {H : Heap} {locs : List Loc} {cells slots : Nat} (hc9 : cells + 1 ≤ 601024) (hs9 : slots + 6 ≤ 7293034) (hG : lg_S dC dI A s x mo oa ko H) (hS : va_S A s.heap H locs) {ls : Array Slot} (hl : lv_has ls 7 [(4, .int i), (3, .ref oa), (2, .ref mo), (1, .ref x), (0, .ref b)])
    (kk : ∀ (H : Heap) (locs : List Loc) (ls : Array Slot) (k9 n9 : Nat), k9 ≤ cells + 1 → n9 ≤ slots + 6 → lg_S dC dI A s x mo oa ko H → va_S A s.heap H locs → lv_has ls 7 [(4, .int i), (3, .ref oa), (2, .ref mo), (1, .ref x), (0, .ref b)] → W p l e room_1 s m #[Value.ref b] below meth c H locs k9 n9 (lw_Z below #[Value.ref b] s) (F0 m 1941 ls [])) : W p l e room_1 s m #[Value.ref b] below meth c H locs cells slots (lw_Z below #[Value.ref b] s) (F0 m 1483 ls []) := by
  obtain ⟨hx, hb, hr, hml, hown0, htl, hX, hbl, hlocks, hgv⟩ := id C0
  have hown : s.vm.findClass RL = some m.cls := hown0
  have hts : ∀ w ∈ wlT, w.before #[Value.ref b] s = true := fun w h => htl w (wlT_in w h)
  have hbA : ¬ A b := fun h => absurd (hA2 b h) (Nat.not_le.mpr hbl)
  obtain ⟨tp, wx, wm, tx, tm, fo, vi, vf, vm, vn, hIX, hIM, ⟨hR, hW⟩, hKx, hKm, hPx, hPm, hPo, hDx, hDm, hDo, jxm, jxo, jmo⟩ := hG
  have hiM : i.toInt ≤ (3066 : Int) := by omega
  have hcc : cells ≤ 601024 := by omega
  have hss : slots ≤ 7293034 := by omega
  have htpb := ix_tp hIX
  refine lv_aload_n hx hb dL_law_1483 rfl (lv_at hl 3 rfl) ?_
  refine lv_aload_n hx hb dL_law_1484 rfl (lv_at hl 4 rfl) ?_
  refine lv_iload hx hb dL_law_1485 (lv_at hl 0 rfl) ?_
  refine lv_iconst (v := 1) hx hb dL_law_1487 zk_iconst_1 ?_
  refine lv_iadd hx hb dL_law_1488 ?_
  refine lv_topi (fun ix1 eix1 => ?_)
  have qix1 : ix1.toInt = i.toInt + 1 := ai_add eix1 ⟨hi0, hiM⟩ ⟨zq1, zq0⟩ (by decide) (by decide)
  refine va_sld (L := L) (i := ix1) hx hb hX hbl hbA hS (vp_in_iff.mpr ⟨by omega, by omega⟩) dL_law_1489 ?_
  refine lv_topi (fun vix1 evix1 => ?_)
  have hFc := lg_free hDx hS hA
  obtain ⟨fs1490, hfs1490⟩ := ix_recv hIX
  refine va_calli (va_runV (As := [.int vix1]) (rest := []) ⟨hx, hb, hml, hown, hts⟩ (k_X7_rests l dC dI H.size x tp vi vf wx tx hIX vix1) (cwV 1 hts gd_X7_rests rfl rfl rfl (by decide +kernel) ⟨Nat.le_of_ble_eq_true rfl, Nat.le_of_ble_eq_true rfl⟩) ⟨ax_blind (fun _ _ _ _ _ => trivial), va_recv hKx hPx (ci := 7) (q0 := 0) rfl hfs1490, ax_preE hPx hKx hDx (fun _ _ _ => trivial)⟩ rfl rfl hl.1 rfl (lv_room (Nat.le_of_ble_eq_true rfl)) dL_law_1490 ⟨hcc, hss⟩) hS (fun q _ h => hFc q h) hFc (fun r1490 u t H1 locs ht hvm hw1490 hB hz1 hk1 hS => ?_)
  obtain ⟨wxn, txn, ⟨vi1, vf1, kx1, kx2, q4x, hI1⟩, hP1, hK1, hD1⟩ := hB
  rw [ht] at hP1
  have hK1 := va_K.moved hvm.symm hK1
  obtain ⟨hPm, jxm⟩ := lg_step hPm jxm hk1 hD1
  obtain ⟨hPo, jxo⟩ := lg_step hPo jxo hk1 hD1
  have hD1 := hD1.weaken (fun _ _ _ h9 => hFc _ h9)
  clear hPx hDx hKx hFc hk1 hz1 hfs1490
  have hIX := hI1; have hPx := hP1; have hDx := hD1; have hKx := hK1; clear hI1 hP1 hD1 hK1
  clear ht; generalize H1 = H at hPx hPm hPo hS ⊢
  refine lv_pop hx hb dL_law_1493 rfl ?_
  refine lv_aload_n hx hb dL_law_1494 rfl (lv_at hl 2 rfl) ?_
  refine lv_aload_n hx hb dL_law_1495 rfl (lv_at hl 4 rfl) ?_
  refine lv_iload hx hb dL_law_1496 (lv_at hl 0 rfl) ?_
  refine lv_iconst (v := 1) hx hb dL_law_1498 zk_iconst_1 ?_
  refine lv_iadd hx hb dL_law_1499 ?_
  refine ax_ti ix1 eix1.symm ?_
  refine va_sld (L := L) (i := ix1) hx hb hX hbl hbA hS (vp_in_iff.mpr ⟨by omega, by omega⟩) dL_law_1500 ?_
  refine ax_ti vix1 evix1.symm ?_
  have hFc := lg_free hDm hS hA
  obtain ⟨fs1501, hfs1501⟩ := im_recv hIM
  refine va_calli (va_runV (As := [.int vix1]) (rest := []) ⟨hx, hb, hml, hown, hts⟩ (k_X8_rests l dC dI H.size mo tp vm vn wm tm hIM vix1) (cwV 1 hts gd_X8_rests rfl rfl rfl (by decide +kernel) ⟨Nat.le_of_ble_eq_true rfl, Nat.le_of_ble_eq_true rfl⟩) ⟨ax_blind (fun _ _ _ _ _ => trivial), va_recv hKm hPm (ci := 8) (q0 := 0) rfl hfs1501, ax_preE hPm hKm hDm (fun _ _ _ => trivial)⟩ rfl rfl hl.1 rfl (lv_room (Nat.le_of_ble_eq_true rfl)) dL_law_1501 ⟨hcc, hss⟩) hS (fun q _ h => hFc q h) hFc (fun r1501 u t H1 locs ht hvm hw1501 hB hz1 hk1 hS => ?_)
  obtain ⟨wmn, tmn, ⟨vm1, vn1, km1, km2, q4m, hI1⟩, hP1, hK1, hD1⟩ := hB
  rw [ht] at hP1
  have hK1 := va_K.moved hvm.symm hK1
  obtain ⟨hPx, jmx⟩ := lg_step hPx (dj_symm jxm) hk1 hD1
  have jxm := dj_symm jmx
  obtain ⟨hPo, jmo⟩ := lg_step hPo jmo hk1 hD1
  have hD1 := hD1.weaken (fun _ _ _ h9 => hFc _ h9)
  clear hPm hDm hKm hFc hk1 hz1 hfs1501
  have hIM := hI1; have hPm := hP1; have hDm := hD1; have hKm := hK1; clear hI1 hP1 hD1 hK1
  clear ht; generalize H1 = H at hPx hPm hPo hS ⊢
  refine lv_pop hx hb dL_law_1504 rfl ?_
  refine lv_goto (tgt := 1941) hx hb dL_law_1505 (by decide) ?_
  have hWn : lr_5 vi1 vm1 := l5_no q4x q4m
  have hRn : lr_R tp vi1 vf1 vm1 vn1 := ⟨by rw [kx2 0 (by decide), km2 0 (by decide)]; exact hR.1, lr_keep (fun k9 h9 => kx1 k9 (kp_dis (by decide) h9)) (fun k9 h9 => kx2 k9 (kp_dis (by decide) h9)) (fun k9 h9 => km1 k9 (kp_dis (by decide) h9)) (fun k9 h9 => km2 k9 (kp_dis (by decide) h9)) hR.2⟩
  have hRn := And.intro hRn hWn
  exact kk _ _ _ _ _ (Nat.le_add_right _ _) (Nat.le_add_right _ _) ⟨tp, _, _, _, _, _, _, _, _, _, hIX, hIM, hRn, hKx, hKm, hPx, hPm, hPo, hDx, hDm, hDo, jxm, jxo, jmo⟩ hS (lv_sub hl [0, 1, 2, 3, 4] rfl)

set_option maxHeartbeats 4000000 in
set_option maxRecDepth 100000 in
theorem lc_44 {p : Program} {l : Launch} {e : Env} {s : State} {m : MethodId} {below : List Frame} {meth : Method} {c : Code} {b L : Nat} {xs : Nat → Int32} {A : Nat → Prop} {dC : Nat → ClassId} {dI : Nat → Nat → Nat} (hl0 : l.stackTraces = false) (hL : L ≤ 3072) (hA : ∀ q, s.heap.size ≤ q → A q) (hA2 : ∀ q, A q → s.heap.size ≤ q) (C0 : lw_At p s m meth c b L xs) (sd : Nat → Nat) (sa : Nat) (hE : lg_E A sd sa s) (x mo oa : Nat) (ko : ClassId) (hKo : va_K (dC, dI) vwCl [(ko, .long)] s) (i : Int32) (hi0 : (0 : Int) ≤ i.toInt) (hi6 : i.toInt + 6 ≤ (L : Int)) {H : Heap} {locs : List Loc} {cells slots : Nat} (hc9 : cells + 1 ≤ 601024) (hs9 : slots + 6 ≤ 7293034) (hG : lg_S dC dI A s x mo oa ko H) (hS : va_S A s.heap H locs) {ls : Array Slot} (hl : lv_has ls 7 [(4, .int i), (3, .ref oa), (2, .ref mo), (1, .ref x), (0, .ref b)])
    (kk : ∀ (H : Heap) (locs : List Loc) (ls : Array Slot) (k9 n9 : Nat), k9 ≤ cells + 1 → n9 ≤ slots + 6 → lg_S dC dI A s x mo oa ko H → va_S A s.heap H locs → lv_has ls 7 [(4, .int i), (3, .ref oa), (2, .ref mo), (1, .ref x), (0, .ref b)] → W p l e room_1 s m #[Value.ref b] below meth c H locs k9 n9 (lw_Z below #[Value.ref b] s) (F0 m 1941 ls [])) : W p l e room_1 s m #[Value.ref b] below meth c H locs cells slots (lw_Z below #[Value.ref b] s) (F0 m 1508 ls []) := by
  obtain ⟨hx, hb, hr, hml, hown0, htl, hX, hbl, hlocks, hgv⟩ := id C0
  have hown : s.vm.findClass RL = some m.cls := hown0
  have hts : ∀ w ∈ wlT, w.before #[Value.ref b] s = true := fun w h => htl w (wlT_in w h)
  have hbA : ¬ A b := fun h => absurd (hA2 b h) (Nat.not_le.mpr hbl)
  obtain ⟨tp, wx, wm, tx, tm, fo, vi, vf, vm, vn, hIX, hIM, ⟨hR, hW⟩, hKx, hKm, hPx, hPm, hPo, hDx, hDm, hDo, jxm, jxo, jmo⟩ := hG
  have hiM : i.toInt ≤ (3066 : Int) := by omega
  have hcc : cells ≤ 601024 := by omega
  have hss : slots ≤ 7293034 := by omega
  have htpb := ix_tp hIX
  refine lv_aload_n hx hb dL_law_1508 rfl (lv_at hl 3 rfl) ?_
  refine lv_aload_n hx hb dL_law_1509 rfl (lv_at hl 4 rfl) ?_
  refine lv_iload hx hb dL_law_1510 (lv_at hl 0 rfl) ?_
  refine lv_iconst (v := 1) hx hb dL_law_1512 zk_iconst_1 ?_
  refine lv_iadd hx hb dL_law_1513 ?_
  refine lv_topi (fun ix1 eix1 => ?_)
  have qix1 : ix1.toInt = i.toInt + 1 := ai_add eix1 ⟨hi0, hiM⟩ ⟨zq1, zq0⟩ (by decide) (by decide)
  refine va_sld (L := L) (i := ix1) hx hb hX hbl hbA hS (vp_in_iff.mpr ⟨by omega, by omega⟩) dL_law_1514 ?_
  refine lv_topi (fun vix1 evix1 => ?_)
  have hFc := lg_free hDx hS hA
  obtain ⟨fs1515, hfs1515⟩ := ix_recv hIX
  refine va_calli (va_runV (As := [.int vix1]) (rest := []) ⟨hx, hb, hml, hown, hts⟩ (k_X7_rest l dC dI H.size x tp vi vf wx tx hIX vix1) (cwV 1 hts gd_X7_rest rfl rfl rfl (by decide +kernel) ⟨Nat.le_of_ble_eq_true rfl, Nat.le_of_ble_eq_true rfl⟩) ⟨ax_blind (fun _ _ _ _ _ => trivial), va_recv hKx hPx (ci := 7) (q0 := 0) rfl hfs1515, ax_preE hPx hKx hDx (fun _ _ _ => trivial)⟩ rfl rfl hl.1 rfl (lv_room (Nat.le_of_ble_eq_true rfl)) dL_law_1515 ⟨hcc, hss⟩) hS (fun q _ h => hFc q h) hFc (fun r1515 u t H1 locs ht hvm hw1515 hB hz1 hk1 hS => ?_)
  obtain ⟨wxn, txn, ⟨vi1, vf1, kx1, kx2, q4x, hI1⟩, hP1, hK1, hD1⟩ := hB
  rw [ht] at hP1
  have hK1 := va_K.moved hvm.symm hK1
  obtain ⟨hPm, jxm⟩ := lg_step hPm jxm hk1 hD1
  obtain ⟨hPo, jxo⟩ := lg_step hPo jxo hk1 hD1
  have hD1 := hD1.weaken (fun _ _ _ h9 => hFc _ h9)
  clear hPx hDx hKx hFc hk1 hz1 hfs1515
  have hIX := hI1; have hPx := hP1; have hDx := hD1; have hKx := hK1; clear hI1 hP1 hD1 hK1
  clear ht; generalize H1 = H at hPx hPm hPo hS ⊢
  refine lv_pop hx hb dL_law_1518 rfl ?_
  refine lv_aload_n hx hb dL_law_1519 rfl (lv_at hl 2 rfl) ?_
  refine lv_aload_n hx hb dL_law_1520 rfl (lv_at hl 4 rfl) ?_
  refine lv_iload hx hb dL_law_1521 (lv_at hl 0 rfl) ?_
  refine lv_iconst (v := 1) hx hb dL_law_1523 zk_iconst_1 ?_
  refine lv_iadd hx hb dL_law_1524 ?_
  refine ax_ti ix1 eix1.symm ?_
  refine va_sld (L := L) (i := ix1) hx hb hX hbl hbA hS (vp_in_iff.mpr ⟨by omega, by omega⟩) dL_law_1525 ?_
  refine ax_ti vix1 evix1.symm ?_
  have hFc := lg_free hDm hS hA
  obtain ⟨fs1526, hfs1526⟩ := im_recv hIM
  refine va_calli (va_runV (As := [.int vix1]) (rest := []) ⟨hx, hb, hml, hown, hts⟩ (k_X8_rest l dC dI H.size mo tp vm vn wm tm hIM vix1) (cwV 1 hts gd_X8_rest rfl rfl rfl (by decide +kernel) ⟨Nat.le_of_ble_eq_true rfl, Nat.le_of_ble_eq_true rfl⟩) ⟨ax_blind (fun _ _ _ _ _ => trivial), va_recv hKm hPm (ci := 8) (q0 := 0) rfl hfs1526, ax_preE hPm hKm hDm (fun _ _ _ => trivial)⟩ rfl rfl hl.1 rfl (lv_room (Nat.le_of_ble_eq_true rfl)) dL_law_1526 ⟨hcc, hss⟩) hS (fun q _ h => hFc q h) hFc (fun r1526 u t H1 locs ht hvm hw1526 hB hz1 hk1 hS => ?_)
  obtain ⟨wmn, tmn, ⟨vm1, vn1, km1, km2, q4m, hI1⟩, hP1, hK1, hD1⟩ := hB
  rw [ht] at hP1
  have hK1 := va_K.moved hvm.symm hK1
  obtain ⟨hPx, jmx⟩ := lg_step hPx (dj_symm jxm) hk1 hD1
  have jxm := dj_symm jmx
  obtain ⟨hPo, jmo⟩ := lg_step hPo jmo hk1 hD1
  have hD1 := hD1.weaken (fun _ _ _ h9 => hFc _ h9)
  clear hPm hDm hKm hFc hk1 hz1 hfs1526
  have hIM := hI1; have hPm := hP1; have hDm := hD1; have hKm := hK1; clear hI1 hP1 hD1 hK1
  clear ht; generalize H1 = H at hPx hPm hPo hS ⊢
  refine lv_pop hx hb dL_law_1529 rfl ?_
  refine lv_goto (tgt := 1941) hx hb dL_law_1530 (by decide) ?_
  have hWn : lr_5 vi1 vm1 := l5_no q4x q4m
  have hRn : lr_R tp vi1 vf1 vm1 vn1 := ⟨by rw [kx2 0 (by decide), km2 0 (by decide)]; exact hR.1, lr_keep (fun k9 h9 => kx1 k9 (kp_dis (by decide) h9)) (fun k9 h9 => kx2 k9 (kp_dis (by decide) h9)) (fun k9 h9 => km1 k9 (kp_dis (by decide) h9)) (fun k9 h9 => km2 k9 (kp_dis (by decide) h9)) hR.2⟩
  have hRn := And.intro hRn hWn
  exact kk _ _ _ _ _ (Nat.le_add_right _ _) (Nat.le_add_right _ _) ⟨tp, _, _, _, _, _, _, _, _, _, hIX, hIM, hRn, hKx, hKm, hPx, hPm, hPo, hDx, hDm, hDo, jxm, jxo, jmo⟩ hS (lv_sub hl [0, 1, 2, 3, 4] rfl)
end P443_cases_2
section P443_cases_3
set_option maxHeartbeats 4000000 in
set_option maxRecDepth 100000 in
theorem lc_45 {p : Program} {l : Launch} {e : Env} {s : State} {m : MethodId} {below : List Frame} {meth : Method} {c : Code} {b L : Nat} {xs : Nat → Int32} {A : Nat → Prop} {dC : Nat → ClassId} {dI : Nat → Nat → Nat} (hl0 : l.stackTraces = false) (hL : L ≤ 3072) (hA : ∀ q, s.heap.size ≤ q → A q) (hA2 : ∀ q, A q → s.heap.size ≤ q) (C0 : lw_At p s m meth c b L xs) (sd : Nat → Nat) (sa : Nat) (hE : lg_E A sd sa s) (x mo oa : Nat) (ko : ClassId) (hKo : va_K (dC, dI) vwCl [(ko, .long)] s) (i : Int32) (hi0 : (0 : Int) ≤ i.toInt) (hi6 : i.toInt + 6 ≤ (L : Int)) {H : Heap} {locs : List Loc} {cells slots : Nat} (hc9 : cells + 1 ≤ 601024) (hs9 : slots + 6 ≤ 7293034) (hG : lg_S dC dI A s x mo oa ko H) (hS : va_S A s.heap H locs) {ls : Array Slot} (hl : lv_has ls 7 [(4, .int i), (3, .ref oa), (2, .ref mo), (1, .ref x), (0, .ref b)])
    (kk : ∀ (H : Heap) (locs : List Loc) (ls : Array Slot) (k9 n9 : Nat), k9 ≤ cells + 1 → n9 ≤ slots + 6 → lg_S dC dI A s x mo oa ko H → va_S A s.heap H locs → lv_has ls 7 [(4, .int i), (3, .ref oa), (2, .ref mo), (1, .ref x), (0, .ref b)] → W p l e room_1 s m #[Value.ref b] below meth c H locs k9 n9 (lw_Z below #[Value.ref b] s) (F0 m 1941 ls [])) : W p l e room_1 s m #[Value.ref b] below meth c H locs cells slots (lw_Z below #[Value.ref b] s) (F0 m 1533 ls []) := by
  obtain ⟨hx, hb, hr, hml, hown0, htl, hX, hbl, hlocks, hgv⟩ := id C0
  have hown : s.vm.findClass RL = some m.cls := hown0
  have hts : ∀ w ∈ wlT, w.before #[Value.ref b] s = true := fun w h => htl w (wlT_in w h)
  have hbA : ¬ A b := fun h => absurd (hA2 b h) (Nat.not_le.mpr hbl)
  obtain ⟨tp, wx, wm, tx, tm, fo, vi, vf, vm, vn, hIX, hIM, ⟨hR, hW⟩, hKx, hKm, hPx, hPm, hPo, hDx, hDm, hDo, jxm, jxo, jmo⟩ := hG
  have hiM : i.toInt ≤ (3066 : Int) := by omega
  have hcc : cells ≤ 601024 := by omega
  have hss : slots ≤ 7293034 := by omega
  have htpb := ix_tp hIX
  refine lv_aload_n hx hb dL_law_1533 rfl (lv_at hl 3 rfl) ?_
  refine lv_aload_n hx hb dL_law_1534 rfl (lv_at hl 4 rfl) ?_
  refine lv_iload hx hb dL_law_1535 (lv_at hl 0 rfl) ?_
  refine lv_iconst (v := 1) hx hb dL_law_1537 zk_iconst_1 ?_
  refine lv_iadd hx hb dL_law_1538 ?_
  refine lv_topi (fun ix1 eix1 => ?_)
  have qix1 : ix1.toInt = i.toInt + 1 := ai_add eix1 ⟨hi0, hiM⟩ ⟨zq1, zq0⟩ (by decide) (by decide)
  refine va_sld (L := L) (i := ix1) hx hb hX hbl hbA hS (vp_in_iff.mpr ⟨by omega, by omega⟩) dL_law_1539 ?_
  refine lv_topi (fun vix1 evix1 => ?_)
  refine lv_aload_n hx hb dL_law_1540 rfl (lv_at hl 4 rfl) ?_
  refine lv_iload hx hb dL_law_1541 (lv_at hl 0 rfl) ?_
  refine lv_iconst (v := 2) hx hb dL_law_1543 zk_iconst_2 ?_
  refine lv_iadd hx hb dL_law_1544 ?_
  refine lv_topi (fun ix2 eix2 => ?_)
  have qix2 : ix2.toInt = i.toInt + 2 := ai_add eix2 ⟨hi0, hiM⟩ ⟨zq12, zq13⟩ (by decide) (by decide)
  refine va_sld (L := L) (i := ix2) hx hb hX hbl hbA hS (vp_in_iff.mpr ⟨by omega, by omega⟩) dL_law_1545 ?_
  refine lv_topi (fun vix2 evix2 => ?_)
  refine lv_aload_n hx hb dL_law_1546 rfl (lv_at hl 4 rfl) ?_
  refine lv_iload hx hb dL_law_1547 (lv_at hl 0 rfl) ?_
  refine lv_iconst (v := 3) hx hb dL_law_1549 zk_iconst_3 ?_
  refine lv_iadd hx hb dL_law_1550 ?_
  refine lv_topi (fun ix3 eix3 => ?_)
  have qix3 : ix3.toInt = i.toInt + 3 := ai_add eix3 ⟨hi0, hiM⟩ ⟨zq8, zq9⟩ (by decide) (by decide)
  refine va_sld (L := L) (i := ix3) hx hb hX hbl hbA hS (vp_in_iff.mpr ⟨by omega, by omega⟩) dL_law_1551 ?_
  refine lv_topi (fun vix3 evix3 => ?_)
  refine lv_if_eq (tgt := 1559) hx hb dL_law_1552 (by decide) (fun c_1 => ?_) (fun c_1 => ?_)
  · refine lv_iconst (v := 0) hx hb dL_law_1559 zk_iconst_0 ?_
    have hFc := lg_free hDx hS hA
    obtain ⟨fs1560, hfs1560⟩ := ix_recv hIX
    refine va_calll (va_runV (As := [.int vix1, .int vix2, .int 0]) (rest := []) ⟨hx, hb, hml, hown, hts⟩ (k_X7_odds l dC dI H.size x tp vi vf wx tx hIX vix1 vix2 0) (cwV 3 hts gd_X7_odds rfl rfl rfl (by decide +kernel) ⟨Nat.le_of_ble_eq_true rfl, Nat.le_of_ble_eq_true rfl⟩) ⟨ax_blind (fun _ _ _ _ _ => trivial), va_recv hKx hPx (ci := 7) (q0 := 0) rfl hfs1560, ax_preE hPx hKx hDx (fun _ _ _ => trivial)⟩ rfl rfl hl.1 rfl (lv_room (Nat.le_of_ble_eq_true rfl)) dL_law_1560 ⟨hcc, hss⟩) hS (fun q _ h => hFc q h) hFc (fun r1560 u t H1 locs ht hvm hw1560 hB hz1 hk1 hS => ?_)
    obtain ⟨wxn, txn, ⟨vi1, vf1, kx1, kx2, q4x, hI1⟩, hP1, hK1, hD1⟩ := hB
    rw [ht] at hP1
    have hK1 := va_K.moved hvm.symm hK1
    obtain ⟨hPm, jxm⟩ := lg_step hPm jxm hk1 hD1
    obtain ⟨hPo, jxo⟩ := lg_step hPo jxo hk1 hD1
    have hD1 := hD1.weaken (fun _ _ _ h9 => hFc _ h9)
    clear hPx hDx hKx hFc hk1 hz1 hfs1560
    have hIX := hI1; have hPx := hP1; have hDx := hD1; have hKx := hK1; clear hI1 hP1 hD1 hK1
    clear ht; generalize H1 = H at hPx hPm hPo hS ⊢
    refine lv_pop2_2 hx hb dL_law_1563 rfl ?_
    refine lv_aload_n hx hb dL_law_1564 rfl (lv_at hl 2 rfl) ?_
    refine lv_aload_n hx hb dL_law_1565 rfl (lv_at hl 4 rfl) ?_
    refine lv_iload hx hb dL_law_1566 (lv_at hl 0 rfl) ?_
    refine lv_iconst (v := 1) hx hb dL_law_1568 zk_iconst_1 ?_
    refine lv_iadd hx hb dL_law_1569 ?_
    refine ax_ti ix1 eix1.symm ?_
    refine va_sld (L := L) (i := ix1) hx hb hX hbl hbA hS (vp_in_iff.mpr ⟨by omega, by omega⟩) dL_law_1570 ?_
    refine ax_ti vix1 evix1.symm ?_
    refine lv_aload_n hx hb dL_law_1571 rfl (lv_at hl 4 rfl) ?_
    refine lv_iload hx hb dL_law_1572 (lv_at hl 0 rfl) ?_
    refine lv_iconst (v := 2) hx hb dL_law_1574 zk_iconst_2 ?_
    refine lv_iadd hx hb dL_law_1575 ?_
    refine ax_ti ix2 eix2.symm ?_
    refine va_sld (L := L) (i := ix2) hx hb hX hbl hbA hS (vp_in_iff.mpr ⟨by omega, by omega⟩) dL_law_1576 ?_
    refine ax_ti vix2 evix2.symm ?_
    refine lv_aload_n hx hb dL_law_1577 rfl (lv_at hl 4 rfl) ?_
    refine lv_iload hx hb dL_law_1578 (lv_at hl 0 rfl) ?_
    refine lv_iconst (v := 3) hx hb dL_law_1580 zk_iconst_3 ?_
    refine lv_iadd hx hb dL_law_1581 ?_
    refine ax_ti ix3 eix3.symm ?_
    refine va_sld (L := L) (i := ix3) hx hb hX hbl hbA hS (vp_in_iff.mpr ⟨by omega, by omega⟩) dL_law_1582 ?_
    refine ax_ti vix3 evix3.symm ?_
    refine lv_if_eq (tgt := 1590) hx hb dL_law_1583 (by decide) (fun _ => ?_) (fun c_2 => absurd c_1 c_2)
    refine lv_iconst (v := 0) hx hb dL_law_1590 zk_iconst_0 ?_
    have hFc := lg_free hDm hS hA
    obtain ⟨fs1591, hfs1591⟩ := im_recv hIM
    refine va_calll (va_runV (As := [.int vix1, .int vix2, .int 0]) (rest := []) ⟨hx, hb, hml, hown, hts⟩ (k_X8_odds l dC dI H.size mo tp vm vn wm tm hIM vix1 vix2 0) (cwV 3 hts gd_X8_odds rfl rfl rfl (by decide +kernel) ⟨Nat.le_of_ble_eq_true rfl, Nat.le_of_ble_eq_true rfl⟩) ⟨ax_blind (fun _ _ _ _ _ => trivial), va_recv hKm hPm (ci := 8) (q0 := 0) rfl hfs1591, ax_preE hPm hKm hDm (fun _ _ _ => trivial)⟩ rfl rfl hl.1 rfl (lv_room (Nat.le_of_ble_eq_true rfl)) dL_law_1591 ⟨hcc, hss⟩) hS (fun q _ h => hFc q h) hFc (fun r1591 u t H1 locs ht hvm hw1591 hB hz1 hk1 hS => ?_)
    obtain ⟨wmn, tmn, ⟨vm1, vn1, km1, km2, q4m, hI1⟩, hP1, hK1, hD1⟩ := hB
    rw [ht] at hP1
    have hK1 := va_K.moved hvm.symm hK1
    obtain ⟨hPx, jmx⟩ := lg_step hPx (dj_symm jxm) hk1 hD1
    have jxm := dj_symm jmx
    obtain ⟨hPo, jmo⟩ := lg_step hPo jmo hk1 hD1
    have hD1 := hD1.weaken (fun _ _ _ h9 => hFc _ h9)
    clear hPm hDm hKm hFc hk1 hz1 hfs1591
    have hIM := hI1; have hPm := hP1; have hDm := hD1; have hKm := hK1; clear hI1 hP1 hD1 hK1
    clear ht; generalize H1 = H at hPx hPm hPo hS ⊢
    refine lv_pop2_2 hx hb dL_law_1594 rfl ?_
    refine lv_goto (tgt := 1941) hx hb dL_law_1595 (by decide) ?_
    have hWn : lr_5 vi1 vm1 := l5_no q4x q4m
    have hRn : lr_R tp vi1 vf1 vm1 vn1 := ⟨by rw [kx2 0 (by decide), km2 0 (by decide)]; exact hR.1, lr_keep (fun k9 h9 => kx1 k9 (kp_dis (by decide) h9)) (fun k9 h9 => kx2 k9 (kp_dis (by decide) h9)) (fun k9 h9 => km1 k9 (kp_dis (by decide) h9)) (fun k9 h9 => km2 k9 (kp_dis (by decide) h9)) hR.2⟩
    have hRn := And.intro hRn hWn
    exact kk _ _ _ _ _ (Nat.le_add_right _ _) (Nat.le_add_right _ _) ⟨tp, _, _, _, _, _, _, _, _, _, hIX, hIM, hRn, hKx, hKm, hPx, hPm, hPo, hDx, hDm, hDo, jxm, jxo, jmo⟩ hS (lv_sub hl [0, 1, 2, 3, 4] rfl)
  · refine lv_iconst (v := 1) hx hb dL_law_1555 zk_iconst_1 ?_
    refine lv_goto (tgt := 1560) hx hb dL_law_1556 (by decide) ?_
    have hFc := lg_free hDx hS hA
    obtain ⟨fs1560, hfs1560⟩ := ix_recv hIX
    refine va_calll (va_runV (As := [.int vix1, .int vix2, .int 1]) (rest := []) ⟨hx, hb, hml, hown, hts⟩ (k_X7_odds l dC dI H.size x tp vi vf wx tx hIX vix1 vix2 1) (cwV 3 hts gd_X7_odds rfl rfl rfl (by decide +kernel) ⟨Nat.le_of_ble_eq_true rfl, Nat.le_of_ble_eq_true rfl⟩) ⟨ax_blind (fun _ _ _ _ _ => trivial), va_recv hKx hPx (ci := 7) (q0 := 0) rfl hfs1560, ax_preE hPx hKx hDx (fun _ _ _ => trivial)⟩ rfl rfl hl.1 rfl (lv_room (Nat.le_of_ble_eq_true rfl)) dL_law_1560 ⟨hcc, hss⟩) hS (fun q _ h => hFc q h) hFc (fun r1560 u t H1 locs ht hvm hw1560 hB hz1 hk1 hS => ?_)
    obtain ⟨wxn, txn, ⟨vi1, vf1, kx1, kx2, q4x, hI1⟩, hP1, hK1, hD1⟩ := hB
    rw [ht] at hP1
    have hK1 := va_K.moved hvm.symm hK1
    obtain ⟨hPm, jxm⟩ := lg_step hPm jxm hk1 hD1
    obtain ⟨hPo, jxo⟩ := lg_step hPo jxo hk1 hD1
    have hD1 := hD1.weaken (fun _ _ _ h9 => hFc _ h9)
    clear hPx hDx hKx hFc hk1 hz1 hfs1560
    have hIX := hI1; have hPx := hP1; have hDx := hD1; have hKx := hK1; clear hI1 hP1 hD1 hK1
    clear ht; generalize H1 = H at hPx hPm hPo hS ⊢
    refine lv_pop2_2 hx hb dL_law_1563 rfl ?_
    refine lv_aload_n hx hb dL_law_1564 rfl (lv_at hl 2 rfl) ?_
    refine lv_aload_n hx hb dL_law_1565 rfl (lv_at hl 4 rfl) ?_
    refine lv_iload hx hb dL_law_1566 (lv_at hl 0 rfl) ?_
    refine lv_iconst (v := 1) hx hb dL_law_1568 zk_iconst_1 ?_
    refine lv_iadd hx hb dL_law_1569 ?_
    refine ax_ti ix1 eix1.symm ?_
    refine va_sld (L := L) (i := ix1) hx hb hX hbl hbA hS (vp_in_iff.mpr ⟨by omega, by omega⟩) dL_law_1570 ?_
    refine ax_ti vix1 evix1.symm ?_
    refine lv_aload_n hx hb dL_law_1571 rfl (lv_at hl 4 rfl) ?_
    refine lv_iload hx hb dL_law_1572 (lv_at hl 0 rfl) ?_
    refine lv_iconst (v := 2) hx hb dL_law_1574 zk_iconst_2 ?_
    refine lv_iadd hx hb dL_law_1575 ?_
    refine ax_ti ix2 eix2.symm ?_
    refine va_sld (L := L) (i := ix2) hx hb hX hbl hbA hS (vp_in_iff.mpr ⟨by omega, by omega⟩) dL_law_1576 ?_
    refine ax_ti vix2 evix2.symm ?_
    refine lv_aload_n hx hb dL_law_1577 rfl (lv_at hl 4 rfl) ?_
    refine lv_iload hx hb dL_law_1578 (lv_at hl 0 rfl) ?_
    refine lv_iconst (v := 3) hx hb dL_law_1580 zk_iconst_3 ?_
    refine lv_iadd hx hb dL_law_1581 ?_
    refine ax_ti ix3 eix3.symm ?_
    refine va_sld (L := L) (i := ix3) hx hb hX hbl hbA hS (vp_in_iff.mpr ⟨by omega, by omega⟩) dL_law_1582 ?_
    refine ax_ti vix3 evix3.symm ?_
    refine lv_if_eq (tgt := 1590) hx hb dL_law_1583 (by decide) (fun c_3 => absurd c_3 c_1) (fun _ => ?_)
    refine lv_iconst (v := 1) hx hb dL_law_1586 zk_iconst_1 ?_
    refine lv_goto (tgt := 1591) hx hb dL_law_1587 (by decide) ?_
    have hFc := lg_free hDm hS hA
    obtain ⟨fs1591, hfs1591⟩ := im_recv hIM
    refine va_calll (va_runV (As := [.int vix1, .int vix2, .int 1]) (rest := []) ⟨hx, hb, hml, hown, hts⟩ (k_X8_odds l dC dI H.size mo tp vm vn wm tm hIM vix1 vix2 1) (cwV 3 hts gd_X8_odds rfl rfl rfl (by decide +kernel) ⟨Nat.le_of_ble_eq_true rfl, Nat.le_of_ble_eq_true rfl⟩) ⟨ax_blind (fun _ _ _ _ _ => trivial), va_recv hKm hPm (ci := 8) (q0 := 0) rfl hfs1591, ax_preE hPm hKm hDm (fun _ _ _ => trivial)⟩ rfl rfl hl.1 rfl (lv_room (Nat.le_of_ble_eq_true rfl)) dL_law_1591 ⟨hcc, hss⟩) hS (fun q _ h => hFc q h) hFc (fun r1591 u t H1 locs ht hvm hw1591 hB hz1 hk1 hS => ?_)
    obtain ⟨wmn, tmn, ⟨vm1, vn1, km1, km2, q4m, hI1⟩, hP1, hK1, hD1⟩ := hB
    rw [ht] at hP1
    have hK1 := va_K.moved hvm.symm hK1
    obtain ⟨hPx, jmx⟩ := lg_step hPx (dj_symm jxm) hk1 hD1
    have jxm := dj_symm jmx
    obtain ⟨hPo, jmo⟩ := lg_step hPo jmo hk1 hD1
    have hD1 := hD1.weaken (fun _ _ _ h9 => hFc _ h9)
    clear hPm hDm hKm hFc hk1 hz1 hfs1591
    have hIM := hI1; have hPm := hP1; have hDm := hD1; have hKm := hK1; clear hI1 hP1 hD1 hK1
    clear ht; generalize H1 = H at hPx hPm hPo hS ⊢
    refine lv_pop2_2 hx hb dL_law_1594 rfl ?_
    refine lv_goto (tgt := 1941) hx hb dL_law_1595 (by decide) ?_
    have hWn : lr_5 vi1 vm1 := l5_no q4x q4m
    have hRn : lr_R tp vi1 vf1 vm1 vn1 := ⟨by rw [kx2 0 (by decide), km2 0 (by decide)]; exact hR.1, lr_keep (fun k9 h9 => kx1 k9 (kp_dis (by decide) h9)) (fun k9 h9 => kx2 k9 (kp_dis (by decide) h9)) (fun k9 h9 => km1 k9 (kp_dis (by decide) h9)) (fun k9 h9 => km2 k9 (kp_dis (by decide) h9)) hR.2⟩
    have hRn := And.intro hRn hWn
    exact kk _ _ _ _ _ (Nat.le_add_right _ _) (Nat.le_add_right _ _) ⟨tp, _, _, _, _, _, _, _, _, _, hIX, hIM, hRn, hKx, hKm, hPx, hPm, hPo, hDx, hDm, hDo, jxm, jxo, jmo⟩ hS (lv_sub hl [0, 1, 2, 3, 4] rfl)

set_option maxHeartbeats 4000000 in
set_option maxRecDepth 100000 in
theorem lc_46 {p : Program} {l : Launch} {e : Env} {s : State} {m : MethodId} {below : List Frame} {meth : Method} {c : Code} {b L : Nat} {xs : Nat → Int32} {A : Nat → Prop} {dC : Nat → ClassId} {dI : Nat → Nat → Nat} (hl0 : l.stackTraces = false) (hL : L ≤ 3072) (hA : ∀ q, s.heap.size ≤ q → A q) (hA2 : ∀ q, A q → s.heap.size ≤ q) (C0 : lw_At p s m meth c b L xs) (sd : Nat → Nat) (sa : Nat) (hE : lg_E A sd sa s) (x mo oa : Nat) (ko : ClassId) (hKo : va_K (dC, dI) vwCl [(ko, .long)] s) (i : Int32) (hi0 : (0 : Int) ≤ i.toInt) (hi6 : i.toInt + 6 ≤ (L : Int)) {H : Heap} {locs : List Loc} {cells slots : Nat} (hc9 : cells + 1 ≤ 601024) (hs9 : slots + 6 ≤ 7293034) (hG : lg_S dC dI A s x mo oa ko H) (hS : va_S A s.heap H locs) {ls : Array Slot} (hl : lv_has ls 7 [(4, .int i), (3, .ref oa), (2, .ref mo), (1, .ref x), (0, .ref b)])
    (kk : ∀ (H : Heap) (locs : List Loc) (ls : Array Slot) (k9 n9 : Nat), k9 ≤ cells + 1 → n9 ≤ slots + 6 → lg_S dC dI A s x mo oa ko H → va_S A s.heap H locs → lv_has ls 7 [(4, .int i), (3, .ref oa), (2, .ref mo), (1, .ref x), (0, .ref b)] → W p l e room_1 s m #[Value.ref b] below meth c H locs k9 n9 (lw_Z below #[Value.ref b] s) (F0 m 1941 ls [])) : W p l e room_1 s m #[Value.ref b] below meth c H locs cells slots (lw_Z below #[Value.ref b] s) (F0 m 1598 ls []) := by
  obtain ⟨hx, hb, hr, hml, hown0, htl, hX, hbl, hlocks, hgv⟩ := id C0
  have hown : s.vm.findClass RL = some m.cls := hown0
  have hts : ∀ w ∈ wlT, w.before #[Value.ref b] s = true := fun w h => htl w (wlT_in w h)
  have hbA : ¬ A b := fun h => absurd (hA2 b h) (Nat.not_le.mpr hbl)
  obtain ⟨tp, wx, wm, tx, tm, fo, vi, vf, vm, vn, hIX, hIM, ⟨hR, hW⟩, hKx, hKm, hPx, hPm, hPo, hDx, hDm, hDo, jxm, jxo, jmo⟩ := hG
  have hiM : i.toInt ≤ (3066 : Int) := by omega
  have hcc : cells ≤ 601024 := by omega
  have hss : slots ≤ 7293034 := by omega
  have htpb := ix_tp hIX
  refine lv_aload_n hx hb dL_law_1598 rfl (lv_at hl 3 rfl) ?_
  refine lv_aload_n hx hb dL_law_1599 rfl (lv_at hl 4 rfl) ?_
  refine lv_iload hx hb dL_law_1600 (lv_at hl 0 rfl) ?_
  refine lv_iconst (v := 1) hx hb dL_law_1602 zk_iconst_1 ?_
  refine lv_iadd hx hb dL_law_1603 ?_
  refine lv_topi (fun ix1 eix1 => ?_)
  have qix1 : ix1.toInt = i.toInt + 1 := ai_add eix1 ⟨hi0, hiM⟩ ⟨zq1, zq0⟩ (by decide) (by decide)
  refine va_sld (L := L) (i := ix1) hx hb hX hbl hbA hS (vp_in_iff.mpr ⟨by omega, by omega⟩) dL_law_1604 ?_
  refine lv_topi (fun vix1 evix1 => ?_)
  refine lv_aload_n hx hb dL_law_1605 rfl (lv_at hl 4 rfl) ?_
  refine lv_iload hx hb dL_law_1606 (lv_at hl 0 rfl) ?_
  refine lv_iconst (v := 2) hx hb dL_law_1608 zk_iconst_2 ?_
  refine lv_iadd hx hb dL_law_1609 ?_
  refine lv_topi (fun ix2 eix2 => ?_)
  have qix2 : ix2.toInt = i.toInt + 2 := ai_add eix2 ⟨hi0, hiM⟩ ⟨zq12, zq13⟩ (by decide) (by decide)
  refine va_sld (L := L) (i := ix2) hx hb hX hbl hbA hS (vp_in_iff.mpr ⟨by omega, by omega⟩) dL_law_1610 ?_
  refine lv_topi (fun vix2 evix2 => ?_)
  refine lv_aload_n hx hb dL_law_1611 rfl (lv_at hl 4 rfl) ?_
  refine lv_iload hx hb dL_law_1612 (lv_at hl 0 rfl) ?_
  refine lv_iconst (v := 3) hx hb dL_law_1614 zk_iconst_3 ?_
  refine lv_iadd hx hb dL_law_1615 ?_
  refine lv_topi (fun ix3 eix3 => ?_)
  have qix3 : ix3.toInt = i.toInt + 3 := ai_add eix3 ⟨hi0, hiM⟩ ⟨zq8, zq9⟩ (by decide) (by decide)
  refine va_sld (L := L) (i := ix3) hx hb hX hbl hbA hS (vp_in_iff.mpr ⟨by omega, by omega⟩) dL_law_1616 ?_
  refine lv_topi (fun vix3 evix3 => ?_)
  refine lv_if_eq (tgt := 1624) hx hb dL_law_1617 (by decide) (fun c_1 => ?_) (fun c_1 => ?_)
  · refine lv_iconst (v := 0) hx hb dL_law_1624 zk_iconst_0 ?_
    have hFc := lg_free hDx hS hA
    obtain ⟨fs1625, hfs1625⟩ := ix_recv hIX
    refine va_calll (va_runV (As := [.int vix1, .int vix2, .int 0]) (rest := []) ⟨hx, hb, hml, hown, hts⟩ (k_X7_mean l dC dI H.size x tp vi vf wx tx hIX vix1 vix2 0) (cwV 3 hts gd_X7_mean rfl rfl rfl (by decide +kernel) ⟨Nat.le_of_ble_eq_true rfl, Nat.le_of_ble_eq_true rfl⟩) ⟨ax_blind (fun _ _ _ _ _ => trivial), va_recv hKx hPx (ci := 7) (q0 := 0) rfl hfs1625, ax_preE hPx hKx hDx (fun _ _ _ => trivial)⟩ rfl rfl hl.1 rfl (lv_room (Nat.le_of_ble_eq_true rfl)) dL_law_1625 ⟨hcc, hss⟩) hS (fun q _ h => hFc q h) hFc (fun r1625 u t H1 locs ht hvm hw1625 hB hz1 hk1 hS => ?_)
    obtain ⟨wxn, txn, ⟨vi1, vf1, kx1, kx2, q4x, hI1⟩, hP1, hK1, hD1⟩ := hB
    rw [ht] at hP1
    have hK1 := va_K.moved hvm.symm hK1
    obtain ⟨hPm, jxm⟩ := lg_step hPm jxm hk1 hD1
    obtain ⟨hPo, jxo⟩ := lg_step hPo jxo hk1 hD1
    have hD1 := hD1.weaken (fun _ _ _ h9 => hFc _ h9)
    clear hPx hDx hKx hFc hk1 hz1 hfs1625
    have hIX := hI1; have hPx := hP1; have hDx := hD1; have hKx := hK1; clear hI1 hP1 hD1 hK1
    clear ht; generalize H1 = H at hPx hPm hPo hS ⊢
    refine lv_pop2_2 hx hb dL_law_1628 rfl ?_
    refine lv_aload_n hx hb dL_law_1629 rfl (lv_at hl 2 rfl) ?_
    refine lv_aload_n hx hb dL_law_1630 rfl (lv_at hl 4 rfl) ?_
    refine lv_iload hx hb dL_law_1631 (lv_at hl 0 rfl) ?_
    refine lv_iconst (v := 1) hx hb dL_law_1633 zk_iconst_1 ?_
    refine lv_iadd hx hb dL_law_1634 ?_
    refine ax_ti ix1 eix1.symm ?_
    refine va_sld (L := L) (i := ix1) hx hb hX hbl hbA hS (vp_in_iff.mpr ⟨by omega, by omega⟩) dL_law_1635 ?_
    refine ax_ti vix1 evix1.symm ?_
    refine lv_aload_n hx hb dL_law_1636 rfl (lv_at hl 4 rfl) ?_
    refine lv_iload hx hb dL_law_1637 (lv_at hl 0 rfl) ?_
    refine lv_iconst (v := 2) hx hb dL_law_1639 zk_iconst_2 ?_
    refine lv_iadd hx hb dL_law_1640 ?_
    refine ax_ti ix2 eix2.symm ?_
    refine va_sld (L := L) (i := ix2) hx hb hX hbl hbA hS (vp_in_iff.mpr ⟨by omega, by omega⟩) dL_law_1641 ?_
    refine ax_ti vix2 evix2.symm ?_
    refine lv_aload_n hx hb dL_law_1642 rfl (lv_at hl 4 rfl) ?_
    refine lv_iload hx hb dL_law_1643 (lv_at hl 0 rfl) ?_
    refine lv_iconst (v := 3) hx hb dL_law_1645 zk_iconst_3 ?_
    refine lv_iadd hx hb dL_law_1646 ?_
    refine ax_ti ix3 eix3.symm ?_
    refine va_sld (L := L) (i := ix3) hx hb hX hbl hbA hS (vp_in_iff.mpr ⟨by omega, by omega⟩) dL_law_1647 ?_
    refine ax_ti vix3 evix3.symm ?_
    refine lv_if_eq (tgt := 1655) hx hb dL_law_1648 (by decide) (fun _ => ?_) (fun c_2 => absurd c_1 c_2)
    refine lv_iconst (v := 0) hx hb dL_law_1655 zk_iconst_0 ?_
    have hFc := lg_free hDm hS hA
    obtain ⟨fs1656, hfs1656⟩ := im_recv hIM
    refine va_calll (va_runV (As := [.int vix1, .int vix2, .int 0]) (rest := []) ⟨hx, hb, hml, hown, hts⟩ (k_X8_mean l dC dI H.size mo tp vm vn wm tm hIM vix1 vix2 0) (cwV 3 hts gd_X8_mean rfl rfl rfl (by decide +kernel) ⟨Nat.le_of_ble_eq_true rfl, Nat.le_of_ble_eq_true rfl⟩) ⟨ax_blind (fun _ _ _ _ _ => trivial), va_recv hKm hPm (ci := 8) (q0 := 0) rfl hfs1656, ax_preE hPm hKm hDm (fun _ _ _ => trivial)⟩ rfl rfl hl.1 rfl (lv_room (Nat.le_of_ble_eq_true rfl)) dL_law_1656 ⟨hcc, hss⟩) hS (fun q _ h => hFc q h) hFc (fun r1656 u t H1 locs ht hvm hw1656 hB hz1 hk1 hS => ?_)
    obtain ⟨wmn, tmn, ⟨vm1, vn1, km1, km2, q4m, hI1⟩, hP1, hK1, hD1⟩ := hB
    rw [ht] at hP1
    have hK1 := va_K.moved hvm.symm hK1
    obtain ⟨hPx, jmx⟩ := lg_step hPx (dj_symm jxm) hk1 hD1
    have jxm := dj_symm jmx
    obtain ⟨hPo, jmo⟩ := lg_step hPo jmo hk1 hD1
    have hD1 := hD1.weaken (fun _ _ _ h9 => hFc _ h9)
    clear hPm hDm hKm hFc hk1 hz1 hfs1656
    have hIM := hI1; have hPm := hP1; have hDm := hD1; have hKm := hK1; clear hI1 hP1 hD1 hK1
    clear ht; generalize H1 = H at hPx hPm hPo hS ⊢
    refine lv_pop2_2 hx hb dL_law_1659 rfl ?_
    refine lv_goto (tgt := 1941) hx hb dL_law_1660 (by decide) ?_
    have hWn : lr_5 vi1 vm1 := l5_no q4x q4m
    have hRn : lr_R tp vi1 vf1 vm1 vn1 := ⟨by rw [kx2 0 (by decide), km2 0 (by decide)]; exact hR.1, lr_keep (fun k9 h9 => kx1 k9 (kp_dis (by decide) h9)) (fun k9 h9 => kx2 k9 (kp_dis (by decide) h9)) (fun k9 h9 => km1 k9 (kp_dis (by decide) h9)) (fun k9 h9 => km2 k9 (kp_dis (by decide) h9)) hR.2⟩
    have hRn := And.intro hRn hWn
    exact kk _ _ _ _ _ (Nat.le_add_right _ _) (Nat.le_add_right _ _) ⟨tp, _, _, _, _, _, _, _, _, _, hIX, hIM, hRn, hKx, hKm, hPx, hPm, hPo, hDx, hDm, hDo, jxm, jxo, jmo⟩ hS (lv_sub hl [0, 1, 2, 3, 4] rfl)
  · refine lv_iconst (v := 1) hx hb dL_law_1620 zk_iconst_1 ?_
    refine lv_goto (tgt := 1625) hx hb dL_law_1621 (by decide) ?_
    have hFc := lg_free hDx hS hA
    obtain ⟨fs1625, hfs1625⟩ := ix_recv hIX
    refine va_calll (va_runV (As := [.int vix1, .int vix2, .int 1]) (rest := []) ⟨hx, hb, hml, hown, hts⟩ (k_X7_mean l dC dI H.size x tp vi vf wx tx hIX vix1 vix2 1) (cwV 3 hts gd_X7_mean rfl rfl rfl (by decide +kernel) ⟨Nat.le_of_ble_eq_true rfl, Nat.le_of_ble_eq_true rfl⟩) ⟨ax_blind (fun _ _ _ _ _ => trivial), va_recv hKx hPx (ci := 7) (q0 := 0) rfl hfs1625, ax_preE hPx hKx hDx (fun _ _ _ => trivial)⟩ rfl rfl hl.1 rfl (lv_room (Nat.le_of_ble_eq_true rfl)) dL_law_1625 ⟨hcc, hss⟩) hS (fun q _ h => hFc q h) hFc (fun r1625 u t H1 locs ht hvm hw1625 hB hz1 hk1 hS => ?_)
    obtain ⟨wxn, txn, ⟨vi1, vf1, kx1, kx2, q4x, hI1⟩, hP1, hK1, hD1⟩ := hB
    rw [ht] at hP1
    have hK1 := va_K.moved hvm.symm hK1
    obtain ⟨hPm, jxm⟩ := lg_step hPm jxm hk1 hD1
    obtain ⟨hPo, jxo⟩ := lg_step hPo jxo hk1 hD1
    have hD1 := hD1.weaken (fun _ _ _ h9 => hFc _ h9)
    clear hPx hDx hKx hFc hk1 hz1 hfs1625
    have hIX := hI1; have hPx := hP1; have hDx := hD1; have hKx := hK1; clear hI1 hP1 hD1 hK1
    clear ht; generalize H1 = H at hPx hPm hPo hS ⊢
    refine lv_pop2_2 hx hb dL_law_1628 rfl ?_
    refine lv_aload_n hx hb dL_law_1629 rfl (lv_at hl 2 rfl) ?_
    refine lv_aload_n hx hb dL_law_1630 rfl (lv_at hl 4 rfl) ?_
    refine lv_iload hx hb dL_law_1631 (lv_at hl 0 rfl) ?_
    refine lv_iconst (v := 1) hx hb dL_law_1633 zk_iconst_1 ?_
    refine lv_iadd hx hb dL_law_1634 ?_
    refine ax_ti ix1 eix1.symm ?_
    refine va_sld (L := L) (i := ix1) hx hb hX hbl hbA hS (vp_in_iff.mpr ⟨by omega, by omega⟩) dL_law_1635 ?_
    refine ax_ti vix1 evix1.symm ?_
    refine lv_aload_n hx hb dL_law_1636 rfl (lv_at hl 4 rfl) ?_
    refine lv_iload hx hb dL_law_1637 (lv_at hl 0 rfl) ?_
    refine lv_iconst (v := 2) hx hb dL_law_1639 zk_iconst_2 ?_
    refine lv_iadd hx hb dL_law_1640 ?_
    refine ax_ti ix2 eix2.symm ?_
    refine va_sld (L := L) (i := ix2) hx hb hX hbl hbA hS (vp_in_iff.mpr ⟨by omega, by omega⟩) dL_law_1641 ?_
    refine ax_ti vix2 evix2.symm ?_
    refine lv_aload_n hx hb dL_law_1642 rfl (lv_at hl 4 rfl) ?_
    refine lv_iload hx hb dL_law_1643 (lv_at hl 0 rfl) ?_
    refine lv_iconst (v := 3) hx hb dL_law_1645 zk_iconst_3 ?_
    refine lv_iadd hx hb dL_law_1646 ?_
    refine ax_ti ix3 eix3.symm ?_
    refine va_sld (L := L) (i := ix3) hx hb hX hbl hbA hS (vp_in_iff.mpr ⟨by omega, by omega⟩) dL_law_1647 ?_
    refine ax_ti vix3 evix3.symm ?_
    refine lv_if_eq (tgt := 1655) hx hb dL_law_1648 (by decide) (fun c_3 => absurd c_3 c_1) (fun _ => ?_)
    refine lv_iconst (v := 1) hx hb dL_law_1651 zk_iconst_1 ?_
    refine lv_goto (tgt := 1656) hx hb dL_law_1652 (by decide) ?_
    have hFc := lg_free hDm hS hA
    obtain ⟨fs1656, hfs1656⟩ := im_recv hIM
    refine va_calll (va_runV (As := [.int vix1, .int vix2, .int 1]) (rest := []) ⟨hx, hb, hml, hown, hts⟩ (k_X8_mean l dC dI H.size mo tp vm vn wm tm hIM vix1 vix2 1) (cwV 3 hts gd_X8_mean rfl rfl rfl (by decide +kernel) ⟨Nat.le_of_ble_eq_true rfl, Nat.le_of_ble_eq_true rfl⟩) ⟨ax_blind (fun _ _ _ _ _ => trivial), va_recv hKm hPm (ci := 8) (q0 := 0) rfl hfs1656, ax_preE hPm hKm hDm (fun _ _ _ => trivial)⟩ rfl rfl hl.1 rfl (lv_room (Nat.le_of_ble_eq_true rfl)) dL_law_1656 ⟨hcc, hss⟩) hS (fun q _ h => hFc q h) hFc (fun r1656 u t H1 locs ht hvm hw1656 hB hz1 hk1 hS => ?_)
    obtain ⟨wmn, tmn, ⟨vm1, vn1, km1, km2, q4m, hI1⟩, hP1, hK1, hD1⟩ := hB
    rw [ht] at hP1
    have hK1 := va_K.moved hvm.symm hK1
    obtain ⟨hPx, jmx⟩ := lg_step hPx (dj_symm jxm) hk1 hD1
    have jxm := dj_symm jmx
    obtain ⟨hPo, jmo⟩ := lg_step hPo jmo hk1 hD1
    have hD1 := hD1.weaken (fun _ _ _ h9 => hFc _ h9)
    clear hPm hDm hKm hFc hk1 hz1 hfs1656
    have hIM := hI1; have hPm := hP1; have hDm := hD1; have hKm := hK1; clear hI1 hP1 hD1 hK1
    clear ht; generalize H1 = H at hPx hPm hPo hS ⊢
    refine lv_pop2_2 hx hb dL_law_1659 rfl ?_
    refine lv_goto (tgt := 1941) hx hb dL_law_1660 (by decide) ?_
    have hWn : lr_5 vi1 vm1 := l5_no q4x q4m
    have hRn : lr_R tp vi1 vf1 vm1 vn1 := ⟨by rw [kx2 0 (by decide), km2 0 (by decide)]; exact hR.1, lr_keep (fun k9 h9 => kx1 k9 (kp_dis (by decide) h9)) (fun k9 h9 => kx2 k9 (kp_dis (by decide) h9)) (fun k9 h9 => km1 k9 (kp_dis (by decide) h9)) (fun k9 h9 => km2 k9 (kp_dis (by decide) h9)) hR.2⟩
    have hRn := And.intro hRn hWn
    exact kk _ _ _ _ _ (Nat.le_add_right _ _) (Nat.le_add_right _ _) ⟨tp, _, _, _, _, _, _, _, _, _, hIX, hIM, hRn, hKx, hKm, hPx, hPm, hPo, hDx, hDm, hDo, jxm, jxo, jmo⟩ hS (lv_sub hl [0, 1, 2, 3, 4] rfl)

set_option maxHeartbeats 4000000 in
set_option maxRecDepth 100000 in
theorem lc_47 {p : Program} {l : Launch} {e : Env} {s : State} {m : MethodId} {below : List Frame} {meth : Method} {c : Code} {b L : Nat} {xs : Nat → Int32} {A : Nat → Prop} {dC : Nat → ClassId} {dI : Nat → Nat → Nat} (hl0 : l.stackTraces = false) (hL : L ≤ 3072) (hA : ∀ q, s.heap.size ≤ q → A q) (hA2 : ∀ q, A q → s.heap.size ≤ q) (C0 : lw_At p s m meth c b L xs) (sd : Nat → Nat) (sa : Nat) (hE : lg_E A sd sa s) (x mo oa : Nat) (ko : ClassId) (hKo : va_K (dC, dI) vwCl [(ko, .long)] s) (i : Int32) (hi0 : (0 : Int) ≤ i.toInt) (hi6 : i.toInt + 6 ≤ (L : Int)) {H : Heap} {locs : List Loc} {cells slots : Nat} (hc9 : cells + 1 ≤ 601024) (hs9 : slots + 6 ≤ 7293034) (hG : lg_S dC dI A s x mo oa ko H) (hS : va_S A s.heap H locs) {ls : Array Slot} (hl : lv_has ls 7 [(4, .int i), (3, .ref oa), (2, .ref mo), (1, .ref x), (0, .ref b)])
    (kk : ∀ (H : Heap) (locs : List Loc) (ls : Array Slot) (k9 n9 : Nat), k9 ≤ cells + 1 → n9 ≤ slots + 6 → lg_S dC dI A s x mo oa ko H → va_S A s.heap H locs → lv_has ls 7 [(4, .int i), (3, .ref oa), (2, .ref mo), (1, .ref x), (0, .ref b)] → W p l e room_1 s m #[Value.ref b] below meth c H locs k9 n9 (lw_Z below #[Value.ref b] s) (F0 m 1941 ls [])) : W p l e room_1 s m #[Value.ref b] below meth c H locs cells slots (lw_Z below #[Value.ref b] s) (F0 m 1663 ls []) := by
  obtain ⟨hx, hb, hr, hml, hown0, htl, hX, hbl, hlocks, hgv⟩ := id C0
  have hown : s.vm.findClass RL = some m.cls := hown0
  have hts : ∀ w ∈ wlT, w.before #[Value.ref b] s = true := fun w h => htl w (wlT_in w h)
  have hbA : ¬ A b := fun h => absurd (hA2 b h) (Nat.not_le.mpr hbl)
  obtain ⟨tp, wx, wm, tx, tm, fo, vi, vf, vm, vn, hIX, hIM, ⟨hR, hW⟩, hKx, hKm, hPx, hPm, hPo, hDx, hDm, hDo, jxm, jxo, jmo⟩ := hG
  have hiM : i.toInt ≤ (3066 : Int) := by omega
  have hcc : cells ≤ 601024 := by omega
  have hss : slots ≤ 7293034 := by omega
  have htpb := ix_tp hIX
  refine lv_aload_n hx hb dL_law_1663 rfl (lv_at hl 3 rfl) ?_
  refine lv_aload_n hx hb dL_law_1664 rfl (lv_at hl 4 rfl) ?_
  refine lv_iload hx hb dL_law_1665 (lv_at hl 0 rfl) ?_
  refine lv_iconst (v := 1) hx hb dL_law_1667 zk_iconst_1 ?_
  refine lv_iadd hx hb dL_law_1668 ?_
  refine lv_topi (fun ix1 eix1 => ?_)
  have qix1 : ix1.toInt = i.toInt + 1 := ai_add eix1 ⟨hi0, hiM⟩ ⟨zq1, zq0⟩ (by decide) (by decide)
  refine va_sld (L := L) (i := ix1) hx hb hX hbl hbA hS (vp_in_iff.mpr ⟨by omega, by omega⟩) dL_law_1669 ?_
  refine lv_topi (fun vix1 evix1 => ?_)
  refine lv_aload_n hx hb dL_law_1670 rfl (lv_at hl 4 rfl) ?_
  refine lv_iload hx hb dL_law_1671 (lv_at hl 0 rfl) ?_
  refine lv_iconst (v := 2) hx hb dL_law_1673 zk_iconst_2 ?_
  refine lv_iadd hx hb dL_law_1674 ?_
  refine lv_topi (fun ix2 eix2 => ?_)
  have qix2 : ix2.toInt = i.toInt + 2 := ai_add eix2 ⟨hi0, hiM⟩ ⟨zq12, zq13⟩ (by decide) (by decide)
  refine va_sld (L := L) (i := ix2) hx hb hX hbl hbA hS (vp_in_iff.mpr ⟨by omega, by omega⟩) dL_law_1675 ?_
  refine lv_topi (fun vix2 evix2 => ?_)
  refine lv_aload_n hx hb dL_law_1676 rfl (lv_at hl 4 rfl) ?_
  refine lv_iload hx hb dL_law_1677 (lv_at hl 0 rfl) ?_
  refine lv_iconst (v := 3) hx hb dL_law_1679 zk_iconst_3 ?_
  refine lv_iadd hx hb dL_law_1680 ?_
  refine lv_topi (fun ix3 eix3 => ?_)
  have qix3 : ix3.toInt = i.toInt + 3 := ai_add eix3 ⟨hi0, hiM⟩ ⟨zq8, zq9⟩ (by decide) (by decide)
  refine va_sld (L := L) (i := ix3) hx hb hX hbl hbA hS (vp_in_iff.mpr ⟨by omega, by omega⟩) dL_law_1681 ?_
  refine lv_topi (fun vix3 evix3 => ?_)
  have hFc := lg_free hDx hS hA
  obtain ⟨fs1682, hfs1682⟩ := ix_recv hIX
  refine va_calli (va_runV (As := [.int vix1, .int vix2, .int vix3]) (rest := []) ⟨hx, hb, hml, hown, hts⟩ (k_X7_drawn l dC dI H.size x tp vi vf wx tx hIX vix1 vix2 vix3) (cwV 3 hts gd_X7_drawn rfl rfl rfl (by decide +kernel) ⟨Nat.le_of_ble_eq_true rfl, Nat.le_of_ble_eq_true rfl⟩) ⟨ax_blind (fun _ _ _ _ _ => trivial), va_recv hKx hPx (ci := 7) (q0 := 0) rfl hfs1682, ax_preE hPx hKx hDx (fun _ _ _ => trivial)⟩ rfl rfl hl.1 rfl (lv_room (Nat.le_of_ble_eq_true rfl)) dL_law_1682 ⟨hcc, hss⟩) hS (fun q _ h => hFc q h) hFc (fun r1682 u t H1 locs ht hvm hw1682 hB hz1 hk1 hS => ?_)
  obtain ⟨wxn, txn, ⟨vi1, vf1, kx1, kx2, q4x, hI1⟩, hP1, hK1, hD1⟩ := hB
  rw [ht] at hP1
  have hK1 := va_K.moved hvm.symm hK1
  obtain ⟨hPm, jxm⟩ := lg_step hPm jxm hk1 hD1
  obtain ⟨hPo, jxo⟩ := lg_step hPo jxo hk1 hD1
  have hD1 := hD1.weaken (fun _ _ _ h9 => hFc _ h9)
  clear hPx hDx hKx hFc hk1 hz1 hfs1682
  have hIX := hI1; have hPx := hP1; have hDx := hD1; have hKx := hK1; clear hI1 hP1 hD1 hK1
  clear ht; generalize H1 = H at hPx hPm hPo hS ⊢
  refine lv_pop hx hb dL_law_1685 rfl ?_
  refine lv_aload_n hx hb dL_law_1686 rfl (lv_at hl 2 rfl) ?_
  refine lv_aload_n hx hb dL_law_1687 rfl (lv_at hl 4 rfl) ?_
  refine lv_iload hx hb dL_law_1688 (lv_at hl 0 rfl) ?_
  refine lv_iconst (v := 1) hx hb dL_law_1690 zk_iconst_1 ?_
  refine lv_iadd hx hb dL_law_1691 ?_
  refine ax_ti ix1 eix1.symm ?_
  refine va_sld (L := L) (i := ix1) hx hb hX hbl hbA hS (vp_in_iff.mpr ⟨by omega, by omega⟩) dL_law_1692 ?_
  refine ax_ti vix1 evix1.symm ?_
  refine lv_aload_n hx hb dL_law_1693 rfl (lv_at hl 4 rfl) ?_
  refine lv_iload hx hb dL_law_1694 (lv_at hl 0 rfl) ?_
  refine lv_iconst (v := 2) hx hb dL_law_1696 zk_iconst_2 ?_
  refine lv_iadd hx hb dL_law_1697 ?_
  refine ax_ti ix2 eix2.symm ?_
  refine va_sld (L := L) (i := ix2) hx hb hX hbl hbA hS (vp_in_iff.mpr ⟨by omega, by omega⟩) dL_law_1698 ?_
  refine ax_ti vix2 evix2.symm ?_
  refine lv_aload_n hx hb dL_law_1699 rfl (lv_at hl 4 rfl) ?_
  refine lv_iload hx hb dL_law_1700 (lv_at hl 0 rfl) ?_
  refine lv_iconst (v := 3) hx hb dL_law_1702 zk_iconst_3 ?_
  refine lv_iadd hx hb dL_law_1703 ?_
  refine ax_ti ix3 eix3.symm ?_
  refine va_sld (L := L) (i := ix3) hx hb hX hbl hbA hS (vp_in_iff.mpr ⟨by omega, by omega⟩) dL_law_1704 ?_
  refine ax_ti vix3 evix3.symm ?_
  have hFc := lg_free hDm hS hA
  obtain ⟨fs1705, hfs1705⟩ := im_recv hIM
  refine va_calli (va_runV (As := [.int vix1, .int vix2, .int vix3]) (rest := []) ⟨hx, hb, hml, hown, hts⟩ (k_X8_drawn l dC dI H.size mo tp vm vn wm tm hIM vix1 vix2 vix3) (cwV 3 hts gd_X8_drawn rfl rfl rfl (by decide +kernel) ⟨Nat.le_of_ble_eq_true rfl, Nat.le_of_ble_eq_true rfl⟩) ⟨ax_blind (fun _ _ _ _ _ => trivial), va_recv hKm hPm (ci := 8) (q0 := 0) rfl hfs1705, ax_preE hPm hKm hDm (fun _ _ _ => trivial)⟩ rfl rfl hl.1 rfl (lv_room (Nat.le_of_ble_eq_true rfl)) dL_law_1705 ⟨hcc, hss⟩) hS (fun q _ h => hFc q h) hFc (fun r1705 u t H1 locs ht hvm hw1705 hB hz1 hk1 hS => ?_)
  obtain ⟨wmn, tmn, ⟨vm1, vn1, km1, km2, q4m, hI1⟩, hP1, hK1, hD1⟩ := hB
  rw [ht] at hP1
  have hK1 := va_K.moved hvm.symm hK1
  obtain ⟨hPx, jmx⟩ := lg_step hPx (dj_symm jxm) hk1 hD1
  have jxm := dj_symm jmx
  obtain ⟨hPo, jmo⟩ := lg_step hPo jmo hk1 hD1
  have hD1 := hD1.weaken (fun _ _ _ h9 => hFc _ h9)
  clear hPm hDm hKm hFc hk1 hz1 hfs1705
  have hIM := hI1; have hPm := hP1; have hDm := hD1; have hKm := hK1; clear hI1 hP1 hD1 hK1
  clear ht; generalize H1 = H at hPx hPm hPo hS ⊢
  refine lv_pop hx hb dL_law_1708 rfl ?_
  refine lv_goto (tgt := 1941) hx hb dL_law_1709 (by decide) ?_
  have hWn : lr_5 vi1 vm1 := l5_no q4x q4m
  have hRn : lr_R tp vi1 vf1 vm1 vn1 := ⟨by rw [kx2 0 (by decide), km2 0 (by decide)]; exact hR.1, lr_keep (fun k9 h9 => kx1 k9 (kp_dis (by decide) h9)) (fun k9 h9 => kx2 k9 (kp_dis (by decide) h9)) (fun k9 h9 => km1 k9 (kp_dis (by decide) h9)) (fun k9 h9 => km2 k9 (kp_dis (by decide) h9)) hR.2⟩
  have hRn := And.intro hRn hWn
  exact kk _ _ _ _ _ (Nat.le_add_right _ _) (Nat.le_add_right _ _) ⟨tp, _, _, _, _, _, _, _, _, _, hIX, hIM, hRn, hKx, hKm, hPx, hPm, hPo, hDx, hDm, hDo, jxm, jxo, jmo⟩ hS (lv_sub hl [0, 1, 2, 3, 4] rfl)

set_option maxHeartbeats 4000000 in
set_option maxRecDepth 100000 in
theorem lc_48 {p : Program} {l : Launch} {e : Env} {s : State} {m : MethodId} {below : List Frame} {meth : Method} {c : Code} {b L : Nat} {xs : Nat → Int32} {A : Nat → Prop} {dC : Nat → ClassId} {dI : Nat → Nat → Nat} (hl0 : l.stackTraces = false) (hL : L ≤ 3072) (hA : ∀ q, s.heap.size ≤ q → A q) (hA2 : ∀ q, A q → s.heap.size ≤ q) (C0 : lw_At p s m meth c b L xs) (sd : Nat → Nat) (sa : Nat) (hE : lg_E A sd sa s) (x mo oa : Nat) (ko : ClassId) (hKo : va_K (dC, dI) vwCl [(ko, .long)] s) (i : Int32) (hi0 : (0 : Int) ≤ i.toInt) (hi6 : i.toInt + 6 ≤ (L : Int)) {H : Heap} {locs : List Loc} {cells slots : Nat} (hc9 : cells + 1 ≤ 601024) (hs9 : slots + 6 ≤ 7293034) (hG : lg_S dC dI A s x mo oa ko H) (hS : va_S A s.heap H locs) {ls : Array Slot} (hl : lv_has ls 7 [(4, .int i), (3, .ref oa), (2, .ref mo), (1, .ref x), (0, .ref b)])
    (kk : ∀ (H : Heap) (locs : List Loc) (ls : Array Slot) (k9 n9 : Nat), k9 ≤ cells + 1 → n9 ≤ slots + 6 → lg_S dC dI A s x mo oa ko H → va_S A s.heap H locs → lv_has ls 7 [(4, .int i), (3, .ref oa), (2, .ref mo), (1, .ref x), (0, .ref b)] → W p l e room_1 s m #[Value.ref b] below meth c H locs k9 n9 (lw_Z below #[Value.ref b] s) (F0 m 1941 ls [])) : W p l e room_1 s m #[Value.ref b] below meth c H locs cells slots (lw_Z below #[Value.ref b] s) (F0 m 1712 ls []) := by
  obtain ⟨hx, hb, hr, hml, hown0, htl, hX, hbl, hlocks, hgv⟩ := id C0
  have hown : s.vm.findClass RL = some m.cls := hown0
  have hts : ∀ w ∈ wlT, w.before #[Value.ref b] s = true := fun w h => htl w (wlT_in w h)
  have hbA : ¬ A b := fun h => absurd (hA2 b h) (Nat.not_le.mpr hbl)
  obtain ⟨tp, wx, wm, tx, tm, fo, vi, vf, vm, vn, hIX, hIM, ⟨hR, hW⟩, hKx, hKm, hPx, hPm, hPo, hDx, hDm, hDo, jxm, jxo, jmo⟩ := hG
  have hiM : i.toInt ≤ (3066 : Int) := by omega
  have hcc : cells ≤ 601024 := by omega
  have hss : slots ≤ 7293034 := by omega
  have htpb := ix_tp hIX
  refine lv_aload_n hx hb dL_law_1712 rfl (lv_at hl 3 rfl) ?_
  refine lv_aload_n hx hb dL_law_1713 rfl (lv_at hl 4 rfl) ?_
  refine lv_iload hx hb dL_law_1714 (lv_at hl 0 rfl) ?_
  refine lv_iconst (v := 1) hx hb dL_law_1716 zk_iconst_1 ?_
  refine lv_iadd hx hb dL_law_1717 ?_
  refine lv_topi (fun ix1 eix1 => ?_)
  have qix1 : ix1.toInt = i.toInt + 1 := ai_add eix1 ⟨hi0, hiM⟩ ⟨zq1, zq0⟩ (by decide) (by decide)
  refine va_sld (L := L) (i := ix1) hx hb hX hbl hbA hS (vp_in_iff.mpr ⟨by omega, by omega⟩) dL_law_1718 ?_
  refine lv_topi (fun vix1 evix1 => ?_)
  refine lv_aload_n hx hb dL_law_1719 rfl (lv_at hl 4 rfl) ?_
  refine lv_iload hx hb dL_law_1720 (lv_at hl 0 rfl) ?_
  refine lv_iconst (v := 2) hx hb dL_law_1722 zk_iconst_2 ?_
  refine lv_iadd hx hb dL_law_1723 ?_
  refine lv_topi (fun ix2 eix2 => ?_)
  have qix2 : ix2.toInt = i.toInt + 2 := ai_add eix2 ⟨hi0, hiM⟩ ⟨zq12, zq13⟩ (by decide) (by decide)
  refine va_sld (L := L) (i := ix2) hx hb hX hbl hbA hS (vp_in_iff.mpr ⟨by omega, by omega⟩) dL_law_1724 ?_
  refine lv_topi (fun vix2 evix2 => ?_)
  have hFc := lg_free hDx hS hA
  obtain ⟨fs1725, hfs1725⟩ := ix_recv hIX
  refine va_calli (va_runV (As := [.int vix1, .int vix2]) (rest := []) ⟨hx, hb, hml, hown, hts⟩ (k_X7_firstShut l dC dI H.size x tp vi vf wx tx hIX vix1 vix2) (cwV 2 hts gd_X7_firstShut rfl rfl rfl (by decide +kernel) ⟨Nat.le_of_ble_eq_true rfl, Nat.le_of_ble_eq_true rfl⟩) ⟨ax_blind (fun _ _ _ _ _ => trivial), va_recv hKx hPx (ci := 7) (q0 := 0) rfl hfs1725, ax_preE hPx hKx hDx (fun _ _ _ => trivial)⟩ rfl rfl hl.1 rfl (lv_room (Nat.le_of_ble_eq_true rfl)) dL_law_1725 ⟨hcc, hss⟩) hS (fun q _ h => hFc q h) hFc (fun r1725 u t H1 locs ht hvm hw1725 hB hz1 hk1 hS => ?_)
  obtain ⟨wxn, txn, ⟨vi1, vf1, kx1, kx2, q4x, hI1⟩, hP1, hK1, hD1⟩ := hB
  rw [ht] at hP1
  have hK1 := va_K.moved hvm.symm hK1
  obtain ⟨hPm, jxm⟩ := lg_step hPm jxm hk1 hD1
  obtain ⟨hPo, jxo⟩ := lg_step hPo jxo hk1 hD1
  have hD1 := hD1.weaken (fun _ _ _ h9 => hFc _ h9)
  clear hPx hDx hKx hFc hk1 hz1 hfs1725
  have hIX := hI1; have hPx := hP1; have hDx := hD1; have hKx := hK1; clear hI1 hP1 hD1 hK1
  clear ht; generalize H1 = H at hPx hPm hPo hS ⊢
  refine lv_pop hx hb dL_law_1728 rfl ?_
  refine lv_aload_n hx hb dL_law_1729 rfl (lv_at hl 2 rfl) ?_
  refine lv_aload_n hx hb dL_law_1730 rfl (lv_at hl 4 rfl) ?_
  refine lv_iload hx hb dL_law_1731 (lv_at hl 0 rfl) ?_
  refine lv_iconst (v := 1) hx hb dL_law_1733 zk_iconst_1 ?_
  refine lv_iadd hx hb dL_law_1734 ?_
  refine ax_ti ix1 eix1.symm ?_
  refine va_sld (L := L) (i := ix1) hx hb hX hbl hbA hS (vp_in_iff.mpr ⟨by omega, by omega⟩) dL_law_1735 ?_
  refine ax_ti vix1 evix1.symm ?_
  refine lv_aload_n hx hb dL_law_1736 rfl (lv_at hl 4 rfl) ?_
  refine lv_iload hx hb dL_law_1737 (lv_at hl 0 rfl) ?_
  refine lv_iconst (v := 2) hx hb dL_law_1739 zk_iconst_2 ?_
  refine lv_iadd hx hb dL_law_1740 ?_
  refine ax_ti ix2 eix2.symm ?_
  refine va_sld (L := L) (i := ix2) hx hb hX hbl hbA hS (vp_in_iff.mpr ⟨by omega, by omega⟩) dL_law_1741 ?_
  refine ax_ti vix2 evix2.symm ?_
  have hFc := lg_free hDm hS hA
  obtain ⟨fs1742, hfs1742⟩ := im_recv hIM
  refine va_calli (va_runV (As := [.int vix1, .int vix2]) (rest := []) ⟨hx, hb, hml, hown, hts⟩ (k_X8_firstShut l dC dI H.size mo tp vm vn wm tm hIM vix1 vix2) (cwV 2 hts gd_X8_firstShut rfl rfl rfl (by decide +kernel) ⟨Nat.le_of_ble_eq_true rfl, Nat.le_of_ble_eq_true rfl⟩) ⟨ax_blind (fun _ _ _ _ _ => trivial), va_recv hKm hPm (ci := 8) (q0 := 0) rfl hfs1742, ax_preE hPm hKm hDm (fun _ _ _ => trivial)⟩ rfl rfl hl.1 rfl (lv_room (Nat.le_of_ble_eq_true rfl)) dL_law_1742 ⟨hcc, hss⟩) hS (fun q _ h => hFc q h) hFc (fun r1742 u t H1 locs ht hvm hw1742 hB hz1 hk1 hS => ?_)
  obtain ⟨wmn, tmn, ⟨vm1, vn1, km1, km2, q4m, hI1⟩, hP1, hK1, hD1⟩ := hB
  rw [ht] at hP1
  have hK1 := va_K.moved hvm.symm hK1
  obtain ⟨hPx, jmx⟩ := lg_step hPx (dj_symm jxm) hk1 hD1
  have jxm := dj_symm jmx
  obtain ⟨hPo, jmo⟩ := lg_step hPo jmo hk1 hD1
  have hD1 := hD1.weaken (fun _ _ _ h9 => hFc _ h9)
  clear hPm hDm hKm hFc hk1 hz1 hfs1742
  have hIM := hI1; have hPm := hP1; have hDm := hD1; have hKm := hK1; clear hI1 hP1 hD1 hK1
  clear ht; generalize H1 = H at hPx hPm hPo hS ⊢
  refine lv_pop hx hb dL_law_1745 rfl ?_
  refine lv_goto (tgt := 1941) hx hb dL_law_1746 (by decide) ?_
  have hWn : lr_5 vi1 vm1 := l5_no q4x q4m
  have hRn : lr_R tp vi1 vf1 vm1 vn1 := ⟨by rw [kx2 0 (by decide), km2 0 (by decide)]; exact hR.1, lr_keep (fun k9 h9 => kx1 k9 (kp_dis (by decide) h9)) (fun k9 h9 => kx2 k9 (kp_dis (by decide) h9)) (fun k9 h9 => km1 k9 (kp_dis (by decide) h9)) (fun k9 h9 => km2 k9 (kp_dis (by decide) h9)) hR.2⟩
  have hRn := And.intro hRn hWn
  exact kk _ _ _ _ _ (Nat.le_add_right _ _) (Nat.le_add_right _ _) ⟨tp, _, _, _, _, _, _, _, _, _, hIX, hIM, hRn, hKx, hKm, hPx, hPm, hPo, hDx, hDm, hDo, jxm, jxo, jmo⟩ hS (lv_sub hl [0, 1, 2, 3, 4] rfl)

set_option maxHeartbeats 4000000 in
set_option maxRecDepth 100000 in
theorem lc_49 {p : Program} {l : Launch} {e : Env} {s : State} {m : MethodId} {below : List Frame} {meth : Method} {c : Code} {b L : Nat} {xs : Nat → Int32} {A : Nat → Prop} {dC : Nat → ClassId} {dI : Nat → Nat → Nat} (hl0 : l.stackTraces = false) (hL : L ≤ 3072) (hA : ∀ q, s.heap.size ≤ q → A q) (hA2 : ∀ q, A q → s.heap.size ≤ q) (C0 : lw_At p s m meth c b L xs) (sd : Nat → Nat) (sa : Nat) (hE : lg_E A sd sa s) (x mo oa : Nat) (ko : ClassId) (hKo : va_K (dC, dI) vwCl [(ko, .long)] s) (i : Int32) (hi0 : (0 : Int) ≤ i.toInt) (hi6 : i.toInt + 6 ≤ (L : Int)) {H : Heap} {locs : List Loc} {cells slots : Nat} (hc9 : cells + 1 ≤ 601024) (hs9 : slots + 6 ≤ 7293034) (hG : lg_S dC dI A s x mo oa ko H) (hS : va_S A s.heap H locs) {ls : Array Slot} (hl : lv_has ls 7 [(4, .int i), (3, .ref oa), (2, .ref mo), (1, .ref x), (0, .ref b)])
    (kk : ∀ (H : Heap) (locs : List Loc) (ls : Array Slot) (k9 n9 : Nat), k9 ≤ cells + 1 → n9 ≤ slots + 6 → lg_S dC dI A s x mo oa ko H → va_S A s.heap H locs → lv_has ls 7 [(4, .int i), (3, .ref oa), (2, .ref mo), (1, .ref x), (0, .ref b)] → W p l e room_1 s m #[Value.ref b] below meth c H locs k9 n9 (lw_Z below #[Value.ref b] s) (F0 m 1941 ls [])) : W p l e room_1 s m #[Value.ref b] below meth c H locs cells slots (lw_Z below #[Value.ref b] s) (F0 m 1749 ls []) := by
  obtain ⟨hx, hb, hr, hml, hown0, htl, hX, hbl, hlocks, hgv⟩ := id C0
  have hown : s.vm.findClass RL = some m.cls := hown0
  have hts : ∀ w ∈ wlT, w.before #[Value.ref b] s = true := fun w h => htl w (wlT_in w h)
  have hbA : ¬ A b := fun h => absurd (hA2 b h) (Nat.not_le.mpr hbl)
  obtain ⟨tp, wx, wm, tx, tm, fo, vi, vf, vm, vn, hIX, hIM, ⟨hR, hW⟩, hKx, hKm, hPx, hPm, hPo, hDx, hDm, hDo, jxm, jxo, jmo⟩ := hG
  have hiM : i.toInt ≤ (3066 : Int) := by omega
  have hcc : cells ≤ 601024 := by omega
  have hss : slots ≤ 7293034 := by omega
  have htpb := ix_tp hIX
  refine lv_aload_n hx hb dL_law_1749 rfl (lv_at hl 3 rfl) ?_
  refine lv_aload_n hx hb dL_law_1750 rfl (lv_at hl 4 rfl) ?_
  refine lv_iload hx hb dL_law_1751 (lv_at hl 0 rfl) ?_
  refine lv_iconst (v := 1) hx hb dL_law_1753 zk_iconst_1 ?_
  refine lv_iadd hx hb dL_law_1754 ?_
  refine lv_topi (fun ix1 eix1 => ?_)
  have qix1 : ix1.toInt = i.toInt + 1 := ai_add eix1 ⟨hi0, hiM⟩ ⟨zq1, zq0⟩ (by decide) (by decide)
  refine va_sld (L := L) (i := ix1) hx hb hX hbl hbA hS (vp_in_iff.mpr ⟨by omega, by omega⟩) dL_law_1755 ?_
  refine lv_topi (fun vix1 evix1 => ?_)
  have hFc := lg_free hDx hS hA
  obtain ⟨fs1756, hfs1756⟩ := ix_recv hIX
  refine va_calli (va_runV (As := [.int vix1]) (rest := []) ⟨hx, hb, hml, hown, hts⟩ (k_X7_go l dC dI H.size x tp vi vf wx tx hIX vix1) (cwV 1 hts gd_X7_go rfl rfl rfl (by decide +kernel) ⟨Nat.le_of_ble_eq_true rfl, Nat.le_of_ble_eq_true rfl⟩) ⟨ax_blind (fun _ _ _ _ hq => ⟨va_Nw.same rfl rfl (hq.1), va_Nw.same rfl rfl (hq.2.1), va_Nw.same rfl rfl (hq.2.2)⟩), va_recv hKx hPx (ci := 7) (q0 := 0) rfl hfs1756, ax_preE hPx hKx hDx (fun U hU hW => ⟨va_Nw.warmM hW (hE.2.2.2.1), va_Nw.warmM hW (hE.2.2.1), va_Nw.warmM hW (hE.2.2.2.2.1)⟩)⟩ rfl rfl hl.1 rfl (lv_room (Nat.le_of_ble_eq_true rfl)) dL_law_1756 ⟨hcc, hss⟩) hS (fun q _ h => hFc q h) hFc (fun r1756 u t H1 locs ht hvm hw1756 hB hz1 hk1 hS => ?_)
  obtain ⟨wxn, txn, ⟨vi1, vf1, kx1, kx2, q4x, hI1⟩, hP1, hK1, hD1⟩ := hB
  rw [ht] at hP1
  have hK1 := va_K.moved hvm.symm hK1
  obtain ⟨hPm, jxm⟩ := lg_step hPm jxm hk1 hD1
  obtain ⟨hPo, jxo⟩ := lg_step hPo jxo hk1 hD1
  have hD1 := hD1.weaken (fun _ _ _ h9 => hFc _ h9)
  clear hPx hDx hKx hFc hk1 hz1 hfs1756
  have hIX := hI1; have hPx := hP1; have hDx := hD1; have hKx := hK1; clear hI1 hP1 hD1 hK1
  clear ht; generalize H1 = H at hPx hPm hPo hS ⊢
  refine lv_pop hx hb dL_law_1759 rfl ?_
  refine lv_aload_n hx hb dL_law_1760 rfl (lv_at hl 2 rfl) ?_
  refine lv_aload_n hx hb dL_law_1761 rfl (lv_at hl 4 rfl) ?_
  refine lv_iload hx hb dL_law_1762 (lv_at hl 0 rfl) ?_
  refine lv_iconst (v := 1) hx hb dL_law_1764 zk_iconst_1 ?_
  refine lv_iadd hx hb dL_law_1765 ?_
  refine ax_ti ix1 eix1.symm ?_
  refine va_sld (L := L) (i := ix1) hx hb hX hbl hbA hS (vp_in_iff.mpr ⟨by omega, by omega⟩) dL_law_1766 ?_
  refine ax_ti vix1 evix1.symm ?_
  have hFc := lg_free hDm hS hA
  obtain ⟨fs1767, hfs1767⟩ := im_recv hIM
  refine va_calli (va_runV (As := [.int vix1]) (rest := []) ⟨hx, hb, hml, hown, hts⟩ (k_X8_go l dC dI H.size mo tp vm vn wm tm hIM vix1) (cwV 1 hts gd_X8_go rfl rfl rfl (by decide +kernel) ⟨Nat.le_of_ble_eq_true rfl, Nat.le_of_ble_eq_true rfl⟩) ⟨ax_blind (fun _ _ _ _ _ => trivial), va_recv hKm hPm (ci := 8) (q0 := 0) rfl hfs1767, ax_preE hPm hKm hDm (fun _ _ _ => trivial)⟩ rfl rfl hl.1 rfl (lv_room (Nat.le_of_ble_eq_true rfl)) dL_law_1767 ⟨hcc, hss⟩) hS (fun q _ h => hFc q h) hFc (fun r1767 u t H1 locs ht hvm hw1767 hB hz1 hk1 hS => ?_)
  obtain ⟨wmn, tmn, ⟨vm1, vn1, km1, km2, q4m, hI1⟩, hP1, hK1, hD1⟩ := hB
  rw [ht] at hP1
  have hK1 := va_K.moved hvm.symm hK1
  obtain ⟨hPx, jmx⟩ := lg_step hPx (dj_symm jxm) hk1 hD1
  have jxm := dj_symm jmx
  obtain ⟨hPo, jmo⟩ := lg_step hPo jmo hk1 hD1
  have hD1 := hD1.weaken (fun _ _ _ h9 => hFc _ h9)
  clear hPm hDm hKm hFc hk1 hz1 hfs1767
  have hIM := hI1; have hPm := hP1; have hDm := hD1; have hKm := hK1; clear hI1 hP1 hD1 hK1
  clear ht; generalize H1 = H at hPx hPm hPo hS ⊢
  refine lv_pop hx hb dL_law_1770 rfl ?_
  refine lv_goto (tgt := 1941) hx hb dL_law_1771 (by decide) ?_
  have hWn : lr_5 vi1 vm1 := l5_no q4x q4m
  have hRn : lr_R tp vi1 vf1 vm1 vn1 := ⟨by rw [kx2 0 (by decide), km2 0 (by decide)]; exact hR.1, lr_keep (fun k9 h9 => kx1 k9 (kp_dis (by decide) h9)) (fun k9 h9 => kx2 k9 (kp_dis (by decide) h9)) (fun k9 h9 => km1 k9 (kp_dis (by decide) h9)) (fun k9 h9 => km2 k9 (kp_dis (by decide) h9)) hR.2⟩
  have hRn := And.intro hRn hWn
  exact kk _ _ _ _ _ (Nat.le_add_right _ _) (Nat.le_add_right _ _) ⟨tp, _, _, _, _, _, _, _, _, _, hIX, hIM, hRn, hKx, hKm, hPx, hPm, hPo, hDx, hDm, hDo, jxm, jxo, jmo⟩ hS (lv_sub hl [0, 1, 2, 3, 4] rfl)

set_option maxHeartbeats 4000000 in
set_option maxRecDepth 100000 in
theorem lc_50 {p : Program} {l : Launch} {e : Env} {s : State} {m : MethodId} {below : List Frame} {meth : Method} {c : Code} {b L : Nat} {xs : Nat → Int32} {A : Nat → Prop} {dC : Nat → ClassId} {dI : Nat → Nat → Nat} (hl0 : l.stackTraces = false) (hL : L ≤ 3072) (hA : ∀ q, s.heap.size ≤ q → A q) (hA2 : ∀ q, A q → s.heap.size ≤ q) (C0 : lw_At p s m meth c b L xs) (sd : Nat → Nat) (sa : Nat) (hE : lg_E A sd sa s) (x mo oa : Nat) (ko : ClassId) (hKo : va_K (dC, dI) vwCl [(ko, .long)] s) (i : Int32) (hi0 : (0 : Int) ≤ i.toInt) (hi6 : i.toInt + 6 ≤ (L : Int)) {H : Heap} {locs : List Loc} {cells slots : Nat} (hc9 : cells + 1 ≤ 601024) (hs9 : slots + 6 ≤ 7293034) (hG : lg_S dC dI A s x mo oa ko H) (hS : va_S A s.heap H locs) {ls : Array Slot} (hl : lv_has ls 7 [(4, .int i), (3, .ref oa), (2, .ref mo), (1, .ref x), (0, .ref b)])
    (kk : ∀ (H : Heap) (locs : List Loc) (ls : Array Slot) (k9 n9 : Nat), k9 ≤ cells + 1 → n9 ≤ slots + 6 → lg_S dC dI A s x mo oa ko H → va_S A s.heap H locs → lv_has ls 7 [(4, .int i), (3, .ref oa), (2, .ref mo), (1, .ref x), (0, .ref b)] → W p l e room_1 s m #[Value.ref b] below meth c H locs k9 n9 (lw_Z below #[Value.ref b] s) (F0 m 1941 ls [])) : W p l e room_1 s m #[Value.ref b] below meth c H locs cells slots (lw_Z below #[Value.ref b] s) (F0 m 1774 ls []) := by
  obtain ⟨hx, hb, hr, hml, hown0, htl, hX, hbl, hlocks, hgv⟩ := id C0
  have hown : s.vm.findClass RL = some m.cls := hown0
  have hts : ∀ w ∈ wlT, w.before #[Value.ref b] s = true := fun w h => htl w (wlT_in w h)
  have hbA : ¬ A b := fun h => absurd (hA2 b h) (Nat.not_le.mpr hbl)
  obtain ⟨tp, wx, wm, tx, tm, fo, vi, vf, vm, vn, hIX, hIM, ⟨hR, hW⟩, hKx, hKm, hPx, hPm, hPo, hDx, hDm, hDo, jxm, jxo, jmo⟩ := hG
  have hiM : i.toInt ≤ (3066 : Int) := by omega
  have hcc : cells ≤ 601024 := by omega
  have hss : slots ≤ 7293034 := by omega
  have htpb := ix_tp hIX
  refine lv_aload_n hx hb dL_law_1774 rfl (lv_at hl 3 rfl) ?_
  refine lv_aload_n hx hb dL_law_1775 rfl (lv_at hl 4 rfl) ?_
  refine lv_iload hx hb dL_law_1776 (lv_at hl 0 rfl) ?_
  refine lv_iconst (v := 1) hx hb dL_law_1778 zk_iconst_1 ?_
  refine lv_iadd hx hb dL_law_1779 ?_
  refine lv_topi (fun ix1 eix1 => ?_)
  have qix1 : ix1.toInt = i.toInt + 1 := ai_add eix1 ⟨hi0, hiM⟩ ⟨zq1, zq0⟩ (by decide) (by decide)
  refine va_sld (L := L) (i := ix1) hx hb hX hbl hbA hS (vp_in_iff.mpr ⟨by omega, by omega⟩) dL_law_1780 ?_
  refine lv_topi (fun vix1 evix1 => ?_)
  have hFc := lg_free hDx hS hA
  obtain ⟨fs1781, hfs1781⟩ := ix_recv hIX
  refine va_calli (va_runV (As := [.int vix1]) (rest := []) ⟨hx, hb, hml, hown, hts⟩ (k_X7_put l dC dI H.size x tp vi vf wx tx hIX vix1) (cwV 1 hts gd_X7_put rfl rfl rfl (by decide +kernel) ⟨Nat.le_of_ble_eq_true rfl, Nat.le_of_ble_eq_true rfl⟩) ⟨ax_blind (fun _ _ _ _ hq => va_Nw.same rfl rfl (hq)), va_recv hKx hPx (ci := 7) (q0 := 0) rfl hfs1781, ax_preE hPx hKx hDx (fun U hU hW => va_Nw.warmM hW (hE.2.2.1))⟩ rfl rfl hl.1 rfl (lv_room (Nat.le_of_ble_eq_true rfl)) dL_law_1781 ⟨hcc, hss⟩) hS (fun q _ h => hFc q h) hFc (fun r1781 u t H1 locs ht hvm hw1781 hB hz1 hk1 hS => ?_)
  obtain ⟨wxn, txn, ⟨vi1, vf1, kx1, kx2, q4x, hI1⟩, hP1, hK1, hD1⟩ := hB
  rw [ht] at hP1
  have hK1 := va_K.moved hvm.symm hK1
  obtain ⟨hPm, jxm⟩ := lg_step hPm jxm hk1 hD1
  obtain ⟨hPo, jxo⟩ := lg_step hPo jxo hk1 hD1
  have hD1 := hD1.weaken (fun _ _ _ h9 => hFc _ h9)
  clear hPx hDx hKx hFc hk1 hz1 hfs1781
  have hIX := hI1; have hPx := hP1; have hDx := hD1; have hKx := hK1; clear hI1 hP1 hD1 hK1
  clear ht; generalize H1 = H at hPx hPm hPo hS ⊢
  refine lv_pop hx hb dL_law_1784 rfl ?_
  refine lv_aload_n hx hb dL_law_1785 rfl (lv_at hl 2 rfl) ?_
  refine lv_aload_n hx hb dL_law_1786 rfl (lv_at hl 4 rfl) ?_
  refine lv_iload hx hb dL_law_1787 (lv_at hl 0 rfl) ?_
  refine lv_iconst (v := 1) hx hb dL_law_1789 zk_iconst_1 ?_
  refine lv_iadd hx hb dL_law_1790 ?_
  refine ax_ti ix1 eix1.symm ?_
  refine va_sld (L := L) (i := ix1) hx hb hX hbl hbA hS (vp_in_iff.mpr ⟨by omega, by omega⟩) dL_law_1791 ?_
  refine ax_ti vix1 evix1.symm ?_
  have hFc := lg_free hDm hS hA
  obtain ⟨fs1792, hfs1792⟩ := im_recv hIM
  refine va_calli (va_runV (As := [.int vix1]) (rest := []) ⟨hx, hb, hml, hown, hts⟩ (k_X8_put l dC dI H.size mo tp vm vn wm tm hIM vix1) (cwV 1 hts gd_X8_put rfl rfl rfl (by decide +kernel) ⟨Nat.le_of_ble_eq_true rfl, Nat.le_of_ble_eq_true rfl⟩) ⟨ax_blind (fun _ _ _ _ _ => trivial), va_recv hKm hPm (ci := 8) (q0 := 0) rfl hfs1792, ax_preE hPm hKm hDm (fun _ _ _ => trivial)⟩ rfl rfl hl.1 rfl (lv_room (Nat.le_of_ble_eq_true rfl)) dL_law_1792 ⟨hcc, hss⟩) hS (fun q _ h => hFc q h) hFc (fun r1792 u t H1 locs ht hvm hw1792 hB hz1 hk1 hS => ?_)
  obtain ⟨wmn, tmn, ⟨vm1, vn1, km1, km2, q4m, hI1⟩, hP1, hK1, hD1⟩ := hB
  rw [ht] at hP1
  have hK1 := va_K.moved hvm.symm hK1
  obtain ⟨hPx, jmx⟩ := lg_step hPx (dj_symm jxm) hk1 hD1
  have jxm := dj_symm jmx
  obtain ⟨hPo, jmo⟩ := lg_step hPo jmo hk1 hD1
  have hD1 := hD1.weaken (fun _ _ _ h9 => hFc _ h9)
  clear hPm hDm hKm hFc hk1 hz1 hfs1792
  have hIM := hI1; have hPm := hP1; have hDm := hD1; have hKm := hK1; clear hI1 hP1 hD1 hK1
  clear ht; generalize H1 = H at hPx hPm hPo hS ⊢
  refine lv_pop hx hb dL_law_1795 rfl ?_
  refine lv_goto (tgt := 1941) hx hb dL_law_1796 (by decide) ?_
  have hWn : lr_5 vi1 vm1 := l5_no q4x q4m
  have hRn : lr_R tp vi1 vf1 vm1 vn1 := ⟨by rw [kx2 0 (by decide), km2 0 (by decide)]; exact hR.1, lr_keep (fun k9 h9 => kx1 k9 (kp_dis (by decide) h9)) (fun k9 h9 => kx2 k9 (kp_dis (by decide) h9)) (fun k9 h9 => km1 k9 (kp_dis (by decide) h9)) (fun k9 h9 => km2 k9 (kp_dis (by decide) h9)) hR.2⟩
  have hRn := And.intro hRn hWn
  exact kk _ _ _ _ _ (Nat.le_add_right _ _) (Nat.le_add_right _ _) ⟨tp, _, _, _, _, _, _, _, _, _, hIX, hIM, hRn, hKx, hKm, hPx, hPm, hPo, hDx, hDm, hDo, jxm, jxo, jmo⟩ hS (lv_sub hl [0, 1, 2, 3, 4] rfl)

set_option maxHeartbeats 4000000 in
set_option maxRecDepth 100000 in
theorem lc_51 {p : Program} {l : Launch} {e : Env} {s : State} {m : MethodId} {below : List Frame} {meth : Method} {c : Code} {b L : Nat} {xs : Nat → Int32} {A : Nat → Prop} {dC : Nat → ClassId} {dI : Nat → Nat → Nat} (hl0 : l.stackTraces = false) (hL : L ≤ 3072) (hA : ∀ q, s.heap.size ≤ q → A q) (hA2 : ∀ q, A q → s.heap.size ≤ q) (C0 : lw_At p s m meth c b L xs) (sd : Nat → Nat) (sa : Nat) (hE : lg_E A sd sa s) (x mo oa : Nat) (ko : ClassId) (hKo : va_K (dC, dI) vwCl [(ko, .long)] s) (i : Int32) (hi0 : (0 : Int) ≤ i.toInt) (hi6 : i.toInt + 6 ≤ (L : Int)) {H : Heap} {locs : List Loc} {cells slots : Nat} (hc9 : cells + 1 ≤ 601024) (hs9 : slots + 6 ≤ 7293034) (hG : lg_S dC dI A s x mo oa ko H) (hS : va_S A s.heap H locs) {ls : Array Slot} (hl : lv_has ls 7 [(4, .int i), (3, .ref oa), (2, .ref mo), (1, .ref x), (0, .ref b)])
    (kk : ∀ (H : Heap) (locs : List Loc) (ls : Array Slot) (k9 n9 : Nat), k9 ≤ cells + 1 → n9 ≤ slots + 6 → lg_S dC dI A s x mo oa ko H → va_S A s.heap H locs → lv_has ls 7 [(4, .int i), (3, .ref oa), (2, .ref mo), (1, .ref x), (0, .ref b)] → W p l e room_1 s m #[Value.ref b] below meth c H locs k9 n9 (lw_Z below #[Value.ref b] s) (F0 m 1941 ls [])) : W p l e room_1 s m #[Value.ref b] below meth c H locs cells slots (lw_Z below #[Value.ref b] s) (F0 m 1799 ls []) := by
  obtain ⟨hx, hb, hr, hml, hown0, htl, hX, hbl, hlocks, hgv⟩ := id C0
  have hown : s.vm.findClass RL = some m.cls := hown0
  have hts : ∀ w ∈ wlT, w.before #[Value.ref b] s = true := fun w h => htl w (wlT_in w h)
  have hbA : ¬ A b := fun h => absurd (hA2 b h) (Nat.not_le.mpr hbl)
  obtain ⟨tp, wx, wm, tx, tm, fo, vi, vf, vm, vn, hIX, hIM, ⟨hR, hW⟩, hKx, hKm, hPx, hPm, hPo, hDx, hDm, hDo, jxm, jxo, jmo⟩ := hG
  have hiM : i.toInt ≤ (3066 : Int) := by omega
  have hcc : cells ≤ 601024 := by omega
  have hss : slots ≤ 7293034 := by omega
  have htpb := ix_tp hIX
  refine lv_aload_n hx hb dL_law_1799 rfl (lv_at hl 3 rfl) ?_
  refine lv_aload_n hx hb dL_law_1800 rfl (lv_at hl 4 rfl) ?_
  refine lv_iload hx hb dL_law_1801 (lv_at hl 0 rfl) ?_
  refine lv_iconst (v := 1) hx hb dL_law_1803 zk_iconst_1 ?_
  refine lv_iadd hx hb dL_law_1804 ?_
  refine lv_topi (fun ix1 eix1 => ?_)
  have qix1 : ix1.toInt = i.toInt + 1 := ai_add eix1 ⟨hi0, hiM⟩ ⟨zq1, zq0⟩ (by decide) (by decide)
  refine va_sld (L := L) (i := ix1) hx hb hX hbl hbA hS (vp_in_iff.mpr ⟨by omega, by omega⟩) dL_law_1805 ?_
  refine lv_topi (fun vix1 evix1 => ?_)
  have hFc := lg_free hDx hS hA
  obtain ⟨fs1806, hfs1806⟩ := ix_recv hIX
  refine va_calli (va_runV (As := [.int vix1]) (rest := []) ⟨hx, hb, hml, hown, hts⟩ (k_X7_wind l dC dI H.size x tp vi vf wx tx hIX vix1) (cwV 1 hts gd_X7_wind rfl rfl rfl (by decide +kernel) ⟨Nat.le_of_ble_eq_true rfl, Nat.le_of_ble_eq_true rfl⟩) ⟨ax_blind (fun _ _ _ _ _ => trivial), va_recv hKx hPx (ci := 7) (q0 := 0) rfl hfs1806, ax_preE hPx hKx hDx (fun _ _ _ => trivial)⟩ rfl rfl hl.1 rfl (lv_room (Nat.le_of_ble_eq_true rfl)) dL_law_1806 ⟨hcc, hss⟩) hS (fun q _ h => hFc q h) hFc (fun r1806 u t H1 locs ht hvm hw1806 hB hz1 hk1 hS => ?_)
  obtain ⟨wxn, txn, ⟨vi1, vf1, kx1, kx2, q4x, hI1⟩, hP1, hK1, hD1⟩ := hB
  rw [ht] at hP1
  have hK1 := va_K.moved hvm.symm hK1
  obtain ⟨hPm, jxm⟩ := lg_step hPm jxm hk1 hD1
  obtain ⟨hPo, jxo⟩ := lg_step hPo jxo hk1 hD1
  have hD1 := hD1.weaken (fun _ _ _ h9 => hFc _ h9)
  clear hPx hDx hKx hFc hk1 hz1 hfs1806
  have hIX := hI1; have hPx := hP1; have hDx := hD1; have hKx := hK1; clear hI1 hP1 hD1 hK1
  clear ht; generalize H1 = H at hPx hPm hPo hS ⊢
  refine lv_pop hx hb dL_law_1809 rfl ?_
  refine lv_aload_n hx hb dL_law_1810 rfl (lv_at hl 2 rfl) ?_
  refine lv_aload_n hx hb dL_law_1811 rfl (lv_at hl 4 rfl) ?_
  refine lv_iload hx hb dL_law_1812 (lv_at hl 0 rfl) ?_
  refine lv_iconst (v := 1) hx hb dL_law_1814 zk_iconst_1 ?_
  refine lv_iadd hx hb dL_law_1815 ?_
  refine ax_ti ix1 eix1.symm ?_
  refine va_sld (L := L) (i := ix1) hx hb hX hbl hbA hS (vp_in_iff.mpr ⟨by omega, by omega⟩) dL_law_1816 ?_
  refine ax_ti vix1 evix1.symm ?_
  have hFc := lg_free hDm hS hA
  obtain ⟨fs1817, hfs1817⟩ := im_recv hIM
  refine va_calli (va_runV (As := [.int vix1]) (rest := []) ⟨hx, hb, hml, hown, hts⟩ (k_X8_wind l dC dI H.size mo tp vm vn wm tm hIM vix1) (cwV 1 hts gd_X8_wind rfl rfl rfl (by decide +kernel) ⟨Nat.le_of_ble_eq_true rfl, Nat.le_of_ble_eq_true rfl⟩) ⟨ax_blind (fun _ _ _ _ _ => trivial), va_recv hKm hPm (ci := 8) (q0 := 0) rfl hfs1817, ax_preE hPm hKm hDm (fun _ _ _ => trivial)⟩ rfl rfl hl.1 rfl (lv_room (Nat.le_of_ble_eq_true rfl)) dL_law_1817 ⟨hcc, hss⟩) hS (fun q _ h => hFc q h) hFc (fun r1817 u t H1 locs ht hvm hw1817 hB hz1 hk1 hS => ?_)
  obtain ⟨wmn, tmn, ⟨vm1, vn1, km1, km2, q4m, hI1⟩, hP1, hK1, hD1⟩ := hB
  rw [ht] at hP1
  have hK1 := va_K.moved hvm.symm hK1
  obtain ⟨hPx, jmx⟩ := lg_step hPx (dj_symm jxm) hk1 hD1
  have jxm := dj_symm jmx
  obtain ⟨hPo, jmo⟩ := lg_step hPo jmo hk1 hD1
  have hD1 := hD1.weaken (fun _ _ _ h9 => hFc _ h9)
  clear hPm hDm hKm hFc hk1 hz1 hfs1817
  have hIM := hI1; have hPm := hP1; have hDm := hD1; have hKm := hK1; clear hI1 hP1 hD1 hK1
  clear ht; generalize H1 = H at hPx hPm hPo hS ⊢
  refine lv_pop hx hb dL_law_1820 rfl ?_
  refine lv_goto (tgt := 1941) hx hb dL_law_1821 (by decide) ?_
  have hWn : lr_5 vi1 vm1 := l5_no q4x q4m
  have hRn : lr_R tp vi1 vf1 vm1 vn1 := ⟨by rw [kx2 0 (by decide), km2 0 (by decide)]; exact hR.1, lr_keep (fun k9 h9 => kx1 k9 (kp_dis (by decide) h9)) (fun k9 h9 => kx2 k9 (kp_dis (by decide) h9)) (fun k9 h9 => km1 k9 (kp_dis (by decide) h9)) (fun k9 h9 => km2 k9 (kp_dis (by decide) h9)) hR.2⟩
  have hRn := And.intro hRn hWn
  exact kk _ _ _ _ _ (Nat.le_add_right _ _) (Nat.le_add_right _ _) ⟨tp, _, _, _, _, _, _, _, _, _, hIX, hIM, hRn, hKx, hKm, hPx, hPm, hPo, hDx, hDm, hDo, jxm, jxo, jmo⟩ hS (lv_sub hl [0, 1, 2, 3, 4] rfl)

set_option maxHeartbeats 4000000 in
set_option maxRecDepth 100000 in
theorem lc_52 {p : Program} {l : Launch} {e : Env} {s : State} {m : MethodId} {below : List Frame} {meth : Method} {c : Code} {b L : Nat} {xs : Nat → Int32} {A : Nat → Prop} {dC : Nat → ClassId} {dI : Nat → Nat → Nat} (hl0 : l.stackTraces = false) (hL : L ≤ 3072) (hA : ∀ q, s.heap.size ≤ q → A q) (hA2 : ∀ q, A q → s.heap.size ≤ q) (C0 : lw_At p s m meth c b L xs) (sd : Nat → Nat) (sa : Nat) (hE : lg_E A sd sa s) (x mo oa : Nat) (ko : ClassId) (hKo : va_K (dC, dI) vwCl [(ko, .long)] s) (i : Int32) (hi0 : (0 : Int) ≤ i.toInt) (hi6 : i.toInt + 6 ≤ (L : Int)) {H : Heap} {locs : List Loc} {cells slots : Nat} (hc9 : cells + 1 ≤ 601024) (hs9 : slots + 6 ≤ 7293034) (hG : lg_S dC dI A s x mo oa ko H) (hS : va_S A s.heap H locs) {ls : Array Slot} (hl : lv_has ls 7 [(4, .int i), (3, .ref oa), (2, .ref mo), (1, .ref x), (0, .ref b)])
    (kk : ∀ (H : Heap) (locs : List Loc) (ls : Array Slot) (k9 n9 : Nat), k9 ≤ cells + 1 → n9 ≤ slots + 6 → lg_S dC dI A s x mo oa ko H → va_S A s.heap H locs → lv_has ls 7 [(4, .int i), (3, .ref oa), (2, .ref mo), (1, .ref x), (0, .ref b)] → W p l e room_1 s m #[Value.ref b] below meth c H locs k9 n9 (lw_Z below #[Value.ref b] s) (F0 m 1941 ls [])) : W p l e room_1 s m #[Value.ref b] below meth c H locs cells slots (lw_Z below #[Value.ref b] s) (F0 m 1824 ls []) := by
  obtain ⟨hx, hb, hr, hml, hown0, htl, hX, hbl, hlocks, hgv⟩ := id C0
  have hown : s.vm.findClass RL = some m.cls := hown0
  have hts : ∀ w ∈ wlT, w.before #[Value.ref b] s = true := fun w h => htl w (wlT_in w h)
  have hbA : ¬ A b := fun h => absurd (hA2 b h) (Nat.not_le.mpr hbl)
  obtain ⟨tp, wx, wm, tx, tm, fo, vi, vf, vm, vn, hIX, hIM, ⟨hR, hW⟩, hKx, hKm, hPx, hPm, hPo, hDx, hDm, hDo, jxm, jxo, jmo⟩ := hG
  have hiM : i.toInt ≤ (3066 : Int) := by omega
  have hcc : cells ≤ 601024 := by omega
  have hss : slots ≤ 7293034 := by omega
  have htpb := ix_tp hIX
  refine lv_aload_n hx hb dL_law_1824 rfl (lv_at hl 3 rfl) ?_
  have hFc := lg_free hDx hS hA
  obtain ⟨fs1825, hfs1825⟩ := ix_recv hIX
  refine va_calli (va_runV (As := []) (rest := []) ⟨hx, hb, hml, hown, hts⟩ (k_X7_undo l dC dI H.size x tp vi vf wx tx hIX ) (cwV 0 hts gd_X7_undo rfl rfl rfl (by decide +kernel) ⟨Nat.le_of_ble_eq_true rfl, Nat.le_of_ble_eq_true rfl⟩) ⟨ax_blind (fun _ _ _ _ _ => trivial), va_recv hKx hPx (ci := 7) (q0 := 0) rfl hfs1825, ax_preE hPx hKx hDx (fun _ _ _ => trivial)⟩ rfl rfl hl.1 rfl (lv_room (Nat.le_of_ble_eq_true rfl)) dL_law_1825 ⟨hcc, hss⟩) hS (fun q _ h => hFc q h) hFc (fun r1825 u t H1 locs ht hvm hw1825 hB hz1 hk1 hS => ?_)
  obtain ⟨wxn, txn, ⟨vi1, vf1, kx1, kx2, q4x, hI1⟩, hP1, hK1, hD1⟩ := hB
  rw [ht] at hP1
  have hK1 := va_K.moved hvm.symm hK1
  obtain ⟨hPm, jxm⟩ := lg_step hPm jxm hk1 hD1
  obtain ⟨hPo, jxo⟩ := lg_step hPo jxo hk1 hD1
  have hD1 := hD1.weaken (fun _ _ _ h9 => hFc _ h9)
  clear hPx hDx hKx hFc hk1 hz1 hfs1825
  have hIX := hI1; have hPx := hP1; have hDx := hD1; have hKx := hK1; clear hI1 hP1 hD1 hK1
  clear ht; generalize H1 = H at hPx hPm hPo hS ⊢
  refine lv_pop hx hb dL_law_1828 rfl ?_
  refine lv_aload_n hx hb dL_law_1829 rfl (lv_at hl 2 rfl) ?_
  have hFc := lg_free hDm hS hA
  obtain ⟨fs1830, hfs1830⟩ := im_recv hIM
  refine va_calli (va_runV (As := []) (rest := []) ⟨hx, hb, hml, hown, hts⟩ (k_X8_undo l dC dI H.size mo tp vm vn wm tm hIM ) (cwV 0 hts gd_X8_undo rfl rfl rfl (by decide +kernel) ⟨Nat.le_of_ble_eq_true rfl, Nat.le_of_ble_eq_true rfl⟩) ⟨ax_blind (fun _ _ _ _ _ => trivial), va_recv hKm hPm (ci := 8) (q0 := 0) rfl hfs1830, ax_preE hPm hKm hDm (fun _ _ _ => trivial)⟩ rfl rfl hl.1 rfl (lv_room (Nat.le_of_ble_eq_true rfl)) dL_law_1830 ⟨hcc, hss⟩) hS (fun q _ h => hFc q h) hFc (fun r1830 u t H1 locs ht hvm hw1830 hB hz1 hk1 hS => ?_)
  obtain ⟨wmn, tmn, ⟨vm1, vn1, km1, km2, q4m, hI1⟩, hP1, hK1, hD1⟩ := hB
  rw [ht] at hP1
  have hK1 := va_K.moved hvm.symm hK1
  obtain ⟨hPx, jmx⟩ := lg_step hPx (dj_symm jxm) hk1 hD1
  have jxm := dj_symm jmx
  obtain ⟨hPo, jmo⟩ := lg_step hPo jmo hk1 hD1
  have hD1 := hD1.weaken (fun _ _ _ h9 => hFc _ h9)
  clear hPm hDm hKm hFc hk1 hz1 hfs1830
  have hIM := hI1; have hPm := hP1; have hDm := hD1; have hKm := hK1; clear hI1 hP1 hD1 hK1
  clear ht; generalize H1 = H at hPx hPm hPo hS ⊢
  refine lv_pop hx hb dL_law_1833 rfl ?_
  refine lv_goto (tgt := 1941) hx hb dL_law_1834 (by decide) ?_
  have hWn : lr_5 vi1 vm1 := l5_no q4x q4m
  have hRn : lr_R tp vi1 vf1 vm1 vn1 := ⟨by rw [kx2 0 (by decide), km2 0 (by decide)]; exact hR.1, lr_keep (fun k9 h9 => kx1 k9 (kp_dis (by decide) h9)) (fun k9 h9 => kx2 k9 (kp_dis (by decide) h9)) (fun k9 h9 => km1 k9 (kp_dis (by decide) h9)) (fun k9 h9 => km2 k9 (kp_dis (by decide) h9)) hR.2⟩
  have hRn := And.intro hRn hWn
  exact kk _ _ _ _ _ (Nat.le_add_right _ _) (Nat.le_add_right _ _) ⟨tp, _, _, _, _, _, _, _, _, _, hIX, hIM, hRn, hKx, hKm, hPx, hPm, hPo, hDx, hDm, hDo, jxm, jxo, jmo⟩ hS (lv_sub hl [0, 1, 2, 3, 4] rfl)

set_option maxHeartbeats 4000000 in
set_option maxRecDepth 100000 in
theorem lc_53 {p : Program} {l : Launch} {e : Env} {s : State} {m : MethodId} {below : List Frame} {meth : Method} {c : Code} {b L : Nat} {xs : Nat → Int32} {A : Nat → Prop} {dC : Nat → ClassId} {dI : Nat → Nat → Nat} (hl0 : l.stackTraces = false) (hL : L ≤ 3072) (hA : ∀ q, s.heap.size ≤ q → A q) (hA2 : ∀ q, A q → s.heap.size ≤ q) (C0 : lw_At p s m meth c b L xs) (sd : Nat → Nat) (sa : Nat) (hE : lg_E A sd sa s) (x mo oa : Nat) (ko : ClassId) (hKo : va_K (dC, dI) vwCl [(ko, .long)] s) (i : Int32) (hi0 : (0 : Int) ≤ i.toInt) (hi6 : i.toInt + 6 ≤ (L : Int)) {H : Heap} {locs : List Loc} {cells slots : Nat} (hc9 : cells + 1 ≤ 601024) (hs9 : slots + 6 ≤ 7293034) (hG : lg_S dC dI A s x mo oa ko H) (hS : va_S A s.heap H locs) {ls : Array Slot} (hl : lv_has ls 7 [(4, .int i), (3, .ref oa), (2, .ref mo), (1, .ref x), (0, .ref b)])
    (kk : ∀ (H : Heap) (locs : List Loc) (ls : Array Slot) (k9 n9 : Nat), k9 ≤ cells + 1 → n9 ≤ slots + 6 → lg_S dC dI A s x mo oa ko H → va_S A s.heap H locs → lv_has ls 7 [(4, .int i), (3, .ref oa), (2, .ref mo), (1, .ref x), (0, .ref b)] → W p l e room_1 s m #[Value.ref b] below meth c H locs k9 n9 (lw_Z below #[Value.ref b] s) (F0 m 1941 ls [])) : W p l e room_1 s m #[Value.ref b] below meth c H locs cells slots (lw_Z below #[Value.ref b] s) (F0 m 1837 ls []) := by
  obtain ⟨hx, hb, hr, hml, hown0, htl, hX, hbl, hlocks, hgv⟩ := id C0
  have hown : s.vm.findClass RL = some m.cls := hown0
  have hts : ∀ w ∈ wlT, w.before #[Value.ref b] s = true := fun w h => htl w (wlT_in w h)
  have hbA : ¬ A b := fun h => absurd (hA2 b h) (Nat.not_le.mpr hbl)
  obtain ⟨tp, wx, wm, tx, tm, fo, vi, vf, vm, vn, hIX, hIM, ⟨hR, hW⟩, hKx, hKm, hPx, hPm, hPo, hDx, hDm, hDo, jxm, jxo, jmo⟩ := hG
  have hiM : i.toInt ≤ (3066 : Int) := by omega
  have hcc : cells ≤ 601024 := by omega
  have hss : slots ≤ 7293034 := by omega
  have htpb := ix_tp hIX
  refine lv_aload_n hx hb dL_law_1837 rfl (lv_at hl 3 rfl) ?_
  have hFc := lg_free hDx hS hA
  obtain ⟨fs1838, hfs1838⟩ := ix_recv hIX
  refine va_calli (va_runV (As := []) (rest := []) ⟨hx, hb, hml, hown, hts⟩ (k_X7_image l dC dI H.size x tp vi vf wx tx hIX ) (cwV 0 hts gd_X7_image rfl rfl rfl (by decide +kernel) ⟨Nat.le_of_ble_eq_true rfl, Nat.le_of_ble_eq_true rfl⟩) ⟨ax_blind (fun _ _ _ _ _ => trivial), va_recv hKx hPx (ci := 7) (q0 := 0) rfl hfs1838, ax_preE hPx hKx hDx (fun _ _ _ => trivial)⟩ rfl rfl hl.1 rfl (lv_room (Nat.le_of_ble_eq_true rfl)) dL_law_1838 ⟨hcc, hss⟩) hS (fun q _ h => hFc q h) hFc (fun r1838 u t H1 locs ht hvm hw1838 hB hz1 hk1 hS => ?_)
  obtain ⟨wxn, txn, ⟨vi1, vf1, kx1, kx2, q4x, hI1⟩, hP1, hK1, hD1⟩ := hB
  rw [ht] at hP1
  have hK1 := va_K.moved hvm.symm hK1
  obtain ⟨hPm, jxm⟩ := lg_step hPm jxm hk1 hD1
  obtain ⟨hPo, jxo⟩ := lg_step hPo jxo hk1 hD1
  have hD1 := hD1.weaken (fun _ _ _ h9 => hFc _ h9)
  clear hPx hDx hKx hFc hk1 hz1 hfs1838
  have hIX := hI1; have hPx := hP1; have hDx := hD1; have hKx := hK1; clear hI1 hP1 hD1 hK1
  clear ht; generalize H1 = H at hPx hPm hPo hS ⊢
  refine lv_pop hx hb dL_law_1841 rfl ?_
  refine lv_aload_n hx hb dL_law_1842 rfl (lv_at hl 2 rfl) ?_
  have hFc := lg_free hDm hS hA
  obtain ⟨fs1843, hfs1843⟩ := im_recv hIM
  refine va_calli (va_runV (As := []) (rest := []) ⟨hx, hb, hml, hown, hts⟩ (k_X8_image l dC dI H.size mo tp vm vn wm tm hIM ) (cwV 0 hts gd_X8_image rfl rfl rfl (by decide +kernel) ⟨Nat.le_of_ble_eq_true rfl, Nat.le_of_ble_eq_true rfl⟩) ⟨ax_blind (fun _ _ _ _ _ => trivial), va_recv hKm hPm (ci := 8) (q0 := 0) rfl hfs1843, ax_preE hPm hKm hDm (fun _ _ _ => trivial)⟩ rfl rfl hl.1 rfl (lv_room (Nat.le_of_ble_eq_true rfl)) dL_law_1843 ⟨hcc, hss⟩) hS (fun q _ h => hFc q h) hFc (fun r1843 u t H1 locs ht hvm hw1843 hB hz1 hk1 hS => ?_)
  obtain ⟨wmn, tmn, ⟨vm1, vn1, km1, km2, q4m, hI1⟩, hP1, hK1, hD1⟩ := hB
  rw [ht] at hP1
  have hK1 := va_K.moved hvm.symm hK1
  obtain ⟨hPx, jmx⟩ := lg_step hPx (dj_symm jxm) hk1 hD1
  have jxm := dj_symm jmx
  obtain ⟨hPo, jmo⟩ := lg_step hPo jmo hk1 hD1
  have hD1 := hD1.weaken (fun _ _ _ h9 => hFc _ h9)
  clear hPm hDm hKm hFc hk1 hz1 hfs1843
  have hIM := hI1; have hPm := hP1; have hDm := hD1; have hKm := hK1; clear hI1 hP1 hD1 hK1
  clear ht; generalize H1 = H at hPx hPm hPo hS ⊢
  refine lv_pop hx hb dL_law_1846 rfl ?_
  refine lv_goto (tgt := 1941) hx hb dL_law_1847 (by decide) ?_
  have hWn : lr_5 vi1 vm1 := l5_no q4x q4m
  have hRn : lr_R tp vi1 vf1 vm1 vn1 := ⟨by rw [kx2 0 (by decide), km2 0 (by decide)]; exact hR.1, lr_keep (fun k9 h9 => kx1 k9 (kp_dis (by decide) h9)) (fun k9 h9 => kx2 k9 (kp_dis (by decide) h9)) (fun k9 h9 => km1 k9 (kp_dis (by decide) h9)) (fun k9 h9 => km2 k9 (kp_dis (by decide) h9)) hR.2⟩
  have hRn := And.intro hRn hWn
  exact kk _ _ _ _ _ (Nat.le_add_right _ _) (Nat.le_add_right _ _) ⟨tp, _, _, _, _, _, _, _, _, _, hIX, hIM, hRn, hKx, hKm, hPx, hPm, hPo, hDx, hDm, hDo, jxm, jxo, jmo⟩ hS (lv_sub hl [0, 1, 2, 3, 4] rfl)

set_option maxHeartbeats 4000000 in
set_option maxRecDepth 100000 in
theorem lc_54 {p : Program} {l : Launch} {e : Env} {s : State} {m : MethodId} {below : List Frame} {meth : Method} {c : Code} {b L : Nat} {xs : Nat → Int32} {A : Nat → Prop} {dC : Nat → ClassId} {dI : Nat → Nat → Nat} (hl0 : l.stackTraces = false) (hL : L ≤ 3072) (hA : ∀ q, s.heap.size ≤ q → A q) (hA2 : ∀ q, A q → s.heap.size ≤ q) (C0 : lw_At p s m meth c b L xs) (sd : Nat → Nat) (sa : Nat) (hE : lg_E A sd sa s) (x mo oa : Nat) (ko : ClassId) (hKo : va_K (dC, dI) vwCl [(ko, .long)] s) (i : Int32) (hi0 : (0 : Int) ≤ i.toInt) (hi6 : i.toInt + 6 ≤ (L : Int)) {H : Heap} {locs : List Loc} {cells slots : Nat} (hc9 : cells + 1 ≤ 601024) (hs9 : slots + 6 ≤ 7293034) (hG : lg_S dC dI A s x mo oa ko H) (hS : va_S A s.heap H locs) {ls : Array Slot} (hl : lv_has ls 7 [(4, .int i), (3, .ref oa), (2, .ref mo), (1, .ref x), (0, .ref b)])
    (kk : ∀ (H : Heap) (locs : List Loc) (ls : Array Slot) (k9 n9 : Nat), k9 ≤ cells + 1 → n9 ≤ slots + 6 → lg_S dC dI A s x mo oa ko H → va_S A s.heap H locs → lv_has ls 7 [(4, .int i), (3, .ref oa), (2, .ref mo), (1, .ref x), (0, .ref b)] → W p l e room_1 s m #[Value.ref b] below meth c H locs k9 n9 (lw_Z below #[Value.ref b] s) (F0 m 1941 ls [])) : W p l e room_1 s m #[Value.ref b] below meth c H locs cells slots (lw_Z below #[Value.ref b] s) (F0 m 1850 ls []) := by
  obtain ⟨hx, hb, hr, hml, hown0, htl, hX, hbl, hlocks, hgv⟩ := id C0
  have hown : s.vm.findClass RL = some m.cls := hown0
  have hts : ∀ w ∈ wlT, w.before #[Value.ref b] s = true := fun w h => htl w (wlT_in w h)
  have hbA : ¬ A b := fun h => absurd (hA2 b h) (Nat.not_le.mpr hbl)
  obtain ⟨tp, wx, wm, tx, tm, fo, vi, vf, vm, vn, hIX, hIM, ⟨hR, hW⟩, hKx, hKm, hPx, hPm, hPo, hDx, hDm, hDo, jxm, jxo, jmo⟩ := hG
  have hiM : i.toInt ≤ (3066 : Int) := by omega
  have hcc : cells ≤ 601024 := by omega
  have hss : slots ≤ 7293034 := by omega
  have htpb := ix_tp hIX
  refine lv_aload_n hx hb dL_law_1850 rfl (lv_at hl 3 rfl) ?_
  refine lv_aload_n hx hb dL_law_1851 rfl (lv_at hl 4 rfl) ?_
  refine lv_iload hx hb dL_law_1852 (lv_at hl 0 rfl) ?_
  refine lv_iconst (v := 1) hx hb dL_law_1854 zk_iconst_1 ?_
  refine lv_iadd hx hb dL_law_1855 ?_
  refine lv_topi (fun ix1 eix1 => ?_)
  have qix1 : ix1.toInt = i.toInt + 1 := ai_add eix1 ⟨hi0, hiM⟩ ⟨zq1, zq0⟩ (by decide) (by decide)
  refine va_sld (L := L) (i := ix1) hx hb hX hbl hbA hS (vp_in_iff.mpr ⟨by omega, by omega⟩) dL_law_1856 ?_
  refine lv_topi (fun vix1 evix1 => ?_)
  have hFc := lg_free hDx hS hA
  obtain ⟨fs1857, hfs1857⟩ := ix_recv hIX
  refine va_calli (va_runV (As := [.int vix1]) (rest := []) ⟨hx, hb, hml, hown, hts⟩ (k_X7_back l dC dI H.size x tp vi vf wx tx hIX vix1) (cwV 1 hts gd_X7_back rfl rfl rfl (by decide +kernel) ⟨Nat.le_of_ble_eq_true rfl, Nat.le_of_ble_eq_true rfl⟩) ⟨ax_blind (fun _ _ _ _ hq => va_Nw.same rfl rfl (hq)), va_recv hKx hPx (ci := 7) (q0 := 0) rfl hfs1857, ax_preE hPx hKx hDx (fun U hU hW => va_Nw.warmM hW (hE.2.2.2.2.2.2.2.1))⟩ rfl rfl hl.1 rfl (lv_room (Nat.le_of_ble_eq_true rfl)) dL_law_1857 ⟨hcc, hss⟩) hS (fun q _ h => hFc q h) hFc (fun r1857 u t H1 locs ht hvm hw1857 hB hz1 hk1 hS => ?_)
  obtain ⟨wxn, txn, ⟨vi1, vf1, kx1, kx2, q4x, hI1⟩, hP1, hK1, hD1⟩ := hB
  rw [ht] at hP1
  have hK1 := va_K.moved hvm.symm hK1
  obtain ⟨hPm, jxm⟩ := lg_step hPm jxm hk1 hD1
  obtain ⟨hPo, jxo⟩ := lg_step hPo jxo hk1 hD1
  have hD1 := hD1.weaken (fun _ _ _ h9 => hFc _ h9)
  clear hPx hDx hKx hFc hk1 hz1 hfs1857
  have hIX := hI1; have hPx := hP1; have hDx := hD1; have hKx := hK1; clear hI1 hP1 hD1 hK1
  clear ht; generalize H1 = H at hPx hPm hPo hS ⊢
  refine lv_pop hx hb dL_law_1860 rfl ?_
  refine lv_aload_n hx hb dL_law_1861 rfl (lv_at hl 2 rfl) ?_
  refine lv_aload_n hx hb dL_law_1862 rfl (lv_at hl 4 rfl) ?_
  refine lv_iload hx hb dL_law_1863 (lv_at hl 0 rfl) ?_
  refine lv_iconst (v := 1) hx hb dL_law_1865 zk_iconst_1 ?_
  refine lv_iadd hx hb dL_law_1866 ?_
  refine ax_ti ix1 eix1.symm ?_
  refine va_sld (L := L) (i := ix1) hx hb hX hbl hbA hS (vp_in_iff.mpr ⟨by omega, by omega⟩) dL_law_1867 ?_
  refine ax_ti vix1 evix1.symm ?_
  have hFc := lg_free hDm hS hA
  obtain ⟨fs1868, hfs1868⟩ := im_recv hIM
  refine va_calli (va_runV (As := [.int vix1]) (rest := []) ⟨hx, hb, hml, hown, hts⟩ (k_X8_back l dC dI H.size mo tp vm vn wm tm hIM vix1) (cwV 1 hts gd_X8_back rfl rfl rfl (by decide +kernel) ⟨Nat.le_of_ble_eq_true rfl, Nat.le_of_ble_eq_true rfl⟩) ⟨ax_blind (fun _ _ _ _ _ => trivial), va_recv hKm hPm (ci := 8) (q0 := 0) rfl hfs1868, ax_preE hPm hKm hDm (fun _ _ _ => trivial)⟩ rfl rfl hl.1 rfl (lv_room (Nat.le_of_ble_eq_true rfl)) dL_law_1868 ⟨hcc, hss⟩) hS (fun q _ h => hFc q h) hFc (fun r1868 u t H1 locs ht hvm hw1868 hB hz1 hk1 hS => ?_)
  obtain ⟨wmn, tmn, ⟨vm1, vn1, km1, km2, q4m, hI1⟩, hP1, hK1, hD1⟩ := hB
  rw [ht] at hP1
  have hK1 := va_K.moved hvm.symm hK1
  obtain ⟨hPx, jmx⟩ := lg_step hPx (dj_symm jxm) hk1 hD1
  have jxm := dj_symm jmx
  obtain ⟨hPo, jmo⟩ := lg_step hPo jmo hk1 hD1
  have hD1 := hD1.weaken (fun _ _ _ h9 => hFc _ h9)
  clear hPm hDm hKm hFc hk1 hz1 hfs1868
  have hIM := hI1; have hPm := hP1; have hDm := hD1; have hKm := hK1; clear hI1 hP1 hD1 hK1
  clear ht; generalize H1 = H at hPx hPm hPo hS ⊢
  refine lv_pop hx hb dL_law_1871 rfl ?_
  refine lv_goto (tgt := 1941) hx hb dL_law_1872 (by decide) ?_
  have hWn : lr_5 vi1 vm1 := l5_no q4x q4m
  have hRn : lr_R tp vi1 vf1 vm1 vn1 := ⟨by rw [kx2 0 (by decide), km2 0 (by decide)]; exact hR.1, lr_keep (fun k9 h9 => kx1 k9 (kp_dis (by decide) h9)) (fun k9 h9 => kx2 k9 (kp_dis (by decide) h9)) (fun k9 h9 => km1 k9 (kp_dis (by decide) h9)) (fun k9 h9 => km2 k9 (kp_dis (by decide) h9)) hR.2⟩
  have hRn := And.intro hRn hWn
  exact kk _ _ _ _ _ (Nat.le_add_right _ _) (Nat.le_add_right _ _) ⟨tp, _, _, _, _, _, _, _, _, _, hIX, hIM, hRn, hKx, hKm, hPx, hPm, hPo, hDx, hDm, hDo, jxm, jxo, jmo⟩ hS (lv_sub hl [0, 1, 2, 3, 4] rfl)

set_option maxHeartbeats 4000000 in
set_option maxRecDepth 100000 in
theorem lc_55 {p : Program} {l : Launch} {e : Env} {s : State} {m : MethodId} {below : List Frame} {meth : Method} {c : Code} {b L : Nat} {xs : Nat → Int32} {A : Nat → Prop} {dC : Nat → ClassId} {dI : Nat → Nat → Nat} (hl0 : l.stackTraces = false) (hL : L ≤ 3072) (hA : ∀ q, s.heap.size ≤ q → A q) (hA2 : ∀ q, A q → s.heap.size ≤ q) (C0 : lw_At p s m meth c b L xs) (sd : Nat → Nat) (sa : Nat) (hE : lg_E A sd sa s) (x mo oa : Nat) (ko : ClassId) (hKo : va_K (dC, dI) vwCl [(ko, .long)] s) (i : Int32) (hi0 : (0 : Int) ≤ i.toInt) (hi6 : i.toInt + 6 ≤ (L : Int)) {H : Heap} {locs : List Loc} {cells slots : Nat} (hc9 : cells + 1 ≤ 601024) (hs9 : slots + 6 ≤ 7293034) (hG : lg_S dC dI A s x mo oa ko H) (hS : va_S A s.heap H locs) {ls : Array Slot} (hl : lv_has ls 7 [(4, .int i), (3, .ref oa), (2, .ref mo), (1, .ref x), (0, .ref b)])
    (kk : ∀ (H : Heap) (locs : List Loc) (ls : Array Slot) (k9 n9 : Nat), k9 ≤ cells + 1 → n9 ≤ slots + 6 → lg_S dC dI A s x mo oa ko H → va_S A s.heap H locs → lv_has ls 7 [(4, .int i), (3, .ref oa), (2, .ref mo), (1, .ref x), (0, .ref b)] → W p l e room_1 s m #[Value.ref b] below meth c H locs k9 n9 (lw_Z below #[Value.ref b] s) (F0 m 1941 ls [])) : W p l e room_1 s m #[Value.ref b] below meth c H locs cells slots (lw_Z below #[Value.ref b] s) (F0 m 1875 ls []) := by
  obtain ⟨hx, hb, hr, hml, hown0, htl, hX, hbl, hlocks, hgv⟩ := id C0
  have hown : s.vm.findClass RL = some m.cls := hown0
  have hts : ∀ w ∈ wlT, w.before #[Value.ref b] s = true := fun w h => htl w (wlT_in w h)
  have hbA : ¬ A b := fun h => absurd (hA2 b h) (Nat.not_le.mpr hbl)
  obtain ⟨tp, wx, wm, tx, tm, fo, vi, vf, vm, vn, hIX, hIM, ⟨hR, hW⟩, hKx, hKm, hPx, hPm, hPo, hDx, hDm, hDo, jxm, jxo, jmo⟩ := hG
  have hiM : i.toInt ≤ (3066 : Int) := by omega
  have hcc : cells ≤ 601024 := by omega
  have hss : slots ≤ 7293034 := by omega
  have htpb := ix_tp hIX
  refine lv_aload_n hx hb dL_law_1875 rfl (lv_at hl 3 rfl) ?_
  refine lv_aload_n hx hb dL_law_1876 rfl (lv_at hl 4 rfl) ?_
  refine lv_iload hx hb dL_law_1877 (lv_at hl 0 rfl) ?_
  refine lv_iconst (v := 1) hx hb dL_law_1879 zk_iconst_1 ?_
  refine lv_iadd hx hb dL_law_1880 ?_
  refine lv_topi (fun ix1 eix1 => ?_)
  have qix1 : ix1.toInt = i.toInt + 1 := ai_add eix1 ⟨hi0, hiM⟩ ⟨zq1, zq0⟩ (by decide) (by decide)
  refine va_sld (L := L) (i := ix1) hx hb hX hbl hbA hS (vp_in_iff.mpr ⟨by omega, by omega⟩) dL_law_1881 ?_
  refine lv_topi (fun vix1 evix1 => ?_)
  refine lv_aload_n hx hb dL_law_1882 rfl (lv_at hl 1 rfl) ?_
  obtain ⟨ad, kc, vl, fl, rfl, rfl, F0, F1, F2, F3, F4, F5, F6, F7, F8, F9, F10, F11, F12, F13, F14, F15, F16, F17, F18, F19, F20, F21, F22, F23, F24, F25, F26, F27, F28, F29, F30, F31, F32, F33, F34, F35, F36, F37, F38, F39, F40, F41, F42, F43, F44, F45, F46, F47, F48, F49, F50, F51, F52, F53, F54, F55, F56, F57⟩ := id hIX
  have hPc := hPx.sub (ws' := [(x, .inr (7, [.ref (ad 0), .ref (ad 1), .ref (ad 2), .ref (ad 3), .ref (ad 4), .ref (ad 5), .ref (ad 6), .ref (ad 7), .int (vi 0), .int (vi 1), .int (vi 2)])), ((ad 7), .inr (0, [.int (vi 33), .int (vi 34), .int (vi 35), .int (vi 36), .int (vi 37), .int (vi 38), .int (vi 39), .int (vi 40), .int (vi 41), .int (vi 42), .ref (ad 23), .ref (ad 24), .ref (ad 25), .ref (ad 26), .ref (ad 27)])), ((ad 1), .inr (5, [.int (vi 12), .int (vi 13), .int (vi 14), .int (vi 15), .int (vi 16), .ref (ad 11), .ref (ad 12)])), ((ad 11), .inl ((kc 2), 9, .inl ((vf 1))))]) [0, 8, 2, 12] rfl
  have hDc := hDx.sub (ws' := [(x, .inr (7, [.ref (ad 0), .ref (ad 1), .ref (ad 2), .ref (ad 3), .ref (ad 4), .ref (ad 5), .ref (ad 6), .ref (ad 7), .int (vi 0), .int (vi 1), .int (vi 2)])), ((ad 7), .inr (0, [.int (vi 33), .int (vi 34), .int (vi 35), .int (vi 36), .int (vi 37), .int (vi 38), .int (vi 39), .int (vi 40), .int (vi 41), .int (vi 42), .ref (ad 23), .ref (ad 24), .ref (ad 25), .ref (ad 26), .ref (ad 27)])), ((ad 1), .inr (5, [.int (vi 12), .int (vi 13), .int (vi 14), .int (vi 15), .int (vi 16), .ref (ad 11), .ref (ad 12)])), ((ad 11), .inl ((kc 2), 9, .inl ((vf 1))))]) [0, 8, 2, 12] (by decide) rfl
  have hKc := hKx.sub (tys' := [((kc 2), .int)]) [2] rfl
  have hPl := va_P.app hPc hPo
  have hjc : dj [(x, .inr (7, [.ref (ad 0), .ref (ad 1), .ref (ad 2), .ref (ad 3), .ref (ad 4), .ref (ad 5), .ref (ad 6), .ref (ad 7), .int (vi 0), .int (vi 1), .int (vi 2)])), ((ad 7), .inr (0, [.int (vi 33), .int (vi 34), .int (vi 35), .int (vi 36), .int (vi 37), .int (vi 38), .int (vi 39), .int (vi 40), .int (vi 41), .int (vi 42), .ref (ad 23), .ref (ad 24), .ref (ad 25), .ref (ad 26), .ref (ad 27)])), ((ad 1), .inr (5, [.int (vi 12), .int (vi 13), .int (vi 14), .int (vi 15), .int (vi 16), .ref (ad 11), .ref (ad 12)])), ((ad 11), .inl ((kc 2), 9, .inl ((vf 1))))] [(oa, .inl (ko, 1, .inr (.inl fo)))] := dj_sub (wc := [(x, .inr (7, [.ref (ad 0), .ref (ad 1), .ref (ad 2), .ref (ad 3), .ref (ad 4), .ref (ad 5), .ref (ad 6), .ref (ad 7), .int (vi 0), .int (vi 1), .int (vi 2)])), ((ad 7), .inr (0, [.int (vi 33), .int (vi 34), .int (vi 35), .int (vi 36), .int (vi 37), .int (vi 38), .int (vi 39), .int (vi 40), .int (vi 41), .int (vi 42), .ref (ad 23), .ref (ad 24), .ref (ad 25), .ref (ad 26), .ref (ad 27)])), ((ad 1), .inr (5, [.int (vi 12), .int (vi 13), .int (vi 14), .int (vi 15), .int (vi 16), .ref (ad 11), .ref (ad 12)])), ((ad 11), .inl ((kc 2), 9, .inl ((vf 1))))]) (is := [0, 8, 2, 12]) rfl jxo
  have hDl := va_D.app hDc hDo hjc
  have hKl := hKc.app hKo
  have hFl := lg_free hDl hS hA
  refine vx_calli (vx_runSX (As := [.ref x, .int vix1, .ref oa]) (rest := []) ⟨hx, hb, hml, hown, hts⟩ (c_L_led l hl0 sa oa ko fo dC dI H.size x vix1 (.ref (ad 0)) (.ref (ad 2)) (.ref (ad 3)) (.ref (ad 4)) (.ref (ad 5)) (.ref (ad 6)) (.int (vi 0)) (.int (vi 1)) (.int (vi 2)) (ad 1) (ad 7) (vi 33) (.int (vi 34)) (.int (vi 35)) (.int (vi 36)) (.int (vi 37)) (.int (vi 38)) (.int (vi 39)) (.int (vi 40)) (.int (vi 41)) (.int (vi 42)) (.ref (ad 23)) (.ref (ad 24)) (.ref (ad 25)) (.ref (ad 26)) (.ref (ad 27)) (.int (vi 12)) (.int (vi 13)) (.int (vi 14)) (.int (vi 15)) (.int (vi 16)) (.ref (ad 12)) (ad 11) (kc 2) (vf 1) F16.1 F16.2) (vx_cwSW 3 hts gd_L_led rfl rfl rfl (by decide +kernel) ⟨Nat.le_of_ble_eq_true rfl, Nat.le_of_ble_eq_true rfl⟩) ⟨ax_blind ax_EL_same, ax_preE hPl hKl hDl (fun U hU hW => ax_EL_to hE.2.1 hS.2.1 hFl hU hW)⟩ rfl rfl hl.1 rfl (lv_room (Nat.le_of_ble_eq_true rfl)) dL_law_1883 ⟨by show cells + 1 ≤ 601024; omega, by show slots + 6 ≤ 7293034; omega⟩) hS (fun q _ h => hFl q h) hFl (fun q _ h => h.elim) (fun E ce q9 u t H1 locs ht hvm hpx _ _ _ _ _ _ _ => hpx.elim) (fun r1883 u t H1 locs ht hvm hw hB hz1 hk1 hS => ?_)
  obtain ⟨f9, hP1, hK1, hD1⟩ := hB
  rw [ht] at hP1
  obtain ⟨hPm, jlm⟩ := lg_step hPm (dj_app (dj_sub (wc := [(x, .inr (7, [.ref (ad 0), .ref (ad 1), .ref (ad 2), .ref (ad 3), .ref (ad 4), .ref (ad 5), .ref (ad 6), .ref (ad 7), .int (vi 0), .int (vi 1), .int (vi 2)])), ((ad 7), .inr (0, [.int (vi 33), .int (vi 34), .int (vi 35), .int (vi 36), .int (vi 37), .int (vi 38), .int (vi 39), .int (vi 40), .int (vi 41), .int (vi 42), .ref (ad 23), .ref (ad 24), .ref (ad 25), .ref (ad 26), .ref (ad 27)])), ((ad 1), .inr (5, [.int (vi 12), .int (vi 13), .int (vi 14), .int (vi 15), .int (vi 16), .ref (ad 11), .ref (ad 12)])), ((ad 11), .inl ((kc 2), 9, .inl ((vf 1))))]) (is := [0, 8, 2, 12]) rfl jxm) (dj_symm jmo)) hk1 hD1
  have hPx : va_P (dC, dI) vwCl (ixW x tp ad kc vi vf vl fl) H1 := lg_led (wc := [(x, .inr (7, [.ref (ad 0), .ref (ad 1), .ref (ad 2), .ref (ad 3), .ref (ad 4), .ref (ad 5), .ref (ad 6), .ref (ad 7), .int (vi 0), .int (vi 1), .int (vi 2)])), ((ad 7), .inr (0, [.int (vi 33), .int (vi 34), .int (vi 35), .int (vi 36), .int (vi 37), .int (vi 38), .int (vi 39), .int (vi 40), .int (vi 41), .int (vi 42), .ref (ad 23), .ref (ad 24), .ref (ad 25), .ref (ad 26), .ref (ad 27)])), ((ad 1), .inr (5, [.int (vi 12), .int (vi 13), .int (vi 14), .int (vi 15), .int (vi 16), .ref (ad 11), .ref (ad 12)])), ((ad 11), .inl ((kc 2), 9, .inl ((vf 1))))]) [0, 8, 2, 12] rfl hPx hDx jxo hk1 (hP1.sub (ws' := [(x, .inr (7, [.ref (ad 0), .ref (ad 1), .ref (ad 2), .ref (ad 3), .ref (ad 4), .ref (ad 5), .ref (ad 6), .ref (ad 7), .int (vi 0), .int (vi 1), .int (vi 2)])), ((ad 7), .inr (0, [.int (vi 33), .int (vi 34), .int (vi 35), .int (vi 36), .int (vi 37), .int (vi 38), .int (vi 39), .int (vi 40), .int (vi 41), .int (vi 42), .ref (ad 23), .ref (ad 24), .ref (ad 25), .ref (ad 26), .ref (ad 27)])), ((ad 1), .inr (5, [.int (vi 12), .int (vi 13), .int (vi 14), .int (vi 15), .int (vi 16), .ref (ad 11), .ref (ad 12)])), ((ad 11), .inl ((kc 2), 9, .inl ((vf 1))))]) [0, 1, 2, 3] rfl)
  have hPo : va_P (dC, dI) vwCl [(oa, .inl (ko, 1, .inr (.inl f9)))] H1 := hP1.sub [4] rfl
  have jxo := dj_o (fp := f9) jxo
  have jmo := dj_o (fp := f9) jmo
  have hDo := va_D_o (fp := f9) hDo
  clear ht; generalize H1 = H at hPx hPm hPo hS ⊢
  have hcc : cells + 1 ≤ 601024 := by omega
  have hss : slots + 6 ≤ 7293034 := by omega
  refine lv_istore (lv' := [(5, .int r1883), (4, .int i), (3, .ref oa), (2, .ref mo), (1, .ref x), (0, .ref b)]) hx hb dL_law_1886 hl (by decide) rfl (fun ls hl => ?_)
  refine lv_aload_n hx hb dL_law_1888 rfl (lv_at hl 3 rfl) ?_
  refine lv_aload_n hx hb dL_law_1889 rfl (lv_at hl 5 rfl) ?_
  refine lv_iload hx hb dL_law_1890 (lv_at hl 1 rfl) ?_
  refine lv_iconst (v := 1) hx hb dL_law_1892 zk_iconst_1 ?_
  refine lv_iadd hx hb dL_law_1893 ?_
  refine ax_ti ix1 eix1.symm ?_
  refine va_sld (L := L) (i := ix1) hx hb hX hbl hbA hS (vp_in_iff.mpr ⟨by omega, by omega⟩) dL_law_1894 ?_
  refine ax_ti vix1 evix1.symm ?_
  have hFc := lg_free hDm hS hA
  obtain ⟨fs1895, hfs1895⟩ := im_recv hIM
  refine va_calli (va_runV (As := [.int vix1]) (rest := []) ⟨hx, hb, hml, hown, hts⟩ (k_X8_led l dC dI H.size mo tp vm vn wm tm hIM vix1) (cwV 1 hts gd_X8_led rfl rfl rfl (by decide +kernel) ⟨Nat.le_of_ble_eq_true rfl, Nat.le_of_ble_eq_true rfl⟩) ⟨ax_blind (fun _ _ _ _ _ => trivial), va_recv hKm hPm (ci := 8) (q0 := 0) rfl hfs1895, ax_preE hPm hKm hDm (fun _ _ _ => trivial)⟩ rfl rfl hl.1 rfl (lv_room (Nat.le_of_ble_eq_true rfl)) dL_law_1895 ⟨hcc, hss⟩) hS (fun q _ h => hFc q h) hFc (fun r1895 u t H1 locs ht hvm hw1895 hB hz1 hk1 hS => ?_)
  obtain ⟨wmn, tmn, ⟨vm1, vn1, km1, km2, hI1⟩, hP1, hK1, hD1⟩ := hB
  rw [ht] at hP1
  have hK1 := va_K.moved hvm.symm hK1
  obtain ⟨hPx, jmx⟩ := lg_step hPx (dj_symm jxm) hk1 hD1
  have jxm := dj_symm jmx
  obtain ⟨hPo, jmo⟩ := lg_step hPo jmo hk1 hD1
  have hD1 := hD1.weaken (fun _ _ _ h9 => hFc _ h9)
  clear hPm hDm hKm hFc hk1 hz1 hfs1895
  have hIM := hI1; have hPm := hP1; have hDm := hD1; have hKm := hK1; clear hI1 hP1 hD1 hK1
  clear ht; generalize H1 = H at hPx hPm hPo hS ⊢
  refine lv_istore (lv' := [(6, .int r1895), (5, .int r1883), (4, .int i), (3, .ref oa), (2, .ref mo), (1, .ref x), (0, .ref b)]) hx hb dL_law_1898 hl (by decide) rfl (fun ls hl => ?_)
  refine lv_goto (tgt := 1941) hx hb dL_law_1900 (by decide) ?_
  have hWn : lr_5 vi vm1 := l5_keep rfl rfl (km1 9 (by decide)) (km1 8 (by decide)) hW
  have hRn : lr_R tp vi vf vm1 vn1 := ⟨by rw [km2 0 (by decide)]; exact hR.1, lr_keep (fun _ _ => rfl) (fun _ _ => rfl) (fun k9 h9 => km1 k9 (kp_dis (by decide) h9)) (fun k9 h9 => km2 k9 (kp_dis (by decide) h9)) hR.2⟩
  have hRn := And.intro hRn hWn
  exact kk _ _ _ _ _ (Nat.le_refl _) (Nat.le_refl _) ⟨tp, _, _, _, _, _, _, _, _, _, hIX, hIM, hRn, hKx, hKm, hPx, hPm, hPo, hDx, hDm, hDo, jxm, jxo, jmo⟩ hS (lv_sub hl [2, 3, 4, 5, 6] rfl)

set_option maxHeartbeats 4000000 in
set_option maxRecDepth 100000 in
theorem lc_56 {p : Program} {l : Launch} {e : Env} {s : State} {m : MethodId} {below : List Frame} {meth : Method} {c : Code} {b L : Nat} {xs : Nat → Int32} {A : Nat → Prop} {dC : Nat → ClassId} {dI : Nat → Nat → Nat} (hl0 : l.stackTraces = false) (hL : L ≤ 3072) (hA : ∀ q, s.heap.size ≤ q → A q) (hA2 : ∀ q, A q → s.heap.size ≤ q) (C0 : lw_At p s m meth c b L xs) (sd : Nat → Nat) (sa : Nat) (hE : lg_E A sd sa s) (x mo oa : Nat) (ko : ClassId) (hKo : va_K (dC, dI) vwCl [(ko, .long)] s) (i : Int32) (hi0 : (0 : Int) ≤ i.toInt) (hi6 : i.toInt + 6 ≤ (L : Int)) {H : Heap} {locs : List Loc} {cells slots : Nat} (hc9 : cells + 1 ≤ 601024) (hs9 : slots + 6 ≤ 7293034) (hG : lg_S dC dI A s x mo oa ko H) (hS : va_S A s.heap H locs) {ls : Array Slot} (hl : lv_has ls 7 [(4, .int i), (3, .ref oa), (2, .ref mo), (1, .ref x), (0, .ref b)])
    (kk : ∀ (H : Heap) (locs : List Loc) (ls : Array Slot) (k9 n9 : Nat), k9 ≤ cells + 1 → n9 ≤ slots + 6 → lg_S dC dI A s x mo oa ko H → va_S A s.heap H locs → lv_has ls 7 [(4, .int i), (3, .ref oa), (2, .ref mo), (1, .ref x), (0, .ref b)] → W p l e room_1 s m #[Value.ref b] below meth c H locs k9 n9 (lw_Z below #[Value.ref b] s) (F0 m 1941 ls [])) : W p l e room_1 s m #[Value.ref b] below meth c H locs cells slots (lw_Z below #[Value.ref b] s) (F0 m 1903 ls []) := by
  obtain ⟨hx, hb, hr, hml, hown0, htl, hX, hbl, hlocks, hgv⟩ := id C0
  have hown : s.vm.findClass RL = some m.cls := hown0
  have hts : ∀ w ∈ wlT, w.before #[Value.ref b] s = true := fun w h => htl w (wlT_in w h)
  have hbA : ¬ A b := fun h => absurd (hA2 b h) (Nat.not_le.mpr hbl)
  obtain ⟨tp, wx, wm, tx, tm, fo, vi, vf, vm, vn, hIX, hIM, ⟨hR, hW⟩, hKx, hKm, hPx, hPm, hPo, hDx, hDm, hDo, jxm, jxo, jmo⟩ := hG
  have hiM : i.toInt ≤ (3066 : Int) := by omega
  have hcc : cells ≤ 601024 := by omega
  have hss : slots ≤ 7293034 := by omega
  have htpb := ix_tp hIX
  refine lv_aload_n hx hb dL_law_1903 rfl (lv_at hl 3 rfl) ?_
  refine lv_aload_n hx hb dL_law_1904 rfl (lv_at hl 4 rfl) ?_
  refine lv_iload hx hb dL_law_1905 (lv_at hl 0 rfl) ?_
  refine lv_iconst (v := 1) hx hb dL_law_1907 zk_iconst_1 ?_
  refine lv_iadd hx hb dL_law_1908 ?_
  refine lv_topi (fun ix1 eix1 => ?_)
  have qix1 : ix1.toInt = i.toInt + 1 := ai_add eix1 ⟨hi0, hiM⟩ ⟨zq1, zq0⟩ (by decide) (by decide)
  refine va_sld (L := L) (i := ix1) hx hb hX hbl hbA hS (vp_in_iff.mpr ⟨by omega, by omega⟩) dL_law_1909 ?_
  refine lv_topi (fun vix1 evix1 => ?_)
  have hFc := lg_free hDx hS hA
  obtain ⟨fs1910, hfs1910⟩ := ix_recv hIX
  refine va_calli (va_runV (As := [.int vix1]) (rest := []) ⟨hx, hb, hml, hown, hts⟩ (k_X7_size l dC dI H.size x tp vi vf wx tx hIX vix1) (cwV 1 hts gd_X7_size rfl rfl rfl (by decide +kernel) ⟨Nat.le_of_ble_eq_true rfl, Nat.le_of_ble_eq_true rfl⟩) ⟨ax_blind (fun _ _ _ _ _ => trivial), va_recv hKx hPx (ci := 7) (q0 := 0) rfl hfs1910, ax_preE hPx hKx hDx (fun _ _ _ => trivial)⟩ rfl rfl hl.1 rfl (lv_room (Nat.le_of_ble_eq_true rfl)) dL_law_1910 ⟨hcc, hss⟩) hS (fun q _ h => hFc q h) hFc (fun r1910 u t H1 locs ht hvm hw1910 hB hz1 hk1 hS => ?_)
  obtain ⟨wxn, txn, ⟨vi1, vf1, kx1, kx2, hI1⟩, hP1, hK1, hD1⟩ := hB
  rw [ht] at hP1
  have hK1 := va_K.moved hvm.symm hK1
  obtain ⟨hPm, jxm⟩ := lg_step hPm jxm hk1 hD1
  obtain ⟨hPo, jxo⟩ := lg_step hPo jxo hk1 hD1
  have hD1 := hD1.weaken (fun _ _ _ h9 => hFc _ h9)
  clear hPx hDx hKx hFc hk1 hz1 hfs1910
  have hIX := hI1; have hPx := hP1; have hDx := hD1; have hKx := hK1; clear hI1 hP1 hD1 hK1
  clear ht; generalize H1 = H at hPx hPm hPo hS ⊢
  refine lv_pop hx hb dL_law_1913 rfl ?_
  refine lv_aload_n hx hb dL_law_1914 rfl (lv_at hl 2 rfl) ?_
  refine lv_aload_n hx hb dL_law_1915 rfl (lv_at hl 4 rfl) ?_
  refine lv_iload hx hb dL_law_1916 (lv_at hl 0 rfl) ?_
  refine lv_iconst (v := 1) hx hb dL_law_1918 zk_iconst_1 ?_
  refine lv_iadd hx hb dL_law_1919 ?_
  refine ax_ti ix1 eix1.symm ?_
  refine va_sld (L := L) (i := ix1) hx hb hX hbl hbA hS (vp_in_iff.mpr ⟨by omega, by omega⟩) dL_law_1920 ?_
  refine ax_ti vix1 evix1.symm ?_
  have hFc := lg_free hDm hS hA
  obtain ⟨fs1921, hfs1921⟩ := im_recv hIM
  refine va_calli (va_runV (As := [.int vix1]) (rest := []) ⟨hx, hb, hml, hown, hts⟩ (k_X8_size l dC dI H.size mo tp vm vn wm tm hIM vix1) (cwV 1 hts gd_X8_size rfl rfl rfl (by decide +kernel) ⟨Nat.le_of_ble_eq_true rfl, Nat.le_of_ble_eq_true rfl⟩) ⟨ax_blind (fun _ _ _ _ _ => trivial), va_recv hKm hPm (ci := 8) (q0 := 0) rfl hfs1921, ax_preE hPm hKm hDm (fun _ _ _ => trivial)⟩ rfl rfl hl.1 rfl (lv_room (Nat.le_of_ble_eq_true rfl)) dL_law_1921 ⟨hcc, hss⟩) hS (fun q _ h => hFc q h) hFc (fun r1921 u t H1 locs ht hvm hw1921 hB hz1 hk1 hS => ?_)
  obtain ⟨wmn, tmn, ⟨vm1, vn1, km1, km2, hI1⟩, hP1, hK1, hD1⟩ := hB
  rw [ht] at hP1
  have hK1 := va_K.moved hvm.symm hK1
  obtain ⟨hPx, jmx⟩ := lg_step hPx (dj_symm jxm) hk1 hD1
  have jxm := dj_symm jmx
  obtain ⟨hPo, jmo⟩ := lg_step hPo jmo hk1 hD1
  have hD1 := hD1.weaken (fun _ _ _ h9 => hFc _ h9)
  clear hPm hDm hKm hFc hk1 hz1 hfs1921
  have hIM := hI1; have hPm := hP1; have hDm := hD1; have hKm := hK1; clear hI1 hP1 hD1 hK1
  clear ht; generalize H1 = H at hPx hPm hPo hS ⊢
  refine lv_pop hx hb dL_law_1924 rfl ?_
  refine lv_goto (tgt := 1941) hx hb dL_law_1925 (by decide) ?_
  have hWn : lr_5 vi1 vm1 := l5_keep (kx1 0 (by decide)) (kx1 2 (by decide)) (km1 9 (by decide)) (km1 8 (by decide)) hW
  have hRn : lr_R tp vi1 vf1 vm1 vn1 := ⟨by rw [kx2 0 (by decide), km2 0 (by decide)]; exact hR.1, lr_keep (fun k9 h9 => kx1 k9 (kp_dis (by decide) h9)) (fun k9 h9 => kx2 k9 (kp_dis (by decide) h9)) (fun k9 h9 => km1 k9 (kp_dis (by decide) h9)) (fun k9 h9 => km2 k9 (kp_dis (by decide) h9)) hR.2⟩
  have hRn := And.intro hRn hWn
  exact kk _ _ _ _ _ (Nat.le_add_right _ _) (Nat.le_add_right _ _) ⟨tp, _, _, _, _, _, _, _, _, _, hIX, hIM, hRn, hKx, hKm, hPx, hPm, hPo, hDx, hDm, hDo, jxm, jxo, jmo⟩ hS (lv_sub hl [0, 1, 2, 3, 4] rfl)

set_option maxHeartbeats 4000000 in
set_option maxRecDepth 100000 in
theorem lc_57 {p : Program} {l : Launch} {e : Env} {s : State} {m : MethodId} {below : List Frame} {meth : Method} {c : Code} {b L : Nat} {xs : Nat → Int32} {A : Nat → Prop} {dC : Nat → ClassId} {dI : Nat → Nat → Nat} (hl0 : l.stackTraces = false) (hL : L ≤ 3072) (hA : ∀ q, s.heap.size ≤ q → A q) (hA2 : ∀ q, A q → s.heap.size ≤ q) (C0 : lw_At p s m meth c b L xs) (sd : Nat → Nat) (sa : Nat) (hE : lg_E A sd sa s) (x mo oa : Nat) (ko : ClassId) (hKo : va_K (dC, dI) vwCl [(ko, .long)] s) (i : Int32) (hi0 : (0 : Int) ≤ i.toInt) (hi6 : i.toInt + 6 ≤ (L : Int)) {H : Heap} {locs : List Loc} {cells slots : Nat} (hc9 : cells + 1 ≤ 601024) (hs9 : slots + 6 ≤ 7293034) (hG : lg_S dC dI A s x mo oa ko H) (hS : va_S A s.heap H locs) {ls : Array Slot} (hl : lv_has ls 7 [(4, .int i), (3, .ref oa), (2, .ref mo), (1, .ref x), (0, .ref b)])
    (kk : ∀ (H : Heap) (locs : List Loc) (ls : Array Slot) (k9 n9 : Nat), k9 ≤ cells + 1 → n9 ≤ slots + 6 → lg_S dC dI A s x mo oa ko H → va_S A s.heap H locs → lv_has ls 7 [(4, .int i), (3, .ref oa), (2, .ref mo), (1, .ref x), (0, .ref b)] → W p l e room_1 s m #[Value.ref b] below meth c H locs k9 n9 (lw_Z below #[Value.ref b] s) (F0 m 1941 ls [])) : W p l e room_1 s m #[Value.ref b] below meth c H locs cells slots (lw_Z below #[Value.ref b] s) (F0 m 1928 ls []) := by
  obtain ⟨hx, hb, hr, hml, hown0, htl, hX, hbl, hlocks, hgv⟩ := id C0
  have hown : s.vm.findClass RL = some m.cls := hown0
  have hts : ∀ w ∈ wlT, w.before #[Value.ref b] s = true := fun w h => htl w (wlT_in w h)
  have hbA : ¬ A b := fun h => absurd (hA2 b h) (Nat.not_le.mpr hbl)
  obtain ⟨tp, wx, wm, tx, tm, fo, vi, vf, vm, vn, hIX, hIM, ⟨hR, hW⟩, hKx, hKm, hPx, hPm, hPo, hDx, hDm, hDo, jxm, jxo, jmo⟩ := hG
  have hiM : i.toInt ≤ (3066 : Int) := by omega
  have hcc : cells ≤ 601024 := by omega
  have hss : slots ≤ 7293034 := by omega
  have htpb := ix_tp hIX
  refine lv_aload_n hx hb dL_law_1928 rfl (lv_at hl 3 rfl) ?_
  have hFc := lg_free hDx hS hA
  obtain ⟨fs1929, hfs1929⟩ := ix_recv hIX
  refine va_calli (va_runV (As := []) (rest := []) ⟨hx, hb, hml, hown, hts⟩ (k_X7_trouble l dC dI H.size x tp vi vf wx tx hIX ) (cwV 0 hts gd_X7_trouble rfl rfl rfl (by decide +kernel) ⟨Nat.le_of_ble_eq_true rfl, Nat.le_of_ble_eq_true rfl⟩) ⟨ax_blind (fun _ _ _ _ _ => trivial), va_recv hKx hPx (ci := 7) (q0 := 0) rfl hfs1929, ax_preE hPx hKx hDx (fun _ _ _ => trivial)⟩ rfl rfl hl.1 rfl (lv_room (Nat.le_of_ble_eq_true rfl)) dL_law_1929 ⟨hcc, hss⟩) hS (fun q _ h => hFc q h) hFc (fun r1929 u t H1 locs ht hvm hw1929 hB hz1 hk1 hS => ?_)
  obtain ⟨wxn, txn, ⟨vi1, vf1, kx1, kx2, hI1⟩, hP1, hK1, hD1⟩ := hB
  rw [ht] at hP1
  have hK1 := va_K.moved hvm.symm hK1
  obtain ⟨hPm, jxm⟩ := lg_step hPm jxm hk1 hD1
  obtain ⟨hPo, jxo⟩ := lg_step hPo jxo hk1 hD1
  have hD1 := hD1.weaken (fun _ _ _ h9 => hFc _ h9)
  clear hPx hDx hKx hFc hk1 hz1 hfs1929
  have hIX := hI1; have hPx := hP1; have hDx := hD1; have hKx := hK1; clear hI1 hP1 hD1 hK1
  clear ht; generalize H1 = H at hPx hPm hPo hS ⊢
  refine lv_pop hx hb dL_law_1932 rfl ?_
  refine lv_aload_n hx hb dL_law_1933 rfl (lv_at hl 2 rfl) ?_
  have hFc := lg_free hDm hS hA
  obtain ⟨fs1934, hfs1934⟩ := im_recv hIM
  refine va_calli (va_runV (As := []) (rest := []) ⟨hx, hb, hml, hown, hts⟩ (k_X8_trouble l dC dI H.size mo tp vm vn wm tm hIM ) (cwV 0 hts gd_X8_trouble rfl rfl rfl (by decide +kernel) ⟨Nat.le_of_ble_eq_true rfl, Nat.le_of_ble_eq_true rfl⟩) ⟨ax_blind (fun _ _ _ _ _ => trivial), va_recv hKm hPm (ci := 8) (q0 := 0) rfl hfs1934, ax_preE hPm hKm hDm (fun _ _ _ => trivial)⟩ rfl rfl hl.1 rfl (lv_room (Nat.le_of_ble_eq_true rfl)) dL_law_1934 ⟨hcc, hss⟩) hS (fun q _ h => hFc q h) hFc (fun r1934 u t H1 locs ht hvm hw1934 hB hz1 hk1 hS => ?_)
  obtain ⟨wmn, tmn, ⟨vm1, vn1, km1, km2, hI1⟩, hP1, hK1, hD1⟩ := hB
  rw [ht] at hP1
  have hK1 := va_K.moved hvm.symm hK1
  obtain ⟨hPx, jmx⟩ := lg_step hPx (dj_symm jxm) hk1 hD1
  have jxm := dj_symm jmx
  obtain ⟨hPo, jmo⟩ := lg_step hPo jmo hk1 hD1
  have hD1 := hD1.weaken (fun _ _ _ h9 => hFc _ h9)
  clear hPm hDm hKm hFc hk1 hz1 hfs1934
  have hIM := hI1; have hPm := hP1; have hDm := hD1; have hKm := hK1; clear hI1 hP1 hD1 hK1
  clear ht; generalize H1 = H at hPx hPm hPo hS ⊢
  refine lv_pop hx hb dL_law_1937 rfl ?_
  refine lv_goto (tgt := 1941) hx hb dL_law_1938 (by decide) ?_
  have hWn : lr_5 vi1 vm1 := l5_keep (kx1 0 (by decide)) (kx1 2 (by decide)) (km1 9 (by decide)) (km1 8 (by decide)) hW
  have hRn : lr_R tp vi1 vf1 vm1 vn1 := ⟨by rw [kx2 0 (by decide), km2 0 (by decide)]; exact hR.1, lr_keep (fun k9 h9 => kx1 k9 (kp_dis (by decide) h9)) (fun k9 h9 => kx2 k9 (kp_dis (by decide) h9)) (fun k9 h9 => km1 k9 (kp_dis (by decide) h9)) (fun k9 h9 => km2 k9 (kp_dis (by decide) h9)) hR.2⟩
  have hRn := And.intro hRn hWn
  exact kk _ _ _ _ _ (Nat.le_add_right _ _) (Nat.le_add_right _ _) ⟨tp, _, _, _, _, _, _, _, _, _, hIX, hIM, hRn, hKx, hKm, hPx, hPm, hPo, hDx, hDm, hDo, jxm, jxo, jmo⟩ hS (lv_sub hl [0, 1, 2, 3, 4] rfl)
end P443_cases_3
section P446_loop
set_option maxHeartbeats 4000000 in
set_option maxRecDepth 100000 in
theorem lg_loop {p : Program} {l : Launch} {e : Env} {s : State} {m : MethodId} {below : List Frame} {meth : Method} {c : Code} {b L : Nat} {xs : Nat → Int32} {A : Nat → Prop} {dC : Nat → ClassId} {dI : Nat → Nat → Nat} (hl0 : l.stackTraces = false) (hL : L ≤ 3072) (hA : ∀ q, s.heap.size ≤ q → A q) (hA2 : ∀ q, A q → s.heap.size ≤ q) (C0 : lw_At p s m meth c b L xs) (sd : Nat → Nat) (sa : Nat) (hE : lg_E A sd sa s) (x mo oa : Nat) (ko : ClassId) (hKo : va_K (dC, dI) vwCl [(ko, .long)] s) : ∀ (n : Nat) (i : Int32) (H : Heap) (locs : List Loc) (ls : Array Slot) (cells slots : Nat), (0 : Int) ≤ i.toInt → i.toInt ≤ (3072 : Int) → (L : Int) - i.toInt < 6 * (n : Int) + 6 → cells + n ≤ 601024 → slots + 6 * n ≤ 7293034 → lg_S dC dI A s x mo oa ko H → va_S A s.heap H locs → lv_has ls 7 [(4, .int i), (3, .ref oa), (2, .ref mo), (1, .ref x), (0, .ref b)] → W p l e room_1 s m #[Value.ref b] below meth c H locs cells slots (lw_Z below #[Value.ref b] s) (F0 m 23 ls []) := by
  obtain ⟨hx, hb, hr, hml, hown0, htl, hX, hbl, hlocks, hgv⟩ := id C0
  have hown : s.vm.findClass RL = some m.cls := hown0
  have hts : ∀ w ∈ wlT, w.before #[Value.ref b] s = true := fun w h => htl w (wlT_in w h)
  have hbA : ¬ A b := fun h => absurd (hA2 b h) (Nat.not_le.mpr hbl)
  have eL : (Int32.ofNat L).toInt = (L : Int) := nI_toInt (by omega)
  have hout : ∀ (H : Heap) (locs : List Loc) (ls : Array Slot) (cells slots : Nat), cells ≤ 601024 → slots ≤ 7293034 → va_S A s.heap H locs → W p l e room_1 s m #[Value.ref b] below meth c H locs cells slots (lw_Z below #[Value.ref b] s) (F0 m 1947 ls []) := by
    intro H locs ls cells slots hc hs hS
    refine lv_iconst (v := 1) hx hb dL_law_1947 zk_iconst_1 ?_
    refine va_forget (fun q hq => hA2 _ (hS.2.2 q hq)) ?_
    refine W.widen (k := 601024) (n := 7293034) hc hs ?_
    exact lw_ret hx hb hr hlocks dL_law_1948
  intro n
  induction n with
  | zero =>
    intro i H locs ls cells slots hi0 hiB hm hc hs hG hS hl
    refine lv_iload hx hb dL_law_23 (lv_at hl 0 rfl) ?_
    refine lv_aload_n hx hb dL_law_25 rfl (lv_at hl 4 rfl) ?_
    refine va_slen hx hb hX hbl hbA hS dL_law_26 ?_
    refine lv_bipush (v := 6) hx hb dL_law_27 zk_bipush_6 ?_
    refine lv_isub hx hb dL_law_29 ?_
    refine lv_topi (fun y29 e29 => ?_)
    have q29 : y29.toInt = (Int32.ofNat L).toInt - (6 : Int32).toInt := ai_sub (a := 0) (b := 3072) e29 ⟨by omega, by omega⟩ ⟨zq15, zq16⟩ (by decide) (by decide)
    have q6 : (6 : Int32).toInt = 6 := by decide
    refine lv_icmp_gt (tgt := 1947) hx hb dL_law_30 (by decide) (fun c30 => ?_) (fun c30 => ?_)
    · exact hout _ _ _ _ _ (by omega) (by omega) hS
    · have g30 := ai_nlt c30
      omega
  | succ n ih =>
    intro i H locs ls cells slots hi0 hiB hm hc hs hG hS hl
    refine lv_iload hx hb dL_law_23 (lv_at hl 0 rfl) ?_
    refine lv_aload_n hx hb dL_law_25 rfl (lv_at hl 4 rfl) ?_
    refine va_slen hx hb hX hbl hbA hS dL_law_26 ?_
    refine lv_bipush (v := 6) hx hb dL_law_27 zk_bipush_6 ?_
    refine lv_isub hx hb dL_law_29 ?_
    refine lv_topi (fun y29 e29 => ?_)
    have q29 : y29.toInt = (Int32.ofNat L).toInt - (6 : Int32).toInt := ai_sub (a := 0) (b := 3072) e29 ⟨by omega, by omega⟩ ⟨zq15, zq16⟩ (by decide) (by decide)
    have q6 : (6 : Int32).toInt = 6 := by decide
    refine lv_icmp_gt (tgt := 1947) hx hb dL_law_30 (by decide) (fun c30 => ?_) (fun c30 => ?_)
    · exact hout _ _ _ _ _ (by omega) (by omega) hS
    · have g30 := ai_nlt c30
      have hi6 : i.toInt + 6 ≤ (L : Int) := by omega
      have kk : ∀ (H : Heap) (locs : List Loc) (ls : Array Slot) (k9 n9 : Nat), k9 ≤ cells + 1 → n9 ≤ slots + 6 → lg_S dC dI A s x mo oa ko H → va_S A s.heap H locs → lv_has ls 7 [(4, .int i), (3, .ref oa), (2, .ref mo), (1, .ref x), (0, .ref b)] → W p l e room_1 s m #[Value.ref b] below meth c H locs k9 n9 (lw_Z below #[Value.ref b] s) (F0 m 1941 ls []) := by
        intro H locs ls k9 n9 h1 h2 hG hS hl
        obtain ⟨y9, ey9⟩ : ∃ y : Int32, y = i + Int32.ofInt 6 := ⟨_, rfl⟩
        have qy9 : y9.toInt = i.toInt + 6 := ai_inc ey9 (by decide) (by decide) hiB (by decide)
        refine lv_iinc (v := y9) (lv' := [(4, .int y9), (3, .ref oa), (2, .ref mo), (1, .ref x), (0, .ref b)]) hx hb dL_law_1941 hl (k := 0) rfl ey9.symm (by decide) rfl (fun ls hl => ?_)
        refine lv_goto (tgt := 23) hx hb dL_law_1944 (by decide) ?_
        exact ih y9 _ _ _ _ _ (by omega) (by omega) (by omega) (by omega) (by omega) hG hS hl
      refine lv_aload_n hx hb dL_law_33 rfl (lv_at hl 4 rfl) ?_
      refine lv_iload hx hb dL_law_34 (lv_at hl 0 rfl) ?_
      refine va_sld (L := L) (i := i) hx hb hX hbl hbA hS (vp_in_iff.mpr ⟨by omega, by omega⟩) dL_law_36 ?_
      refine lv_bipush (v := 63) hx hb dL_law_37 zk_bipush_63 ?_
      refine lv_iand hx hb dL_law_39 ?_
      refine lv_topi (fun v39 e39 => ?_)
      clear e39
      by_cases n0 : v39 = 0
      · subst n0
        refine lv_tableIn (off := 248) (tgt := 288) hx hb dL_law_40 (by decide) (by decide) (by decide +kernel) (by decide) ?_
        exact lc_0 hl0 hL hA hA2 C0 sd sa hE x mo oa ko hKo i hi0 hi6 (by omega) (by omega) hG hS hl kk
      by_cases n1 : v39 = 1
      · subst n1
        refine lv_tableIn (off := 321) (tgt := 361) hx hb dL_law_40 (by decide) (by decide) (by decide +kernel) (by decide) ?_
        exact lc_1 hl0 hL hA hA2 C0 sd sa hE x mo oa ko hKo i hi0 hi6 (by omega) (by omega) hG hS hl kk
      by_cases n2 : v39 = 2
      · subst n2
        refine lv_tableIn (off := 346) (tgt := 386) hx hb dL_law_40 (by decide) (by decide) (by decide +kernel) (by decide) ?_
        exact lc_2 hl0 hL hA hA2 C0 sd sa hE x mo oa ko hKo i hi0 hi6 (by omega) (by omega) hG hS hl kk
      by_cases n3 : v39 = 3
      · subst n3
        refine lv_tableIn (off := 359) (tgt := 399) hx hb dL_law_40 (by decide) (by decide) (by decide +kernel) (by decide) ?_
        exact lc_3 hl0 hL hA hA2 C0 sd sa hE x mo oa ko hKo i hi0 hi6 (by omega) (by omega) hG hS hl kk
      by_cases n4 : v39 = 4
      · subst n4
        refine lv_tableIn (off := 372) (tgt := 412) hx hb dL_law_40 (by decide) (by decide) (by decide +kernel) (by decide) ?_
        exact lc_4 hl0 hL hA hA2 C0 sd sa hE x mo oa ko hKo i hi0 hi6 (by omega) (by omega) hG hS hl kk
      by_cases n5 : v39 = 5
      · subst n5
        refine lv_tableIn (off := 409) (tgt := 449) hx hb dL_law_40 (by decide) (by decide) (by decide +kernel) (by decide) ?_
        exact lc_5 hl0 hL hA hA2 C0 sd sa hE x mo oa ko hKo i hi0 hi6 (by omega) (by omega) hG hS hl kk
      by_cases n6 : v39 = 6
      · subst n6
        refine lv_tableIn (off := 446) (tgt := 486) hx hb dL_law_40 (by decide) (by decide) (by decide +kernel) (by decide) ?_
        exact lc_6 hl0 hL hA hA2 C0 sd sa hE x mo oa ko hKo i hi0 hi6 (by omega) (by omega) hG hS hl kk
      by_cases n7 : v39 = 7
      · subst n7
        refine lv_tableIn (off := 459) (tgt := 499) hx hb dL_law_40 (by decide) (by decide) (by decide +kernel) (by decide) ?_
        exact lc_7 hl0 hL hA hA2 C0 sd sa hE x mo oa ko hKo i hi0 hi6 (by omega) (by omega) hG hS hl kk
      by_cases n8 : v39 = 8
      · subst n8
        refine lv_tableIn (off := 472) (tgt := 512) hx hb dL_law_40 (by decide) (by decide) (by decide +kernel) (by decide) ?_
        exact lc_8 hl0 hL hA hA2 C0 sd sa hE x mo oa ko hKo i hi0 hi6 (by omega) (by omega) hG hS hl kk
      by_cases n9 : v39 = 9
      · subst n9
        refine lv_tableIn (off := 485) (tgt := 525) hx hb dL_law_40 (by decide) (by decide) (by decide +kernel) (by decide) ?_
        exact lc_9 hl0 hL hA hA2 C0 sd sa hE x mo oa ko hKo i hi0 hi6 (by omega) (by omega) hG hS hl kk
      by_cases n10 : v39 = 10
      · subst n10
        refine lv_tableIn (off := 510) (tgt := 550) hx hb dL_law_40 (by decide) (by decide) (by decide +kernel) (by decide) ?_
        exact lc_10 hl0 hL hA hA2 C0 sd sa hE x mo oa ko hKo i hi0 hi6 (by omega) (by omega) hG hS hl kk
      by_cases n11 : v39 = 11
      · subst n11
        refine lv_tableIn (off := 535) (tgt := 575) hx hb dL_law_40 (by decide) (by decide) (by decide +kernel) (by decide) ?_
        exact lc_11 hl0 hL hA hA2 C0 sd sa hE x mo oa ko hKo i hi0 hi6 (by omega) (by omega) hG hS hl kk
      by_cases n12 : v39 = 12
      · subst n12
        refine lv_tableIn (off := 548) (tgt := 588) hx hb dL_law_40 (by decide) (by decide) (by decide +kernel) (by decide) ?_
        exact lc_12 hl0 hL hA hA2 C0 sd sa hE x mo oa ko hKo i hi0 hi6 (by omega) (by omega) hG hS hl kk
      by_cases n13 : v39 = 13
      · subst n13
        refine lv_tableIn (off := 561) (tgt := 601) hx hb dL_law_40 (by decide) (by decide) (by decide +kernel) (by decide) ?_
        exact lc_13 hl0 hL hA hA2 C0 sd sa hE x mo oa ko hKo i hi0 hi6 (by omega) (by omega) hG hS hl kk
      by_cases n14 : v39 = 14
      · subst n14
        refine lv_tableIn (off := 574) (tgt := 614) hx hb dL_law_40 (by decide) (by decide) (by decide +kernel) (by decide) ?_
        exact lc_14 hl0 hL hA hA2 C0 sd sa hE x mo oa ko hKo i hi0 hi6 (by omega) (by omega) hG hS hl kk
      by_cases n15 : v39 = 15
      · subst n15
        refine lv_tableIn (off := 611) (tgt := 651) hx hb dL_law_40 (by decide) (by decide) (by decide +kernel) (by decide) ?_
        exact lc_15 hl0 hL hA hA2 C0 sd sa hE x mo oa ko hKo i hi0 hi6 (by omega) (by omega) hG hS hl kk
      by_cases n16 : v39 = 16
      · subst n16
        refine lv_tableIn (off := 648) (tgt := 688) hx hb dL_law_40 (by decide) (by decide) (by decide +kernel) (by decide) ?_
        exact lc_16 hl0 hL hA hA2 C0 sd sa hE x mo oa ko hKo i hi0 hi6 (by omega) (by omega) hG hS hl kk
      by_cases n17 : v39 = 17
      · subst n17
        refine lv_tableIn (off := 685) (tgt := 725) hx hb dL_law_40 (by decide) (by decide) (by decide +kernel) (by decide) ?_
        exact lc_17 hl0 hL hA hA2 C0 sd sa hE x mo oa ko hKo i hi0 hi6 (by omega) (by omega) hG hS hl kk
      by_cases n18 : v39 = 18
      · subst n18
        refine lv_tableIn (off := 710) (tgt := 750) hx hb dL_law_40 (by decide) (by decide) (by decide +kernel) (by decide) ?_
        exact lc_18 hl0 hL hA hA2 C0 sd sa hE x mo oa ko hKo i hi0 hi6 (by omega) (by omega) hG hS hl kk
      by_cases n19 : v39 = 19
      · subst n19
        refine lv_tableIn (off := 723) (tgt := 763) hx hb dL_law_40 (by decide) (by decide) (by decide +kernel) (by decide) ?_
        exact lc_19 hl0 hL hA hA2 C0 sd sa hE x mo oa ko hKo i hi0 hi6 (by omega) (by omega) hG hS hl kk
      by_cases n20 : v39 = 20
      · subst n20
        refine lv_tableIn (off := 748) (tgt := 788) hx hb dL_law_40 (by decide) (by decide) (by decide +kernel) (by decide) ?_
        exact lc_20 hl0 hL hA hA2 C0 sd sa hE x mo oa ko hKo i hi0 hi6 (by omega) (by omega) hG hS hl kk
      by_cases n21 : v39 = 21
      · subst n21
        refine lv_tableIn (off := 785) (tgt := 825) hx hb dL_law_40 (by decide) (by decide) (by decide +kernel) (by decide) ?_
        exact lc_21 hl0 hL hA hA2 C0 sd sa hE x mo oa ko hKo i hi0 hi6 (by omega) (by omega) hG hS hl kk
      by_cases n22 : v39 = 22
      · subst n22
        refine lv_tableIn (off := 810) (tgt := 850) hx hb dL_law_40 (by decide) (by decide) (by decide +kernel) (by decide) ?_
        exact lc_22 hl0 hL hA hA2 C0 sd sa hE x mo oa ko hKo i hi0 hi6 (by omega) (by omega) hG hS hl kk
      by_cases n23 : v39 = 23
      · subst n23
        refine lv_tableIn (off := 835) (tgt := 875) hx hb dL_law_40 (by decide) (by decide) (by decide +kernel) (by decide) ?_
        exact lc_23 hl0 hL hA hA2 C0 sd sa hE x mo oa ko hKo i hi0 hi6 (by omega) (by omega) hG hS hl kk
      by_cases n24 : v39 = 24
      · subst n24
        refine lv_tableIn (off := 860) (tgt := 900) hx hb dL_law_40 (by decide) (by decide) (by decide +kernel) (by decide) ?_
        exact lc_24 hl0 hL hA hA2 C0 sd sa hE x mo oa ko hKo i hi0 hi6 (by omega) (by omega) hG hS hl kk
      by_cases n25 : v39 = 25
      · subst n25
        refine lv_tableIn (off := 885) (tgt := 925) hx hb dL_law_40 (by decide) (by decide) (by decide +kernel) (by decide) ?_
        exact lc_25 hl0 hL hA hA2 C0 sd sa hE x mo oa ko hKo i hi0 hi6 (by omega) (by omega) hG hS hl kk
      by_cases n26 : v39 = 26
      · subst n26
        refine lv_tableIn (off := 922) (tgt := 962) hx hb dL_law_40 (by decide) (by decide) (by decide +kernel) (by decide) ?_
        exact lc_26 hl0 hL hA hA2 C0 sd sa hE x mo oa ko hKo i hi0 hi6 (by omega) (by omega) hG hS hl kk
      by_cases n27 : v39 = 27
      · subst n27
        refine lv_tableIn (off := 959) (tgt := 999) hx hb dL_law_40 (by decide) (by decide) (by decide +kernel) (by decide) ?_
        exact lc_27 hl0 hL hA hA2 C0 sd sa hE x mo oa ko hKo i hi0 hi6 (by omega) (by omega) hG hS hl kk
      by_cases n28 : v39 = 28
      · subst n28
        refine lv_tableIn (off := 996) (tgt := 1036) hx hb dL_law_40 (by decide) (by decide) (by decide +kernel) (by decide) ?_
        exact lc_28 hl0 hL hA hA2 C0 sd sa hE x mo oa ko hKo i hi0 hi6 (by omega) (by omega) hG hS hl kk
      by_cases n29 : v39 = 29
      · subst n29
        refine lv_tableIn (off := 1045) (tgt := 1085) hx hb dL_law_40 (by decide) (by decide) (by decide +kernel) (by decide) ?_
        exact lc_29 hl0 hL hA hA2 C0 sd sa hE x mo oa ko hKo i hi0 hi6 (by omega) (by omega) hG hS hl kk
      by_cases n30 : v39 = 30
      · subst n30
        refine lv_tableIn (off := 1070) (tgt := 1110) hx hb dL_law_40 (by decide) (by decide) (by decide +kernel) (by decide) ?_
        exact lc_30 hl0 hL hA hA2 C0 sd sa hE x mo oa ko hKo i hi0 hi6 (by omega) (by omega) hG hS hl kk
      by_cases n31 : v39 = 31
      · subst n31
        refine lv_tableIn (off := 1095) (tgt := 1135) hx hb dL_law_40 (by decide) (by decide) (by decide +kernel) (by decide) ?_
        exact lc_31 hl0 hL hA hA2 C0 sd sa hE x mo oa ko hKo i hi0 hi6 (by omega) (by omega) hG hS hl kk
      by_cases n32 : v39 = 32
      · subst n32
        refine lv_tableIn (off := 1108) (tgt := 1148) hx hb dL_law_40 (by decide) (by decide) (by decide +kernel) (by decide) ?_
        exact lc_32 hl0 hL hA hA2 C0 sd sa hE x mo oa ko hKo i hi0 hi6 (by omega) (by omega) hG hS hl kk
      by_cases n33 : v39 = 33
      · subst n33
        refine lv_tableIn (off := 1145) (tgt := 1185) hx hb dL_law_40 (by decide) (by decide) (by decide +kernel) (by decide) ?_
        exact lc_33 hl0 hL hA hA2 C0 sd sa hE x mo oa ko hKo i hi0 hi6 (by omega) (by omega) hG hS hl kk
      by_cases n34 : v39 = 34
      · subst n34
        refine lv_tableIn (off := 1158) (tgt := 1198) hx hb dL_law_40 (by decide) (by decide) (by decide +kernel) (by decide) ?_
        exact lc_34 hl0 hL hA hA2 C0 sd sa hE x mo oa ko hKo i hi0 hi6 (by omega) (by omega) hG hS hl kk
      by_cases n35 : v39 = 35
      · subst n35
        refine lv_tableIn (off := 1183) (tgt := 1223) hx hb dL_law_40 (by decide) (by decide) (by decide +kernel) (by decide) ?_
        exact lc_35 hl0 hL hA hA2 C0 sd sa hE x mo oa ko hKo i hi0 hi6 (by omega) (by omega) hG hS hl kk
      by_cases n36 : v39 = 36
      · subst n36
        refine lv_tableIn (off := 1208) (tgt := 1248) hx hb dL_law_40 (by decide) (by decide) (by decide +kernel) (by decide) ?_
        exact lc_36 hl0 hL hA hA2 C0 sd sa hE x mo oa ko hKo i hi0 hi6 (by omega) (by omega) hG hS hl kk
      by_cases n37 : v39 = 37
      · subst n37
        refine lv_tableIn (off := 1245) (tgt := 1285) hx hb dL_law_40 (by decide) (by decide) (by decide +kernel) (by decide) ?_
        exact lc_37 hl0 hL hA hA2 C0 sd sa hE x mo oa ko hKo i hi0 hi6 (by omega) (by omega) hG hS hl kk
      by_cases n38 : v39 = 38
      · subst n38
        refine lv_tableIn (off := 1258) (tgt := 1298) hx hb dL_law_40 (by decide) (by decide) (by decide +kernel) (by decide) ?_
        exact lc_38 hl0 hL hA hA2 C0 sd sa hE x mo oa ko hKo i hi0 hi6 (by omega) (by omega) hG hS hl kk
      by_cases n39 : v39 = 39
      · subst n39
        refine lv_tableIn (off := 1271) (tgt := 1311) hx hb dL_law_40 (by decide) (by decide) (by decide +kernel) (by decide) ?_
        exact lc_39 hl0 hL hA hA2 C0 sd sa hE x mo oa ko hKo i hi0 hi6 (by omega) (by omega) hG hS hl kk
      by_cases n40 : v39 = 40
      · subst n40
        refine lv_tableIn (off := 1284) (tgt := 1324) hx hb dL_law_40 (by decide) (by decide) (by decide +kernel) (by decide) ?_
        exact lc_40 hl0 hL hA hA2 C0 sd sa hE x mo oa ko hKo i hi0 hi6 (by omega) (by omega) hG hS hl kk
      by_cases n41 : v39 = 41
      · subst n41
        refine lv_tableIn (off := 1321) (tgt := 1361) hx hb dL_law_40 (by decide) (by decide) (by decide +kernel) (by decide) ?_
        exact lc_41 hl0 hL hA hA2 C0 sd sa hE x mo oa ko hKo i hi0 hi6 (by omega) (by omega) hG hS hl kk
      by_cases n42 : v39 = 42
      · subst n42
        refine lv_tableIn (off := 1334) (tgt := 1374) hx hb dL_law_40 (by decide) (by decide) (by decide +kernel) (by decide) ?_
        exact lc_42 hl0 hL hA hA2 C0 sd sa hE x mo oa ko hKo i hi0 hi6 (by omega) (by omega) hG hS hl kk
      by_cases n43 : v39 = 43
      · subst n43
        refine lv_tableIn (off := 1443) (tgt := 1483) hx hb dL_law_40 (by decide) (by decide) (by decide +kernel) (by decide) ?_
        exact lc_43 hl0 hL hA hA2 C0 sd sa hE x mo oa ko hKo i hi0 hi6 (by omega) (by omega) hG hS hl kk
      by_cases n44 : v39 = 44
      · subst n44
        refine lv_tableIn (off := 1468) (tgt := 1508) hx hb dL_law_40 (by decide) (by decide) (by decide +kernel) (by decide) ?_
        exact lc_44 hl0 hL hA hA2 C0 sd sa hE x mo oa ko hKo i hi0 hi6 (by omega) (by omega) hG hS hl kk
      by_cases n45 : v39 = 45
      · subst n45
        refine lv_tableIn (off := 1493) (tgt := 1533) hx hb dL_law_40 (by decide) (by decide) (by decide +kernel) (by decide) ?_
        exact lc_45 hl0 hL hA hA2 C0 sd sa hE x mo oa ko hKo i hi0 hi6 (by omega) (by omega) hG hS hl kk
      by_cases n46 : v39 = 46
      · subst n46
        refine lv_tableIn (off := 1558) (tgt := 1598) hx hb dL_law_40 (by decide) (by decide) (by decide +kernel) (by decide) ?_
        exact lc_46 hl0 hL hA hA2 C0 sd sa hE x mo oa ko hKo i hi0 hi6 (by omega) (by omega) hG hS hl kk
      by_cases n47 : v39 = 47
      · subst n47
        refine lv_tableIn (off := 1623) (tgt := 1663) hx hb dL_law_40 (by decide) (by decide) (by decide +kernel) (by decide) ?_
        exact lc_47 hl0 hL hA hA2 C0 sd sa hE x mo oa ko hKo i hi0 hi6 (by omega) (by omega) hG hS hl kk
      by_cases n48 : v39 = 48
      · subst n48
        refine lv_tableIn (off := 1672) (tgt := 1712) hx hb dL_law_40 (by decide) (by decide) (by decide +kernel) (by decide) ?_
        exact lc_48 hl0 hL hA hA2 C0 sd sa hE x mo oa ko hKo i hi0 hi6 (by omega) (by omega) hG hS hl kk
      by_cases n49 : v39 = 49
      · subst n49
        refine lv_tableIn (off := 1709) (tgt := 1749) hx hb dL_law_40 (by decide) (by decide) (by decide +kernel) (by decide) ?_
        exact lc_49 hl0 hL hA hA2 C0 sd sa hE x mo oa ko hKo i hi0 hi6 (by omega) (by omega) hG hS hl kk
      by_cases n50 : v39 = 50
      · subst n50
        refine lv_tableIn (off := 1734) (tgt := 1774) hx hb dL_law_40 (by decide) (by decide) (by decide +kernel) (by decide) ?_
        exact lc_50 hl0 hL hA hA2 C0 sd sa hE x mo oa ko hKo i hi0 hi6 (by omega) (by omega) hG hS hl kk
      by_cases n51 : v39 = 51
      · subst n51
        refine lv_tableIn (off := 1759) (tgt := 1799) hx hb dL_law_40 (by decide) (by decide) (by decide +kernel) (by decide) ?_
        exact lc_51 hl0 hL hA hA2 C0 sd sa hE x mo oa ko hKo i hi0 hi6 (by omega) (by omega) hG hS hl kk
      by_cases n52 : v39 = 52
      · subst n52
        refine lv_tableIn (off := 1784) (tgt := 1824) hx hb dL_law_40 (by decide) (by decide) (by decide +kernel) (by decide) ?_
        exact lc_52 hl0 hL hA hA2 C0 sd sa hE x mo oa ko hKo i hi0 hi6 (by omega) (by omega) hG hS hl kk
      by_cases n53 : v39 = 53
      · subst n53
        refine lv_tableIn (off := 1797) (tgt := 1837) hx hb dL_law_40 (by decide) (by decide) (by decide +kernel) (by decide) ?_
        exact lc_53 hl0 hL hA hA2 C0 sd sa hE x mo oa ko hKo i hi0 hi6 (by omega) (by omega) hG hS hl kk
      by_cases n54 : v39 = 54
      · subst n54
        refine lv_tableIn (off := 1810) (tgt := 1850) hx hb dL_law_40 (by decide) (by decide) (by decide +kernel) (by decide) ?_
        exact lc_54 hl0 hL hA hA2 C0 sd sa hE x mo oa ko hKo i hi0 hi6 (by omega) (by omega) hG hS hl kk
      by_cases n55 : v39 = 55
      · subst n55
        refine lv_tableIn (off := 1835) (tgt := 1875) hx hb dL_law_40 (by decide) (by decide) (by decide +kernel) (by decide) ?_
        exact lc_55 hl0 hL hA hA2 C0 sd sa hE x mo oa ko hKo i hi0 hi6 (by omega) (by omega) hG hS hl kk
      by_cases n56 : v39 = 56
      · subst n56
        refine lv_tableIn (off := 1863) (tgt := 1903) hx hb dL_law_40 (by decide) (by decide) (by decide +kernel) (by decide) ?_
        exact lc_56 hl0 hL hA hA2 C0 sd sa hE x mo oa ko hKo i hi0 hi6 (by omega) (by omega) hG hS hl kk
      by_cases n57 : v39 = 57
      · subst n57
        refine lv_tableIn (off := 1888) (tgt := 1928) hx hb dL_law_40 (by decide) (by decide) (by decide +kernel) (by decide) ?_
        exact lc_57 hl0 hL hA hA2 C0 sd sa hE x mo oa ko hKo i hi0 hi6 (by omega) (by omega) hG hS hl kk
      have o : v39.toInt < 0 ∨ 57 < v39.toInt := by
        have en0 : v39.toInt ≠ 0 := fun h9 => n0 (Int32.toInt_inj.mp (h9.trans (by decide)))
        have en1 : v39.toInt ≠ 1 := fun h9 => n1 (Int32.toInt_inj.mp (h9.trans (by decide)))
        have en2 : v39.toInt ≠ 2 := fun h9 => n2 (Int32.toInt_inj.mp (h9.trans (by decide)))
        have en3 : v39.toInt ≠ 3 := fun h9 => n3 (Int32.toInt_inj.mp (h9.trans (by decide)))
        have en4 : v39.toInt ≠ 4 := fun h9 => n4 (Int32.toInt_inj.mp (h9.trans (by decide)))
        have en5 : v39.toInt ≠ 5 := fun h9 => n5 (Int32.toInt_inj.mp (h9.trans (by decide)))
        have en6 : v39.toInt ≠ 6 := fun h9 => n6 (Int32.toInt_inj.mp (h9.trans (by decide)))
        have en7 : v39.toInt ≠ 7 := fun h9 => n7 (Int32.toInt_inj.mp (h9.trans (by decide)))
        have en8 : v39.toInt ≠ 8 := fun h9 => n8 (Int32.toInt_inj.mp (h9.trans (by decide)))
        have en9 : v39.toInt ≠ 9 := fun h9 => n9 (Int32.toInt_inj.mp (h9.trans (by decide)))
        have en10 : v39.toInt ≠ 10 := fun h9 => n10 (Int32.toInt_inj.mp (h9.trans (by decide)))
        have en11 : v39.toInt ≠ 11 := fun h9 => n11 (Int32.toInt_inj.mp (h9.trans (by decide)))
        have en12 : v39.toInt ≠ 12 := fun h9 => n12 (Int32.toInt_inj.mp (h9.trans (by decide)))
        have en13 : v39.toInt ≠ 13 := fun h9 => n13 (Int32.toInt_inj.mp (h9.trans (by decide)))
        have en14 : v39.toInt ≠ 14 := fun h9 => n14 (Int32.toInt_inj.mp (h9.trans (by decide)))
        have en15 : v39.toInt ≠ 15 := fun h9 => n15 (Int32.toInt_inj.mp (h9.trans (by decide)))
        have en16 : v39.toInt ≠ 16 := fun h9 => n16 (Int32.toInt_inj.mp (h9.trans (by decide)))
        have en17 : v39.toInt ≠ 17 := fun h9 => n17 (Int32.toInt_inj.mp (h9.trans (by decide)))
        have en18 : v39.toInt ≠ 18 := fun h9 => n18 (Int32.toInt_inj.mp (h9.trans (by decide)))
        have en19 : v39.toInt ≠ 19 := fun h9 => n19 (Int32.toInt_inj.mp (h9.trans (by decide)))
        have en20 : v39.toInt ≠ 20 := fun h9 => n20 (Int32.toInt_inj.mp (h9.trans (by decide)))
        have en21 : v39.toInt ≠ 21 := fun h9 => n21 (Int32.toInt_inj.mp (h9.trans (by decide)))
        have en22 : v39.toInt ≠ 22 := fun h9 => n22 (Int32.toInt_inj.mp (h9.trans (by decide)))
        have en23 : v39.toInt ≠ 23 := fun h9 => n23 (Int32.toInt_inj.mp (h9.trans (by decide)))
        have en24 : v39.toInt ≠ 24 := fun h9 => n24 (Int32.toInt_inj.mp (h9.trans (by decide)))
        have en25 : v39.toInt ≠ 25 := fun h9 => n25 (Int32.toInt_inj.mp (h9.trans (by decide)))
        have en26 : v39.toInt ≠ 26 := fun h9 => n26 (Int32.toInt_inj.mp (h9.trans (by decide)))
        have en27 : v39.toInt ≠ 27 := fun h9 => n27 (Int32.toInt_inj.mp (h9.trans (by decide)))
        have en28 : v39.toInt ≠ 28 := fun h9 => n28 (Int32.toInt_inj.mp (h9.trans (by decide)))
        have en29 : v39.toInt ≠ 29 := fun h9 => n29 (Int32.toInt_inj.mp (h9.trans (by decide)))
        have en30 : v39.toInt ≠ 30 := fun h9 => n30 (Int32.toInt_inj.mp (h9.trans (by decide)))
        have en31 : v39.toInt ≠ 31 := fun h9 => n31 (Int32.toInt_inj.mp (h9.trans (by decide)))
        have en32 : v39.toInt ≠ 32 := fun h9 => n32 (Int32.toInt_inj.mp (h9.trans (by decide)))
        have en33 : v39.toInt ≠ 33 := fun h9 => n33 (Int32.toInt_inj.mp (h9.trans (by decide)))
        have en34 : v39.toInt ≠ 34 := fun h9 => n34 (Int32.toInt_inj.mp (h9.trans (by decide)))
        have en35 : v39.toInt ≠ 35 := fun h9 => n35 (Int32.toInt_inj.mp (h9.trans (by decide)))
        have en36 : v39.toInt ≠ 36 := fun h9 => n36 (Int32.toInt_inj.mp (h9.trans (by decide)))
        have en37 : v39.toInt ≠ 37 := fun h9 => n37 (Int32.toInt_inj.mp (h9.trans (by decide)))
        have en38 : v39.toInt ≠ 38 := fun h9 => n38 (Int32.toInt_inj.mp (h9.trans (by decide)))
        have en39 : v39.toInt ≠ 39 := fun h9 => n39 (Int32.toInt_inj.mp (h9.trans (by decide)))
        have en40 : v39.toInt ≠ 40 := fun h9 => n40 (Int32.toInt_inj.mp (h9.trans (by decide)))
        have en41 : v39.toInt ≠ 41 := fun h9 => n41 (Int32.toInt_inj.mp (h9.trans (by decide)))
        have en42 : v39.toInt ≠ 42 := fun h9 => n42 (Int32.toInt_inj.mp (h9.trans (by decide)))
        have en43 : v39.toInt ≠ 43 := fun h9 => n43 (Int32.toInt_inj.mp (h9.trans (by decide)))
        have en44 : v39.toInt ≠ 44 := fun h9 => n44 (Int32.toInt_inj.mp (h9.trans (by decide)))
        have en45 : v39.toInt ≠ 45 := fun h9 => n45 (Int32.toInt_inj.mp (h9.trans (by decide)))
        have en46 : v39.toInt ≠ 46 := fun h9 => n46 (Int32.toInt_inj.mp (h9.trans (by decide)))
        have en47 : v39.toInt ≠ 47 := fun h9 => n47 (Int32.toInt_inj.mp (h9.trans (by decide)))
        have en48 : v39.toInt ≠ 48 := fun h9 => n48 (Int32.toInt_inj.mp (h9.trans (by decide)))
        have en49 : v39.toInt ≠ 49 := fun h9 => n49 (Int32.toInt_inj.mp (h9.trans (by decide)))
        have en50 : v39.toInt ≠ 50 := fun h9 => n50 (Int32.toInt_inj.mp (h9.trans (by decide)))
        have en51 : v39.toInt ≠ 51 := fun h9 => n51 (Int32.toInt_inj.mp (h9.trans (by decide)))
        have en52 : v39.toInt ≠ 52 := fun h9 => n52 (Int32.toInt_inj.mp (h9.trans (by decide)))
        have en53 : v39.toInt ≠ 53 := fun h9 => n53 (Int32.toInt_inj.mp (h9.trans (by decide)))
        have en54 : v39.toInt ≠ 54 := fun h9 => n54 (Int32.toInt_inj.mp (h9.trans (by decide)))
        have en55 : v39.toInt ≠ 55 := fun h9 => n55 (Int32.toInt_inj.mp (h9.trans (by decide)))
        have en56 : v39.toInt ≠ 56 := fun h9 => n56 (Int32.toInt_inj.mp (h9.trans (by decide)))
        have en57 : v39.toInt ≠ 57 := fun h9 => n57 (Int32.toInt_inj.mp (h9.trans (by decide)))
        omega
      refine lv_tableOut (tgt := 1941) hx hb dL_law_40 o (by decide) ?_
      exact kk _ _ _ _ _ (Nat.le_add_right _ _) (Nat.le_add_right _ _) hG hS hl
end P446_loop
section P4461_good
set_option maxRecDepth 20000 in
theorem gX0_init_X6_init : GoodIn wsX0_init (wsX6_init) := goodIn_s _ [(15, 2), (2, 3), (17, 2), (34, 4)] rfl (by decide +kernel)
set_option maxRecDepth 20000 in
theorem gX1_init_X5_init : GoodIn wsX1_init (wsX5_init) := goodIn_s _ [(11, 2), (2, 2), (13, 3), (21, 7)] rfl (by decide +kernel)
set_option maxRecDepth 20000 in
theorem gX3_init_X0_init : GoodIn wsX3_init (wsX0_init) := goodIn_s _ [(14, 2), (2, 2), (16, 15), (45, 19)] rfl (by decide +kernel)
set_option maxRecDepth 20000 in
theorem gX7_init_X3_init : GoodIn wsX7_init (wsX3_init) := goodIn_s _ [(38, 2), (2, 2), (40, 5), (30, 2), (45, 11), (14, 2), (56, 7), (91, 14), (142, 15), (123, 4)] rfl (by decide +kernel)
set_option maxRecDepth 20000 in
theorem gX7_init_X5_init : GoodIn wsX7_init (wsX5_init) := goodIn_s _ [(65, 2), (2, 2), (50, 1), (67, 2), (116, 7)] rfl (by decide +kernel)
set_option maxRecDepth 20000 in
theorem gX7_init_X6_init : GoodIn wsX7_init (wsX6_init) := goodIn_s _ [(59, 2), (2, 2), (50, 1), (61, 2), (123, 4)] rfl (by decide +kernel)
set_option maxRecDepth 20000 in
theorem gX7_init_X1_init : GoodIn wsX7_init (wsX1_init) := goodIn_s _ [(72, 2), (2, 2), (74, 2), (9, 2), (76, 2), (64, 3), (50, 1), (67, 2), (127, 5), (116, 7)] rfl (by decide +kernel)
set_option maxRecDepth 20000 in
theorem gX7_init_X2_init : GoodIn wsX7_init (wsX2_init) := goodIn_s _ [(80, 2), (2, 2), (50, 1), (82, 2), (132, 7)] rfl (by decide +kernel)
set_option maxRecDepth 20000 in
theorem gX7_init_X4_init : GoodIn wsX7_init (wsX4_init) := goodIn_s _ [(86, 2), (2, 2), (50, 1), (88, 2), (139, 3)] rfl (by decide +kernel)
set_option maxRecDepth 20000 in
theorem gX7_init_X0_init : GoodIn wsX7_init (wsX0_init) := goodIn_s _ [(48, 2), (2, 2), (50, 6), (14, 2), (56, 7), (142, 15), (123, 4)] rfl (by decide +kernel)
theorem ocXX0_init : (Cond.code objectInit ⟨#[0xb1]⟩ 1 none) ∈ wsX0_init := List.mem_of_getElem? (i := 3) rfl
theorem ocXX1_init : (Cond.code objectInit ⟨#[0xb1]⟩ 1 none) ∈ wsX1_init := List.mem_of_getElem? (i := 3) rfl
theorem ocXX2_init : (Cond.code objectInit ⟨#[0xb1]⟩ 1 none) ∈ wsX2_init := List.mem_of_getElem? (i := 3) rfl
theorem ocXX3_init : (Cond.code objectInit ⟨#[0xb1]⟩ 1 none) ∈ wsX3_init := List.mem_of_getElem? (i := 3) rfl
theorem ocXX4_init : (Cond.code objectInit ⟨#[0xb1]⟩ 1 none) ∈ wsX4_init := List.mem_of_getElem? (i := 3) rfl
theorem ocXX5_init : (Cond.code objectInit ⟨#[0xb1]⟩ 1 none) ∈ wsX5_init := List.mem_of_getElem? (i := 3) rfl
theorem ocXX6_init : (Cond.code objectInit ⟨#[0xb1]⟩ 1 none) ∈ wsX6_init := List.mem_of_getElem? (i := 3) rfl
theorem ocXX7_init : (Cond.code objectInit ⟨#[0xb1]⟩ 1 none) ∈ wsX7_init := List.mem_of_getElem? (i := 3) rfl
theorem ocXX8_init : (Cond.code objectInit ⟨#[0xb1]⟩ 1 none) ∈ wsX8_init := List.mem_of_getElem? (i := 3) rfl
end P4461_good
section P4462_ctor
section CTOR
theorem qs_z {l : List (Option Nat)} (h : ∀ z ∈ l, z = none) : (fun _ : Nat => (none : Option Nat)) = fun i9 => l.getD i9 none := by
  funext i
  rw [List.getD_eq_getElem?_getD]
  cases h2 : l[i]? with
  | none => rfl
  | some y => rw [h y (List.mem_of_getElem? h2)]; rfl
theorem qs_s {l : List (Option Nat)} {k : Nat} {v : Option Nat} (hk : k < l.length) : va_up (fun i9 => l.getD i9 none) k v = fun i9 => (l.set k v).getD i9 none := by
  funext j
  unfold va_up
  show (if j = k then v else l.getD j none) = (l.set k v).getD j none
  rw [List.getD_eq_getElem?_getD, List.getD_eq_getElem?_getD]
  by_cases e : j = k
  · subst e; rw [if_pos rfl, List.getElem?_set_self hk]; rfl
  · rw [if_neg e, List.getElem?_set_ne (fun z => e z.symm)]
end CTOR
end P4462_ctor
