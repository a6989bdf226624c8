section P092248_pure8
section PUH

/-- figure: readFigure and figureLine -/
theorem rp_fig {tp tm : Nat → Int} {e be wd wh : Int} (hT : rp_T tp tm e) (he : e ≤ 900) {st1 be1 tk1 wd1 wh1 at1 en1 tk3 wm1 ns1 : Int} {lt1 : Nat → Int} (a1 : Ff_X3_advance e be wd wh tp = (st1, be1, tk1, wd1, wh1)) (a3 : rp_K e st1 be1 tk1 wd1 wh1 at1 en1 tk3 wm1 ns1 lt1)
    {fg sp sa sh lw ti pu fi tb sc wc c : Int} {kd me sf sm wf wt nm fr : Nat → Int} (hD : rp_D fg sp sa sh lw ti pu fi tb sc wc c kd me sf sm wf wt nm fr) (hw : fr 4 < 9) (hT11 : ¬ fr 11 = 0) (fn fp ta fa pl : Int) :
    (∃ c' ta' tb' kd' me' nm' fr' st2 be2 tk4 wd2 wh2 at2 en2 tk5 wm2 ns2 lt2, Ff_X3_readFigure fn fp c e be wd wh ta tp nm fg tb kd me = (1, fn, fp, c', st2, be2, tk4, wd2, wh2, ta', nm', tb', kd', me') ∧ FfG_X8_figureLine e at1 en1 tk3 wm1 ns1 fa pl fr lt1 tm = (at2, en2, tk5, wm2, ns2, fa, pl, 0, fr', lt2) ∧ rp_K e st2 be2 tk4 wd2 wh2 at2 en2 tk5 wm2 ns2 lt2 ∧ st1 < st2 ∧ rp_D fg sp sa sh lw ti pu fi tb' sc wc c' kd' me' sf sm wf wt nm' fr') ∨
    (∃ q p, rp_fc (Ff_X3_readFigure fn fp c e be wd wh ta tp nm fg tb kd me) q p ∧ rp_fm (FfG_X8_figureLine e at1 en1 tk3 wm1 ns1 fa pl fr lt1 tm) q p) := by
  obtain ⟨hh, ⟨f1, f2, f3, f4, f5, f6⟩, hw', hs, n1, n2, n3⟩ := hD
  have hw2 := hw'
  obtain ⟨w1, w2, w3, -⟩ := hw2
  have hfg : fg = fr 0 := hh.1.1
  have hfg9 : 2 ≤ fg ∧ fg ≤ 9 := by
    have h1 := hh.1.2.1
    have h2 := hh.1.2.2.2 (by omega)
    omega
  have ea : fr 4 = (((fr 4).toNat : Nat) : Int) := by omega
  have hslot : fr (48 + (fr 4).toNat) = 0 := by
    have h1 := (n2.1 (fr 4).toNat (by omega)).1
    by_cases h0 : 0 < fr (48 + (fr 4).toNat)
    · have := n3 _ (by omega) h0; omega
    · omega
  rcases rp_nn hT he a3 n2 (a := (fr 4).toNat) (by omega) hslot (by omega) (by omega) fn fp fa pl with ⟨nm1, st2, be2, tk4, wd2, wh2, at2, en2, tk5, wm2, ns2, lt2, fr1, z, b1, b2, b3, b4, b5, b6, b7, b8, b9⟩ | ⟨q, st2, be2, tk4, wd2, wh2, nm1, c1, at2, en2, tk5, wm2, ns2, lt2, fr1, b1, b2⟩
  rotate_left
  · rw [← ea] at b2
    refine Or.inr ⟨q, st1, ?_, ?_⟩
    · simp only [Ff_X3_readFigure, a1, b1, fl_lt, fl_c2, fl_c3, fl_c4, fl_c5, fl_c6, fl_c7, fl_c8, fl_c9, fl_c10, reduceIte, Int.reduceEq]; exact ⟨rfl, rfl, rfl⟩
    · simp only [FfG_X8_figureLine, b2, fl_lt, fl_c2, fl_c3, fl_c4, fl_c5, fl_c6, fl_c7, fl_c8, fl_c9, fl_c10, reduceIte, Int.reduceEq]; exact ⟨rfl, rfl, rfl⟩
  rw [← ea] at b2
  have la : Ff_X8_last fr1 = fg - 1 := by rw [hfg, ← b7 0 (by omega)]; rfl
  rcases rp_tkw hT he b3 (nn := 2) (by decide) (by decide) rp_sw_is fn fp fa pl with ⟨st3, be3, tk6, wd3, wh3, at3, en3, tk7, wm3, ns3, lt3, c1, c2, c3, c4, c5⟩ | ⟨c1, c2⟩
  rotate_left
  · refine Or.inr ⟨1, st2, ?_, ?_⟩
    · simp only [Ff_X3_readFigure, a1, b1, c1, fl_lt, fl_c2, fl_c3, fl_c4, fl_c5, fl_c6, fl_c7, fl_c8, fl_c9, fl_c10, reduceIte, Int.reduceEq]; exact ⟨rfl, rfl, rfl⟩
    · simp only [FfG_X8_figureLine, b2, c2, fl_lt, fl_c2, fl_c3, fl_c4, fl_c5, fl_c6, fl_c7, fl_c8, fl_c9, fl_c10, reduceIte, Int.reduceEq]; exact ⟨rfl, rfl, rfl⟩
  rcases rp_iww c3 0 (fg - 1) fn fp fa pl with ⟨d1, d2, -, d4, d5, d6, d7, d8, d9, d10⟩ | ⟨q, d1, d2⟩
  rotate_left
  · refine Or.inr ⟨q, st3, ?_, ?_⟩
    · simp only [Ff_X3_readFigure, a1, b1, c1, d1, fl_lt, fl_c2, fl_c3, fl_c4, fl_c5, fl_c6, fl_c7, fl_c8, fl_c9, fl_c10, reduceIte, Int.reduceEq]; exact ⟨rfl, rfl, rfl⟩
    · simp only [FfG_X8_figureLine, b2, c2, la, d2, fl_lt, fl_c2, fl_c3, fl_c4, fl_c5, fl_c6, fl_c7, fl_c8, fl_c9, fl_c10, reduceIte, Int.reduceEq]; exact ⟨rfl, rfl, rfl⟩
  have hwh : wh3 = ((wh3.toNat : Nat) : Int) := by omega
  have ix : (12 + 2 * wh3).toNat = 12 + 2 * wh3.toNat := by omega
  have ix2 : (12 + 2 * wh3 + 1).toNat = 13 + 2 * wh3.toNat := by omega
  obtain ⟨g1, g2, g3, g4⟩ := f3 wh3.toNat (by omega)
  rw [← hwh] at g4
  have hst3 : st3 = at3 := c3.1
  by_cases htold : 0 < fr (12 + 2 * wh3.toNat)
  · have hb : Ff_X7_hasBit tb wh3 = 1 := g4.mpr htold
    have hn : ¬ fr1 (12 + 2 * wh3.toNat) ≤ 0 := by rw [b7 _ (by omega)]; omega
    refine Or.inr ⟨3, st3, ?_, ?_⟩
    · simp only [Ff_X3_readFigure, a1, b1, c1, d1, hb, Ff_X3_fails, fl_lt, fl_c2, fl_c3, fl_c4, fl_c5, fl_c6, fl_c7, fl_c8, fl_c9, fl_c10, reduceIte, Int.reduceEq]; exact ⟨rfl, rfl, rfl⟩
    · simp only [FfG_X8_figureLine, b2, c2, la, d2, ix, if_neg hn, FfG_X8_wrong, fl_lt, fl_c2, fl_c3, fl_c4, fl_c5, fl_c6, fl_c7, fl_c8, fl_c9, fl_c10, reduceIte, Int.reduceEq]; exact ⟨rfl, hst3.symm, rfl⟩
  have hb : ¬ Ff_X7_hasBit tb wh3 = 1 := fun h => htold (g4.mp h)
  have hp : fr1 (12 + 2 * wh3.toNat) ≤ 0 := by rw [b7 _ (by omega)]; omega
  have hbe3 := d7
  obtain ⟨st4, be4, tk8, wd4, wh4, at4, en4, tk9, wm4, ns4, lt4, k1, k2, k3, k4⟩ := rp_adv hT he be3 wd3 wh3 lt3 c3.2.2.2.1 c3.2.2.2.2.1
  rw [d7] at k2
  have hst4 : st4 = at4 := k3.1
  have hb40 : 0 ≤ be4 := k3.2.2.2.1
  have hb41 : be4 ≤ e := k3.2.2.2.2.1
  have kq : FfG_X8_pass e en3 tm lt3 = (at4, en4, tk9, wm4, ns4, lt4) := by simp only [FfG_X8_pass, k2, fl_c6]
  -- what is left, for either kind
  have fin : ∀ (kind : Int) (nn : Int) (csi csj : Nat) (hk : kind = 1 ∨ kind = 2) (hn0 : 0 ≤ nn) (hn8 : nn ≤ 8) (hd : ∀ k : Nat, k < 8 → (k : Int) < nn → 97 ≤ (fl_A (sxc csi)) k ∧ (fl_A (sxc csi)) k ≤ 122 ∧ (fl_A (sxc csj)) k = (fl_A (sxc csi)) k)
      (hc : Ff_X3_isWord tk8 wd4 nn (fl_A (sxc csi)) = 1) (hbe4 : be4 = en4) (hlt4 : st4 < be4)
      (uc : Ff_X3_readFigure fn fp c e be wd wh ta tp nm fg tb kd me = fl_c9 (Ff_X3_takeWhole 1 20 fn fp e st4 be4 tk8 wd4 wh4 ta tp nn (fl_A (sxc csi))) (fun r99 v1 v2 v8 v9 v10 v11 v12 v13 => if r99 = 1 then (fl_c3 (Ff_X0_addFigure wh3 kind v13 tb kd me) (fun y8 y10 y11 => (1, v1, v2, c + 1, v8, v9, v10, v11, v12, v13, nm1, y8, y10, y11))) else (0, v1, v2, c + 1, v8, v9, v10, v11, v12, v13, nm1, tb, kd, me)))
      (um : FfG_X8_figureLine e at1 en1 tk3 wm1 ns1 fa pl fr lt1 tm = fl_c6 (FfG_X8_pass e en4 tm lt4) (fun x4 x5 x6 x7 x8 x12 => fl_c10 (FfG_X8_number 1 20 e x4 x5 x6 x7 x8 fa pl tm x12) (fun r117 y4 y5 y6 y7 y8 y9 y10 y13 y12 => if y13 = 1 then (y4, y5, y6, y7, y8, y9, y10, 1, fr1, y12) else (y4, y5, y6, y7, y8, y9, y10, 0, fl_up (fl_up (fl_up fr1 (12 + 2 * wh3.toNat) kind) (13 + 2 * wh3.toNat) r117) 4 ((fl_up (fl_up fr1 (12 + 2 * wh3.toNat) kind) (13 + 2 * wh3.toNat) r117) 4 + 1), y12)))),
      (∃ c' ta' tb' kd' me' nm' fr' st2 be2 tk4 wd2 wh2 at2 en2 tk5 wm2 ns2 lt2, Ff_X3_readFigure fn fp c e be wd wh ta tp nm fg tb kd me = (1, fn, fp, c', st2, be2, tk4, wd2, wh2, ta', nm', tb', kd', me') ∧ FfG_X8_figureLine e at1 en1 tk3 wm1 ns1 fa pl fr lt1 tm = (at2, en2, tk5, wm2, ns2, fa, pl, 0, fr', lt2) ∧ rp_K e st2 be2 tk4 wd2 wh2 at2 en2 tk5 wm2 ns2 lt2 ∧ st1 < st2 ∧ rp_D fg sp sa sh lw ti pu fi tb' sc wc c' kd' me' sf sm wf wt nm' fr') ∨
      (∃ q p, rp_fc (Ff_X3_readFigure fn fp c e be wd wh ta tp nm fg tb kd me) q p ∧ rp_fm (FfG_X8_figureLine e at1 en1 tk3 wm1 ns1 fa pl fr lt1 tm) q p) := by
    intro kind nn csi csj hk hn0 hn8 hd hc hbe4 hlt4 uc um
    obtain ⟨st5, be5, tk10, wd5, wh5, at5, en5, tk11, wm5, ns5, lt5, m1, m2, m3, m4⟩ := rp_adv hT he be4 wd4 wh4 lt4 hb40 hb41
    rw [hbe4] at m2
    have mq : FfG_X8_pass e en4 tm lt4 = (at5, en5, tk11, wm5, ns5, lt5) := by simp only [FfG_X8_pass, m2, fl_c6]
    rcases rp_num hT he m3 1 20 fn fp fa pl with ⟨st6, be6, tk12, wd6, wh6, at6, en6, tk13, wm6, ns6, lt6, p1, p2, p3, p4, p5, p6, p7, p8, p9, p10⟩ | ⟨q, p1, p2⟩
    · have et : Ff_X3_takeWhole 1 20 fn fp e st4 be4 tk8 wd4 wh4 ta tp nn (fl_A (sxc csi)) = (1, fn, fp, st6, be6, tk12, wd6, wh6, wh5) := by
        simp only [Ff_X3_takeWhole, hc, m1, p1, p2, fl_lt, fl_c2, fl_c3, fl_c4, fl_c5, fl_c6, fl_c7, fl_c8, fl_c9, fl_c10, reduceIte, Int.reduceEq]
      have eadd : Ff_X0_addFigure wh3 kind wh5 tb kd me = (fl_or tb (fl_shl 1 wh3), fl_up kd wh3.toNat kind, fl_up me wh3.toNat wh5) := by
        unfold Ff_X0_addFigure; rw [if_neg (by omega), if_neg (by omega)]; rfl
      have x4 : (fl_up (fl_up fr1 (12 + 2 * wh3.toNat) kind) (13 + 2 * wh3.toNat) wh5) 4 = fr 4 := by
        rw [rp_up_ne _ _ (by omega), rp_up_ne _ _ (by omega), b7 4 (by omega)]
      refine Or.inl ⟨c + 1, wh5, fl_or tb (fl_shl 1 wh3), fl_up kd wh3.toNat kind, fl_up me wh3.toNat wh5, nm1, fl_up (fl_up (fl_up fr1 (12 + 2 * wh3.toNat) kind) (13 + 2 * wh3.toNat) wh5) 4 (fr 4 + 1), st6, be6, tk12, wd6, wh6, at6, en6, tk13, wm6, ns6, lt6, ?_, ?_, p4, by omega, ?_⟩
      · rw [uc]; simp only [et, eadd, fl_lt, fl_c2, fl_c3, fl_c4, fl_c5, fl_c6, fl_c7, fl_c8, fl_c9, fl_c10, reduceIte, Int.reduceEq]
      · rw [um]; simp only [mq, p3, x4, fl_lt, fl_c2, fl_c3, fl_c4, fl_c5, fl_c6, fl_c7, fl_c8, fl_c9, fl_c10, reduceIte, Int.reduceEq]
      · have g : ∀ i : Nat, i ≠ 4 → i ≠ 12 + 2 * wh3.toNat → i ≠ 13 + 2 * wh3.toNat → (fl_up (fl_up (fl_up fr1 (12 + 2 * wh3.toNat) kind) (13 + 2 * wh3.toNat) wh5) 4 (fr 4 + 1)) i = fr1 i := fun i i1 i2 i3 => by
          rw [rp_up_ne _ _ i1, rp_up_ne _ _ i3, rp_up_ne _ _ i2]
        have g0 : ∀ i : Nat, i < 48 → i ≠ 4 → i ≠ 12 + 2 * wh3.toNat → i ≠ 13 + 2 * wh3.toNat → (fl_up (fl_up (fl_up fr1 (12 + 2 * wh3.toNat) kind) (13 + 2 * wh3.toNat) wh5) 4 (fr 4 + 1)) i = fr i := fun i i0 i1 i2 i3 => by rw [g i i1 i2 i3, b7 i i0]
        have hbits := rp_bits ⟨tb.toNat, by omega⟩ ⟨wh3.toNat, by omega⟩
        simp only [Int.toNat_of_nonneg f1, Int.toNat_of_nonneg d9] at hbits
        obtain ⟨⟨t1, t2⟩, t3, t4⟩ := hbits
        refine ⟨?_, ⟨t1, t2, ?_, ?_, ?_, ?_⟩, rp_Dw_cg hw' (fun i hi => g0 i (by omega) (by omega) (by omega) (by omega)), rp_Ds_cg hs (fun i hi => g0 i (by omega) (by omega) (by omega) (by omega)), ?_, ?_, ?_⟩
        · obtain ⟨⟨k1, k2, k3, k4⟩, k5, k6, k7⟩ := hh
          unfold rp_Dh
          rw [g0 0 (by omega) (by omega) (by omega) (by omega), g0 1 (by omega) (by omega) (by omega) (by omega), g0 2 (by omega) (by omega) (by omega) (by omega), g0 3 (by omega) (by omega) (by omega) (by omega), g0 5 (by omega) (by omega) (by omega) (by omega), g0 6 (by omega) (by omega) (by omega) (by omega), g0 7 (by omega) (by omega) (by omega) (by omega), g0 8 (by omega) (by omega) (by omega) (by omega), g0 9 (by omega) (by omega) (by omega) (by omega), g0 10 (by omega) (by omega) (by omega) (by omega), g0 11 (by omega) (by omega) (by omega) (by omega), rp_up_eq]
          exact ⟨⟨k1, k2, fun h => absurd h hT11, k4⟩, k5, k6, k7⟩
        · intro f hf
          have hq := t4 ⟨f, hf⟩
          simp only at hq
          by_cases q : f = wh3.toNat
          · subst q
            rw [rp_up_eq, rp_up_eq, rp_up_ne _ _ (by omega), rp_up_ne _ _ (by omega), rp_up_eq, rp_up_ne _ _ (by omega), rp_up_eq]
            refine ⟨rfl, rfl, by omega, ?_⟩
            rw [hq]
            exact ⟨fun _ => by omega, fun _ => Or.inr rfl⟩
          · rw [rp_up_ne _ _ q, rp_up_ne _ _ q, g0 _ (by omega) (by omega) (by omega) (by omega), g0 _ (by omega) (by omega) (by omega) (by omega)]
            obtain ⟨o1, o2, o3, o4⟩ := f3 f hf
            refine ⟨o1, o2, o3, ?_⟩
            rw [hq, ← o4]
            exact ⟨fun h => h.elim id (fun h => absurd h q), Or.inl⟩
        · rw [rp_up_eq]
          rcases t3 with t3 | t3
          · exact absurd t3 hb
          · rw [t3, f4]
        · rw [rp_up_eq]; omega
        · rw [rp_up_eq]; omega
        · rw [g0 5 (by omega) (by omega) (by omega) (by omega), rp_up_eq]; omega
        · exact rp_N_cg b6 (fun i hi => g i (by omega) (by omega) (by omega))
        · intro s hs2 h0
          rw [g (48 + s) (by omega) (by omega) (by omega), b8 s hs2] at h0
          rw [g0 5 (by omega) (by omega) (by omega) (by omega), rp_up_eq]
          by_cases q : s = (fr 4).toNat
          · left; omega
          · rw [if_neg q] at h0
            have := n3 s hs2 h0; omega
    · have et : Ff_X3_takeWhole 1 20 fn fp e st4 be4 tk8 wd4 wh4 ta tp nn (fl_A (sxc csi)) = (0, q, st5, st5, be5, tk10, wd5, wh5, ta) := by
        simp only [Ff_X3_takeWhole, hc, m1, p1, fl_lt, fl_c2, fl_c3, fl_c4, fl_c5, fl_c6, fl_c7, fl_c8, fl_c9, fl_c10, reduceIte, Int.reduceEq]
      refine Or.inr ⟨q, st5, ?_, ?_⟩
      · rw [uc]; simp only [et, fl_lt, fl_c2, fl_c3, fl_c4, fl_c5, fl_c6, fl_c7, fl_c8, fl_c9, fl_c10, reduceIte, Int.reduceEq]; exact ⟨rfl, rfl, rfl⟩
      · rw [um]; simp only [mq, p2, fl_lt, fl_c2, fl_c3, fl_c4, fl_c5, fl_c6, fl_c7, fl_c8, fl_c9, fl_c10, reduceIte, Int.reduceEq]; exact ⟨rfl, rfl, rfl⟩
  rcases rp_isw k3 (nn := 5) (by decide) (by decide) rp_sw_walks with ⟨o1, o2⟩ | ⟨o1, o2, -, -, o5, o6⟩
  · rcases rp_isw k3 (nn := 6) (by decide) (by decide) rp_sw_speaks with ⟨u1, u2⟩ | ⟨u1, u2, -, -, u5, u6⟩
    · have et : Ff_X3_takeWhole 1 20 fn fp e st4 be4 tk8 wd4 wh4 ta tp 6 (fl_A (sxc 14)) = (0, 1, st4, st4, be4, tk8, wd4, wh4, ta) := by
        simp only [Ff_X3_takeWhole, u1, fl_lt, fl_c2, fl_c3, fl_c4, fl_c5, fl_c6, fl_c7, fl_c8, fl_c9, fl_c10, reduceIte, Int.reduceEq]; rfl
      refine Or.inr ⟨1, st4, ?_, ?_⟩
      · simp only [Ff_X3_readFigure, a1, b1, c1, d1, if_neg hb, k1, o1, et, fl_lt, fl_c2, fl_c3, fl_c4, fl_c5, fl_c6, fl_c7, fl_c8, fl_c9, fl_c10, reduceIte, Int.reduceEq]; exact ⟨rfl, rfl, rfl⟩
      · simp only [FfG_X8_figureLine, b2, c2, la, d2, ix, if_pos hp, kq, o2, u2, FfG_X8_wrong, fl_lt, fl_c2, fl_c3, fl_c4, fl_c5, fl_c6, fl_c7, fl_c8, fl_c9, fl_c10, reduceIte, Int.reduceEq]; exact ⟨rfl, hst4.symm, rfl⟩
    · refine fin 2 6 14 32 (Or.inr rfl) (by decide) (by decide) rp_sw_speaks u1 u5 u6 ?_ ?_
      · simp only [Ff_X3_readFigure, a1, b1, c1, d1, if_neg hb, k1, o1, fl_lt, fl_c2, fl_c3, fl_c4, fl_c5, fl_c6, fl_c7, fl_c8, fl_c9, fl_c10, reduceIte, Int.reduceEq]
      · simp only [FfG_X8_figureLine, b2, c2, la, d2, ix, ix2, if_pos hp, kq, o2, u2, fl_lt, fl_c2, fl_c3, fl_c4, fl_c5, fl_c6, fl_c7, fl_c8, fl_c9, fl_c10, reduceIte, Int.reduceEq]
  · refine fin 1 5 13 31 (Or.inl rfl) (by decide) (by decide) rp_sw_walks o1 o5 o6 ?_ ?_
    · simp only [Ff_X3_readFigure, a1, b1, c1, d1, if_neg hb, k1, o1, fl_lt, fl_c2, fl_c3, fl_c4, fl_c5, fl_c6, fl_c7, fl_c8, fl_c9, fl_c10, reduceIte, Int.reduceEq]
    · simp only [FfG_X8_figureLine, b2, c2, la, d2, ix, ix2, if_pos hp, kq, o2, fl_lt, fl_c2, fl_c3, fl_c4, fl_c5, fl_c6, fl_c7, fl_c8, fl_c9, fl_c10, reduceIte, Int.reduceEq]
end PUH
end P092248_pure8
section P092249_pure9
section PUI

theorem rp_sec {mi sc : Int} {sm : Nat → Int} (h0 : 0 ≤ sc) (h6 : sc ≤ 6) : ((∃ i : Nat, (i : Int) < sc ∧ sm i = mi) ∧ Ff_X0_isSeenMinute mi sc sm = 1) ∨ ((∀ i : Nat, (i : Int) < sc → sm i ≠ mi) ∧ Ff_X0_isSeenMinute mi sc sm = 0) := by
  have main : ∀ (m : Nat) (j : Int), sc + 1 - j ≤ (m : Int) → 0 ≤ j → j ≤ sc → (∀ i : Nat, (i : Int) < j → sm i ≠ mi) → ((∃ i : Nat, (i : Int) < sc ∧ sm i = mi) ∧ fl_wh (Sf_X0_isSeenMinute_2_1 mi sc sm) 0 m j = 1) ∨ ((∀ i : Nat, (i : Int) < sc → sm i ≠ mi) ∧ fl_wh (Sf_X0_isSeenMinute_2_1 mi sc sm) 0 m j = 0) := by
    intro m
    induction m with
    | zero => intro j h1 h2 h3; omega
    | succ m ih =>
      intro j h1 h2 h3 h4
      by_cases hj : sc ≤ j
      · have hs : Sf_X0_isSeenMinute_2_1 mi sc sm j = .inr 0 := by unfold Sf_X0_isSeenMinute_2_1; rw [if_pos hj]
        rw [fl_wh_r hs]
        exact Or.inr ⟨fun i hi => h4 i (by omega), rfl⟩
      · by_cases q : sm j.toNat = mi
        · have hs : Sf_X0_isSeenMinute_2_1 mi sc sm j = .inr 1 := by simp only [Sf_X0_isSeenMinute_2_1, fl_lt]; rw [if_neg hj, if_pos q]
          rw [fl_wh_r hs]
          exact Or.inl ⟨⟨j.toNat, by omega, q⟩, rfl⟩
        · have hs : Sf_X0_isSeenMinute_2_1 mi sc sm j = .inl (j + 1) := by simp only [Sf_X0_isSeenMinute_2_1, fl_lt]; rw [if_neg hj, if_neg q]
          rw [fl_wh_l hs]
          refine ih (j + 1) (by omega) (by omega) (by omega) (fun i hi => ?_)
          by_cases hi2 : i = j.toNat
          · rw [hi2]; exact q
          · exact h4 i (by omega)
  exact main 7 0 (by omega) (by omega) h0 (fun i hi => by omega)
theorem rp_s2 : SfG_X8_seenLine_49_2 = SfG_X8_seenLine_49_1 := rfl
theorem rp_s3 : SfG_X8_seenLine_49_3 = SfG_X8_seenLine_49_1 := rfl
theorem rp_s4 : SfG_X8_seenLine_49_4 = SfG_X8_seenLine_49_1 := rfl
theorem rp_sm1 {e x r27 mi at_ en tk wm ns fa pl : Int} {fr tm lt : Nat → Int} : ∀ (m : Nat) (k : Int), fr 6 + 1 - k ≤ (m : Int) → k ≤ fr 6 →
    fl_wh (fun t9 => SfG_X8_seenLine_49_1 e fr tm x r27 t9.1 t9.2.1 t9.2.2.1 t9.2.2.2.1 t9.2.2.2.2.1 t9.2.2.2.2.2.1 t9.2.2.2.2.2.2.1 t9.2.2.2.2.2.2.2.1 t9.2.2.2.2.2.2.2.2.1 t9.2.2.2.2.2.2.2.2.2.1 t9.2.2.2.2.2.2.2.2.2.2) (0, 0, 0, 0, 0, 0, 0, 0, (fun _ => 0), (fun _ => 0)) m (k, mi, at_, en, tk, wm, ns, fa, pl, 1, lt) = (at_, en, tk, wm, ns, fa, pl, 1, fr, lt) := by
  intro m
  induction m with
  | zero => intro k h1 h2; omega
  | succ m ih =>
    intro k h1 h2
    by_cases hk : fr 6 ≤ k
    · have hs : SfG_X8_seenLine_49_1 e fr tm x r27 k mi at_ en tk wm ns fa pl 1 lt = .inr (at_, en, tk, wm, ns, fa, pl, 1, fr, lt) := by
        unfold SfG_X8_seenLine_49_1
        rw [if_neg (show ¬ (1 : Int) = 0 by decide), fl_lt_eq rfl, if_pos hk]
      rw [fl_wh_r (step := (fun t9 : Int × Int × Int × Int × Int × Int × Int × Int × Int × Int × (Nat → Int) => SfG_X8_seenLine_49_1 e fr tm x r27 t9.1 t9.2.1 t9.2.2.1 t9.2.2.2.1 t9.2.2.2.2.1 t9.2.2.2.2.2.1 t9.2.2.2.2.2.2.1 t9.2.2.2.2.2.2.2.1 t9.2.2.2.2.2.2.2.2.1 t9.2.2.2.2.2.2.2.2.2.1 t9.2.2.2.2.2.2.2.2.2.2)) (s := (k, mi, at_, en, tk, wm, ns, fa, pl, 1, lt)) hs]
    · have hs : SfG_X8_seenLine_49_1 e fr tm x r27 k mi at_ en tk wm ns fa pl 1 lt = .inl (k + 1, mi, at_, en, tk, wm, ns, fa, pl, 1, lt) := by
        unfold SfG_X8_seenLine_49_1
        rw [if_neg (show ¬ (1 : Int) = 0 by decide), fl_lt_eq rfl, if_neg hk]; rfl
      rw [fl_wh_l (step := (fun t9 : Int × Int × Int × Int × Int × Int × Int × Int × Int × Int × (Nat → Int) => SfG_X8_seenLine_49_1 e fr tm x r27 t9.1 t9.2.1 t9.2.2.1 t9.2.2.2.1 t9.2.2.2.2.1 t9.2.2.2.2.2.1 t9.2.2.2.2.2.2.1 t9.2.2.2.2.2.2.2.1 t9.2.2.2.2.2.2.2.2.1 t9.2.2.2.2.2.2.2.2.2.1 t9.2.2.2.2.2.2.2.2.2.2)) (s := (k, mi, at_, en, tk, wm, ns, fa, pl, 1, lt)) hs]
      exact ih (k + 1) (by omega) (by omega)
theorem rp_sm0 {e x r27 mi at_ en tk wm ns fa pl : Int} {fr tm lt : Nat → Int} : ∀ (m : Nat) (k : Int), fr 6 + 1 - k ≤ (m : Int) → 0 ≤ k → k ≤ fr 6 → (∀ i : Nat, (i : Int) < k → fr (37 + 2 * i) ≠ mi) →
    ((∃ i : Nat, (i : Int) < fr 6 ∧ fr (37 + 2 * i) = mi) ∧ fl_wh (fun t9 => SfG_X8_seenLine_49_1 e fr tm x r27 t9.1 t9.2.1 t9.2.2.1 t9.2.2.2.1 t9.2.2.2.2.1 t9.2.2.2.2.2.1 t9.2.2.2.2.2.2.1 t9.2.2.2.2.2.2.2.1 t9.2.2.2.2.2.2.2.2.1 t9.2.2.2.2.2.2.2.2.2.1 t9.2.2.2.2.2.2.2.2.2.2) (0, 0, 0, 0, 0, 0, 0, 0, (fun _ => 0), (fun _ => 0)) m (k, mi, at_, en, tk, wm, ns, fa, pl, 0, lt) = (at_, en, tk, wm, ns, 3, at_, 1, fr, lt)) ∨
    ((∀ i : Nat, (i : Int) < fr 6 → fr (37 + 2 * i) ≠ mi) ∧ fl_wh (fun t9 => SfG_X8_seenLine_49_1 e fr tm x r27 t9.1 t9.2.1 t9.2.2.1 t9.2.2.2.1 t9.2.2.2.2.1 t9.2.2.2.2.2.1 t9.2.2.2.2.2.2.1 t9.2.2.2.2.2.2.2.1 t9.2.2.2.2.2.2.2.2.1 t9.2.2.2.2.2.2.2.2.2.1 t9.2.2.2.2.2.2.2.2.2.2) (0, 0, 0, 0, 0, 0, 0, 0, (fun _ => 0), (fun _ => 0)) m (k, mi, at_, en, tk, wm, ns, fa, pl, 0, lt) = fl_c6 (FfG_X8_pass e en tm lt) (fun y4 y5 y6 y7 y8 y12 => (y4, y5, y6, y7, y8, fa, pl, 0, fl_up (fl_up (fl_up fr x.toNat r27) (x + 1).toNat mi) 6 ((fl_up (fl_up fr x.toNat r27) (x + 1).toNat mi) 6 + 1), y12))) := by
  intro m
  induction m with
  | zero => intro k h1 h2 h3; omega
  | succ m ih =>
    intro k h1 h2 h3 h4
    by_cases hk : fr 6 ≤ k
    · have hs : SfG_X8_seenLine_49_1 e fr tm x r27 k mi at_ en tk wm ns fa pl 0 lt = .inr (fl_c6 (FfG_X8_pass e en tm lt) (fun y4 y5 y6 y7 y8 y12 => (y4, y5, y6, y7, y8, fa, pl, 0, fl_up (fl_up (fl_up fr x.toNat r27) (x + 1).toNat mi) 6 ((fl_up (fl_up fr x.toNat r27) (x + 1).toNat mi) 6 + 1), y12))) := by
        unfold SfG_X8_seenLine_49_1
        rw [if_pos (show (0 : Int) = 0 from rfl), fl_lt_eq rfl, if_pos hk]; rfl
      rw [fl_wh_r (step := (fun t9 : Int × Int × Int × Int × Int × Int × Int × Int × Int × Int × (Nat → Int) => SfG_X8_seenLine_49_1 e fr tm x r27 t9.1 t9.2.1 t9.2.2.1 t9.2.2.2.1 t9.2.2.2.2.1 t9.2.2.2.2.2.1 t9.2.2.2.2.2.2.1 t9.2.2.2.2.2.2.2.1 t9.2.2.2.2.2.2.2.2.1 t9.2.2.2.2.2.2.2.2.2.1 t9.2.2.2.2.2.2.2.2.2.2)) (s := (k, mi, at_, en, tk, wm, ns, fa, pl, 0, lt)) hs]
      exact Or.inr ⟨fun i hi => h4 i (by omega), rfl⟩
    · have ix : (36 + 2 * k + 1).toNat = 37 + 2 * k.toNat := by omega
      by_cases q : fr (37 + 2 * k.toNat) = mi
      · have hs : SfG_X8_seenLine_49_1 e fr tm x r27 k mi at_ en tk wm ns fa pl 0 lt = .inl (k + 1, mi, at_, en, tk, wm, ns, 3, at_, 1, lt) := by
          unfold SfG_X8_seenLine_49_1
          rw [if_pos (show (0 : Int) = 0 from rfl), fl_lt_eq rfl, if_neg hk, fl_lt_eq rfl, fl_lt_eq rfl, fl_lt_eq rfl, ix, fl_lt_eq rfl, if_pos q]; rfl
        rw [fl_wh_l (step := (fun t9 : Int × Int × Int × Int × Int × Int × Int × Int × Int × Int × (Nat → Int) => SfG_X8_seenLine_49_1 e fr tm x r27 t9.1 t9.2.1 t9.2.2.1 t9.2.2.2.1 t9.2.2.2.2.1 t9.2.2.2.2.2.1 t9.2.2.2.2.2.2.1 t9.2.2.2.2.2.2.2.1 t9.2.2.2.2.2.2.2.2.1 t9.2.2.2.2.2.2.2.2.2.1 t9.2.2.2.2.2.2.2.2.2.2)) (s := (k, mi, at_, en, tk, wm, ns, fa, pl, 0, lt)) hs]
        exact Or.inl ⟨⟨k.toNat, by omega, q⟩, rp_sm1 m (k + 1) (by omega) (by omega)⟩
      · have hs : SfG_X8_seenLine_49_1 e fr tm x r27 k mi at_ en tk wm ns fa pl 0 lt = .inl (k + 1, mi, at_, en, tk, wm, ns, fa, pl, 0, lt) := by
          unfold SfG_X8_seenLine_49_1
          rw [if_pos (show (0 : Int) = 0 from rfl), fl_lt_eq rfl, if_neg hk, fl_lt_eq rfl, fl_lt_eq rfl, fl_lt_eq rfl, ix, fl_lt_eq rfl, if_neg q]; rfl
        rw [fl_wh_l (step := (fun t9 : Int × Int × Int × Int × Int × Int × Int × Int × Int × Int × (Nat → Int) => SfG_X8_seenLine_49_1 e fr tm x r27 t9.1 t9.2.1 t9.2.2.1 t9.2.2.2.1 t9.2.2.2.2.1 t9.2.2.2.2.2.1 t9.2.2.2.2.2.2.1 t9.2.2.2.2.2.2.2.1 t9.2.2.2.2.2.2.2.2.1 t9.2.2.2.2.2.2.2.2.2.1 t9.2.2.2.2.2.2.2.2.2.2)) (s := (k, mi, at_, en, tk, wm, ns, fa, pl, 0, lt)) hs]
        refine ih (k + 1) (by omega) (by omega) (by omega) (fun i hi => ?_)
        by_cases hi2 : i = k.toNat
        · rw [hi2]; exact q
        · exact h4 i (by omega)
/-- seen: readSeen and seenLine -/
theorem rp_seen {tp tm : Nat → Int} {e st be tk wd wh : Int} (hT : rp_T tp tm e) (he : e ≤ 900) {st1 be1 tk1 wd1 wh1 at1 en1 tk3 wm1 ns1 : Int} {lt1 : Nat → Int} (w0 : Ff_X3_isWord tk wd 4 (fl_A (sxc 4)) = 1) (a1 : Ff_X3_advance e be wd wh tp = (st1, be1, tk1, wd1, wh1)) (a3 : rp_K e st1 be1 tk1 wd1 wh1 at1 en1 tk3 wm1 ns1 lt1)
    {fg sp sa sh lw ti pu fi tb sc wc c : Int} {kd me sf sm wf wt nm fr : Nat → Int} (hD : rp_D fg sp sa sh lw ti pu fi tb sc wc c kd me sf sm wf wt nm fr) (hw : sc < 6) (hT11 : ¬ fr 11 = 0) (fn fp ta fa pl : Int) :
    (∃ ta' sc' sm' sf' fr' st2 be2 tk4 wd2 wh2 at2 en2 tk5 wm2 ns2 lt2, Ff_X3_readSeen fn fp e st be tk wd wh ta fg sc tp sm sf = (1, fn, fp, st2, be2, tk4, wd2, wh2, ta', sc', sm', sf') ∧ FfG_X8_seenLine e at1 en1 tk3 wm1 ns1 fa pl fr tm lt1 = (at2, en2, tk5, wm2, ns2, fa, pl, 0, fr', lt2) ∧ rp_K e st2 be2 tk4 wd2 wh2 at2 en2 tk5 wm2 ns2 lt2 ∧ st1 < st2 ∧ rp_D fg sp sa sh lw ti pu fi tb sc' wc c kd me sf' sm' wf wt nm fr') ∨
    (∃ q p, rp_fc (Ff_X3_readSeen fn fp e st be tk wd wh ta fg sc tp sm sf) q p ∧ rp_fm (FfG_X8_seenLine e at1 en1 tk3 wm1 ns1 fa pl fr tm lt1) q p) := by
  obtain ⟨hh, hf, hw', ⟨s1, s2, s3, s4⟩, hn⟩ := hD
  have hfg : fg = fr 0 := hh.1.1
  have la : Ff_X8_last fr = fg - 1 := by rw [hfg]; rfl
  have sk : ∀ (mi at_ en tk wm ns fa pl x r27 : Int) (lt : Nat → Int), fl_wh (fun t9 => SfG_X8_seenLine_49_1 e fr tm x r27 t9.1 t9.2.1 t9.2.2.1 t9.2.2.2.1 t9.2.2.2.2.1 t9.2.2.2.2.2.1 t9.2.2.2.2.2.2.1 t9.2.2.2.2.2.2.2.1 t9.2.2.2.2.2.2.2.2.1 t9.2.2.2.2.2.2.2.2.2.1 t9.2.2.2.2.2.2.2.2.2.2) (0, 0, 0, 0, 0, 0, 0, 0, (fun _ => 0), (fun _ => 0)) 6 (0, mi, at_, en, tk, wm, ns, fa, pl, 1, lt) = (at_, en, tk, wm, ns, fa, pl, 1, fr, lt) := fun mi at_ en tk wm ns fa pl x r27 lt => rp_sm1 6 0 (by omega) (by omega)
  rcases rp_num hT he a3 0 (fg - 1) fn fp fa pl with ⟨st2, be2, tk4, wd2, wh2, at2, en2, tk5, wm2, ns2, lt2, b1, b2, b3, b4, b5, b6, b7, b8, b9, b10⟩ | ⟨q, b1, b2⟩
  rotate_left
  · have et : Ff_X3_takeWhole 0 (fg - 1) fn fp e st be tk wd wh ta tp 4 (fl_A (sxc 4)) = (0, q, st1, st1, be1, tk1, wd1, wh1, ta) := by
      simp only [Ff_X3_takeWhole, w0, a1, b1, fl_lt, fl_c2, fl_c3, fl_c4, fl_c5, fl_c6, fl_c7, fl_c8, fl_c9, fl_c10, reduceIte, Int.reduceEq]
    refine Or.inr ⟨q, st1, ?_, ?_⟩
    · simp only [Ff_X3_readSeen, et, fl_lt, fl_c2, fl_c3, fl_c4, fl_c5, fl_c6, fl_c7, fl_c8, fl_c9, fl_c10, reduceIte, Int.reduceEq]; exact ⟨rfl, rfl, rfl⟩
    · simp only [FfG_X8_seenLine, la, b2, sk, fl_lt, fl_c2, fl_c3, fl_c4, fl_c5, fl_c6, fl_c7, fl_c8, fl_c9, fl_c10, reduceIte, Int.reduceEq]; exact ⟨rfl, rfl, rfl⟩
  have et : Ff_X3_takeWhole 0 (fg - 1) fn fp e st be tk wd wh ta tp 4 (fl_A (sxc 4)) = (1, fn, fp, st2, be2, tk4, wd2, wh2, wh1) := by
    simp only [Ff_X3_takeWhole, w0, a1, b1, b2, fl_lt, fl_c2, fl_c3, fl_c4, fl_c5, fl_c6, fl_c7, fl_c8, fl_c9, fl_c10, reduceIte, Int.reduceEq]
  rcases rp_tkw hT he b4 (nn := 2) (by decide) (by decide) rp_sw_at fn fp fa pl with ⟨st3, be3, tk6, wd3, wh3, at3, en3, tk7, wm3, ns3, lt3, c1, c2, c3, c4, c5⟩ | ⟨c1, c2⟩
  rotate_left
  · refine Or.inr ⟨1, st2, ?_, ?_⟩
    · simp only [Ff_X3_readSeen, et, c1, fl_lt, fl_c2, fl_c3, fl_c4, fl_c5, fl_c6, fl_c7, fl_c8, fl_c9, fl_c10, reduceIte, Int.reduceEq]; exact ⟨rfl, rfl, rfl⟩
    · simp only [FfG_X8_seenLine, la, b3, c2, rp_s2, sk, fl_lt, fl_c2, fl_c3, fl_c4, fl_c5, fl_c6, fl_c7, fl_c8, fl_c9, fl_c10, reduceIte, Int.reduceEq]; exact ⟨rfl, rfl, rfl⟩
  rcases rp_iww c3 0 999 fn fp fa pl with ⟨d1, d2, -, d4, d5, d6, d7, d8, d9, d10⟩ | ⟨q, d1, d2⟩
  rotate_left
  · refine Or.inr ⟨q, st3, ?_, ?_⟩
    · simp only [Ff_X3_readSeen, et, c1, d1, fl_lt, fl_c2, fl_c3, fl_c4, fl_c5, fl_c6, fl_c7, fl_c8, fl_c9, fl_c10, reduceIte, Int.reduceEq]; exact ⟨rfl, rfl, rfl⟩
    · simp only [FfG_X8_seenLine, la, b3, c2, d2, rp_s3, sk, fl_lt, fl_c2, fl_c3, fl_c4, fl_c5, fl_c6, fl_c7, fl_c8, fl_c9, fl_c10, reduceIte, Int.reduceEq]; exact ⟨rfl, rfl, rfl⟩
  have hst3 : st3 = at3 := c3.1
  have ix : (36 + 2 * fr 6).toNat = 36 + 2 * sc.toNat := by omega
  have ix2 : (36 + 2 * fr 6 + 1).toNat = 37 + 2 * sc.toNat := by omega
  rcases rp_sm0 (e := e) (x := 36 + 2 * fr 6) (r27 := wh1) (mi := wh3) (at_ := at3) (en := en3) (tk := tk7) (wm := wm3) (ns := ns3) (fa := fa) (pl := pl) (fr := fr) (tm := tm) (lt := lt3) 6 0 (by omega) (by omega) (by omega) (fun i hi => by omega) with ⟨⟨i, i1, i2⟩, g⟩ | ⟨hno, g⟩
  · have gc : Ff_X0_isSeenMinute wh3 sc sm = 1 := by
      rcases rp_sec (mi := wh3) (sc := sc) (sm := sm) s2 (by omega) with ⟨-, h⟩ | ⟨h, -⟩
      · exact h
      · exact absurd ((s4 i (by omega)).2.trans i2) (h i (by omega))
    refine Or.inr ⟨3, st3, ?_, ?_⟩
    · simp only [Ff_X3_readSeen, et, c1, d1, gc, Ff_X3_fails, fl_lt, fl_c2, fl_c3, fl_c4, fl_c5, fl_c6, fl_c7, fl_c8, fl_c9, fl_c10, reduceIte, Int.reduceEq]; exact ⟨rfl, rfl, rfl⟩
    · simp only [FfG_X8_seenLine, la, b3, c2, d2, rp_s4, g, fl_lt, fl_c2, fl_c3, fl_c4, fl_c5, fl_c6, fl_c7, fl_c8, fl_c9, fl_c10, reduceIte, Int.reduceEq]; exact ⟨rfl, hst3.symm, rfl⟩
  · have gc : Ff_X0_isSeenMinute wh3 sc sm = 0 := by
      rcases rp_sec (mi := wh3) (sc := sc) (sm := sm) s2 (by omega) with ⟨⟨i, i1, i2⟩, -⟩ | ⟨-, h⟩
      · exact absurd (((s4 i i1).2.symm).trans i2) (hno i (by omega))
      · exact h
    obtain ⟨st4, be4, tk8, wd4, wh4, at4, en4, tk9, wm4, ns4, lt4, k1, k2, k3, k4⟩ := rp_adv hT he be3 wd3 wh3 lt3 c3.2.2.2.1 c3.2.2.2.2.1
    rw [d7] at k2
    have kq : FfG_X8_pass e en3 tm lt3 = (at4, en4, tk9, wm4, ns4, lt4) := by simp only [FfG_X8_pass, k2, fl_c6]
    have hadd : Ff_X0_addSeen wh1 wh3 sc sf sm = (sc + 1, fl_up sf sc.toNat wh1, fl_up sm sc.toNat wh3) := by
      unfold Ff_X0_addSeen; rw [if_neg (by omega)]; rfl
    have x6 : (fl_up (fl_up fr (36 + 2 * sc.toNat) wh1) (37 + 2 * sc.toNat) wh3) 6 = fr 6 := by
      rw [rp_up_ne _ _ (by omega), rp_up_ne _ _ (by omega)]
    rw [ix, ix2, x6] at g
    refine Or.inl ⟨wh1, sc + 1, fl_up sm sc.toNat wh3, fl_up sf sc.toNat wh1, fl_up (fl_up (fl_up fr (36 + 2 * sc.toNat) wh1) (37 + 2 * sc.toNat) wh3) 6 (fr 6 + 1), st4, be4, tk8, wd4, wh4, at4, en4, tk9, wm4, ns4, lt4, ?_, ?_, k3, by omega, ?_⟩
    · simp only [Ff_X3_readSeen, et, c1, d1, gc, hadd, k1, fl_lt, fl_c2, fl_c3, fl_c4, fl_c5, fl_c6, fl_c7, fl_c8, fl_c9, fl_c10, reduceIte, Int.reduceEq]
    · simp only [FfG_X8_seenLine, la, b3, c2, d2, rp_s4, g, kq, fl_lt, fl_c2, fl_c3, fl_c4, fl_c5, fl_c6, fl_c7, fl_c8, fl_c9, fl_c10, reduceIte, Int.reduceEq]
    · have g0 : ∀ i : Nat, i ≠ 6 → i ≠ 36 + 2 * sc.toNat → i ≠ 37 + 2 * sc.toNat → (fl_up (fl_up (fl_up fr (36 + 2 * sc.toNat) wh1) (37 + 2 * sc.toNat) wh3) 6 (fr 6 + 1)) i = fr i := fun i i1 i2 i3 => by
        rw [rp_up_ne _ _ i1, rp_up_ne _ _ i3, rp_up_ne _ _ i2]
      refine ⟨?_, rp_Df_cg hf (fun i hi => g0 i (by omega) (by omega) (by omega)), rp_Dw_cg hw' (fun i hi => g0 i (by omega) (by omega) (by omega)), ⟨?_, by omega, by omega, ?_⟩, rp_Dn_cg hn (fun i hi => g0 i (by omega) (by omega) (by omega))⟩
      · obtain ⟨⟨k1, k2, k3, k4⟩, k5, k6, k7⟩ := hh
        unfold rp_Dh
        rw [g0 0 (by omega) (by omega) (by omega), g0 1 (by omega) (by omega) (by omega), g0 2 (by omega) (by omega) (by omega), g0 3 (by omega) (by omega) (by omega), g0 4 (by omega) (by omega) (by omega), g0 5 (by omega) (by omega) (by omega), g0 7 (by omega) (by omega) (by omega), g0 8 (by omega) (by omega) (by omega), g0 9 (by omega) (by omega) (by omega), g0 10 (by omega) (by omega) (by omega), g0 11 (by omega) (by omega) (by omega), rp_up_eq]
        exact ⟨⟨k1, k2, fun h => absurd h hT11, k4⟩, k5, k6, k7⟩
      · rw [rp_up_eq]; omega
      · intro i hi
        by_cases q : i = sc.toNat
        · subst q
          rw [rp_up_eq, rp_up_eq]
          constructor
          · rw [rp_up_ne _ _ (by omega), rp_up_ne _ _ (by omega), rp_up_eq]
          · rw [rp_up_ne _ _ (by omega), rp_up_eq]
        · rw [rp_up_ne _ _ q, rp_up_ne _ _ q, g0 _ (by omega) (by omega) (by omega), g0 _ (by omega) (by omega) (by omega)]
          exact s4 i (by omega)
end PUI
end P092249_pure9
section P0922491_pure10
section PUJ
set_option maxRecDepth 20000 in

theorem rp_g74 : Gf_X3_readLine_74_2 = Gf_X3_readLine_74_1 := rfl
theorem rp_beg0 {can e at_ en tk2 wm ns fa pl nn : Int} {lt fr tm cs : Nat → Int} (w : FfG_X8_isWord tk2 ns lt nn cs = 0) : FfG_X8_begins can e at_ en tk2 wm ns fa pl lt fr tm nn cs = (0, at_, en, tk2, wm, ns, fa, pl, 0, lt) := by
  unfold FfG_X8_begins; rw [fl_lt_eq w.symm, if_pos rfl]
theorem rp_beg5 {e at_ en tk2 wm ns fa pl nn : Int} {lt fr tm cs : Nat → Int} (w : FfG_X8_isWord tk2 ns lt nn cs = 1) : FfG_X8_begins 0 e at_ en tk2 wm ns fa pl lt fr tm nn cs = (1, at_, en, tk2, wm, ns, 5, at_, 1, lt) := by
  unfold FfG_X8_begins; rw [fl_lt_eq w.symm, if_neg (show ¬ (1 : Int) = 0 by decide), if_pos rfl]
  simp only [FfG_X8_wrong, fl_lt, fl_c2, fl_c3, fl_c4, fl_c5, fl_c6, fl_c7, fl_c8, fl_c9, fl_c10, reduceIte, Int.reduceEq, ite_self]
theorem rp_beg6 {e at_ en tk2 wm ns fa pl nn : Int} {lt fr tm cs : Nat → Int} (w : FfG_X8_isWord tk2 ns lt nn cs = 1) (h : fr 11 = 0) : FfG_X8_begins 1 e at_ en tk2 wm ns fa pl lt fr tm nn cs = (1, at_, en, tk2, wm, ns, 6, at_, 1, lt) := by
  unfold FfG_X8_begins; rw [fl_lt_eq w.symm, if_neg (show ¬ (1 : Int) = 0 by decide), if_neg (show ¬ (1 : Int) = 0 by decide), fl_lt_eq h.symm, if_pos rfl]
  simp only [FfG_X8_wrong, fl_lt, fl_c2, fl_c3, fl_c4, fl_c5, fl_c6, fl_c7, fl_c8, fl_c9, fl_c10, reduceIte, Int.reduceEq]
theorem rp_beg1 {e at_ en tk2 wm ns fa pl nn at1 en1 tk3 wm1 ns1 : Int} {lt lt1 fr tm cs : Nat → Int} (w : FfG_X8_isWord tk2 ns lt nn cs = 1) (h : ¬ fr 11 = 0) (a2 : Ff_X8_next e en tm lt = (at1, en1, tk3, wm1, ns1, lt1)) : FfG_X8_begins 1 e at_ en tk2 wm ns fa pl lt fr tm nn cs = (1, at1, en1, tk3, wm1, ns1, fa, pl, 0, lt1) := by
  unfold FfG_X8_begins; rw [fl_lt_eq w.symm, if_neg (show ¬ (1 : Int) = 0 by decide), if_neg (show ¬ (1 : Int) = 0 by decide), fl_lt_eq rfl, if_neg h]
  simp only [FfG_X8_pass, a2, fl_lt, fl_c2, fl_c3, fl_c4, fl_c5, fl_c6, fl_c7, fl_c8, fl_c9, fl_c10, reduceIte, Int.reduceEq]
/-- a line -/
theorem rp_line {tp tm : Nat → Int} {e st be tk wd wh at_ en tk2 wm ns : Int} {lt : Nat → Int} (hT : rp_T tp tm e) (he : e ≤ 900) (hK : rp_K e st be tk wd wh at_ en tk2 wm ns lt)
    {fg sp sa sh lw ti pu fi tb sc wc c : Int} {kd me sf sm wf wt nm fr : Nat → Int} (hD : rp_D fg sp sa sh lw ti pu fi tb sc wc c kd me sf sm wf wt nm fr) (fn fp ta fa pl : Int) :
    (∃ c' ta' fg' sp' sa' sh' lw' ti' pu' fi' tb' sc' wc' nm' kd' me' wf' wt' sm' sf' fr' st2 be2 tk4 wd2 wh2 at2 en2 tk5 wm2 ns2 lt2, Ff_X3_readLine fn fp c e st be tk wd wh ta fg sp sa sh lw ti pu fi tb sc tp nm kd me wc wf wt sm sf = (1, fn, fp, c', st2, be2, tk4, wd2, wh2, ta', fg', sp', sa', sh', lw', ti', pu', fi', tb', sc', nm', kd', me', wc', wf', wt', sm', sf') ∧ FfG_X8_readLine e at_ en tk2 wm ns fa pl lt fr tm = (at2, en2, tk5, wm2, ns2, fa, pl, 0, lt2, fr') ∧ rp_K e st2 be2 tk4 wd2 wh2 at2 en2 tk5 wm2 ns2 lt2 ∧ st < st2 ∧ rp_D fg' sp' sa' sh' lw' ti' pu' fi' tb' sc' wc' c' kd' me' sf' sm' wf' wt' nm' fr') ∨
    (∃ q p, rp_fc (Ff_X3_readLine fn fp c e st be tk wd wh ta fg sp sa sh lw ti pu fi tb sc tp nm kd me wc wf wt sm sf) q p ∧ rp_fm (FfG_X8_readLine e at_ en tk2 wm ns fa pl lt fr tm) q p) := by
  have hst : st = at_ := hK.1
  have hb0 : 0 ≤ be := hK.2.2.2.1
  have hb1 : be ≤ e := hK.2.2.2.2.1
  have n01 : ¬ (0 : Int) = 1 := by decide
  have n10 : ¬ (1 : Int) = 0 := by decide
  have hD0 := hD
  obtain ⟨⟨⟨h1, h2, h3, h4⟩, h5, h6, h7⟩, hf, hwD, hsD, hn⟩ := hD
  rcases rp_isw hK (nn := 7) (by decide) (by decide) rp_sw_gallery with ⟨w1, m1⟩ | ⟨w1, m1, -, -, hbe, hlt⟩
  rotate_left
  · -- gallery
    have uc : Ff_X3_readLine fn fp c e st be tk wd wh ta fg sp sa sh lw ti pu fi tb sc tp nm kd me wc wf wt sm sf = if fg ≤ 0 then fl_c13 (Ff_X3_readHall fn fp e be wd wh ta tp fg sp sa sh) (fun r28 v1 v2 v8 v9 v10 v11 v12 v13 x0 x1 x2 x3 => if r28 = 1 then (1, v1, v2, c, v8, v9, v10, v11, v12, v13, x0, x1, x2, x3, lw, ti, pu, fi, tb, sc, nm, kd, me, wc, wf, wt, sm, sf) else (0, v1, v2, c, v8, v9, v10, v11, v12, v13, x0, x1, x2, x3, lw, ti, pu, fi, tb, sc, nm, kd, me, wc, wf, wt, sm, sf)) else (0, 3, st, c, st, be, tk, wd, wh, ta, fg, sp, sa, sh, lw, ti, pu, fi, tb, sc, nm, kd, me, wc, wf, wt, sm, sf) := by
      unfold Ff_X3_readLine; rw [fl_lt_eq w1.symm, if_pos rfl]; rfl
    have um : FfG_X8_readLine e at_ en tk2 wm ns fa pl lt fr tm = fl_c10 (FfG_X8_galleryLine e at_ en tk2 wm ns fa pl fr tm lt) (fun v4 v5 v6 v7 v8 v9 v10 v13 v16 v12 => if v13 = 1 then (v4, v5, v6, v7, v8, v9, v10, 1, v12, v16) else (v4, v5, v6, v7, v8, v9, v10, 0, v12, v16)) := by
      unfold FfG_X8_readLine; rw [fl_lt_eq m1.symm, if_neg n10]
    by_cases h11 : fr 11 = 0
    · obtain ⟨z0, z10, z4, z5, z6⟩ := h3 h11
      rw [if_pos (by omega)] at uc
      rcases rp_hall hT he hK hbe h11 fn fp ta fg sp sa sh fa pl with ⟨v1, v2, v3, v4, st1, be1, tk1, wd1, wh1, at1, en1, tk3, wm1, ns1, lt1, b1, b2, b3, b4, b5, b6, b7, b8, b9, b10, b11, b12⟩ | ⟨q, p, b1, b2⟩
      · refine Or.inl ⟨c, v4, v1, v2, v3, v4, lw, ti, pu, fi, tb, sc, wc, nm, kd, me, wf, wt, sm, sf, fl_up (fl_up (fl_up (fl_up (fl_up fr 0 v1) 1 v2) 2 v3) 3 v4) 11 1, st1, be1, tk1, wd1, wh1, at1, en1, tk3, wm1, ns1, lt1, ?_, ?_, b3, by omega, ?_⟩
        · rw [uc, b1]; rfl
        · rw [um, b2]; rfl
        · have g0 : ∀ i : Nat, i ≠ 0 → i ≠ 1 → i ≠ 2 → i ≠ 3 → i ≠ 11 → (fl_up (fl_up (fl_up (fl_up (fl_up fr 0 v1) 1 v2) 2 v3) 3 v4) 11 1) i = fr i := fun i i0 i1 i2 i3 i4 => by
            rw [rp_up_ne _ _ i4, rp_up_ne _ _ i3, rp_up_ne _ _ i2, rp_up_ne _ _ i1, rp_up_ne _ _ i0]
          have e0 : (fl_up (fl_up (fl_up (fl_up (fl_up fr 0 v1) 1 v2) 2 v3) 3 v4) 11 1) 0 = v1 := rfl
          have e1 : (fl_up (fl_up (fl_up (fl_up (fl_up fr 0 v1) 1 v2) 2 v3) 3 v4) 11 1) 1 = v2 := rfl
          have e2 : (fl_up (fl_up (fl_up (fl_up (fl_up fr 0 v1) 1 v2) 2 v3) 3 v4) 11 1) 2 = v3 := rfl
          have e3 : (fl_up (fl_up (fl_up (fl_up (fl_up fr 0 v1) 1 v2) 2 v3) 3 v4) 11 1) 3 = v4 := rfl
          have e11 : (fl_up (fl_up (fl_up (fl_up (fl_up fr 0 v1) 1 v2) 2 v3) 3 v4) 11 1) 11 = 1 := rfl
          refine ⟨⟨⟨e0.symm, Or.inr e11, fun h => ?_, fun _ => ⟨?_, ?_, e1.symm, e2.symm, e3.symm⟩⟩, ?_, h6, fun h => ?_⟩, rp_Df_cg hf (fun i hi => g0 i (by omega) (by omega) (by omega) (by omega) (by omega)), rp_Dw_cg hwD (fun i hi => g0 i (by omega) (by omega) (by omega) (by omega) (by omega)), rp_Ds_cg hsD (fun i hi => g0 i (by omega) (by omega) (by omega) (by omega) (by omega)), rp_Dn_cg hn (fun i hi => g0 i (by omega) (by omega) (by omega) (by omega) (by omega))⟩
          · rw [e11] at h; omega
          · rw [e0]; exact b5
          · rw [e0]; exact b6
          · rw [g0 10 (by omega) (by omega) (by omega) (by omega) (by omega)]; exact h5
          · omega
      · refine Or.inr ⟨q, p, ?_, ?_⟩
        · rw [uc]; simp only [fl_c13, b1.1, reduceIte, Int.reduceEq]; exact ⟨rfl, b1.2.1, b1.2.2⟩
        · rw [um]; simp only [fl_c10, b2.2.2, reduceIte]; exact ⟨b2.1, b2.2.1, rfl⟩
    · have h11' : fr 11 = 1 := by omega
      have := h4 h11'
      rw [if_neg (by omega)] at uc
      refine Or.inr ⟨3, st, ?_, ?_⟩
      · rw [uc]; exact ⟨rfl, rfl, rfl⟩
      · rw [um]
        have eg : FfG_X8_galleryLine e at_ en tk2 wm ns fa pl fr tm lt = (at_, en, tk2, wm, ns, 3, at_, 1, fr, lt) := by
          unfold FfG_X8_galleryLine; rw [fl_lt_eq rfl, if_neg (by omega)]; rfl
        rw [eg, hst]; exact ⟨rfl, rfl, rfl⟩
  rcases rp_isw hK (nn := 3) (by decide) (by decide) rp_sw_law with ⟨w2, m2⟩ | ⟨w2, m2, -, -, hbe, hlt⟩
  rotate_left
  · -- law
    have uc : Ff_X3_readLine fn fp c e st be tk wd wh ta fg sp sa sh lw ti pu fi tb sc tp nm kd me wc wf wt sm sf = if fg = 0 then (0, 6, st, c, st, be, tk, wd, wh, ta, fg, sp, sa, sh, lw, ti, pu, fi, tb, sc, nm, kd, me, wc, wf, wt, sm, sf) else if lw = 0 then fl_c13 (Ff_X3_readLaw fn fp e be wd wh ta tp fg lw ti pu fi) (fun r28 v1 v2 v8 v9 v10 v11 v12 v13 x4 x5 x6 x7 => if r28 = 1 then (1, v1, v2, c, v8, v9, v10, v11, v12, v13, fg, sp, sa, sh, x4, x5, x6, x7, tb, sc, nm, kd, me, wc, wf, wt, sm, sf) else (0, v1, v2, c, v8, v9, v10, v11, v12, v13, fg, sp, sa, sh, x4, x5, x6, x7, tb, sc, nm, kd, me, wc, wf, wt, sm, sf)) else (0, 3, st, c, st, be, tk, wd, wh, ta, fg, sp, sa, sh, lw, ti, pu, fi, tb, sc, nm, kd, me, wc, wf, wt, sm, sf) := by
      unfold Ff_X3_readLine; rw [fl_lt_eq w1.symm, if_neg n01, fl_lt_eq w2.symm, if_pos rfl]
      unfold Gf_X3_readLine_74_1; rw [fl_lt_eq w2.symm, if_pos rfl]; rfl
    have um : FfG_X8_readLine e at_ en tk2 wm ns fa pl lt fr tm = fl_c10 (FfG_X8_lawLine e at_ en tk2 wm ns fa pl fr tm lt) (fun v4 v5 v6 v7 v8 v9 v10 v13 v16 v12 => if v13 = 1 then (v4, v5, v6, v7, v8, v9, v10, 1, v12, v16) else (v4, v5, v6, v7, v8, v9, v10, 0, v12, v16)) := by
      unfold FfG_X8_readLine; rw [fl_lt_eq m1.symm, if_pos rfl, fl_lt_eq m2.symm, if_neg n10]
    by_cases h11 : fr 11 = 0
    · obtain ⟨z0, z10, z4, z5, z6⟩ := h3 h11
      rw [if_pos (by omega)] at uc
      refine Or.inr ⟨6, st, ?_, ?_⟩
      · rw [uc]; exact ⟨rfl, rfl, rfl⟩
      · have eg : FfG_X8_lawLine e at_ en tk2 wm ns fa pl fr tm lt = (at_, en, tk2, wm, ns, 6, at_, 1, fr, lt) := by
          unfold FfG_X8_lawLine; rw [fl_lt_eq rfl, if_pos (by omega), fl_lt_eq rfl, if_pos h11]; rfl
        rw [um, eg, hst]; exact ⟨rfl, rfl, rfl⟩
    · have h11' : fr 11 = 1 := by omega
      have hb := h4 h11'
      rw [if_neg (by omega)] at uc
      by_cases hlw : lw = 0
      · rw [if_pos hlw] at uc
        rcases rp_law hT he hK hbe (by omega) h11' fn fp ta fg lw ti pu fi fa pl h1 with ⟨v1, v2, v3, st1, be1, tk1, wd1, wh1, at1, en1, tk3, wm1, ns1, lt1, b1, b2, b3, b4, b5, b6, b7, b8, b9, b10⟩ | ⟨q, p, b1, b2⟩
        · refine Or.inl ⟨c, v3, fg, sp, sa, sh, 1, v1, v2, v3, tb, sc, wc, nm, kd, me, wf, wt, sm, sf, fl_up (fl_up (fl_up (fl_up fr 7 v1) 8 v2) 9 v3) 10 1, st1, be1, tk1, wd1, wh1, at1, en1, tk3, wm1, ns1, lt1, ?_, ?_, b3, by omega, ?_⟩
          · rw [uc, b1]; rfl
          · rw [um, b2]; rfl
          · have g0 : ∀ i : Nat, i ≠ 7 → i ≠ 8 → i ≠ 9 → i ≠ 10 → (fl_up (fl_up (fl_up (fl_up fr 7 v1) 8 v2) 9 v3) 10 1) i = fr i := fun i i0 i1 i2 i3 => by
              rw [rp_up_ne _ _ i3, rp_up_ne _ _ i2, rp_up_ne _ _ i1, rp_up_ne _ _ i0]
            refine ⟨⟨⟨?_, ?_, fun h => ?_, fun _ => ?_⟩, rfl, Or.inr rfl, fun _ => ⟨rfl, rfl, rfl, b9, b10⟩⟩, rp_Df_cg hf (fun i hi => g0 i (by omega) (by omega) (by omega) (by omega)), rp_Dw_cg hwD (fun i hi => g0 i (by omega) (by omega) (by omega) (by omega)), rp_Ds_cg hsD (fun i hi => g0 i (by omega) (by omega) (by omega) (by omega)), rp_Dn_cg hn (fun i hi => g0 i (by omega) (by omega) (by omega) (by omega))⟩
            · rw [g0 0 (by omega) (by omega) (by omega) (by omega)]; exact h1
            · rw [g0 11 (by omega) (by omega) (by omega) (by omega)]; exact h2
            · rw [g0 11 (by omega) (by omega) (by omega) (by omega)] at h; exact absurd h h11
            · rw [g0 0 (by omega) (by omega) (by omega) (by omega), g0 1 (by omega) (by omega) (by omega) (by omega), g0 2 (by omega) (by omega) (by omega) (by omega), g0 3 (by omega) (by omega) (by omega) (by omega)]; exact hb
        · refine Or.inr ⟨q, p, ?_, ?_⟩
          · rw [uc]; simp only [fl_c13, b1.1, reduceIte, Int.reduceEq]; exact ⟨rfl, b1.2.1, b1.2.2⟩
          · rw [um]; simp only [fl_c10, b2.2.2, reduceIte]; exact ⟨b2.1, b2.2.1, rfl⟩
      · rw [if_neg hlw] at uc
        refine Or.inr ⟨3, st, ?_, ?_⟩
        · rw [uc]; exact ⟨rfl, rfl, rfl⟩
        · have eg : FfG_X8_lawLine e at_ en tk2 wm ns fa pl fr tm lt = (at_, en, tk2, wm, ns, 3, at_, 1, fr, lt) := by
            unfold FfG_X8_lawLine; rw [fl_lt_eq rfl, if_neg (by omega)]
            simp only [FfG_X8_wrong, fl_lt, fl_c2, fl_c3, fl_c4, fl_c5, fl_c6, fl_c7, fl_c8, fl_c9, fl_c10, reduceIte, Int.reduceEq, ite_self]
          rw [um, eg, hst]; exact ⟨rfl, rfl, rfl⟩
  obtain ⟨st1, be1, tk1, wd1, wh1, at1, en1, tk3, wm1, ns1, lt1, a1, a2, a3, a4⟩ := rp_adv hT he be wd wh lt hb0 hb1
  have h4f : 0 ≤ fr 4 ∧ fr 4 ≤ 9 := ⟨hf.2.2.2.2.1, hf.2.2.2.2.2⟩
  have h5w : wc = fr 5 ∧ 0 ≤ wc ∧ wc ≤ 3 := ⟨hwD.1, hwD.2.1, hwD.2.2.1⟩
  have h6s : sc = fr 6 ∧ 0 ≤ sc ∧ sc ≤ 6 := ⟨hsD.1, hsD.2.1, hsD.2.2.1⟩
  rcases rp_isw hK (nn := 6) (by decide) (by decide) rp_sw_figure with ⟨w3, m3⟩ | ⟨w3, m3, -, -, hbe, hlt⟩
  rotate_left
  · -- figure
    have uc : Ff_X3_readLine fn fp c e st be tk wd wh ta fg sp sa sh lw ti pu fi tb sc tp nm kd me wc wf wt sm sf = if fg = 0 then (0, 6, st, c, st, be, tk, wd, wh, ta, fg, sp, sa, sh, lw, ti, pu, fi, tb, sc, nm, kd, me, wc, wf, wt, sm, sf) else if Ff_J6_bitCount_0f7a4 tb < 9 then fl_c14 (Ff_X3_readFigure fn fp c e be wd wh ta tp nm fg tb kd me) (fun r v1 v2 v6 v8 v9 v10 v11 v12 v13 y4 x8 y10 y11 => if r = 1 then (1, v1, v2, v6, v8, v9, v10, v11, v12, v13, fg, sp, sa, sh, lw, ti, pu, fi, x8, sc, y4, y10, y11, wc, wf, wt, sm, sf) else (0, v1, v2, v6, v8, v9, v10, v11, v12, v13, fg, sp, sa, sh, lw, ti, pu, fi, x8, sc, y4, y10, y11, wc, wf, wt, sm, sf)) else (0, 5, st, c, st, be, tk, wd, wh, ta, fg, sp, sa, sh, lw, ti, pu, fi, tb, sc, nm, kd, me, wc, wf, wt, sm, sf) := by
      unfold Ff_X3_readLine; rw [fl_lt_eq w1.symm, if_neg n01, fl_lt_eq w2.symm, if_neg n01, fl_lt_eq w3.symm, if_pos rfl, rp_g74]
      unfold Gf_X3_readLine_74_1; rw [fl_lt_eq w2.symm, if_neg n01, fl_lt_eq w3.symm, if_pos rfl]; rfl
    rw [show Ff_J6_bitCount_0f7a4 tb = fr 4 from hf.2.2.2.1] at uc
    rw [hbe] at a2
    by_cases h11 : fr 11 = 0
    · obtain ⟨z0, z10, z4, z5, z6⟩ := h3 h11
      rw [if_pos (by omega)] at uc
      refine Or.inr ⟨6, st, ?_, ?_⟩
      · rw [uc]; exact ⟨rfl, rfl, rfl⟩
      · unfold FfG_X8_readLine; rw [fl_lt_eq m1.symm, if_pos rfl, fl_lt_eq m2.symm, if_pos rfl, fl_lt_eq rfl, if_neg (by omega), rp_beg6 m3 h11, hst]; exact ⟨rfl, rfl, rfl⟩
    · have hb := h4 (by omega)
      rw [if_neg (by omega)] at uc
      by_cases h9 : fr 4 < 9
      · rw [if_pos (by omega)] at uc
        have um : FfG_X8_readLine e at_ en tk2 wm ns fa pl lt fr tm = fl_c10 (FfG_X8_figureLine e at1 en1 tk3 wm1 ns1 fa pl fr lt1 tm) (fun v4 v5 v6 v7 v8 v9 v10 v13 v16 v12 => if v13 = 1 then (v4, v5, v6, v7, v8, v9, v10, 1, v12, v16) else (v4, v5, v6, v7, v8, v9, v10, 0, v12, v16)) := by
          unfold FfG_X8_readLine; rw [fl_lt_eq m1.symm, if_pos rfl, fl_lt_eq m2.symm, if_pos rfl, fl_lt_eq rfl, if_neg (by omega), rp_beg1 m3 h11 a2]; rfl
        rcases rp_fig hT he a1 a3 hD0 h9 h11 fn fp ta fa pl with ⟨c', ta', tb', kd', me', nm', fr', st2, be2, tk4, wd2, wh2, at2, en2, tk5, wm2, ns2, lt2, b1, b2, b3, b4, b5⟩ | ⟨q, p, b1, b2⟩
        · refine Or.inl ⟨c', ta', fg, sp, sa, sh, lw, ti, pu, fi, tb', sc, wc, nm', kd', me', wf, wt, sm, sf, fr', st2, be2, tk4, wd2, wh2, at2, en2, tk5, wm2, ns2, lt2, ?_, ?_, b3, by omega, b5⟩
          · rw [uc, b1]; rfl
          · rw [um, b2]; rfl
        · refine Or.inr ⟨q, p, ?_, ?_⟩
          · rw [uc]; simp only [fl_c14, b1.1, reduceIte, Int.reduceEq]; exact ⟨rfl, b1.2.1, b1.2.2⟩
          · rw [um]; simp only [fl_c10, b2.2.2, reduceIte]; exact ⟨b2.1, b2.2.1, rfl⟩
      · rw [if_neg (by omega)] at uc
        refine Or.inr ⟨5, st, ?_, ?_⟩
        · rw [uc]; exact ⟨rfl, rfl, rfl⟩
        · unfold FfG_X8_readLine; rw [fl_lt_eq m1.symm, if_pos rfl, fl_lt_eq m2.symm, if_pos rfl, fl_lt_eq rfl, if_pos (by omega), rp_beg5 m3, hst]; exact ⟨rfl, rfl, rfl⟩
  -- behind figure, there
  have vf : ∀ can : Int, FfG_X8_begins can e at_ en tk2 wm ns fa pl lt fr tm 6 (fl_A (sxc 20)) = (0, at_, en, tk2, wm, ns, fa, pl, 0, lt) := fun can => rp_beg0 m3
  rcases rp_isw hK (nn := 7) (by decide) (by decide) rp_sw_watcher with ⟨w4, m4⟩ | ⟨w4, m4, -, -, hbe, hlt⟩
  rotate_left
  · -- watcher
    have uc : Ff_X3_readLine fn fp c e st be tk wd wh ta fg sp sa sh lw ti pu fi tb sc tp nm kd me wc wf wt sm sf = if fg = 0 then (0, 6, st, c, st, be, tk, wd, wh, ta, fg, sp, sa, sh, lw, ti, pu, fi, tb, sc, nm, kd, me, wc, wf, wt, sm, sf) else if wc < 3 then fl_c14 (Ff_X3_readWatcher fn fp c e be wd wh ta tp nm fg wc wf wt) (fun r v1 v2 v6 v8 v9 v10 v11 v12 v13 y4 x0 y2 y3 => if r = 1 then (1, v1, v2, v6, v8, v9, v10, v11, v12, v13, fg, sp, sa, sh, lw, ti, pu, fi, tb, sc, y4, kd, me, x0, y2, y3, sm, sf) else (0, v1, v2, v6, v8, v9, v10, v11, v12, v13, fg, sp, sa, sh, lw, ti, pu, fi, tb, sc, y4, kd, me, x0, y2, y3, sm, sf)) else (0, 5, st, c, st, be, tk, wd, wh, ta, fg, sp, sa, sh, lw, ti, pu, fi, tb, sc, nm, kd, me, wc, wf, wt, sm, sf) := by
      unfold Ff_X3_readLine; rw [fl_lt_eq w1.symm, if_neg n01, fl_lt_eq w2.symm, if_neg n01, fl_lt_eq w3.symm, if_neg n01, fl_lt_eq w4.symm, if_pos rfl, rp_g74]
      unfold Gf_X3_readLine_74_1; rw [fl_lt_eq w2.symm, if_neg n01, fl_lt_eq w3.symm, if_neg n01, fl_lt_eq w4.symm, if_pos rfl]; rfl
    rw [hbe] at a2
    by_cases h11 : fr 11 = 0
    · obtain ⟨z0, z10, z4, z5, z6⟩ := h3 h11
      rw [if_pos (by omega)] at uc
      refine Or.inr ⟨6, st, ?_, ?_⟩
      · rw [uc]; exact ⟨rfl, rfl, rfl⟩
      · have eg : FfG_X8_readLine e at_ en tk2 wm ns fa pl lt fr tm = (at_, en, tk2, wm, ns, 6, at_, 1, lt, fr) := by
          simp only [FfG_X8_readLine, m1, m2, vf, rp_beg6 m4 h11, z4, z5, fl_lt, fl_c2, fl_c3, fl_c4, fl_c5, fl_c6, fl_c7, fl_c8, fl_c9, fl_c10, reduceIte, Int.reduceEq, Int.reduceLE]
        rw [eg, hst]; exact ⟨rfl, rfl, rfl⟩
    · have hb := h4 (by omega)
      rw [if_neg (by omega)] at uc
      by_cases h9 : wc < 3
      · rw [if_pos h9] at uc
        have um : FfG_X8_readLine e at_ en tk2 wm ns fa pl lt fr tm = fl_c10 (FfG_X8_watcherLine e at1 en1 tk3 wm1 ns1 fa pl fr lt1 tm) (fun v4 v5 v6 v7 v8 v9 v10 v13 v16 v12 => if v13 = 1 then (v4, v5, v6, v7, v8, v9, v10, 1, v12, v16) else (v4, v5, v6, v7, v8, v9, v10, 0, v12, v16)) := by
          have q5 : ¬ 3 ≤ fr 5 := by omega
          unfold FfG_X8_readLine; rw [fl_lt_eq m1.symm, if_pos rfl, fl_lt_eq m2.symm, if_pos rfl, fl_lt_eq rfl]
          by_cases q4 : 9 ≤ fr 4
          · rw [if_pos q4, vf, fl_c10_eq rfl, if_pos rfl, fl_lt_eq rfl, if_neg q5, rp_beg1 m4 h11 a2]; rfl
          · rw [if_neg q4, vf, fl_c10_eq rfl, if_pos rfl, fl_lt_eq rfl, if_neg q5, rp_beg1 m4 h11 a2]; rfl
        rcases rp_watch hT he a1 a3 hD0 h9 h11 fn fp ta fa pl with ⟨c', ta', wc', wf', wt', nm', fr', st2, be2, tk4, wd2, wh2, at2, en2, tk5, wm2, ns2, lt2, b1, b2, b3, b4, b5⟩ | ⟨q, p, b1, b2⟩
        · refine Or.inl ⟨c', ta', fg, sp, sa, sh, lw, ti, pu, fi, tb, sc, wc', nm', kd, me, wf', wt', sm, sf, fr', st2, be2, tk4, wd2, wh2, at2, en2, tk5, wm2, ns2, lt2, ?_, ?_, b3, by omega, b5⟩
          · rw [uc, b1]; rfl
          · rw [um, b2]; rfl
        · refine Or.inr ⟨q, p, ?_, ?_⟩
          · rw [uc]; simp only [fl_c14, b1.1, reduceIte, Int.reduceEq]; exact ⟨rfl, b1.2.1, b1.2.2⟩
          · rw [um]; simp only [fl_c10, b2.2.2, reduceIte]; exact ⟨b2.1, b2.2.1, rfl⟩
      · rw [if_neg h9] at uc
        refine Or.inr ⟨5, st, ?_, ?_⟩
        · rw [uc]; exact ⟨rfl, rfl, rfl⟩
        · have q5 : 3 ≤ fr 5 := by omega
          have eg : FfG_X8_readLine e at_ en tk2 wm ns fa pl lt fr tm = (at_, en, tk2, wm, ns, 5, at_, 1, lt, fr) := by
            unfold FfG_X8_readLine; rw [fl_lt_eq m1.symm, if_pos rfl, fl_lt_eq m2.symm, if_pos rfl, fl_lt_eq rfl]
            by_cases q4 : 9 ≤ fr 4
            · rw [if_pos q4, vf, fl_c10_eq rfl, if_pos rfl, fl_lt_eq rfl, if_pos q5, rp_beg5 m4]; rfl
            · rw [if_neg q4, vf, fl_c10_eq rfl, if_pos rfl, fl_lt_eq rfl, if_pos q5, rp_beg5 m4]; rfl
          rw [eg, hst]; exact ⟨rfl, rfl, rfl⟩
  have vw : ∀ can : Int, FfG_X8_begins can e at_ en tk2 wm ns fa pl lt fr tm 7 (fl_A (sxc 21)) = (0, at_, en, tk2, wm, ns, fa, pl, 0, lt) := fun can => rp_beg0 m4
  rcases rp_isw hK (nn := 4) (by decide) (by decide) rp_sw_seen with ⟨w5, m5⟩ | ⟨w5, m5, -, -, hbe, hlt⟩
  rotate_left
  · -- seen
    have uc : Ff_X3_readLine fn fp c e st be tk wd wh ta fg sp sa sh lw ti pu fi tb sc tp nm kd me wc wf wt sm sf = if fg = 0 then (0, 6, st, c, st, be, tk, wd, wh, ta, fg, sp, sa, sh, lw, ti, pu, fi, tb, sc, nm, kd, me, wc, wf, wt, sm, sf) else if sc < 6 then fl_c12 (Ff_X3_readSeen fn fp e st be tk wd wh ta fg sc tp sm sf) (fun r v1 v2 v8 v9 v10 v11 v12 v13 x9 y13 y12 => if r = 1 then (1, v1, v2, c, v8, v9, v10, v11, v12, v13, fg, sp, sa, sh, lw, ti, pu, fi, tb, x9, nm, kd, me, wc, wf, wt, y13, y12) else (0, v1, v2, c, v8, v9, v10, v11, v12, v13, fg, sp, sa, sh, lw, ti, pu, fi, tb, x9, nm, kd, me, wc, wf, wt, y13, y12)) else (0, 5, st, c, st, be, tk, wd, wh, ta, fg, sp, sa, sh, lw, ti, pu, fi, tb, sc, nm, kd, me, wc, wf, wt, sm, sf) := by
      unfold Ff_X3_readLine; rw [fl_lt_eq w1.symm, if_neg n01, fl_lt_eq w2.symm, if_neg n01, fl_lt_eq w3.symm, if_neg n01, fl_lt_eq w4.symm, if_neg n01, fl_lt_eq w5.symm, if_pos rfl, rp_g74]
      unfold Gf_X3_readLine_74_1; rw [fl_lt_eq w2.symm, if_neg n01, fl_lt_eq w3.symm, if_neg n01, fl_lt_eq w4.symm, if_neg n01]; rfl
    rw [hbe] at a2
    have ul : FfG_X8_readLine e at_ en tk2 wm ns fa pl lt fr tm = if 6 ≤ fr 6 then fl_c10 (FfG_X8_begins 0 e at_ en tk2 wm ns fa pl lt fr tm 4 (fl_A (sxc 22))) (fun r v4 v5 v6 v7 v8 v9 v10 v13 v12 => if r = 0 then fl_c2 (FfG_X8_wrong 1 v4) (fun y9 y10 => (v4, v5, v6, v7, v8, y9, y10, 1, v12, fr)) else if v13 = 1 then (v4, v5, v6, v7, v8, v9, v10, 1, v12, fr) else (0, 0, 0, 0, 0, 0, 0, 0, (fun _ => 0), (fun _ => 0))) else fl_c10 (FfG_X8_begins 1 e at_ en tk2 wm ns fa pl lt fr tm 4 (fl_A (sxc 22))) (fun r v4 v5 v6 v7 v8 v9 v10 v13 v12 => if r = 0 then fl_c2 (FfG_X8_wrong 1 v4) (fun y9 y10 => (v4, v5, v6, v7, v8, y9, y10, 1, v12, fr)) else if v13 = 1 then (v4, v5, v6, v7, v8, v9, v10, 1, v12, fr) else fl_c10 (FfG_X8_seenLine e v4 v5 v6 v7 v8 v9 v10 fr tm v12) (fun u4 u5 u6 u7 u8 u9 u10 u13 u16 u12 => if u13 = 1 then (u4, u5, u6, u7, u8, u9, u10, 1, u12, u16) else (u4, u5, u6, u7, u8, u9, u10, 0, u12, u16))) := by
      unfold FfG_X8_readLine; rw [fl_lt_eq m1.symm, if_pos rfl, fl_lt_eq m2.symm, if_pos rfl, fl_lt_eq rfl]
      by_cases q4 : 9 ≤ fr 4
      · rw [if_pos q4, vf, fl_c10_eq rfl, if_pos rfl, fl_lt_eq rfl]
        by_cases q5 : 3 ≤ fr 5
        · rw [if_pos q5, vw, fl_c10_eq rfl, if_pos rfl]; rfl
        · rw [if_neg q5, vw, fl_c10_eq rfl, if_pos rfl]; rfl
      · rw [if_neg q4, vf, fl_c10_eq rfl, if_pos rfl, fl_lt_eq rfl]
        by_cases q5 : 3 ≤ fr 5
        · rw [if_pos q5, vw, fl_c10_eq rfl, if_pos rfl]; rfl
        · rw [if_neg q5, vw, fl_c10_eq rfl, if_pos rfl]; rfl
    by_cases h11 : fr 11 = 0
    · obtain ⟨z0, z10, z4, z5, z6⟩ := h3 h11
      rw [if_pos (by omega)] at uc
      rw [if_neg (by omega), rp_beg6 m5 h11] at ul
      refine Or.inr ⟨6, st, ?_, ?_⟩
      · rw [uc]; exact ⟨rfl, rfl, rfl⟩
      · rw [ul, hst]; exact ⟨rfl, rfl, rfl⟩
    · have hb := h4 (by omega)
      rw [if_neg (by omega)] at uc
      by_cases h9 : sc < 6
      · rw [if_pos h9] at uc
        rw [if_neg (by omega), rp_beg1 m5 h11 a2, fl_c10_eq rfl, if_neg n10, if_neg n01] at ul
        rcases rp_seen (st := st) hT he w5 a1 a3 hD0 h9 h11 fn fp ta fa pl with ⟨ta', sc', sm', sf', fr', st2, be2, tk4, wd2, wh2, at2, en2, tk5, wm2, ns2, lt2, b1, b2, b3, b4, b5⟩ | ⟨q, p, b1, b2⟩
        · refine Or.inl ⟨c, ta', fg, sp, sa, sh, lw, ti, pu, fi, tb, sc', wc, nm, kd, me, wf, wt, sm', sf', fr', st2, be2, tk4, wd2, wh2, at2, en2, tk5, wm2, ns2, lt2, ?_, ?_, b3, by omega, b5⟩
          · rw [uc, b1]; rfl
          · rw [ul, b2]; rfl
        · refine Or.inr ⟨q, p, ?_, ?_⟩
          · rw [uc]; simp only [fl_c12, b1.1, reduceIte, Int.reduceEq]; exact ⟨rfl, b1.2.1, b1.2.2⟩
          · rw [ul]; simp only [fl_c10, b2.2.2, reduceIte]; exact ⟨b2.1, b2.2.1, rfl⟩
      · rw [if_neg h9] at uc
        rw [if_pos (by omega), rp_beg5 m5] at ul
        refine Or.inr ⟨5, st, ?_, ?_⟩
        · rw [uc]; exact ⟨rfl, rfl, rfl⟩
        · rw [ul, hst]; exact ⟨rfl, rfl, rfl⟩
  · -- none of them
    have uc : Ff_X3_readLine fn fp c e st be tk wd wh ta fg sp sa sh lw ti pu fi tb sc tp nm kd me wc wf wt sm sf = (0, 1, st, c, st, be, tk, wd, wh, ta, fg, sp, sa, sh, lw, ti, pu, fi, tb, sc, nm, kd, me, wc, wf, wt, sm, sf) := by
      unfold Ff_X3_readLine; rw [fl_lt_eq w1.symm, if_neg n01, fl_lt_eq w2.symm, if_neg n01, fl_lt_eq w3.symm, if_neg n01, fl_lt_eq w4.symm, if_neg n01, fl_lt_eq w5.symm, if_neg n01]; rfl
    have vs : ∀ can : Int, FfG_X8_begins can e at_ en tk2 wm ns fa pl lt fr tm 4 (fl_A (sxc 22)) = (0, at_, en, tk2, wm, ns, fa, pl, 0, lt) := fun can => rp_beg0 m5
    have um : FfG_X8_readLine e at_ en tk2 wm ns fa pl lt fr tm = (at_, en, tk2, wm, ns, 1, at_, 1, lt, fr) := by
      unfold FfG_X8_readLine; rw [fl_lt_eq m1.symm, if_pos rfl, fl_lt_eq m2.symm, if_pos rfl, fl_lt_eq rfl]
      by_cases q4 : 9 ≤ fr 4
      · rw [if_pos q4, vf, fl_c10_eq rfl, if_pos rfl, fl_lt_eq rfl]
        by_cases q5 : 3 ≤ fr 5
        · rw [if_pos q5, vw, fl_c10_eq rfl, if_pos rfl, fl_lt_eq rfl]
          by_cases q6 : 6 ≤ fr 6
          · rw [if_pos q6, vs]; rfl
          · rw [if_neg q6, vs]; rfl
        · rw [if_neg q5, vw, fl_c10_eq rfl, if_pos rfl, fl_lt_eq rfl]
          by_cases q6 : 6 ≤ fr 6
          · rw [if_pos q6, vs]; rfl
          · rw [if_neg q6, vs]; rfl
      · rw [if_neg q4, vf, fl_c10_eq rfl, if_pos rfl, fl_lt_eq rfl]
        by_cases q5 : 3 ≤ fr 5
        · rw [if_pos q5, vw, fl_c10_eq rfl, if_pos rfl, fl_lt_eq rfl]
          by_cases q6 : 6 ≤ fr 6
          · rw [if_pos q6, vs]; rfl
          · rw [if_neg q6, vs]; rfl
        · rw [if_neg q5, vw, fl_c10_eq rfl, if_pos rfl, fl_lt_eq rfl]
          by_cases q6 : 6 ≤ fr 6
          · rw [if_pos q6, vs]; rfl
          · rw [if_neg q6, vs]; rfl
    refine Or.inr ⟨1, st, ?_, ?_⟩
    · rw [uc]; exact ⟨rfl, rfl, rfl⟩
    · rw [um, hst]; exact ⟨rfl, rfl, rfl⟩
end PUJ
end P0922491_pure10
section P0922492_pure11
section PUK
set_option maxRecDepth 20000 in

theorem rp_clear (kd me : Nat → Int) : ∃ kd0 me0 : Nat → Int, Ff_X0_clear kd me = (0, 0, 0, 0, 0, kd0, me0) ∧ ∀ f : Nat, f < 9 → kd0 f = 0 ∧ me0 f = 0 := by
  have main : ∀ (m : Nat) (j : Nat) (k1 m1 : Nat → Int), 10 ≤ m + j → j ≤ 9 → (∀ f : Nat, f < j → k1 f = 0 ∧ m1 f = 0) → ∃ kd0 me0 : Nat → Int, fl_wh (fun t9 => Sf_X0_clear_30_1 t9.1 t9.2.1 t9.2.2) (0, 0, 0, 0, 0, (fun _ => 0), (fun _ => 0)) m ((j : Int), k1, m1) = (0, 0, 0, 0, 0, kd0, me0) ∧ ∀ f : Nat, f < 9 → kd0 f = 0 ∧ me0 f = 0 := by
    intro m
    induction m with
    | zero => intro j k1 m1 h1 h2; omega
    | succ m ih =>
      intro j k1 m1 h1 h2 h3
      by_cases hj : 9 ≤ (j : Int)
      · have hs : Sf_X0_clear_30_1 (j : Int) k1 m1 = .inr (0, 0, 0, 0, 0, k1, m1) := by unfold Sf_X0_clear_30_1; rw [if_pos hj]
        rw [fl_wh_r (step := fun t9 : Int × (Nat → Int) × (Nat → Int) => Sf_X0_clear_30_1 t9.1 t9.2.1 t9.2.2) (s := ((j : Int), k1, m1)) hs]
        exact ⟨k1, m1, rfl, fun f hf => h3 f (by omega)⟩
      · have hs : Sf_X0_clear_30_1 (j : Int) k1 m1 = .inl ((j : Int) + 1, fl_up k1 j 0, fl_up m1 j 0) := by unfold Sf_X0_clear_30_1; rw [if_neg hj]; rfl
        rw [fl_wh_l (step := fun t9 : Int × (Nat → Int) × (Nat → Int) => Sf_X0_clear_30_1 t9.1 t9.2.1 t9.2.2) (s := ((j : Int), k1, m1)) hs]
        have := ih (j + 1) (fl_up k1 j 0) (fl_up m1 j 0) (by omega) (by omega) (fun f hf => by
          by_cases q : f = j
          · subst q; rw [rp_up_eq, rp_up_eq]; exact ⟨rfl, rfl⟩
          · rw [rp_up_ne _ _ q, rp_up_ne _ _ q]; exact h3 f (by omega))
        rw [show ((j + 1 : Nat) : Int) = (j : Int) + 1 by omega] at this
        exact this
  exact main 10 0 kd me (by omega) (by omega) (fun f hf => by omega)
theorem rp_bit0 : ∀ f : Fin 9, Ff_X7_hasBit 0 (f.val : Int) = 0 := by decide +kernel
theorem rp_D0 {sp sa sh ti pu fi : Int} {kd me sf sm wf wt nm fr : Nat → Int} (h : ∀ i : Nat, i < 156 → fr i = 0) (hk : ∀ f : Nat, f < 9 → kd f = 0 ∧ me f = 0) : rp_D 0 sp sa sh 0 ti pu fi 0 0 0 0 kd me sf sm wf wt nm fr := by
  have z : ∀ i : Nat, i < 156 → fr i = 0 := h
  refine ⟨⟨⟨(z 0 (by omega)).symm, Or.inl (z 11 (by omega)), fun _ => ⟨z 0 (by omega), z 10 (by omega), z 4 (by omega), z 5 (by omega), z 6 (by omega)⟩, fun h1 => ?_⟩, (z 10 (by omega)).symm, Or.inl rfl, fun h1 => ?_⟩, ⟨by omega, by omega, fun f hf => ?_, ?_, ?_, ?_⟩, ⟨(z 5 (by omega)).symm, by omega, by omega, fun w hw => by omega⟩, ⟨(z 6 (by omega)).symm, by omega, by omega, fun w hw => by omega⟩, ?_, ⟨fun s hs => ?_, fun i hi => by omega, fun s hs h1 => ?_⟩, fun s hs h1 => ?_⟩
  · rw [z 11 (by omega)] at h1; exact absurd h1 (by decide)
  · exact absurd h1 (by decide)
  · rw [z _ (by omega), z _ (by omega), rp_bit0 ⟨f, hf⟩]
    exact ⟨(hk f hf).1, (hk f hf).2, by omega, by decide⟩
  · rw [z 4 (by omega)]; decide
  · rw [z 4 (by omega)]; omega
  · rw [z 4 (by omega)]; omega
  · rw [z 4 (by omega), z 5 (by omega)]; rfl
  · rw [z _ (by omega)]; exact ⟨by omega, by omega, fun k hk => by have h9 : k < 0 := hk; omega⟩
  · rw [z _ (by omega)] at h1; omega
  · rw [z _ (by omega)] at h1; omega
/-- the loop over lines -/
theorem rp_loop {tp tm : Nat → Int} {e : Int} (hT : rp_T tp tm e) (he : e ≤ 900) (hg un im : Int) (r0 s0 : Nat → Int) : ∀ (m1 m2 : Nat) (l c st be tk wd wh ta fg sp sa sh lw ti pu fi tb sc wc : Int) (kd me nm wf wt sm sf fr lt : Nat → Int) (at_ en tk2 wm ns pl : Int), 901 - l ≤ (m1 : Int) → e + 1 - st ≤ (m2 : Int) → 1 ≤ l → l ≤ st → rp_K e st be tk wd wh at_ en tk2 wm ns lt → rp_D fg sp sa sh lw ti pu fi tb sc wc c kd me sf sm wf wt nm fr →
    (∃ c' st' be' tk' wd' wh' ta' fg' sp' sa' sh' lw' ti' pu' fi' tb' sc' wc' kd' me' nm' wf' wt' sm' sf' fr' lt' at1 en1 tk3 wm1 ns1, fl_wh (fun t9 => Sf_X3_read_55_1 tp e t9.1 t9.2.1 t9.2.2.1 t9.2.2.2.1 t9.2.2.2.2.1 t9.2.2.2.2.2.1 t9.2.2.2.2.2.2.1 t9.2.2.2.2.2.2.2.1 t9.2.2.2.2.2.2.2.2.1 t9.2.2.2.2.2.2.2.2.2.1 t9.2.2.2.2.2.2.2.2.2.2.1 t9.2.2.2.2.2.2.2.2.2.2.2.1 t9.2.2.2.2.2.2.2.2.2.2.2.2.1 t9.2.2.2.2.2.2.2.2.2.2.2.2.2.1 t9.2.2.2.2.2.2.2.2.2.2.2.2.2.2.1 t9.2.2.2.2.2.2.2.2.2.2.2.2.2.2.2.1 t9.2.2.2.2.2.2.2.2.2.2.2.2.2.2.2.2.1 t9.2.2.2.2.2.2.2.2.2.2.2.2.2.2.2.2.2.1 t9.2.2.2.2.2.2.2.2.2.2.2.2.2.2.2.2.2.2.1 t9.2.2.2.2.2.2.2.2.2.2.2.2.2.2.2.2.2.2.2.1 t9.2.2.2.2.2.2.2.2.2.2.2.2.2.2.2.2.2.2.2.2.1 t9.2.2.2.2.2.2.2.2.2.2.2.2.2.2.2.2.2.2.2.2.2.1 t9.2.2.2.2.2.2.2.2.2.2.2.2.2.2.2.2.2.2.2.2.2.2.1 t9.2.2.2.2.2.2.2.2.2.2.2.2.2.2.2.2.2.2.2.2.2.2.2.1 t9.2.2.2.2.2.2.2.2.2.2.2.2.2.2.2.2.2.2.2.2.2.2.2.2.1 t9.2.2.2.2.2.2.2.2.2.2.2.2.2.2.2.2.2.2.2.2.2.2.2.2.2.1 t9.2.2.2.2.2.2.2.2.2.2.2.2.2.2.2.2.2.2.2.2.2.2.2.2.2.2.1 t9.2.2.2.2.2.2.2.2.2.2.2.2.2.2.2.2.2.2.2.2.2.2.2.2.2.2.2.1 t9.2.2.2.2.2.2.2.2.2.2.2.2.2.2.2.2.2.2.2.2.2.2.2.2.2.2.2.2) (0, 0, 0, 0, 0, 0, 0, 0, 0, 0, 0, 0, 0, 0, 0, 0, 0, 0, 0, 0, 0, 0, (fun _ => 0), (fun _ => 0), (fun _ => 0), (fun _ => 0), (fun _ => 0), (fun _ => 0), (fun _ => 0)) m1 (l, 1, 0, -1, c, st, be, tk, wd, wh, ta, fg, sp, sa, sh, lw, ti, pu, fi, tb, sc, wc, kd, me, nm, wf, wt, sm, sf) = (1, 0, -1, c', e, st', be', tk', wd', wh', ta', fg', sp', sa', sh', lw', ti', pu', fi', tb', sc', wc', kd', me', nm', wf', wt', sm', sf') ∧ fl_wh (fun t9 => Sf_X8_gallery_77_1 e hg un im tm r0 s0 0 0 t9.1 t9.2.1 t9.2.2.1 t9.2.2.2.1 t9.2.2.2.2.1 t9.2.2.2.2.2.1 t9.2.2.2.2.2.2.1 t9.2.2.2.2.2.2.2.1 t9.2.2.2.2.2.2.2.2) (0, 0, 0, 0, 0, 0, 0, 0, 0, 0, 0, 0, 0, 0, 0, 0, (fun _ => 0), (fun _ => 0), (fun _ => 0), (fun _ => 0)) m2 (at_, en, tk2, wm, ns, 0, pl, fr, lt) = fl_wh (fun t9 => Sf_X8_gallery_195_1 e 0 0 at1 en1 tk3 wm1 ns1 0 pl fr' lt' (va_cpy fr' r0 0 0 156) t9.1 t9.2) (0, 0, 0, 0, 0, 0, 0, 0, 0, 0, 0, 0, 0, 0, 0, 0, (fun _ => 0), (fun _ => 0), (fun _ => 0), (fun _ => 0)) 24 (0, s0) ∧ lw' = 1 ∧ rp_D fg' sp' sa' sh' lw' ti' pu' fi' tb' sc' wc' c' kd' me' sf' sm' wf' wt' nm' fr') ∨
    (∃ q p, rp_fc (fl_wh (fun t9 => Sf_X3_read_55_1 tp e t9.1 t9.2.1 t9.2.2.1 t9.2.2.2.1 t9.2.2.2.2.1 t9.2.2.2.2.2.1 t9.2.2.2.2.2.2.1 t9.2.2.2.2.2.2.2.1 t9.2.2.2.2.2.2.2.2.1 t9.2.2.2.2.2.2.2.2.2.1 t9.2.2.2.2.2.2.2.2.2.2.1 t9.2.2.2.2.2.2.2.2.2.2.2.1 t9.2.2.2.2.2.2.2.2.2.2.2.2.1 t9.2.2.2.2.2.2.2.2.2.2.2.2.2.1 t9.2.2.2.2.2.2.2.2.2.2.2.2.2.2.1 t9.2.2.2.2.2.2.2.2.2.2.2.2.2.2.2.1 t9.2.2.2.2.2.2.2.2.2.2.2.2.2.2.2.2.1 t9.2.2.2.2.2.2.2.2.2.2.2.2.2.2.2.2.2.1 t9.2.2.2.2.2.2.2.2.2.2.2.2.2.2.2.2.2.2.1 t9.2.2.2.2.2.2.2.2.2.2.2.2.2.2.2.2.2.2.2.1 t9.2.2.2.2.2.2.2.2.2.2.2.2.2.2.2.2.2.2.2.2.1 t9.2.2.2.2.2.2.2.2.2.2.2.2.2.2.2.2.2.2.2.2.2.1 t9.2.2.2.2.2.2.2.2.2.2.2.2.2.2.2.2.2.2.2.2.2.2.1 t9.2.2.2.2.2.2.2.2.2.2.2.2.2.2.2.2.2.2.2.2.2.2.2.1 t9.2.2.2.2.2.2.2.2.2.2.2.2.2.2.2.2.2.2.2.2.2.2.2.2.1 t9.2.2.2.2.2.2.2.2.2.2.2.2.2.2.2.2.2.2.2.2.2.2.2.2.2.1 t9.2.2.2.2.2.2.2.2.2.2.2.2.2.2.2.2.2.2.2.2.2.2.2.2.2.2.1 t9.2.2.2.2.2.2.2.2.2.2.2.2.2.2.2.2.2.2.2.2.2.2.2.2.2.2.2.1 t9.2.2.2.2.2.2.2.2.2.2.2.2.2.2.2.2.2.2.2.2.2.2.2.2.2.2.2.2) (0, 0, 0, 0, 0, 0, 0, 0, 0, 0, 0, 0, 0, 0, 0, 0, 0, 0, 0, 0, 0, 0, (fun _ => 0), (fun _ => 0), (fun _ => 0), (fun _ => 0), (fun _ => 0), (fun _ => 0), (fun _ => 0)) m1 (l, 1, 0, -1, c, st, be, tk, wd, wh, ta, fg, sp, sa, sh, lw, ti, pu, fi, tb, sc, wc, kd, me, nm, wf, wt, sm, sf)) q p ∧ ∃ at1 en1 tk3 wm1 ns1 fr' lt', fl_wh (fun t9 => Sf_X8_gallery_77_1 e hg un im tm r0 s0 0 0 t9.1 t9.2.1 t9.2.2.1 t9.2.2.2.1 t9.2.2.2.2.1 t9.2.2.2.2.2.1 t9.2.2.2.2.2.2.1 t9.2.2.2.2.2.2.2.1 t9.2.2.2.2.2.2.2.2) (0, 0, 0, 0, 0, 0, 0, 0, 0, 0, 0, 0, 0, 0, 0, 0, (fun _ => 0), (fun _ => 0), (fun _ => 0), (fun _ => 0)) m2 (at_, en, tk2, wm, ns, 0, pl, fr, lt) = (-1, 0, 0, e, at1, en1, tk3, wm1, ns1, q, p, 4, 1, hg, un, im, fr', lt', r0, s0)) := by
  intro m1
  induction m1 with
  | zero => 
    intro m2 l c st be tk wd wh ta fg sp sa sh lw ti pu fi tb sc wc kd me nm wf wt sm sf fr lt at_ en tk2 wm ns pl h1 h2 h3 h4 hK hD
    have := hK.2.2.1
    omega
  | succ m1 ih =>
    intro m2 l c st be tk wd wh ta fg sp sa sh lw ti pu fi tb sc wc kd me nm wf wt sm sf fr lt at_ en tk2 wm ns pl h1 h2 h3 h4 hK hD
    have hst : st = at_ := hK.1
    have hst1 : st ≤ e := hK.2.2.1
    have hb0 : 0 ≤ be := hK.2.2.2.1
    have hb1 : be ≤ e := hK.2.2.2.2.1
    have n10 : ¬ (1 : Int) = 0 := by decide
    have n01 : ¬ (0 : Int) = 1 := by decide
    cases m2 with
    | zero => omega
    | succ m2 =>
      have ek : (tk = 3 ∧ tk2 = 59 ∧ be = en ∧ st < be) ∨ (tk = 0 ∧ tk2 = 0) ∨ (tk ≠ 3 ∧ tk ≠ 0 ∧ tk2 ≠ 59 ∧ tk2 ≠ 0) := by
        rcases hK.2.2.2.2.2 with ⟨x, y⟩ | ⟨x, y⟩ | ⟨x, y, z, t⟩ | ⟨x, y, -⟩ | ⟨x, y, -⟩
        · exact Or.inr (Or.inl ⟨x, y⟩)
        · exact Or.inr (Or.inr ⟨by omega, by omega, by omega, by omega⟩)
        · exact Or.inl ⟨x, y, z, t⟩
        · exact Or.inr (Or.inr ⟨by omega, by omega, by omega, by omega⟩)
        · exact Or.inr (Or.inr ⟨by omega, by omega, by omega, by omega⟩)
      rcases ek with ⟨k1, k2, k3, k4⟩ | ⟨k1, k2⟩ | ⟨k1, k2, k3, k4⟩
      · -- one more line
        obtain ⟨st1, be1, tk1, wd1, wh1, at1, en1, tk3, wm1, ns1, lt1, a1, a2, a3, a4⟩ := rp_adv hT he be wd wh lt hb0 hb1
        rw [k3] at a2
        have hl : ¬ 900 ≤ l := by omega
        rcases rp_line hT he a3 hD 0 (-1) ta 0 pl with ⟨c', ta', fg', sp', sa', sh', lw', ti', pu', fi', tb', sc', wc', nm', kd', me', wf', wt', sm', sf', fr', st2, be2, tk4, wd2, wh2, at2, en2, tk5, wm2, ns2, lt2, b1, b2, b3, b4, b5⟩ | ⟨q, p, b1, b2⟩
        · have hc : Sf_X3_read_55_1 tp e l 1 0 (-1) c st be tk wd wh ta fg sp sa sh lw ti pu fi tb sc wc kd me nm wf wt sm sf = .inl (l + 1, 1, 0, -1, c', st2, be2, tk4, wd2, wh2, ta', fg', sp', sa', sh', lw', ti', pu', fi', tb', sc', wc', kd', me', nm', wf', wt', sm', sf') := by
            unfold Sf_X3_read_55_1
            rw [if_neg n10, if_pos k1, if_neg hl, a1, fl_c5_eq rfl, b1, fl_c28_eq rfl, if_pos rfl]; rfl
          have hm : Sf_X8_gallery_77_1 e hg un im tm r0 s0 0 0 at_ en tk2 wm ns 0 pl fr lt = .inl (at2, en2, tk5, wm2, ns2, 0, pl, fr', lt2) := by
            unfold Sf_X8_gallery_77_1
            rw [if_pos k2, a2, fl_c6_eq rfl, b2, fl_c10_eq rfl, if_neg n01]
          rw [fl_wh_l (step := (fun t9 : Int × Int × Int × Int × Int × Int × Int × Int × Int × Int × Int × Int × Int × Int × Int × Int × Int × Int × Int × Int × Int × Int × (Nat → Int) × (Nat → Int) × (Nat → Int) × (Nat → Int) × (Nat → Int) × (Nat → Int) × (Nat → Int) => Sf_X3_read_55_1 tp e t9.1 t9.2.1 t9.2.2.1 t9.2.2.2.1 t9.2.2.2.2.1 t9.2.2.2.2.2.1 t9.2.2.2.2.2.2.1 t9.2.2.2.2.2.2.2.1 t9.2.2.2.2.2.2.2.2.1 t9.2.2.2.2.2.2.2.2.2.1 t9.2.2.2.2.2.2.2.2.2.2.1 t9.2.2.2.2.2.2.2.2.2.2.2.1 t9.2.2.2.2.2.2.2.2.2.2.2.2.1 t9.2.2.2.2.2.2.2.2.2.2.2.2.2.1 t9.2.2.2.2.2.2.2.2.2.2.2.2.2.2.1 t9.2.2.2.2.2.2.2.2.2.2.2.2.2.2.2.1 t9.2.2.2.2.2.2.2.2.2.2.2.2.2.2.2.2.1 t9.2.2.2.2.2.2.2.2.2.2.2.2.2.2.2.2.2.1 t9.2.2.2.2.2.2.2.2.2.2.2.2.2.2.2.2.2.2.1 t9.2.2.2.2.2.2.2.2.2.2.2.2.2.2.2.2.2.2.2.1 t9.2.2.2.2.2.2.2.2.2.2.2.2.2.2.2.2.2.2.2.2.1 t9.2.2.2.2.2.2.2.2.2.2.2.2.2.2.2.2.2.2.2.2.2.1 t9.2.2.2.2.2.2.2.2.2.2.2.2.2.2.2.2.2.2.2.2.2.2.1 t9.2.2.2.2.2.2.2.2.2.2.2.2.2.2.2.2.2.2.2.2.2.2.2.1 t9.2.2.2.2.2.2.2.2.2.2.2.2.2.2.2.2.2.2.2.2.2.2.2.2.1 t9.2.2.2.2.2.2.2.2.2.2.2.2.2.2.2.2.2.2.2.2.2.2.2.2.2.1 t9.2.2.2.2.2.2.2.2.2.2.2.2.2.2.2.2.2.2.2.2.2.2.2.2.2.2.1 t9.2.2.2.2.2.2.2.2.2.2.2.2.2.2.2.2.2.2.2.2.2.2.2.2.2.2.2.1 t9.2.2.2.2.2.2.2.2.2.2.2.2.2.2.2.2.2.2.2.2.2.2.2.2.2.2.2.2)) (s := (l, 1, 0, -1, c, st, be, tk, wd, wh, ta, fg, sp, sa, sh, lw, ti, pu, fi, tb, sc, wc, kd, me, nm, wf, wt, sm, sf)) hc, fl_wh_l (step := (fun t9 : Int × Int × Int × Int × Int × Int × Int × (Nat → Int) × (Nat → Int) => Sf_X8_gallery_77_1 e hg un im tm r0 s0 0 0 t9.1 t9.2.1 t9.2.2.1 t9.2.2.2.1 t9.2.2.2.2.1 t9.2.2.2.2.2.1 t9.2.2.2.2.2.2.1 t9.2.2.2.2.2.2.2.1 t9.2.2.2.2.2.2.2.2)) (s := (at_, en, tk2, wm, ns, 0, pl, fr, lt)) hm]
          exact ih m2 (l + 1) c' st2 be2 tk4 wd2 wh2 ta' fg' sp' sa' sh' lw' ti' pu' fi' tb' sc' wc' kd' me' nm' wf' wt' sm' sf' fr' lt2 at2 en2 tk5 wm2 ns2 pl (by omega) (by omega) (by omega) (by omega) b3 b5
        · have hm : ∃ x1 x2 x3 x4 x5 x6 x7, Sf_X8_gallery_77_1 e hg un im tm r0 s0 0 0 at_ en tk2 wm ns 0 pl fr lt = .inr (-1, 0, 0, e, x1, x2, x3, x4, x5, q, p, 4, 1, hg, un, im, x6, x7, r0, s0) := by
            unfold Sf_X8_gallery_77_1
            rw [if_pos k2, a2, fl_c6_eq rfl]
            generalize FfG_X8_readLine e at1 en1 tk3 wm1 ns1 0 pl lt1 fr tm = G at b2
            obtain ⟨g1, g2, g3, g4, g5, g6, g7, g8, g9, g10⟩ := G
            obtain ⟨z1, z2, z3⟩ := b2
            simp only at z1 z2 z3
            subst z1; subst z2; subst z3
            exact ⟨g1, g2, g3, g4, g5, g10, g9, rfl⟩
          obtain ⟨x1, x2, x3, x4, x5, x6, x7, hm⟩ := hm
          refine Or.inr ⟨q, p, ?_, x1, x2, x3, x4, x5, x6, x7, fl_wh_r (step := (fun t9 : Int × Int × Int × Int × Int × Int × Int × (Nat → Int) × (Nat → Int) => Sf_X8_gallery_77_1 e hg un im tm r0 s0 0 0 t9.1 t9.2.1 t9.2.2.1 t9.2.2.2.1 t9.2.2.2.2.1 t9.2.2.2.2.2.1 t9.2.2.2.2.2.2.1 t9.2.2.2.2.2.2.2.1 t9.2.2.2.2.2.2.2.2)) (s := (at_, en, tk2, wm, ns, 0, pl, fr, lt)) hm⟩
          have hc : ∃ X : Int × Int × Int × Int × Int × Int × Int × Int × Int × Int × Int × Int × Int × Int × Int × Int × Int × Int × Int × (Nat → Int) × (Nat → Int) × (Nat → Int) × (Nat → Int) × (Nat → Int) × (Nat → Int) × (Nat → Int), Sf_X3_read_55_1 tp e l 1 0 (-1) c st be tk wd wh ta fg sp sa sh lw ti pu fi tb sc wc kd me nm wf wt sm sf = .inl (l + 1, 0, q, p, X.2) := by
            unfold Sf_X3_read_55_1
            rw [if_neg n10, if_pos k1, if_neg hl, a1, fl_c5_eq rfl]
            generalize Ff_X3_readLine 0 (-1) c e st1 be1 tk1 wd1 wh1 ta fg sp sa sh lw ti pu fi tb sc tp nm kd me wc wf wt sm sf = G at b1
            obtain ⟨g1, g2, g3, gl_c, gl_st, gl_be, gl_tk, gl_wd, gl_wh, gl_ta, gl_fg, gl_sp, gl_sa, gl_sh, gl_lw, gl_ti, gl_pu, gl_fi, gl_tb, gl_sc, gl_nm, gl_kd, gl_me, gl_wc, gl_wf, gl_wt, gl_sm, gl_sf⟩ := G
            obtain ⟨z1, z2, z3⟩ := b1
            simp only at z1 z2 z3
            subst z1; subst z2; subst z3
            exact ⟨(0, gl_c, gl_st, gl_be, gl_tk, gl_wd, gl_wh, gl_ta, gl_fg, gl_sp, gl_sa, gl_sh, gl_lw, gl_ti, gl_pu, gl_fi, gl_tb, gl_sc, gl_wc, gl_kd, gl_me, gl_nm, gl_wf, gl_wt, gl_sm, gl_sf), rfl⟩
          obtain ⟨X, hc⟩ := hc
          rw [fl_wh_l (step := (fun t9 : Int × Int × Int × Int × Int × Int × Int × Int × Int × Int × Int × Int × Int × Int × Int × Int × Int × Int × Int × Int × Int × Int × (Nat → Int) × (Nat → Int) × (Nat → Int) × (Nat → Int) × (Nat → Int) × (Nat → Int) × (Nat → Int) => Sf_X3_read_55_1 tp e t9.1 t9.2.1 t9.2.2.1 t9.2.2.2.1 t9.2.2.2.2.1 t9.2.2.2.2.2.1 t9.2.2.2.2.2.2.1 t9.2.2.2.2.2.2.2.1 t9.2.2.2.2.2.2.2.2.1 t9.2.2.2.2.2.2.2.2.2.1 t9.2.2.2.2.2.2.2.2.2.2.1 t9.2.2.2.2.2.2.2.2.2.2.2.1 t9.2.2.2.2.2.2.2.2.2.2.2.2.1 t9.2.2.2.2.2.2.2.2.2.2.2.2.2.1 t9.2.2.2.2.2.2.2.2.2.2.2.2.2.2.1 t9.2.2.2.2.2.2.2.2.2.2.2.2.2.2.2.1 t9.2.2.2.2.2.2.2.2.2.2.2.2.2.2.2.2.1 t9.2.2.2.2.2.2.2.2.2.2.2.2.2.2.2.2.2.1 t9.2.2.2.2.2.2.2.2.2.2.2.2.2.2.2.2.2.2.1 t9.2.2.2.2.2.2.2.2.2.2.2.2.2.2.2.2.2.2.2.1 t9.2.2.2.2.2.2.2.2.2.2.2.2.2.2.2.2.2.2.2.2.1 t9.2.2.2.2.2.2.2.2.2.2.2.2.2.2.2.2.2.2.2.2.2.1 t9.2.2.2.2.2.2.2.2.2.2.2.2.2.2.2.2.2.2.2.2.2.2.1 t9.2.2.2.2.2.2.2.2.2.2.2.2.2.2.2.2.2.2.2.2.2.2.2.1 t9.2.2.2.2.2.2.2.2.2.2.2.2.2.2.2.2.2.2.2.2.2.2.2.2.1 t9.2.2.2.2.2.2.2.2.2.2.2.2.2.2.2.2.2.2.2.2.2.2.2.2.2.1 t9.2.2.2.2.2.2.2.2.2.2.2.2.2.2.2.2.2.2.2.2.2.2.2.2.2.2.1 t9.2.2.2.2.2.2.2.2.2.2.2.2.2.2.2.2.2.2.2.2.2.2.2.2.2.2.2.1 t9.2.2.2.2.2.2.2.2.2.2.2.2.2.2.2.2.2.2.2.2.2.2.2.2.2.2.2.2)) (s := (l, 1, 0, -1, c, st, be, tk, wd, wh, ta, fg, sp, sa, sh, lw, ti, pu, fi, tb, sc, wc, kd, me, nm, wf, wt, sm, sf)) hc]
          obtain ⟨_, gl_c, gl_st, gl_be, gl_tk, gl_wd, gl_wh, gl_ta, gl_fg, gl_sp, gl_sa, gl_sh, gl_lw, gl_ti, gl_pu, gl_fi, gl_tb, gl_sc, gl_wc, gl_kd, gl_me, gl_nm, gl_wf, gl_wt, gl_sm, gl_sf⟩ := X
          have hm1 : ∃ k, m1 = k + 1 := ⟨m1 - 1, by omega⟩
          obtain ⟨k, hk⟩ := hm1
          subst hk
          have hc2 : Sf_X3_read_55_1 tp e (l + 1) 0 q p gl_c gl_st gl_be gl_tk gl_wd gl_wh gl_ta gl_fg gl_sp gl_sa gl_sh gl_lw gl_ti gl_pu gl_fi gl_tb gl_sc gl_wc gl_kd gl_me gl_nm gl_wf gl_wt gl_sm gl_sf = .inr (0, q, p, gl_c, e, gl_st, gl_be, gl_tk, gl_wd, gl_wh, gl_ta, gl_fg, gl_sp, gl_sa, gl_sh, gl_lw, gl_ti, gl_pu, gl_fi, gl_tb, gl_sc, gl_wc, gl_kd, gl_me, gl_nm, gl_wf, gl_wt, gl_sm, gl_sf) := by
            unfold Sf_X3_read_55_1 Gf_X3_read_89_1
            rw [if_pos rfl, if_pos rfl]
          rw [fl_wh_r (step := (fun t9 : Int × Int × Int × Int × Int × Int × Int × Int × Int × Int × Int × Int × Int × Int × Int × Int × Int × Int × Int × Int × Int × Int × (Nat → Int) × (Nat → Int) × (Nat → Int) × (Nat → Int) × (Nat → Int) × (Nat → Int) × (Nat → Int) => Sf_X3_read_55_1 tp e t9.1 t9.2.1 t9.2.2.1 t9.2.2.2.1 t9.2.2.2.2.1 t9.2.2.2.2.2.1 t9.2.2.2.2.2.2.1 t9.2.2.2.2.2.2.2.1 t9.2.2.2.2.2.2.2.2.1 t9.2.2.2.2.2.2.2.2.2.1 t9.2.2.2.2.2.2.2.2.2.2.1 t9.2.2.2.2.2.2.2.2.2.2.2.1 t9.2.2.2.2.2.2.2.2.2.2.2.2.1 t9.2.2.2.2.2.2.2.2.2.2.2.2.2.1 t9.2.2.2.2.2.2.2.2.2.2.2.2.2.2.1 t9.2.2.2.2.2.2.2.2.2.2.2.2.2.2.2.1 t9.2.2.2.2.2.2.2.2.2.2.2.2.2.2.2.2.1 t9.2.2.2.2.2.2.2.2.2.2.2.2.2.2.2.2.2.1 t9.2.2.2.2.2.2.2.2.2.2.2.2.2.2.2.2.2.2.1 t9.2.2.2.2.2.2.2.2.2.2.2.2.2.2.2.2.2.2.2.1 t9.2.2.2.2.2.2.2.2.2.2.2.2.2.2.2.2.2.2.2.2.1 t9.2.2.2.2.2.2.2.2.2.2.2.2.2.2.2.2.2.2.2.2.2.1 t9.2.2.2.2.2.2.2.2.2.2.2.2.2.2.2.2.2.2.2.2.2.2.1 t9.2.2.2.2.2.2.2.2.2.2.2.2.2.2.2.2.2.2.2.2.2.2.2.1 t9.2.2.2.2.2.2.2.2.2.2.2.2.2.2.2.2.2.2.2.2.2.2.2.2.1 t9.2.2.2.2.2.2.2.2.2.2.2.2.2.2.2.2.2.2.2.2.2.2.2.2.2.1 t9.2.2.2.2.2.2.2.2.2.2.2.2.2.2.2.2.2.2.2.2.2.2.2.2.2.2.1 t9.2.2.2.2.2.2.2.2.2.2.2.2.2.2.2.2.2.2.2.2.2.2.2.2.2.2.2.1 t9.2.2.2.2.2.2.2.2.2.2.2.2.2.2.2.2.2.2.2.2.2.2.2.2.2.2.2.2)) (s := (l + 1, 0, q, p, gl_c, gl_st, gl_be, gl_tk, gl_wd, gl_wh, gl_ta, gl_fg, gl_sp, gl_sa, gl_sh, gl_lw, gl_ti, gl_pu, gl_fi, gl_tb, gl_sc, gl_wc, gl_kd, gl_me, gl_nm, gl_wf, gl_wt, gl_sm, gl_sf)) hc2]
          exact ⟨rfl, rfl, rfl⟩
      · -- the end
        have n03 : ¬ (0 : Int) = 3 := by decide
        have n59 : ¬ (0 : Int) = 59 := by decide
        subst k1; subst k2
        have hD0 := hD
        obtain ⟨⟨⟨d1, d2, d3, d4⟩, d5, d6, d7⟩, -⟩ := hD0
        by_cases hlw : lw = 0
        · have hc : Sf_X3_read_55_1 tp e l 1 0 (-1) c st be 0 wd wh ta fg sp sa sh lw ti pu fi tb sc wc kd me nm wf wt sm sf = .inr (0, 6, st, c, e, st, be, 0, wd, wh, ta, fg, sp, sa, sh, lw, ti, pu, fi, tb, sc, wc, kd, me, nm, wf, wt, sm, sf) := by
            unfold Sf_X3_read_55_1 Gf_X3_read_89_1
            rw [if_neg n10, if_neg n03, if_neg n10, if_pos rfl, if_pos hlw]; rfl
          have hm : Sf_X8_gallery_77_1 e hg un im tm r0 s0 0 0 at_ en 0 wm ns 0 pl fr lt = .inr (-1, 0, 0, e, at_, en, 0, wm, ns, 6, at_, 4, 1, hg, un, im, fr, lt, r0, s0) := by
            unfold Sf_X8_gallery_77_1
            rw [if_neg n59, if_pos rfl, fl_lt_eq rfl]
            by_cases q : fr 11 = 0
            · rw [if_pos q]; rfl
            · rw [if_neg q, fl_lt_eq rfl, if_pos (by omega)]; rfl
          refine Or.inr ⟨6, st, ?_, at_, en, 0, wm, ns, fr, lt, ?_⟩
          · rw [fl_wh_r (step := (fun t9 : Int × Int × Int × Int × Int × Int × Int × Int × Int × Int × Int × Int × Int × Int × Int × Int × Int × Int × Int × Int × Int × Int × (Nat → Int) × (Nat → Int) × (Nat → Int) × (Nat → Int) × (Nat → Int) × (Nat → Int) × (Nat → Int) => Sf_X3_read_55_1 tp e t9.1 t9.2.1 t9.2.2.1 t9.2.2.2.1 t9.2.2.2.2.1 t9.2.2.2.2.2.1 t9.2.2.2.2.2.2.1 t9.2.2.2.2.2.2.2.1 t9.2.2.2.2.2.2.2.2.1 t9.2.2.2.2.2.2.2.2.2.1 t9.2.2.2.2.2.2.2.2.2.2.1 t9.2.2.2.2.2.2.2.2.2.2.2.1 t9.2.2.2.2.2.2.2.2.2.2.2.2.1 t9.2.2.2.2.2.2.2.2.2.2.2.2.2.1 t9.2.2.2.2.2.2.2.2.2.2.2.2.2.2.1 t9.2.2.2.2.2.2.2.2.2.2.2.2.2.2.2.1 t9.2.2.2.2.2.2.2.2.2.2.2.2.2.2.2.2.1 t9.2.2.2.2.2.2.2.2.2.2.2.2.2.2.2.2.2.1 t9.2.2.2.2.2.2.2.2.2.2.2.2.2.2.2.2.2.2.1 t9.2.2.2.2.2.2.2.2.2.2.2.2.2.2.2.2.2.2.2.1 t9.2.2.2.2.2.2.2.2.2.2.2.2.2.2.2.2.2.2.2.2.1 t9.2.2.2.2.2.2.2.2.2.2.2.2.2.2.2.2.2.2.2.2.2.1 t9.2.2.2.2.2.2.2.2.2.2.2.2.2.2.2.2.2.2.2.2.2.2.1 t9.2.2.2.2.2.2.2.2.2.2.2.2.2.2.2.2.2.2.2.2.2.2.2.1 t9.2.2.2.2.2.2.2.2.2.2.2.2.2.2.2.2.2.2.2.2.2.2.2.2.1 t9.2.2.2.2.2.2.2.2.2.2.2.2.2.2.2.2.2.2.2.2.2.2.2.2.2.1 t9.2.2.2.2.2.2.2.2.2.2.2.2.2.2.2.2.2.2.2.2.2.2.2.2.2.2.1 t9.2.2.2.2.2.2.2.2.2.2.2.2.2.2.2.2.2.2.2.2.2.2.2.2.2.2.2.1 t9.2.2.2.2.2.2.2.2.2.2.2.2.2.2.2.2.2.2.2.2.2.2.2.2.2.2.2.2)) (s := (l, 1, 0, -1, c, st, be, 0, wd, wh, ta, fg, sp, sa, sh, lw, ti, pu, fi, tb, sc, wc, kd, me, nm, wf, wt, sm, sf)) hc]; exact ⟨rfl, rfl, rfl⟩
          · rw [fl_wh_r (step := (fun t9 : Int × Int × Int × Int × Int × Int × Int × (Nat → Int) × (Nat → Int) => Sf_X8_gallery_77_1 e hg un im tm r0 s0 0 0 t9.1 t9.2.1 t9.2.2.1 t9.2.2.2.1 t9.2.2.2.2.1 t9.2.2.2.2.2.1 t9.2.2.2.2.2.2.1 t9.2.2.2.2.2.2.2.1 t9.2.2.2.2.2.2.2.2)) (s := (at_, en, 0, wm, ns, 0, pl, fr, lt)) hm, hst]
        · have hlw1 : lw = 1 := by omega
          have h11 : ¬ fr 11 = 0 := fun h => by have := d3 h; omega
          have h10 : ¬ fr 10 = 0 := by omega
          have hc : Sf_X3_read_55_1 tp e l 1 0 (-1) c st be 0 wd wh ta fg sp sa sh lw ti pu fi tb sc wc kd me nm wf wt sm sf = .inr (1, 0, -1, c, e, st, be, 0, wd, wh, ta, fg, sp, sa, sh, lw, ti, pu, fi, tb, sc, wc, kd, me, nm, wf, wt, sm, sf) := by
            unfold Sf_X3_read_55_1 Gf_X3_read_89_1
            rw [if_neg n10, if_neg n03, if_neg n10, if_pos rfl, if_neg hlw]
          have hm : Sf_X8_gallery_77_1 e hg un im tm r0 s0 0 0 at_ en 0 wm ns 0 pl fr lt = .inr (fl_wh (fun t9 => Sf_X8_gallery_195_1 e 0 0 at_ en 0 wm ns 0 pl fr lt (va_cpy fr r0 0 0 156) t9.1 t9.2) (0, 0, 0, 0, 0, 0, 0, 0, 0, 0, 0, 0, 0, 0, 0, 0, (fun _ => 0), (fun _ => 0), (fun _ => 0), (fun _ => 0)) 24 (0, s0)) := by
            unfold Sf_X8_gallery_77_1
            rw [if_neg n59, if_pos rfl, fl_lt_eq rfl, if_neg h11, fl_lt_eq rfl, if_neg h10, fl_lt_eq rfl]
          refine Or.inl ⟨c, st, be, 0, wd, wh, ta, fg, sp, sa, sh, lw, ti, pu, fi, tb, sc, wc, kd, me, nm, wf, wt, sm, sf, fr, lt, at_, en, 0, wm, ns, ?_, ?_, hlw1, hD⟩
          · rw [fl_wh_r (step := (fun t9 : Int × Int × Int × Int × Int × Int × Int × Int × Int × Int × Int × Int × Int × Int × Int × Int × Int × Int × Int × Int × Int × Int × (Nat → Int) × (Nat → Int) × (Nat → Int) × (Nat → Int) × (Nat → Int) × (Nat → Int) × (Nat → Int) => Sf_X3_read_55_1 tp e t9.1 t9.2.1 t9.2.2.1 t9.2.2.2.1 t9.2.2.2.2.1 t9.2.2.2.2.2.1 t9.2.2.2.2.2.2.1 t9.2.2.2.2.2.2.2.1 t9.2.2.2.2.2.2.2.2.1 t9.2.2.2.2.2.2.2.2.2.1 t9.2.2.2.2.2.2.2.2.2.2.1 t9.2.2.2.2.2.2.2.2.2.2.2.1 t9.2.2.2.2.2.2.2.2.2.2.2.2.1 t9.2.2.2.2.2.2.2.2.2.2.2.2.2.1 t9.2.2.2.2.2.2.2.2.2.2.2.2.2.2.1 t9.2.2.2.2.2.2.2.2.2.2.2.2.2.2.2.1 t9.2.2.2.2.2.2.2.2.2.2.2.2.2.2.2.2.1 t9.2.2.2.2.2.2.2.2.2.2.2.2.2.2.2.2.2.1 t9.2.2.2.2.2.2.2.2.2.2.2.2.2.2.2.2.2.2.1 t9.2.2.2.2.2.2.2.2.2.2.2.2.2.2.2.2.2.2.2.1 t9.2.2.2.2.2.2.2.2.2.2.2.2.2.2.2.2.2.2.2.2.1 t9.2.2.2.2.2.2.2.2.2.2.2.2.2.2.2.2.2.2.2.2.2.1 t9.2.2.2.2.2.2.2.2.2.2.2.2.2.2.2.2.2.2.2.2.2.2.1 t9.2.2.2.2.2.2.2.2.2.2.2.2.2.2.2.2.2.2.2.2.2.2.2.1 t9.2.2.2.2.2.2.2.2.2.2.2.2.2.2.2.2.2.2.2.2.2.2.2.2.1 t9.2.2.2.2.2.2.2.2.2.2.2.2.2.2.2.2.2.2.2.2.2.2.2.2.2.1 t9.2.2.2.2.2.2.2.2.2.2.2.2.2.2.2.2.2.2.2.2.2.2.2.2.2.2.1 t9.2.2.2.2.2.2.2.2.2.2.2.2.2.2.2.2.2.2.2.2.2.2.2.2.2.2.2.1 t9.2.2.2.2.2.2.2.2.2.2.2.2.2.2.2.2.2.2.2.2.2.2.2.2.2.2.2.2)) (s := (l, 1, 0, -1, c, st, be, 0, wd, wh, ta, fg, sp, sa, sh, lw, ti, pu, fi, tb, sc, wc, kd, me, nm, wf, wt, sm, sf)) hc]
          · rw [fl_wh_r (step := (fun t9 : Int × Int × Int × Int × Int × Int × Int × (Nat → Int) × (Nat → Int) => Sf_X8_gallery_77_1 e hg un im tm r0 s0 0 0 t9.1 t9.2.1 t9.2.2.1 t9.2.2.2.1 t9.2.2.2.2.1 t9.2.2.2.2.2.1 t9.2.2.2.2.2.2.1 t9.2.2.2.2.2.2.2.1 t9.2.2.2.2.2.2.2.2)) (s := (at_, en, 0, wm, ns, 0, pl, fr, lt)) hm]
      · -- something else
        have hc : Sf_X3_read_55_1 tp e l 1 0 (-1) c st be tk wd wh ta fg sp sa sh lw ti pu fi tb sc wc kd me nm wf wt sm sf = .inr (0, 1, st, c, e, st, be, tk, wd, wh, ta, fg, sp, sa, sh, lw, ti, pu, fi, tb, sc, wc, kd, me, nm, wf, wt, sm, sf) := by
          unfold Sf_X3_read_55_1 Gf_X3_read_89_1
          rw [if_neg n10, if_neg k1, if_neg n10, if_neg k2]; rfl
        have hm : Sf_X8_gallery_77_1 e hg un im tm r0 s0 0 0 at_ en tk2 wm ns 0 pl fr lt = .inr (-1, 0, 0, e, at_, en, tk2, wm, ns, 1, at_, 4, 1, hg, un, im, fr, lt, r0, s0) := by
          unfold Sf_X8_gallery_77_1
          rw [if_neg k3, if_neg k4]; rfl
        refine Or.inr ⟨1, st, ?_, at_, en, tk2, wm, ns, fr, lt, ?_⟩
        · rw [fl_wh_r (step := (fun t9 : Int × Int × Int × Int × Int × Int × Int × Int × Int × Int × Int × Int × Int × Int × Int × Int × Int × Int × Int × Int × Int × Int × (Nat → Int) × (Nat → Int) × (Nat → Int) × (Nat → Int) × (Nat → Int) × (Nat → Int) × (Nat → Int) => Sf_X3_read_55_1 tp e t9.1 t9.2.1 t9.2.2.1 t9.2.2.2.1 t9.2.2.2.2.1 t9.2.2.2.2.2.1 t9.2.2.2.2.2.2.1 t9.2.2.2.2.2.2.2.1 t9.2.2.2.2.2.2.2.2.1 t9.2.2.2.2.2.2.2.2.2.1 t9.2.2.2.2.2.2.2.2.2.2.1 t9.2.2.2.2.2.2.2.2.2.2.2.1 t9.2.2.2.2.2.2.2.2.2.2.2.2.1 t9.2.2.2.2.2.2.2.2.2.2.2.2.2.1 t9.2.2.2.2.2.2.2.2.2.2.2.2.2.2.1 t9.2.2.2.2.2.2.2.2.2.2.2.2.2.2.2.1 t9.2.2.2.2.2.2.2.2.2.2.2.2.2.2.2.2.1 t9.2.2.2.2.2.2.2.2.2.2.2.2.2.2.2.2.2.1 t9.2.2.2.2.2.2.2.2.2.2.2.2.2.2.2.2.2.2.1 t9.2.2.2.2.2.2.2.2.2.2.2.2.2.2.2.2.2.2.2.1 t9.2.2.2.2.2.2.2.2.2.2.2.2.2.2.2.2.2.2.2.2.1 t9.2.2.2.2.2.2.2.2.2.2.2.2.2.2.2.2.2.2.2.2.2.1 t9.2.2.2.2.2.2.2.2.2.2.2.2.2.2.2.2.2.2.2.2.2.2.1 t9.2.2.2.2.2.2.2.2.2.2.2.2.2.2.2.2.2.2.2.2.2.2.2.1 t9.2.2.2.2.2.2.2.2.2.2.2.2.2.2.2.2.2.2.2.2.2.2.2.2.1 t9.2.2.2.2.2.2.2.2.2.2.2.2.2.2.2.2.2.2.2.2.2.2.2.2.2.1 t9.2.2.2.2.2.2.2.2.2.2.2.2.2.2.2.2.2.2.2.2.2.2.2.2.2.2.1 t9.2.2.2.2.2.2.2.2.2.2.2.2.2.2.2.2.2.2.2.2.2.2.2.2.2.2.2.1 t9.2.2.2.2.2.2.2.2.2.2.2.2.2.2.2.2.2.2.2.2.2.2.2.2.2.2.2.2)) (s := (l, 1, 0, -1, c, st, be, tk, wd, wh, ta, fg, sp, sa, sh, lw, ti, pu, fi, tb, sc, wc, kd, me, nm, wf, wt, sm, sf)) hc]; exact ⟨rfl, rfl, rfl⟩
        · rw [fl_wh_r (step := (fun t9 : Int × Int × Int × Int × Int × Int × Int × (Nat → Int) × (Nat → Int) => Sf_X8_gallery_77_1 e hg un im tm r0 s0 0 0 t9.1 t9.2.1 t9.2.2.1 t9.2.2.2.1 t9.2.2.2.2.1 t9.2.2.2.2.2.1 t9.2.2.2.2.2.2.1 t9.2.2.2.2.2.2.2.1 t9.2.2.2.2.2.2.2.2)) (s := (at_, en, tk2, wm, ns, 0, pl, fr, lt)) hm, hst]
end PUK
end P0922492_pure11
section P0922493_pure12
section PUL
set_option maxRecDepth 20000 in

theorem rp_st2 {e at_ en tk wm ns pl : Int} {fr lt rr : Nat → Int} (sx : Nat → Int) : ∀ (m : Nat) (j : Nat) (s : Nat → Int), 24 ≤ m + j → j ≤ 23 → (∀ k : Nat, k < 23 → s k = if k < j then (if k < (rr 0).toNat then (k : Int) else 0) else sx k) → (rr 0).toNat ≤ j → (∀ k : Nat, k < (rr 0).toNat → sx k = (k : Int)) →
    ∃ s1 : Nat → Int, fl_wh (fun t9 => Sf_X8_gallery_235_1 e 0 0 at_ en tk wm ns 0 pl fr lt rr t9.1 t9.2) (0, 0, 0, 0, 0, 0, 0, 0, 0, 0, 0, 0, 0, 0, 0, 0, (fun _ => 0), (fun _ => 0), (fun _ => 0), (fun _ => 0)) m ((j : Int), s) = (rr 0, 0, 0, e, at_, en, tk, wm, ns, 0, pl, 0, 0, 1, 0, 0, fr, lt, rr, s1) ∧ ∀ k : Nat, k < 23 → s1 k = if k = 19 then rr 9 else if k < (rr 0).toNat then (k : Int) else 0 := by
  intro m
  induction m with
  | zero => intro j s h1 h2; omega
  | succ m ih =>
    intro j s h1 h2 h3 h4 h5
    by_cases hj : 23 ≤ (j : Int)
    · have hs : Sf_X8_gallery_235_1 e 0 0 at_ en tk wm ns 0 pl fr lt rr (j : Int) s = .inr (rr 0, 0, 0, e, at_, en, tk, wm, ns, 0, pl, 0, 0, 1, 0, 0, fr, lt, rr, fl_up s 19 (rr 9)) := by
        unfold Sf_X8_gallery_235_1; rw [if_pos hj]; rfl
      rw [fl_wh_r (step := fun t9 : Int × (Nat → Int) => Sf_X8_gallery_235_1 e 0 0 at_ en tk wm ns 0 pl fr lt rr t9.1 t9.2) (s := ((j : Int), s)) hs]
      refine ⟨_, rfl, fun k hk => ?_⟩
      by_cases q : k = 19
      · subst q; rw [rp_up_eq, if_pos rfl]
      · rw [rp_up_ne _ _ q, if_neg q, h3 k hk, if_pos (by omega)]
    · have hs : Sf_X8_gallery_235_1 e 0 0 at_ en tk wm ns 0 pl fr lt rr (j : Int) s = .inl ((j : Int) + 1, fl_up s j 0) := by
        unfold Sf_X8_gallery_235_1; rw [if_neg hj]; rfl
      rw [fl_wh_l (step := fun t9 : Int × (Nat → Int) => Sf_X8_gallery_235_1 e 0 0 at_ en tk wm ns 0 pl fr lt rr t9.1 t9.2) (s := ((j : Int), s)) hs]
      have := ih (j + 1) (fl_up s j 0) (by omega) (by omega) (fun k hk => by
        by_cases q : k = j
        · subst q; rw [rp_up_eq, if_pos (by omega), if_neg (by omega)]
        · rw [rp_up_ne _ _ q, h3 k hk]
          by_cases q2 : k < j
          · rw [if_pos q2, if_pos (show k < j + 1 by omega)]
          · rw [if_neg q2, if_neg (show ¬ k < j + 1 by omega)]) (by omega) h5
      rw [show ((j + 1 : Nat) : Int) = (j : Int) + 1 by omega] at this
      exact this
theorem rp_st1 {e at_ en tk wm ns pl : Int} {fr lt rr : Nat → Int} (h2 : 2 ≤ rr 0) (h9 : rr 0 ≤ 9) : ∀ (m : Nat) (j : Nat) (s : Nat → Int), 24 ≤ m + j → j ≤ 23 → (∀ k : Nat, k < j → s k = if k < (rr 0).toNat then (k : Int) else 0) →
    ∃ s1 : Nat → Int, fl_wh (fun t9 => Sf_X8_gallery_195_1 e 0 0 at_ en tk wm ns 0 pl fr lt rr t9.1 t9.2) (0, 0, 0, 0, 0, 0, 0, 0, 0, 0, 0, 0, 0, 0, 0, 0, (fun _ => 0), (fun _ => 0), (fun _ => 0), (fun _ => 0)) m ((j : Int), s) = (rr 0, 0, 0, e, at_, en, tk, wm, ns, 0, pl, 0, 0, 1, 0, 0, fr, lt, rr, s1) ∧ ∀ k : Nat, k < 23 → s1 k = if k = 19 then rr 9 else if k < (rr 0).toNat then (k : Int) else 0 := by
  intro m
  induction m with
  | zero => intro j s h1 h3; omega
  | succ m ih =>
    intro j s h1 h3 h4
    by_cases hj : 23 ≤ (j : Int)
    · have hs : Sf_X8_gallery_195_1 e 0 0 at_ en tk wm ns 0 pl fr lt rr (j : Int) s = .inr (fl_wh (fun t9 => Sf_X8_gallery_235_1 e 0 0 at_ en tk wm ns 0 pl fr lt rr t9.1 t9.2) (0, 0, 0, 0, 0, 0, 0, 0, 0, 0, 0, 0, 0, 0, 0, 0, (fun _ => 0), (fun _ => 0), (fun _ => 0), (fun _ => 0)) 22 (rr 0, s)) := by
        unfold Sf_X8_gallery_195_1; rw [if_pos hj]; rfl
      rw [fl_wh_r (step := fun t9 : Int × (Nat → Int) => Sf_X8_gallery_195_1 e 0 0 at_ en tk wm ns 0 pl fr lt rr t9.1 t9.2) (s := ((j : Int), s)) hs]
      have := rp_st2 (e := e) (at_ := at_) (en := en) (tk := tk) (wm := wm) (ns := ns) (pl := pl) (fr := fr) (lt := lt) (rr := rr) s 22 (rr 0).toNat s (by omega) (by omega) (fun k hk => by
        by_cases q : k < (rr 0).toNat
        · rw [if_pos q, if_pos q, h4 k (by omega), if_pos q]
        · rw [if_neg q]) (by omega) (fun k hk => by rw [h4 k (by omega), if_pos hk])
      rw [show (((rr 0).toNat : Nat) : Int) = rr 0 by omega] at this
      exact this
    · have hs : ∃ v, Sf_X8_gallery_195_1 e 0 0 at_ en tk wm ns 0 pl fr lt rr (j : Int) s = .inl ((j : Int) + 1, fl_up s j v) ∧ v = if j < (rr 0).toNat then (j : Int) else 0 := by
        unfold Sf_X8_gallery_195_1
        rw [if_neg hj, fl_lt_eq rfl]
        by_cases q : rr 0 ≤ (j : Int)
        · rw [if_pos q]; exact ⟨0, rfl, by rw [if_neg (by omega)]⟩
        · rw [if_neg q]; exact ⟨(j : Int), rfl, by rw [if_pos (by omega)]⟩
      obtain ⟨v, hs, hv⟩ := hs
      rw [fl_wh_l (step := fun t9 : Int × (Nat → Int) => Sf_X8_gallery_195_1 e 0 0 at_ en tk wm ns 0 pl fr lt rr t9.1 t9.2) (s := ((j : Int), s)) hs]
      have := ih (j + 1) (fl_up s j v) (by omega) (by omega) (fun k hk => by
        by_cases q : k = j
        · subst q; rw [rp_up_eq, hv]
        · rw [rp_up_ne _ _ q]; exact h4 k (by omega))
      rw [show ((j + 1 : Nat) : Int) = (j : Int) + 1 by omega] at this
      exact this
/-- gallery: the reading, here and there -/
theorem rp_gal {tp tm : Nat → Int} {n tz : Int} (h0 : 0 ≤ n) (hn : n ≤ tz) (hz : tz ≤ 900) (hT : rp_T tp tm n) (wd wh ta sp sa sh ti pu fi : Int) (kd me nm wf wt sm sf : Nat → Int) (u3 u4 u5 u6 u7 x8 x9 pl x13 hg un im : Int) (f0 lt r0 s0 : Nat → Int) :
    (∃ c' st' be' tk' wd' wh' ta' fg' sp' sa' sh' lw' ti' pu' fi' tb' sc' wc' kd' me' nm' wf' wt' sm' sf' fr' lt' at1 en1 tk3 wm1 ns1 s1, Ff_X3_read n tz wd wh ta sp sa sh ti pu fi kd me tp nm wf wt sm sf = (1, 0, -1, c', n, st', be', tk', wd', wh', ta', fg', sp', sa', sh', lw', ti', pu', fi', tb', sc', wc', kd', me', nm', wf', wt', sm', sf') ∧ Ff_X8_gallery n tz u3 u4 u5 u6 u7 x8 x9 pl x13 hg un im f0 tm lt r0 s0 = (fr' 0, 0, 0, n, at1, en1, tk3, wm1, ns1, 0, pl, 0, 0, 1, 0, 0, fr', lt', va_cpy fr' r0 0 0 156, s1) ∧ lw' = 1 ∧ 2 ≤ fg' ∧ fg' ≤ 9 ∧ rp_D fg' sp' sa' sh' lw' ti' pu' fi' tb' sc' wc' c' kd' me' sf' sm' wf' wt' nm' fr' ∧ ∀ k : Nat, k < 23 → s1 k = if k = 19 then fr' 9 else if (k : Int) < fr' 0 then (k : Int) else 0) ∨
    (∃ q p, rp_fc (Ff_X3_read n tz wd wh ta sp sa sh ti pu fi kd me tp nm wf wt sm sf) q p ∧ ∃ at1 en1 tk3 wm1 ns1 fr' lt', Ff_X8_gallery n tz u3 u4 u5 u6 u7 x8 x9 pl x13 hg un im f0 tm lt r0 s0 = (-1, 0, 0, n, at1, en1, tk3, wm1, ns1, q, p, 4, 1, hg, un, im, fr', lt', r0, s0)) := by
  have n01 : ¬ (0 : Int) = 1 := by decide
  have emin : fl_min n tz = n := by unfold fl_min; rw [if_neg (by omega)]
  obtain ⟨kd0, me0, ecl, hcl⟩ := rp_clear kd me
  -- fresh cleared
  have main : ∀ (m : Nat) (j : Nat) (f : Nat → Int), 157 ≤ m + j → j ≤ 156 → (∀ i : Nat, i < j → f i = 0) → ∃ fz : Nat → Int, (∀ i : Nat, i < 156 → fz i = 0) ∧
      fl_wh (fun t9 => Sf_X8_gallery_39_1 n pl hg un im tm lt r0 s0 0 0 t9.1 t9.2) (0, 0, 0, 0, 0, 0, 0, 0, 0, 0, 0, 0, 0, 0, 0, 0, (fun _ => 0), (fun _ => 0), (fun _ => 0), (fun _ => 0)) m ((j : Int), f) = fl_c6 (Ff_X8_next n 0 tm lt) (fun y4 y5 y6 y7 y8 y12 => fl_c10 (FfG_X8_readLine n y4 y5 y6 y7 y8 0 pl y12 fz tm) (fun z4 z5 z6 z7 z8 z9 z10 z13 z12 z16 => if z13 = 1 then (-1, 0, 0, n, z4, z5, z6, z7, z8, z9, z10, 4, 1, hg, un, im, z16, z12, r0, s0) else fl_wh (fun t9 => Sf_X8_gallery_77_1 n hg un im tm r0 s0 0 0 t9.1 t9.2.1 t9.2.2.1 t9.2.2.2.1 t9.2.2.2.2.1 t9.2.2.2.2.2.1 t9.2.2.2.2.2.2.1 t9.2.2.2.2.2.2.2.1 t9.2.2.2.2.2.2.2.2) (0, 0, 0, 0, 0, 0, 0, 0, 0, 0, 0, 0, 0, 0, 0, 0, (fun _ => 0), (fun _ => 0), (fun _ => 0), (fun _ => 0)) 1804 (z4, z5, z6, z7, z8, z9, z10, z16, z12))) := by
    intro m
    induction m with
    | zero => intro j f h1 h2; omega
    | succ m ih =>
      intro j f h1 h2 h3
      by_cases hj : 156 ≤ (j : Int)
      · have hs : Sf_X8_gallery_39_1 n pl hg un im tm lt r0 s0 0 0 (j : Int) f = .inr (fl_c6 (Ff_X8_next n 0 tm lt) (fun y4 y5 y6 y7 y8 y12 => fl_c10 (FfG_X8_readLine n y4 y5 y6 y7 y8 0 pl y12 f tm) (fun z4 z5 z6 z7 z8 z9 z10 z13 z12 z16 => if z13 = 1 then (-1, 0, 0, n, z4, z5, z6, z7, z8, z9, z10, 4, 1, hg, un, im, z16, z12, r0, s0) else fl_wh (fun t9 => Sf_X8_gallery_77_1 n hg un im tm r0 s0 0 0 t9.1 t9.2.1 t9.2.2.1 t9.2.2.2.1 t9.2.2.2.2.1 t9.2.2.2.2.2.1 t9.2.2.2.2.2.2.1 t9.2.2.2.2.2.2.2.1 t9.2.2.2.2.2.2.2.2) (0, 0, 0, 0, 0, 0, 0, 0, 0, 0, 0, 0, 0, 0, 0, 0, (fun _ => 0), (fun _ => 0), (fun _ => 0), (fun _ => 0)) 1804 (z4, z5, z6, z7, z8, z9, z10, z16, z12)))) := by
          unfold Sf_X8_gallery_39_1; rw [if_pos hj]; rfl
        rw [fl_wh_r (step := fun t9 : Int × (Nat → Int) => Sf_X8_gallery_39_1 n pl hg un im tm lt r0 s0 0 0 t9.1 t9.2) (s := ((j : Int), f)) hs]
        exact ⟨f, fun i hi => h3 i (by omega), rfl⟩
      · have hs : Sf_X8_gallery_39_1 n pl hg un im tm lt r0 s0 0 0 (j : Int) f = .inl ((j : Int) + 1, fl_up f j 0) := by
          unfold Sf_X8_gallery_39_1; rw [if_neg hj]; rfl
        rw [fl_wh_l (step := fun t9 : Int × (Nat → Int) => Sf_X8_gallery_39_1 n pl hg un im tm lt r0 s0 0 0 t9.1 t9.2) (s := ((j : Int), f)) hs]
        have := ih (j + 1) (fl_up f j 0) (by omega) (by omega) (fun i hi => by
          by_cases q : i = j
          · subst q; rw [rp_up_eq]
          · rw [rp_up_ne _ _ q]; exact h3 i (by omega))
        rw [show ((j + 1 : Nat) : Int) = (j : Int) + 1 by omega] at this
        exact this
  obtain ⟨fz, hfz, efz⟩ := main 157 0 f0 (by omega) (by omega) (fun i hi => by omega)
  have um : Ff_X8_gallery n tz u3 u4 u5 u6 u7 x8 x9 pl x13 hg un im f0 tm lt r0 s0 = fl_wh (fun t9 => Sf_X8_gallery_39_1 n pl hg un im tm lt r0 s0 0 0 t9.1 t9.2) (0, 0, 0, 0, 0, 0, 0, 0, 0, 0, 0, 0, 0, 0, 0, 0, (fun _ => 0), (fun _ => 0), (fun _ => 0), (fun _ => 0)) 157 (0, f0) := by
    unfold Ff_X8_gallery Ff_X8_good
    rw [fl_c2_eq rfl, fl_lt_eq (rp_in1 h0 hn).symm, if_pos rfl]
  have efz' : fl_wh (fun t9 => Sf_X8_gallery_39_1 n pl hg un im tm lt r0 s0 0 0 t9.1 t9.2) (0, 0, 0, 0, 0, 0, 0, 0, 0, 0, 0, 0, 0, 0, 0, 0, (fun _ => 0), (fun _ => 0), (fun _ => 0), (fun _ => 0)) 157 (0, f0) = _ := efz
  rw [efz'] at um
  have uc : Ff_X3_read n tz wd wh ta sp sa sh ti pu fi kd me tp nm wf wt sm sf = fl_c5 (Ff_X3_advance n 0 wd wh tp) (fun st be tk wd wh => fl_c28 (Ff_X3_readLine 0 (-1) 0 n st be tk wd wh ta 0 sp sa sh 0 ti pu fi 0 0 tp nm kd0 me0 0 wf wt sm sf) (fun r49 q1 q2 v_c v_st v_be v_tk v_wd v_wh v_ta v_fg v_sp v_sa v_sh v_lw v_ti v_pu v_fi v_tb v_sc v_nm v_kd v_me v_wc v_wf v_wt v_sm v_sf => if r49 = 1 then fl_wh (fun t9 => Sf_X3_read_55_1 tp n t9.1 t9.2.1 t9.2.2.1 t9.2.2.2.1 t9.2.2.2.2.1 t9.2.2.2.2.2.1 t9.2.2.2.2.2.2.1 t9.2.2.2.2.2.2.2.1 t9.2.2.2.2.2.2.2.2.1 t9.2.2.2.2.2.2.2.2.2.1 t9.2.2.2.2.2.2.2.2.2.2.1 t9.2.2.2.2.2.2.2.2.2.2.2.1 t9.2.2.2.2.2.2.2.2.2.2.2.2.1 t9.2.2.2.2.2.2.2.2.2.2.2.2.2.1 t9.2.2.2.2.2.2.2.2.2.2.2.2.2.2.1 t9.2.2.2.2.2.2.2.2.2.2.2.2.2.2.2.1 t9.2.2.2.2.2.2.2.2.2.2.2.2.2.2.2.2.1 t9.2.2.2.2.2.2.2.2.2.2.2.2.2.2.2.2.2.1 t9.2.2.2.2.2.2.2.2.2.2.2.2.2.2.2.2.2.2.1 t9.2.2.2.2.2.2.2.2.2.2.2.2.2.2.2.2.2.2.2.1 t9.2.2.2.2.2.2.2.2.2.2.2.2.2.2.2.2.2.2.2.2.1 t9.2.2.2.2.2.2.2.2.2.2.2.2.2.2.2.2.2.2.2.2.2.1 t9.2.2.2.2.2.2.2.2.2.2.2.2.2.2.2.2.2.2.2.2.2.2.1 t9.2.2.2.2.2.2.2.2.2.2.2.2.2.2.2.2.2.2.2.2.2.2.2.1 t9.2.2.2.2.2.2.2.2.2.2.2.2.2.2.2.2.2.2.2.2.2.2.2.2.1 t9.2.2.2.2.2.2.2.2.2.2.2.2.2.2.2.2.2.2.2.2.2.2.2.2.2.1 t9.2.2.2.2.2.2.2.2.2.2.2.2.2.2.2.2.2.2.2.2.2.2.2.2.2.2.1 t9.2.2.2.2.2.2.2.2.2.2.2.2.2.2.2.2.2.2.2.2.2.2.2.2.2.2.2.1 t9.2.2.2.2.2.2.2.2.2.2.2.2.2.2.2.2.2.2.2.2.2.2.2.2.2.2.2.2) (0, 0, 0, 0, 0, 0, 0, 0, 0, 0, 0, 0, 0, 0, 0, 0, 0, 0, 0, 0, 0, 0, (fun _ => 0), (fun _ => 0), (fun _ => 0), (fun _ => 0), (fun _ => 0), (fun _ => 0), (fun _ => 0)) 900 (1, 1, q1, q2, v_c, v_st, v_be, v_tk, v_wd, v_wh, v_ta, v_fg, v_sp, v_sa, v_sh, v_lw, v_ti, v_pu, v_fi, v_tb, v_sc, v_wc, v_kd, v_me, v_nm, v_wf, v_wt, v_sm, v_sf) else fl_wh (fun t9 => Sf_X3_read_55_1 tp n t9.1 t9.2.1 t9.2.2.1 t9.2.2.2.1 t9.2.2.2.2.1 t9.2.2.2.2.2.1 t9.2.2.2.2.2.2.1 t9.2.2.2.2.2.2.2.1 t9.2.2.2.2.2.2.2.2.1 t9.2.2.2.2.2.2.2.2.2.1 t9.2.2.2.2.2.2.2.2.2.2.1 t9.2.2.2.2.2.2.2.2.2.2.2.1 t9.2.2.2.2.2.2.2.2.2.2.2.2.1 t9.2.2.2.2.2.2.2.2.2.2.2.2.2.1 t9.2.2.2.2.2.2.2.2.2.2.2.2.2.2.1 t9.2.2.2.2.2.2.2.2.2.2.2.2.2.2.2.1 t9.2.2.2.2.2.2.2.2.2.2.2.2.2.2.2.2.1 t9.2.2.2.2.2.2.2.2.2.2.2.2.2.2.2.2.2.1 t9.2.2.2.2.2.2.2.2.2.2.2.2.2.2.2.2.2.2.1 t9.2.2.2.2.2.2.2.2.2.2.2.2.2.2.2.2.2.2.2.1 t9.2.2.2.2.2.2.2.2.2.2.2.2.2.2.2.2.2.2.2.2.1 t9.2.2.2.2.2.2.2.2.2.2.2.2.2.2.2.2.2.2.2.2.2.1 t9.2.2.2.2.2.2.2.2.2.2.2.2.2.2.2.2.2.2.2.2.2.2.1 t9.2.2.2.2.2.2.2.2.2.2.2.2.2.2.2.2.2.2.2.2.2.2.2.1 t9.2.2.2.2.2.2.2.2.2.2.2.2.2.2.2.2.2.2.2.2.2.2.2.2.1 t9.2.2.2.2.2.2.2.2.2.2.2.2.2.2.2.2.2.2.2.2.2.2.2.2.2.1 t9.2.2.2.2.2.2.2.2.2.2.2.2.2.2.2.2.2.2.2.2.2.2.2.2.2.2.1 t9.2.2.2.2.2.2.2.2.2.2.2.2.2.2.2.2.2.2.2.2.2.2.2.2.2.2.2.1 t9.2.2.2.2.2.2.2.2.2.2.2.2.2.2.2.2.2.2.2.2.2.2.2.2.2.2.2.2) (0, 0, 0, 0, 0, 0, 0, 0, 0, 0, 0, 0, 0, 0, 0, 0, 0, 0, 0, 0, 0, 0, (fun _ => 0), (fun _ => 0), (fun _ => 0), (fun _ => 0), (fun _ => 0), (fun _ => 0), (fun _ => 0)) 900 (1, 0, q1, q2, v_c, v_st, v_be, v_tk, v_wd, v_wh, v_ta, v_fg, v_sp, v_sa, v_sh, v_lw, v_ti, v_pu, v_fi, v_tb, v_sc, v_wc, v_kd, v_me, v_nm, v_wf, v_wt, v_sm, v_sf))) := by
    unfold Ff_X3_read
    rw [fl_lt_eq emin.symm, ecl, fl_c7_eq rfl]; rfl
  obtain ⟨st1, be1, tk1, wd1, wh1, at1, en1, tk3, wm1, ns1, lt1, a1, a2, a3, a4⟩ := rp_adv hT (by omega) 0 wd wh lt (by omega) h0
  rw [a1, fl_c5_eq rfl] at uc
  rw [a2, fl_c6_eq rfl] at um
  rcases rp_line hT (by omega) a3 (rp_D0 (sp := sp) (sa := sa) (sh := sh) (ti := ti) (pu := pu) (fi := fi) (sf := sf) (sm := sm) (wf := wf) (wt := wt) (nm := nm) hfz hcl) 0 (-1) ta 0 pl with ⟨c', ta', fg', sp', sa', sh', lw', ti', pu', fi', tb', sc', wc', nm', kd', me', wf', wt', sm', sf', fr', st2, be2, tk4, wd2, wh2, at2, en2, tk5, wm2, ns2, lt2, b1, b2, b3, b4, b5⟩ | ⟨q, p, b1, b2⟩
  · rw [b1, fl_c28_eq rfl, if_pos rfl] at uc
    rw [b2, fl_c10_eq rfl, if_neg n01] at um
    rcases rp_loop hT (by omega) hg un im r0 s0 900 1804 1 c' st2 be2 tk4 wd2 wh2 ta' fg' sp' sa' sh' lw' ti' pu' fi' tb' sc' wc' kd' me' nm' wf' wt' sm' sf' fr' lt2 at2 en2 tk5 wm2 ns2 pl (by omega) (by have := b3.2.1; omega) (by omega) (by omega) b3 b5 with ⟨q_c, q_st, q_be, q_tk, q_wd, q_wh, q_ta, q_fg, q_sp, q_sa, q_sh, q_lw, q_ti, q_pu, q_fi, q_tb, q_sc, q_wc, q_kd, q_me, q_nm, q_wf, q_wt, q_sm, q_sf, fr3, lt3, at3, en3, tk6, wm3, ns3, g1, g2, g3, g4⟩ | ⟨q, p, g1, at3, en3, tk6, wm3, ns3, fr3, lt3, g2⟩
    · have e0 : va_cpy fr3 r0 0 0 156 0 = fr3 0 := rfl
      have e9 : va_cpy fr3 r0 0 0 156 9 = fr3 9 := rfl
      have hh := g4.1.1
      have h11 : fr3 11 = 1 := by
        rcases hh.2.1 with h | h
        · have := hh.2.2.1 h
          have h5 := g4.1.2.1
          omega
        · exact h
      have h29 := hh.2.2.2 h11
      obtain ⟨s1, k1, k2⟩ := rp_st1 (e := n) (at_ := at3) (en := en3) (tk := tk6) (wm := wm3) (ns := ns3) (pl := pl) (fr := fr3) (lt := lt3) (rr := va_cpy fr3 r0 0 0 156) (by rw [e0]; exact h29.1) (by rw [e0]; exact h29.2.1) 24 0 s0 (by omega) (by omega) (fun k hk => by omega)
      refine Or.inl ⟨q_c, q_st, q_be, q_tk, q_wd, q_wh, q_ta, q_fg, q_sp, q_sa, q_sh, q_lw, q_ti, q_pu, q_fi, q_tb, q_sc, q_wc, q_kd, q_me, q_nm, q_wf, q_wt, q_sm, q_sf, fr3, lt3, at3, en3, tk6, wm3, ns3, s1, uc.trans g1, ?_, g3, by rw [hh.1]; exact h29.1, by rw [hh.1]; exact h29.2.1, g4, ?_⟩
      · rw [um, g2, ← e0]; exact k1
      · intro k hk
        rw [k2 k hk, e0, e9]
        by_cases q : k = 19
        · rw [if_pos q, if_pos q]
        · rw [if_neg q, if_neg q]
          by_cases q2 : (k : Int) < fr3 0
          · rw [if_pos q2, if_pos (by omega)]
          · rw [if_neg q2, if_neg (by omega)]
    · exact Or.inr ⟨q, p, by rw [uc]; exact g1, at3, en3, tk6, wm3, ns3, fr3, lt3, um.trans g2⟩
  · have hm : ∃ x1 x2 x3 x4 x5 x6 x7, Ff_X8_gallery n tz u3 u4 u5 u6 u7 x8 x9 pl x13 hg un im f0 tm lt r0 s0 = (-1, 0, 0, n, x1, x2, x3, x4, x5, q, p, 4, 1, hg, un, im, x6, x7, r0, s0) := by
      rw [um]
      generalize FfG_X8_readLine n at1 en1 tk3 wm1 ns1 0 pl lt1 fz tm = G at b2
      obtain ⟨g1, g2, g3, g4, g5, g6, g7, g8, g9, g10⟩ := G
      obtain ⟨z1, z2, z3⟩ := b2
      simp only at z1 z2 z3
      subst z1; subst z2; subst z3
      exact ⟨g1, g2, g3, g4, g5, g10, g9, rfl⟩
    obtain ⟨y1, y2, y3, y4, y5, y6, y7, hm⟩ := hm
    refine Or.inr ⟨q, p, ?_, y1, y2, y3, y4, y5, y6, y7, hm⟩
    rw [uc]
    generalize Ff_X3_readLine 0 (-1) 0 n st1 be1 tk1 wd1 wh1 ta 0 sp sa sh 0 ti pu fi 0 0 tp nm kd0 me0 0 wf wt sm sf = G at b1
    obtain ⟨g1, g2, g3, gl_c, gl_st, gl_be, gl_tk, gl_wd, gl_wh, gl_ta, gl_fg, gl_sp, gl_sa, gl_sh, gl_lw, gl_ti, gl_pu, gl_fi, gl_tb, gl_sc, gl_nm, gl_kd, gl_me, gl_wc, gl_wf, gl_wt, gl_sm, gl_sf⟩ := G
    obtain ⟨z1, z2, z3⟩ := b1
    simp only at z1 z2 z3
    subst z1; subst z2; subst z3
    rw [fl_c28_eq rfl, if_neg n01]
    have hc2 : Sf_X3_read_55_1 tp n 1 0 g2 g3 gl_c gl_st gl_be gl_tk gl_wd gl_wh gl_ta gl_fg gl_sp gl_sa gl_sh gl_lw gl_ti gl_pu gl_fi gl_tb gl_sc gl_wc gl_kd gl_me gl_nm gl_wf gl_wt gl_sm gl_sf = .inr (0, g2, g3, gl_c, n, gl_st, gl_be, gl_tk, gl_wd, gl_wh, gl_ta, gl_fg, gl_sp, gl_sa, gl_sh, gl_lw, gl_ti, gl_pu, gl_fi, gl_tb, gl_sc, gl_wc, gl_kd, gl_me, gl_nm, gl_wf, gl_wt, gl_sm, gl_sf) := by
      unfold Sf_X3_read_55_1 Gf_X3_read_89_1
      rw [if_pos rfl, if_pos rfl]
    rw [fl_wh_r (n := 899) (step := (fun t9 : Int × Int × Int × Int × Int × Int × Int × Int × Int × Int × Int × Int × Int × Int × Int × Int × Int × Int × Int × Int × Int × Int × (Nat → Int) × (Nat → Int) × (Nat → Int) × (Nat → Int) × (Nat → Int) × (Nat → Int) × (Nat → Int) => Sf_X3_read_55_1 tp n t9.1 t9.2.1 t9.2.2.1 t9.2.2.2.1 t9.2.2.2.2.1 t9.2.2.2.2.2.1 t9.2.2.2.2.2.2.1 t9.2.2.2.2.2.2.2.1 t9.2.2.2.2.2.2.2.2.1 t9.2.2.2.2.2.2.2.2.2.1 t9.2.2.2.2.2.2.2.2.2.2.1 t9.2.2.2.2.2.2.2.2.2.2.2.1 t9.2.2.2.2.2.2.2.2.2.2.2.2.1 t9.2.2.2.2.2.2.2.2.2.2.2.2.2.1 t9.2.2.2.2.2.2.2.2.2.2.2.2.2.2.1 t9.2.2.2.2.2.2.2.2.2.2.2.2.2.2.2.1 t9.2.2.2.2.2.2.2.2.2.2.2.2.2.2.2.2.1 t9.2.2.2.2.2.2.2.2.2.2.2.2.2.2.2.2.2.1 t9.2.2.2.2.2.2.2.2.2.2.2.2.2.2.2.2.2.2.1 t9.2.2.2.2.2.2.2.2.2.2.2.2.2.2.2.2.2.2.2.1 t9.2.2.2.2.2.2.2.2.2.2.2.2.2.2.2.2.2.2.2.2.1 t9.2.2.2.2.2.2.2.2.2.2.2.2.2.2.2.2.2.2.2.2.2.1 t9.2.2.2.2.2.2.2.2.2.2.2.2.2.2.2.2.2.2.2.2.2.2.1 t9.2.2.2.2.2.2.2.2.2.2.2.2.2.2.2.2.2.2.2.2.2.2.2.1 t9.2.2.2.2.2.2.2.2.2.2.2.2.2.2.2.2.2.2.2.2.2.2.2.2.1 t9.2.2.2.2.2.2.2.2.2.2.2.2.2.2.2.2.2.2.2.2.2.2.2.2.2.1 t9.2.2.2.2.2.2.2.2.2.2.2.2.2.2.2.2.2.2.2.2.2.2.2.2.2.2.1 t9.2.2.2.2.2.2.2.2.2.2.2.2.2.2.2.2.2.2.2.2.2.2.2.2.2.2.2.1 t9.2.2.2.2.2.2.2.2.2.2.2.2.2.2.2.2.2.2.2.2.2.2.2.2.2.2.2.2)) (s := (1, 0, g2, g3, gl_c, gl_st, gl_be, gl_tk, gl_wd, gl_wh, gl_ta, gl_fg, gl_sp, gl_sa, gl_sh, gl_lw, gl_ti, gl_pu, gl_fi, gl_tb, gl_sc, gl_wc, gl_kd, gl_me, gl_nm, gl_wf, gl_wt, gl_sm, gl_sf)) hc2]
    exact ⟨rfl, rfl, rfl⟩
end PUL
end P0922493_pure12
section P0922494_pure13
section PUM
theorem rp_and255 (x : Int32) : (x &&& 255).toInt = ((x.toBitVec.toNat % 256 : Nat) : Int) := by
  have e1 : (x &&& 255).toBitVec.toNat = x.toBitVec.toNat % 256 := by
    rw [Int32.toBitVec_and, BitVec.toNat_and]
    have e2 : (255 : Int32).toBitVec.toNat = 2 ^ 8 - 1 := by decide
    rw [e2, Nat.and_two_pow_sub_one_eq_mod]
  show (x &&& 255).toBitVec.toInt = _
  rw [BitVec.toInt_eq_toNat_of_lt (by rw [e1]; omega), e1]
theorem rp_i8 (x : Int32) : (x.toInt8.toInt32).toInt = if 2 * (x.toBitVec.toNat % 256) < 256 then ((x.toBitVec.toNat % 256 : Nat) : Int) else ((x.toBitVec.toNat % 256 : Nat) : Int) - 256 := by
  rw [Int8.toInt_toInt32, Int32.toInt_toInt8]
  have h1 : x.toInt = if 2 * x.toBitVec.toNat < 4294967296 then (x.toBitVec.toNat : Int) else (x.toBitVec.toNat : Int) - 4294967296 := by
    show x.toBitVec.toInt = _
    rw [BitVec.toInt_eq_toNat_cond]
    rfl
  have h2 : x.toInt % 256 = ((x.toBitVec.toNat % 256 : Nat) : Int) := by
    rw [h1]; split <;> omega
  have h3 : (2 : Nat) ^ 8 = 256 := rfl
  rw [h3, Int.bmod_def]
  have h4 : ((256 : Nat) : Int) = 256 := rfl
  rw [h4, h2]
  split <;> split <;> omega
def rp_br (b m : Int) : Prop := (m = b ∧ 0 ≤ b) ∨ (b < 0 ∧ 128 ≤ m)
theorem rp_byte (x : Int32) : rp_br (fl_nar (fl_i2b x.toInt)) (fl_and x.toInt 255) := by
  have e1 : fl_i2b x.toInt = (x.toInt8.toInt32).toInt := by unfold fl_i2b; rw [Int32.ofInt_toInt]
  have e2 : fl_nar (x.toInt8.toInt32).toInt = (x.toInt8.toInt32).toInt := by
    unfold fl_nar; rw [Int32.ofInt_toInt]
    show (x.toInt8.toInt32.toInt8.toInt32).toInt = _
    rw [Int8.toInt8_toInt32]
  have e3 : fl_and x.toInt 255 = (x &&& 255).toInt := by
    unfold fl_and; rw [Int32.ofInt_toInt]; rfl
  rw [e1, e2, e3, rp_and255, rp_i8]
  unfold rp_br
  split <;> omega
theorem rp_bs (a s : Int) : rp_br (fl_nar (fl_i2b (fl_shr a s))) (fl_and (fl_shr a s) 255) := rp_byte _
theorem rp_T_up {tp tm : Nat → Int} {t b m : Int} (hT : rp_T tp tm t) (h0 : 0 ≤ t) (h : rp_br b m) : rp_T (fl_up tp t.toNat b) (fl_up tm t.toNat m) (t + 1) := by
  intro i hi
  by_cases q : i = t.toNat
  · subst q; rw [rp_up_eq, rp_up_eq]; exact h
  · rw [rp_up_ne _ _ q, rp_up_ne _ _ q]; exact hT i (by omega)
theorem rp_app {t : Int} (h : t + 4 ≤ 900) (a : Int) (f : Nat → Int) : Ff_X3_appendX a t f = (t + 1 + 1 + 1 + 1, fl_up (fl_up (fl_up (fl_up f t.toNat (fl_nar (fl_i2b (fl_shr a 24)))) (t + 1).toNat (fl_nar (fl_i2b (fl_shr a 16)))) (t + 1 + 1).toNat (fl_nar (fl_i2b (fl_shr a 8)))) (t + 1 + 1 + 1).toNat (fl_nar (fl_i2b (fl_shr a 0)))) := by
  unfold Ff_X3_appendX
  rw [if_neg (by omega), fl_lt_eq rfl, fl_lt_eq rfl, fl_lt_eq rfl, fl_lt_eq rfl, if_neg (by omega), fl_lt_eq rfl, fl_lt_eq rfl, fl_lt_eq rfl, fl_lt_eq rfl, if_neg (by omega), fl_lt_eq rfl, fl_lt_eq rfl, fl_lt_eq rfl, fl_lt_eq rfl, if_neg (by omega)]
  rfl
theorem rp_fs0 (a1 a2 a3 a4 a5 t : Int) (f : Nat → Int) : Sf_X8_feed_23_1 a1 a2 a3 a4 a5 0 t f = .inl (1, t + 1, fl_up f t.toNat (fl_and (fl_shr a1 24) 255)) := by
  unfold Sf_X8_feed_23_1
  rfl
theorem rp_fs1 (a1 a2 a3 a4 a5 t : Int) (f : Nat → Int) : Sf_X8_feed_23_1 a1 a2 a3 a4 a5 1 t f = .inl (2, t + 1, fl_up f t.toNat (fl_and (fl_shr a1 16) 255)) := by
  unfold Sf_X8_feed_23_1
  rfl
theorem rp_fs2 (a1 a2 a3 a4 a5 t : Int) (f : Nat → Int) : Sf_X8_feed_23_1 a1 a2 a3 a4 a5 2 t f = .inl (3, t + 1, fl_up f t.toNat (fl_and (fl_shr a1 8) 255)) := by
  unfold Sf_X8_feed_23_1
  rfl
theorem rp_fs3 (a1 a2 a3 a4 a5 t : Int) (f : Nat → Int) : Sf_X8_feed_23_1 a1 a2 a3 a4 a5 3 t f = .inl (4, t + 1, fl_up f t.toNat (fl_and (fl_shr a1 0) 255)) := by
  unfold Sf_X8_feed_23_1
  rfl
theorem rp_fs4 (a1 a2 a3 a4 a5 t : Int) (f : Nat → Int) : Sf_X8_feed_23_1 a1 a2 a3 a4 a5 4 t f = .inl (5, t + 1, fl_up f t.toNat (fl_and (fl_shr a2 24) 255)) := by
  unfold Sf_X8_feed_23_1
  rfl
theorem rp_fs5 (a1 a2 a3 a4 a5 t : Int) (f : Nat → Int) : Sf_X8_feed_23_1 a1 a2 a3 a4 a5 5 t f = .inl (6, t + 1, fl_up f t.toNat (fl_and (fl_shr a2 16) 255)) := by
  unfold Sf_X8_feed_23_1
  rfl
theorem rp_fs6 (a1 a2 a3 a4 a5 t : Int) (f : Nat → Int) : Sf_X8_feed_23_1 a1 a2 a3 a4 a5 6 t f = .inl (7, t + 1, fl_up f t.toNat (fl_and (fl_shr a2 8) 255)) := by
  unfold Sf_X8_feed_23_1
  rfl
theorem rp_fs7 (a1 a2 a3 a4 a5 t : Int) (f : Nat → Int) : Sf_X8_feed_23_1 a1 a2 a3 a4 a5 7 t f = .inl (8, t + 1, fl_up f t.toNat (fl_and (fl_shr a2 0) 255)) := by
  unfold Sf_X8_feed_23_1
  rfl
theorem rp_fs8 (a1 a2 a3 a4 a5 t : Int) (f : Nat → Int) : Sf_X8_feed_23_1 a1 a2 a3 a4 a5 8 t f = .inl (9, t + 1, fl_up f t.toNat (fl_and (fl_shr a3 24) 255)) := by
  unfold Sf_X8_feed_23_1
  rfl
theorem rp_fs9 (a1 a2 a3 a4 a5 t : Int) (f : Nat → Int) : Sf_X8_feed_23_1 a1 a2 a3 a4 a5 9 t f = .inl (10, t + 1, fl_up f t.toNat (fl_and (fl_shr a3 16) 255)) := by
  unfold Sf_X8_feed_23_1
  rfl
theorem rp_fs10 (a1 a2 a3 a4 a5 t : Int) (f : Nat → Int) : Sf_X8_feed_23_1 a1 a2 a3 a4 a5 10 t f = .inl (11, t + 1, fl_up f t.toNat (fl_and (fl_shr a3 8) 255)) := by
  unfold Sf_X8_feed_23_1
  rfl
theorem rp_fs11 (a1 a2 a3 a4 a5 t : Int) (f : Nat → Int) : Sf_X8_feed_23_1 a1 a2 a3 a4 a5 11 t f = .inl (12, t + 1, fl_up f t.toNat (fl_and (fl_shr a3 0) 255)) := by
  unfold Sf_X8_feed_23_1
  rfl
theorem rp_fs12 (a1 a2 a3 a4 a5 t : Int) (f : Nat → Int) : Sf_X8_feed_23_1 a1 a2 a3 a4 a5 12 t f = .inl (13, t + 1, fl_up f t.toNat (fl_and (fl_shr a4 24) 255)) := by
  unfold Sf_X8_feed_23_1
  rfl
theorem rp_fs13 (a1 a2 a3 a4 a5 t : Int) (f : Nat → Int) : Sf_X8_feed_23_1 a1 a2 a3 a4 a5 13 t f = .inl (14, t + 1, fl_up f t.toNat (fl_and (fl_shr a4 16) 255)) := by
  unfold Sf_X8_feed_23_1
  rfl
theorem rp_fs14 (a1 a2 a3 a4 a5 t : Int) (f : Nat → Int) : Sf_X8_feed_23_1 a1 a2 a3 a4 a5 14 t f = .inl (15, t + 1, fl_up f t.toNat (fl_and (fl_shr a4 8) 255)) := by
  unfold Sf_X8_feed_23_1
  rfl
theorem rp_fs15 (a1 a2 a3 a4 a5 t : Int) (f : Nat → Int) : Sf_X8_feed_23_1 a1 a2 a3 a4 a5 15 t f = .inl (16, t + 1, fl_up f t.toNat (fl_and (fl_shr a4 0) 255)) := by
  unfold Sf_X8_feed_23_1
  rfl
theorem rp_fs16 (a1 a2 a3 a4 a5 t : Int) (f : Nat → Int) : Sf_X8_feed_23_1 a1 a2 a3 a4 a5 16 t f = .inl (17, t + 1, fl_up f t.toNat (fl_and (fl_shr a5 24) 255)) := by
  unfold Sf_X8_feed_23_1
  rfl
theorem rp_fs17 (a1 a2 a3 a4 a5 t : Int) (f : Nat → Int) : Sf_X8_feed_23_1 a1 a2 a3 a4 a5 17 t f = .inl (18, t + 1, fl_up f t.toNat (fl_and (fl_shr a5 16) 255)) := by
  unfold Sf_X8_feed_23_1
  rfl
theorem rp_fs18 (a1 a2 a3 a4 a5 t : Int) (f : Nat → Int) : Sf_X8_feed_23_1 a1 a2 a3 a4 a5 18 t f = .inl (19, t + 1, fl_up f t.toNat (fl_and (fl_shr a5 8) 255)) := by
  unfold Sf_X8_feed_23_1
  rfl
theorem rp_fs19 (a1 a2 a3 a4 a5 t : Int) (f : Nat → Int) : Sf_X8_feed_23_1 a1 a2 a3 a4 a5 19 t f = .inl (20, t + 1, fl_up f t.toNat (fl_and (fl_shr a5 0) 255)) := by
  unfold Sf_X8_feed_23_1
  rfl
def rp_ct (a1 a2 a3 a4 a5 t : Int) (tp : Nat → Int) : Nat → Int := (fl_up (fl_up (fl_up (fl_up (fl_up (fl_up (fl_up (fl_up (fl_up (fl_up (fl_up (fl_up (fl_up (fl_up (fl_up (fl_up (fl_up (fl_up (fl_up (fl_up tp t.toNat (fl_nar (fl_i2b (fl_shr a1 24)))) (t + 1).toNat (fl_nar (fl_i2b (fl_shr a1 16)))) (t + 1 + 1).toNat (fl_nar (fl_i2b (fl_shr a1 8)))) (t + 1 + 1 + 1).toNat (fl_nar (fl_i2b (fl_shr a1 0)))) (t + 1 + 1 + 1 + 1).toNat (fl_nar (fl_i2b (fl_shr a2 24)))) (t + 1 + 1 + 1 + 1 + 1).toNat (fl_nar (fl_i2b (fl_shr a2 16)))) (t + 1 + 1 + 1 + 1 + 1 + 1).toNat (fl_nar (fl_i2b (fl_shr a2 8)))) (t + 1 + 1 + 1 + 1 + 1 + 1 + 1).toNat (fl_nar (fl_i2b (fl_shr a2 0)))) (t + 1 + 1 + 1 + 1 + 1 + 1 + 1 + 1).toNat (fl_nar (fl_i2b (fl_shr a3 24)))) (t + 1 + 1 + 1 + 1 + 1 + 1 + 1 + 1 + 1).toNat (fl_nar (fl_i2b (fl_shr a3 16)))) (t + 1 + 1 + 1 + 1 + 1 + 1 + 1 + 1 + 1 + 1).toNat (fl_nar (fl_i2b (fl_shr a3 8)))) (t + 1 + 1 + 1 + 1 + 1 + 1 + 1 + 1 + 1 + 1 + 1).toNat (fl_nar (fl_i2b (fl_shr a3 0)))) (t + 1 + 1 + 1 + 1 + 1 + 1 + 1 + 1 + 1 + 1 + 1 + 1).toNat (fl_nar (fl_i2b (fl_shr a4 24)))) (t + 1 + 1 + 1 + 1 + 1 + 1 + 1 + 1 + 1 + 1 + 1 + 1 + 1).toNat (fl_nar (fl_i2b (fl_shr a4 16)))) (t + 1 + 1 + 1 + 1 + 1 + 1 + 1 + 1 + 1 + 1 + 1 + 1 + 1 + 1).toNat (fl_nar (fl_i2b (fl_shr a4 8)))) (t + 1 + 1 + 1 + 1 + 1 + 1 + 1 + 1 + 1 + 1 + 1 + 1 + 1 + 1 + 1).toNat (fl_nar (fl_i2b (fl_shr a4 0)))) (t + 1 + 1 + 1 + 1 + 1 + 1 + 1 + 1 + 1 + 1 + 1 + 1 + 1 + 1 + 1 + 1).toNat (fl_nar (fl_i2b (fl_shr a5 24)))) (t + 1 + 1 + 1 + 1 + 1 + 1 + 1 + 1 + 1 + 1 + 1 + 1 + 1 + 1 + 1 + 1 + 1).toNat (fl_nar (fl_i2b (fl_shr a5 16)))) (t + 1 + 1 + 1 + 1 + 1 + 1 + 1 + 1 + 1 + 1 + 1 + 1 + 1 + 1 + 1 + 1 + 1 + 1).toNat (fl_nar (fl_i2b (fl_shr a5 8)))) (t + 1 + 1 + 1 + 1 + 1 + 1 + 1 + 1 + 1 + 1 + 1 + 1 + 1 + 1 + 1 + 1 + 1 + 1 + 1).toNat (fl_nar (fl_i2b (fl_shr a5 0))))
def rp_mt (a1 a2 a3 a4 a5 t : Int) (tm : Nat → Int) : Nat → Int := (fl_up (fl_up (fl_up (fl_up (fl_up (fl_up (fl_up (fl_up (fl_up (fl_up (fl_up (fl_up (fl_up (fl_up (fl_up (fl_up (fl_up (fl_up (fl_up (fl_up tm t.toNat (fl_and (fl_shr a1 24) 255)) (t + 1).toNat (fl_and (fl_shr a1 16) 255)) (t + 1 + 1).toNat (fl_and (fl_shr a1 8) 255)) (t + 1 + 1 + 1).toNat (fl_and (fl_shr a1 0) 255)) (t + 1 + 1 + 1 + 1).toNat (fl_and (fl_shr a2 24) 255)) (t + 1 + 1 + 1 + 1 + 1).toNat (fl_and (fl_shr a2 16) 255)) (t + 1 + 1 + 1 + 1 + 1 + 1).toNat (fl_and (fl_shr a2 8) 255)) (t + 1 + 1 + 1 + 1 + 1 + 1 + 1).toNat (fl_and (fl_shr a2 0) 255)) (t + 1 + 1 + 1 + 1 + 1 + 1 + 1 + 1).toNat (fl_and (fl_shr a3 24) 255)) (t + 1 + 1 + 1 + 1 + 1 + 1 + 1 + 1 + 1).toNat (fl_and (fl_shr a3 16) 255)) (t + 1 + 1 + 1 + 1 + 1 + 1 + 1 + 1 + 1 + 1).toNat (fl_and (fl_shr a3 8) 255)) (t + 1 + 1 + 1 + 1 + 1 + 1 + 1 + 1 + 1 + 1 + 1).toNat (fl_and (fl_shr a3 0) 255)) (t + 1 + 1 + 1 + 1 + 1 + 1 + 1 + 1 + 1 + 1 + 1 + 1).toNat (fl_and (fl_shr a4 24) 255)) (t + 1 + 1 + 1 + 1 + 1 + 1 + 1 + 1 + 1 + 1 + 1 + 1 + 1).toNat (fl_and (fl_shr a4 16) 255)) (t + 1 + 1 + 1 + 1 + 1 + 1 + 1 + 1 + 1 + 1 + 1 + 1 + 1 + 1).toNat (fl_and (fl_shr a4 8) 255)) (t + 1 + 1 + 1 + 1 + 1 + 1 + 1 + 1 + 1 + 1 + 1 + 1 + 1 + 1 + 1).toNat (fl_and (fl_shr a4 0) 255)) (t + 1 + 1 + 1 + 1 + 1 + 1 + 1 + 1 + 1 + 1 + 1 + 1 + 1 + 1 + 1 + 1).toNat (fl_and (fl_shr a5 24) 255)) (t + 1 + 1 + 1 + 1 + 1 + 1 + 1 + 1 + 1 + 1 + 1 + 1 + 1 + 1 + 1 + 1 + 1).toNat (fl_and (fl_shr a5 16) 255)) (t + 1 + 1 + 1 + 1 + 1 + 1 + 1 + 1 + 1 + 1 + 1 + 1 + 1 + 1 + 1 + 1 + 1 + 1).toNat (fl_and (fl_shr a5 8) 255)) (t + 1 + 1 + 1 + 1 + 1 + 1 + 1 + 1 + 1 + 1 + 1 + 1 + 1 + 1 + 1 + 1 + 1 + 1 + 1).toNat (fl_and (fl_shr a5 0) 255))
theorem rp_fT {tp tm : Nat → Int} {t : Int} (hT : rp_T tp tm t) (h0 : 0 ≤ t) (a1 a2 a3 a4 a5 : Int) : rp_T (rp_ct a1 a2 a3 a4 a5 t tp) (rp_mt a1 a2 a3 a4 a5 t tm) (t + 1 + 1 + 1 + 1 + 1 + 1 + 1 + 1 + 1 + 1 + 1 + 1 + 1 + 1 + 1 + 1 + 1 + 1 + 1 + 1) := by
  unfold rp_ct rp_mt
  have hT := rp_T_up hT (by omega) (rp_bs a1 24)
  have hT := rp_T_up hT (by omega) (rp_bs a1 16)
  have hT := rp_T_up hT (by omega) (rp_bs a1 8)
  have hT := rp_T_up hT (by omega) (rp_bs a1 0)
  have hT := rp_T_up hT (by omega) (rp_bs a2 24)
  have hT := rp_T_up hT (by omega) (rp_bs a2 16)
  have hT := rp_T_up hT (by omega) (rp_bs a2 8)
  have hT := rp_T_up hT (by omega) (rp_bs a2 0)
  have hT := rp_T_up hT (by omega) (rp_bs a3 24)
  have hT := rp_T_up hT (by omega) (rp_bs a3 16)
  have hT := rp_T_up hT (by omega) (rp_bs a3 8)
  have hT := rp_T_up hT (by omega) (rp_bs a3 0)
  have hT := rp_T_up hT (by omega) (rp_bs a4 24)
  have hT := rp_T_up hT (by omega) (rp_bs a4 16)
  have hT := rp_T_up hT (by omega) (rp_bs a4 8)
  have hT := rp_T_up hT (by omega) (rp_bs a4 0)
  have hT := rp_T_up hT (by omega) (rp_bs a5 24)
  have hT := rp_T_up hT (by omega) (rp_bs a5 16)
  have hT := rp_T_up hT (by omega) (rp_bs a5 8)
  have hT := rp_T_up hT (by omega) (rp_bs a5 0)
  exact hT
theorem rp_feedc {t : Int} (h0 : 0 ≤ t) (h : t + 20 ≤ 900) (a1 a2 a3 a4 a5 : Int) (tp : Nat → Int) : Ff_X7_feed a1 a2 a3 a4 a5 t tp = (t + 1 + 1 + 1 + 1 + 1 + 1 + 1 + 1 + 1 + 1 + 1 + 1 + 1 + 1 + 1 + 1 + 1 + 1 + 1 + 1, t + 1 + 1 + 1 + 1 + 1 + 1 + 1 + 1 + 1 + 1 + 1 + 1 + 1 + 1 + 1 + 1 + 1 + 1 + 1 + 1, rp_ct a1 a2 a3 a4 a5 t tp) := by
  unfold Ff_X7_feed
  rw [fl_lt_eq rfl, if_pos (by omega), rp_app (by omega), fl_c2_eq rfl, rp_app (by omega), fl_c2_eq rfl, rp_app (by omega), fl_c2_eq rfl, rp_app (by omega), fl_c2_eq rfl, rp_app (by omega), fl_c2_eq rfl]
  rfl
theorem rp_feedm {t : Int} (h0 : 0 ≤ t) (h : t + 20 ≤ 900) (a1 a2 a3 a4 a5 : Int) (tm : Nat → Int) : Ff_X8_feed a1 a2 a3 a4 a5 t tm = (t + 1 + 1 + 1 + 1 + 1 + 1 + 1 + 1 + 1 + 1 + 1 + 1 + 1 + 1 + 1 + 1 + 1 + 1 + 1 + 1, 0, t + 1 + 1 + 1 + 1 + 1 + 1 + 1 + 1 + 1 + 1 + 1 + 1 + 1 + 1 + 1 + 1 + 1 + 1 + 1 + 1, rp_mt a1 a2 a3 a4 a5 t tm) := by
  unfold Ff_X8_feed
  rw [fl_lt_eq rfl, if_pos (by omega)]
  rw [fl_wh_l (step := (fun t9 : Int × Int × (Nat → Int) => Sf_X8_feed_23_1 a1 a2 a3 a4 a5 t9.1 t9.2.1 t9.2.2)) (rp_fs0 a1 a2 a3 a4 a5 _ _)]
  rw [fl_wh_l (step := (fun t9 : Int × Int × (Nat → Int) => Sf_X8_feed_23_1 a1 a2 a3 a4 a5 t9.1 t9.2.1 t9.2.2)) (rp_fs1 a1 a2 a3 a4 a5 _ _)]
  rw [fl_wh_l (step := (fun t9 : Int × Int × (Nat → Int) => Sf_X8_feed_23_1 a1 a2 a3 a4 a5 t9.1 t9.2.1 t9.2.2)) (rp_fs2 a1 a2 a3 a4 a5 _ _)]
  rw [fl_wh_l (step := (fun t9 : Int × Int × (Nat → Int) => Sf_X8_feed_23_1 a1 a2 a3 a4 a5 t9.1 t9.2.1 t9.2.2)) (rp_fs3 a1 a2 a3 a4 a5 _ _)]
  rw [fl_wh_l (step := (fun t9 : Int × Int × (Nat → Int) => Sf_X8_feed_23_1 a1 a2 a3 a4 a5 t9.1 t9.2.1 t9.2.2)) (rp_fs4 a1 a2 a3 a4 a5 _ _)]
  rw [fl_wh_l (step := (fun t9 : Int × Int × (Nat → Int) => Sf_X8_feed_23_1 a1 a2 a3 a4 a5 t9.1 t9.2.1 t9.2.2)) (rp_fs5 a1 a2 a3 a4 a5 _ _)]
  rw [fl_wh_l (step := (fun t9 : Int × Int × (Nat → Int) => Sf_X8_feed_23_1 a1 a2 a3 a4 a5 t9.1 t9.2.1 t9.2.2)) (rp_fs6 a1 a2 a3 a4 a5 _ _)]
  rw [fl_wh_l (step := (fun t9 : Int × Int × (Nat → Int) => Sf_X8_feed_23_1 a1 a2 a3 a4 a5 t9.1 t9.2.1 t9.2.2)) (rp_fs7 a1 a2 a3 a4 a5 _ _)]
  rw [fl_wh_l (step := (fun t9 : Int × Int × (Nat → Int) => Sf_X8_feed_23_1 a1 a2 a3 a4 a5 t9.1 t9.2.1 t9.2.2)) (rp_fs8 a1 a2 a3 a4 a5 _ _)]
  rw [fl_wh_l (step := (fun t9 : Int × Int × (Nat → Int) => Sf_X8_feed_23_1 a1 a2 a3 a4 a5 t9.1 t9.2.1 t9.2.2)) (rp_fs9 a1 a2 a3 a4 a5 _ _)]
  rw [fl_wh_l (step := (fun t9 : Int × Int × (Nat → Int) => Sf_X8_feed_23_1 a1 a2 a3 a4 a5 t9.1 t9.2.1 t9.2.2)) (rp_fs10 a1 a2 a3 a4 a5 _ _)]
  rw [fl_wh_l (step := (fun t9 : Int × Int × (Nat → Int) => Sf_X8_feed_23_1 a1 a2 a3 a4 a5 t9.1 t9.2.1 t9.2.2)) (rp_fs11 a1 a2 a3 a4 a5 _ _)]
  rw [fl_wh_l (step := (fun t9 : Int × Int × (Nat → Int) => Sf_X8_feed_23_1 a1 a2 a3 a4 a5 t9.1 t9.2.1 t9.2.2)) (rp_fs12 a1 a2 a3 a4 a5 _ _)]
  rw [fl_wh_l (step := (fun t9 : Int × Int × (Nat → Int) => Sf_X8_feed_23_1 a1 a2 a3 a4 a5 t9.1 t9.2.1 t9.2.2)) (rp_fs13 a1 a2 a3 a4 a5 _ _)]
  rw [fl_wh_l (step := (fun t9 : Int × Int × (Nat → Int) => Sf_X8_feed_23_1 a1 a2 a3 a4 a5 t9.1 t9.2.1 t9.2.2)) (rp_fs14 a1 a2 a3 a4 a5 _ _)]
  rw [fl_wh_l (step := (fun t9 : Int × Int × (Nat → Int) => Sf_X8_feed_23_1 a1 a2 a3 a4 a5 t9.1 t9.2.1 t9.2.2)) (rp_fs15 a1 a2 a3 a4 a5 _ _)]
  rw [fl_wh_l (step := (fun t9 : Int × Int × (Nat → Int) => Sf_X8_feed_23_1 a1 a2 a3 a4 a5 t9.1 t9.2.1 t9.2.2)) (rp_fs16 a1 a2 a3 a4 a5 _ _)]
  rw [fl_wh_l (step := (fun t9 : Int × Int × (Nat → Int) => Sf_X8_feed_23_1 a1 a2 a3 a4 a5 t9.1 t9.2.1 t9.2.2)) (rp_fs17 a1 a2 a3 a4 a5 _ _)]
  rw [fl_wh_l (step := (fun t9 : Int × Int × (Nat → Int) => Sf_X8_feed_23_1 a1 a2 a3 a4 a5 t9.1 t9.2.1 t9.2.2)) (rp_fs18 a1 a2 a3 a4 a5 _ _)]
  rw [fl_wh_l (step := (fun t9 : Int × Int × (Nat → Int) => Sf_X8_feed_23_1 a1 a2 a3 a4 a5 t9.1 t9.2.1 t9.2.2)) (rp_fs19 a1 a2 a3 a4 a5 _ _)]
  exact fl_wh_r (step := (fun t9 : Int × Int × (Nat → Int) => Sf_X8_feed_23_1 a1 a2 a3 a4 a5 t9.1 t9.2.1 t9.2.2)) (s := (20, t + 1 + 1 + 1 + 1 + 1 + 1 + 1 + 1 + 1 + 1 + 1 + 1 + 1 + 1 + 1 + 1 + 1 + 1 + 1 + 1, rp_mt a1 a2 a3 a4 a5 t tm)) rfl
/-- feed: here and there -/
theorem rp_feed {tp tm : Nat → Int} {t : Int} (hT : rp_T tp tm t) (h0 : 0 ≤ t) (a1 a2 a3 a4 a5 : Int) :
    (t + 20 ≤ 900 ∧ ∃ tp' tm', Ff_X7_feed a1 a2 a3 a4 a5 t tp = (t + 20, t + 20, tp') ∧ Ff_X8_feed a1 a2 a3 a4 a5 t tm = (t + 20, 0, t + 20, tm') ∧ rp_T tp' tm' (t + 20)) ∨
    (900 < t + 20 ∧ Ff_X7_feed a1 a2 a3 a4 a5 t tp = (-1, t, tp) ∧ Ff_X8_feed a1 a2 a3 a4 a5 t tm = (-1, 0, t, tm)) := by
  by_cases h : t + 20 ≤ 900
  · have e : t + 1 + 1 + 1 + 1 + 1 + 1 + 1 + 1 + 1 + 1 + 1 + 1 + 1 + 1 + 1 + 1 + 1 + 1 + 1 + 1 = t + 20 := by omega
    have hf := rp_fT hT h0 a1 a2 a3 a4 a5
    have h1 := rp_feedc h0 h a1 a2 a3 a4 a5 tp
    have h2 := rp_feedm h0 h a1 a2 a3 a4 a5 tm
    rw [e] at hf h1 h2
    exact Or.inl ⟨h, _, _, h1, h2, hf⟩
  · refine Or.inr ⟨by omega, ?_, ?_⟩
    · unfold Ff_X7_feed; rw [fl_lt_eq rfl, if_neg h]
    · unfold Ff_X8_feed; rw [fl_lt_eq rfl, if_neg h]
theorem rp_feed2 {tp tpx tpm : Int32} {f g f1 g1 : Nat → Int32} (hR : rp_T (fl_A f) (fl_A g) tp.toInt) (h0 : 0 ≤ tp.toInt) (a1 a2 a3 a4 a5 : Int) (ftx : tpx.toInt = (Ff_X7_feed a1 a2 a3 a4 a5 tp.toInt (fl_A f)).2.1) (ffx : fl_A f1 = (Ff_X7_feed a1 a2 a3 a4 a5 tp.toInt (fl_A f)).2.2) (ftm : tpm.toInt = (Ff_X8_feed a1 a2 a3 a4 a5 tp.toInt (fl_A g)).2.2.1) (ffm : fl_A g1 = (Ff_X8_feed a1 a2 a3 a4 a5 tp.toInt (fl_A g)).2.2.2) : tpx = tpm ∧ rp_T (fl_A f1) (fl_A g1) tpx.toInt := by
  rcases rp_feed hR h0 a1 a2 a3 a4 a5 with ⟨-, tp9, tm9, e1, e2, e3⟩ | ⟨-, e1, e2⟩
  · rw [e1] at ftx ffx; rw [e2] at ftm ffm
    simp only at ftx ffx ftm ffm
    refine ⟨Int32.toInt_inj.mp (ftx.trans ftm.symm), ?_⟩
    rw [ffx, ffm, ftx]; exact e3
  · rw [e1] at ftx ffx; rw [e2] at ftm ffm
    simp only at ftx ffx ftm ffm
    refine ⟨Int32.toInt_inj.mp (ftx.trans ftm.symm), ?_⟩
    rw [ffx, ffm, ftx]; exact hR
end PUM
end P0922494_pure13
section P09224951_fls
section FLS
def fl_nI (l : List Int) : Nat → Int := fun k => l.getD k 0
def fl_nF (l : List (Nat → Int)) : Nat → Nat → Int := fun k => l.getD k (fun _ => 0)
def fl_rem (x y : Int) : Int := (Int32.ofInt x - Int32.ofInt x / Int32.ofInt y * Int32.ofInt y).toInt
theorem fl_rem_eq {x y z : Int32} (e : z = x - x / y * y) : z.toInt = fl_rem x.toInt y.toInt := by subst e; unfold fl_rem; rw [Int32.ofInt_toInt, Int32.ofInt_toInt]
end FLS
end P09224951_fls
section P09224952_defsF
def Ff_X5_isGone (a1 : Int) (a0_3 : Int) : Int :=
  fl_lt (Ff_X7_hasBit a0_3 a1) (fun r5 => if r5 = 1 then (1) else (0))

def Ff_X6_placeOf (a1 : Int) (a2 : Int) (fa0_3 : (Nat → Int)) (fa0_2 : (Nat → Int)) : Int :=
  fl_lt (fa0_3 (a1.toNat)) (fun x5 => fl_lt (fa0_2 (a1.toNat)) (fun x11 => if x5 ≤ x11 then (fl_lt (x11 - x5) (fun x53 => if 0 < x53 then (fl_lt (2 * x53) (fun x72 => fl_lt (fl_rem a2 x72) (fun x73 => if x53 < x73 then (fl_lt (x72 - x73) (fun x94 => fl_lt (fl_isub x11 x94) (fun x121 => x121))) else (fl_lt (fl_isub x11 x73) (fun x121 => x121))))) else (x11))) else (fl_lt (x5 - x11) (fun x37 => if 0 < x37 then (fl_lt (2 * x37) (fun x72 => fl_lt (fl_rem a2 x72) (fun x73 => if x37 < x73 then (fl_lt (x72 - x73) (fun x94 => fl_lt (x11 + x94) (fun x109 => x109))) else (fl_lt (x11 + x73) (fun x109 => x109))))) else (x11)))))

def Sf_X6_placesIn_7_1 (a1 : Int) (a0_0 : Int) (fa0_3 : (Nat → Int)) (fa0_2 : (Nat → Int)) (j7l3 : Int) (j7l2 : Int) : Sum (Int × Int) (Int) :=
  if a0_0 ≤ j7l3 then (Sum.inr (j7l2)) else (fl_lt (Ff_X6_placeOf j7l3 a1 fa0_3 fa0_2) (fun r20 => fl_lt (fl_shl 1 r20) (fun x23 => fl_lt (fl_or j7l2 x23) (fun x24 => fl_lt (j7l3 + 1) (fun x26 => Sum.inl (x26, x24))))))
def Ff_X6_placesIn (a1 : Int) (a0_0 : Int) (a0_1 : Int) (fa0_3 : (Nat → Int)) (fa0_2 : (Nat → Int)) : Int :=
  fl_wh (fun t9 => Sf_X6_placesIn_7_1 a1 a0_0 fa0_3 fa0_2 t9.1 t9.2) 0 4 (0, a0_1)

def Ff_X0_next (a1 : Int) (a0_0 : Int) (a0_5 : Int) (a0_6 : Int) : Int :=
  if 0 < a0_0 then (fl_lt (a1 * a0_5) (fun x16 => fl_lt (x16 + a0_6) (fun x21 => fl_lt (x21 % a0_0) (fun x26 => x26)))) else (0)

def Ff_X0_stepsIn (a1 : Int) (a2 : Int) (fa0_10 : (Nat → Int)) (fa0_11 : (Nat → Int)) : Int :=
  fl_lt (Ff_X7_within a1 0 8) (fun r4 => if r4 = 1 then (fl_lt (fa0_10 (a1.toNat)) (fun x15 => if x15 = 1 then (fl_lt (fa0_11 (a1.toNat)) (fun x27 => if x27 ≤ 0 then (0) else (fl_lt (fl_rem a2 x27) (fun x35 => if x35 = 0 then (1) else (0))))) else (0))) else (0))

def Ff_X0_nearer (a1 : Int) (a0_2 : Int) : Int :=
  if a1 = a0_2 then (a1) else (if a0_2 ≤ a1 then (fl_lt (fl_isub a1 1) (fun x26 => x26)) else (fl_lt (a1 + 1) (fun x20 => x20)))

def Ff_X0_isHeardAt (a1 : Int) (a2 : Int) : Int :=
  fl_lt (fl_shl 7 a1) (fun x4 => fl_lt (x4 / 2) (fun x6 => fl_lt (fl_and a2 x6) (fun x7 => if x7 = 0 then (0) else (1))))

def Ff_X0_partSaid (a1 : Int) (a2 : Int) (fa0_10 : (Nat → Int)) (fa0_11 : (Nat → Int)) : Int :=
  fl_lt (Ff_X7_within a1 0 8) (fun r4 => if r4 = 1 then (fl_lt (fa0_10 (a1.toNat)) (fun x15 => if x15 = 2 then (fl_lt (fa0_11 (a1.toNat)) (fun x36 => if x36 < a2 then (0) else (fl_lt (fl_isub a2 1) (fun x43 => fl_lt (fl_shl 1 x43) (fun x44 => x44))))) else (0))) else (0))

def Ff_X0_step (a2 : Int) (a0_2 : Int) (a1_0 : Int) (a1_3 : Int) (a1_4 : Int) (fa1_5 : (Nat → Int)) (a3_0 : Int) (a3_1 : Int) (fa3_3 : (Nat → Int)) (fa3_2 : (Nat → Int)) : Int × Int × (Nat → Int) :=
  fl_lt (Ff_X5_isGone a2 a1_3) (fun r2 => if r2 = 1 then ((a1_3, a1_4, fa1_5)) else (fl_lt (fa1_5 (a2.toNat)) (fun x15 => fl_lt (Ff_X0_nearer x15 a0_2) (fun r16 => fl_lt (Ff_X6_placesIn a1_0 a3_0 a3_1 fa3_3 fa3_2) (fun r26 => fl_lt (Ff_X7_hasBit r26 r16) (fun r31 => if r31 = 1 then (fl_lt (fl_iadd a1_4 1) (fun x43 => fl_lt (fl_up fa1_5 (a2.toNat) a2) (fun f81 => (a1_3, x43, f81)))) else (if r16 = a0_2 then (fl_lt (fl_shl 1 a2) (fun x69 => fl_lt (fl_or a1_3 x69) (fun x70 => fl_lt (fl_up fa1_5 (a2.toNat) r16) (fun f81 => (x70, a1_4, f81))))) else (fl_lt (fl_up fa1_5 (a2.toNat) r16) (fun f81 => (a1_3, a1_4, f81))))))))))

def Ff_X0_pass (a0_0 : Int) (a0_1 : Int) (a0_2 : Int) (a0_5 : Int) (a0_6 : Int) (a1_0 : Int) (a1_1 : Int) (a1_2 : Int) (a1_3 : Int) (a1_4 : Int) (fa0_10 : (Nat → Int)) (fa0_11 : (Nat → Int)) (fa1_5 : (Nat → Int)) (a2_0 : Int) (a2_1 : Int) (fa2_3 : (Nat → Int)) (fa2_2 : (Nat → Int)) (fa1_6 : (Nat → Int)) : Int × Int × Int × Int × Int × (Nat → Int) × (Nat → Int) :=
  fl_lt (fl_iadd a1_2 1) (fun x10 => fl_lt (Ff_X0_stepsIn a1_1 x10 fa0_10 fa0_11) (fun r17 => if r17 = 1 then (fl_c3 (Ff_X0_step a1_1 a0_2 a1_0 a1_3 a1_4 fa1_5 a2_0 a2_1 fa2_3 fa2_2) (fun v27na1_3 v27na1_4 v27nfa1_5 => fl_lt (Ff_X0_partSaid a1_1 x10 fa0_10 fa0_11) (fun r34 => if r34 = 0 then (fl_lt (fl_iadd a1_0 1) (fun x81 => if x10 < a0_1 then ((x81, a1_1, x10, v27na1_3, v27na1_4, v27nfa1_5, fa1_6)) else (fl_lt (Ff_X0_next a1_1 a0_0 a0_5 a0_6) (fun r103 => fl_c2 (Ff_X5_startTurn r103) (fun v106na0_1 v106na0_2 => (x81, v106na0_1, v106na0_2, v27na1_3, v27na1_4, v27nfa1_5, fa1_6)))))) else (fl_lt (v27nfa1_5 (a1_1.toNat)) (fun x49 => fl_lt (Ff_X6_placesIn a1_0 a2_0 a2_1 fa2_3 fa2_2) (fun r55 => fl_lt (Ff_X0_isHeardAt x49 r55) (fun r58 => if r58 = 1 then (fl_lt (fa1_6 (a1_1.toNat)) (fun x70 => fl_lt (fl_or x70 r34) (fun x73 => fl_lt (fl_up fa1_6 (a1_1.toNat) x73) (fun f74 => fl_lt (fl_iadd a1_0 1) (fun x81 => if x10 < a0_1 then ((x81, a1_1, x10, v27na1_3, v27na1_4, v27nfa1_5, f74)) else (fl_lt (Ff_X0_next a1_1 a0_0 a0_5 a0_6) (fun r103 => fl_c2 (Ff_X5_startTurn r103) (fun v106na0_1 v106na0_2 => (x81, v106na0_1, v106na0_2, v27na1_3, v27na1_4, v27nfa1_5, f74))))))))) else (fl_lt (fl_iadd a1_0 1) (fun x81 => if x10 < a0_1 then ((x81, a1_1, x10, v27na1_3, v27na1_4, v27nfa1_5, fa1_6)) else (fl_lt (Ff_X0_next a1_1 a0_0 a0_5 a0_6) (fun r103 => fl_c2 (Ff_X5_startTurn r103) (fun v106na0_1 v106na0_2 => (x81, v106na0_1, v106na0_2, v27na1_3, v27na1_4, v27nfa1_5, fa1_6))))))))))))) else (fl_lt (Ff_X0_partSaid a1_1 x10 fa0_10 fa0_11) (fun r34 => if r34 = 0 then (fl_lt (fl_iadd a1_0 1) (fun x81 => if x10 < a0_1 then ((x81, a1_1, x10, a1_3, a1_4, fa1_5, fa1_6)) else (fl_lt (Ff_X0_next a1_1 a0_0 a0_5 a0_6) (fun r103 => fl_c2 (Ff_X5_startTurn r103) (fun v106na0_1 v106na0_2 => (x81, v106na0_1, v106na0_2, a1_3, a1_4, fa1_5, fa1_6)))))) else (fl_lt (fa1_5 (a1_1.toNat)) (fun x49 => fl_lt (Ff_X6_placesIn a1_0 a2_0 a2_1 fa2_3 fa2_2) (fun r55 => fl_lt (Ff_X0_isHeardAt x49 r55) (fun r58 => if r58 = 1 then (fl_lt (fa1_6 (a1_1.toNat)) (fun x70 => fl_lt (fl_or x70 r34) (fun x73 => fl_lt (fl_up fa1_6 (a1_1.toNat) x73) (fun f74 => fl_lt (fl_iadd a1_0 1) (fun x81 => if x10 < a0_1 then ((x81, a1_1, x10, a1_3, a1_4, fa1_5, f74)) else (fl_lt (Ff_X0_next a1_1 a0_0 a0_5 a0_6) (fun r103 => fl_c2 (Ff_X5_startTurn r103) (fun v106na0_1 v106na0_2 => (x81, v106na0_1, v106na0_2, a1_3, a1_4, fa1_5, f74))))))))) else (fl_lt (fl_iadd a1_0 1) (fun x81 => if x10 < a0_1 then ((x81, a1_1, x10, a1_3, a1_4, fa1_5, fa1_6)) else (fl_lt (Ff_X0_next a1_1 a0_0 a0_5 a0_6) (fun r103 => fl_c2 (Ff_X5_startTurn r103) (fun v106na0_1 v106na0_2 => (x81, v106na0_1, v106na0_2, a1_3, a1_4, fa1_5, fa1_6))))))))))))))

def Ff_X8_hasBit (a1 : Int) (a2 : Int) : Int :=
  fl_lt (fl_shr a1 a2) (fun x2 => fl_lt (fl_and x2 1) (fun x4 => if x4 = 1 then (1) else (0)))

def Sf_X8_watchAsTold_2_1 (fa0_15 : (Nat → Int)) (j2l1 : Int) (j2a0_23_a : (Nat → Int)) (j2a0_24_a : (Nat → Int)) : Sum (Int × (Nat → Int) × (Nat → Int)) (Int × (Nat → Int) × (Nat → Int)) :=
  fl_lt (fa0_15 (5)) (fun x8 => if x8 ≤ j2l1 then (Sum.inr ((0, j2a0_23_a, j2a0_24_a))) else (fl_lt (2 * j2l1) (fun x25 => fl_lt (30 + x25) (fun x26 => fl_lt (fa0_15 (x26.toNat)) (fun x27 => fl_lt (fl_up j2a0_23_a (j2l1.toNat) x27) (fun f28 => fl_lt (x26 + 1) (fun x45 => fl_lt (fa0_15 (x45.toNat)) (fun x46 => fl_lt (fl_up j2a0_24_a (j2l1.toNat) x46) (fun f47 => fl_lt (j2l1 + 1) (fun x48 => Sum.inl (x48, f28, f47)))))))))))
def Ff_X8_watchAsTold (fa0_15 : (Nat → Int)) (fa0_23 : (Nat → Int)) (fa0_24 : (Nat → Int)) : Int × (Nat → Int) × (Nat → Int) :=
  fl_wh (fun t9 => Sf_X8_watchAsTold_2_1 fa0_15 t9.1 t9.2.1 t9.2.2) (0, (fun _ => 0), (fun _ => 0)) 4 (0, fa0_23, fa0_24)

def Ff_X8_watcherAt (a1 : Int) (a2 : Int) (fa0_24 : (Nat → Int)) (fa0_23 : (Nat → Int)) : Int :=
  fl_lt (fa0_24 (a1.toNat)) (fun x5 => fl_lt (fa0_23 (a1.toNat)) (fun x11 => fl_lt (x5 - x11) (fun x12 => if 0 ≤ x12 then (if x12 = 0 then (x11) else (fl_lt (2 * x12) (fun x42 => fl_lt (fl_rem a2 x42) (fun x43 => if x43 ≤ x12 then (if 0 ≤ x12 then (fl_lt (x11 + x43) (fun x86 => x86)) else (0)) else (fl_lt (x42 - x43) (fun x59 => if 0 ≤ x12 then (fl_lt (x11 + x59) (fun x86 => x86)) else (0))))))) else (fl_lt (-x12) (fun x19 => if x19 = 0 then (0) else (fl_lt (2 * x19) (fun x42 => fl_lt (fl_rem a2 x42) (fun x43 => if x43 ≤ x19 then (if 0 ≤ x12 then (0) else (fl_lt (fl_isub x11 x43) (fun x74 => x74))) else (fl_lt (x42 - x43) (fun x59 => if 0 ≤ x12 then (0) else (fl_lt (fl_isub x11 x59) (fun x74 => x74))))))))))))

def Sf_X8_isWatched_15_1 (a1 : Int) (a2 : Int) (fa0_15 : (Nat → Int)) (fa0_24 : (Nat → Int)) (fa0_23 : (Nat → Int)) (j15l3 : Int) : Sum (Int) (Int) :=
  fl_lt (fa0_15 (5)) (fun x21 => if x21 ≤ j15l3 then (Sum.inr (0)) else (fl_lt (Ff_X8_watcherAt j15l3 a2 fa0_24 fa0_23) (fun r28 => if r28 = a1 then (Sum.inr (1)) else (fl_lt (j15l3 + 1) (fun x37 => Sum.inl x37)))))
def Ff_X8_isWatched (a1 : Int) (a2 : Int) (a0_25 : Int) (fa0_15 : (Nat → Int)) (fa0_24 : (Nat → Int)) (fa0_23 : (Nat → Int)) : Int :=
  fl_lt (Ff_X8_hasBit a0_25 a1) (fun r5 => if r5 = 1 then (1) else (fl_wh (Sf_X8_isWatched_15_1 a1 a2 fa0_15 fa0_24 fa0_23) 0 4 0))

def Ff_X8_nextOf (a1 : Int) (fa0_15 : (Nat → Int)) : Int :=
  fl_lt (fa0_15 (7)) (fun x6 => fl_lt (x6 * a1) (fun x8 => fl_lt (fa0_15 (8)) (fun x15 => fl_lt (x8 + x15) (fun x16 => fl_lt (fa0_15 (0)) (fun x22 => fl_lt (x16 % x22) (fun x23 => x23))))))

def Ff_X8_walkOn (a2 : Int) (a0_25 : Int) (fa1 : (Nat → Int)) (fa0_15 : (Nat → Int)) (fa0_24 : (Nat → Int)) (fa0_23 : (Nat → Int)) : (Nat → Int) :=
  fl_lt (fa1 (20)) (fun x3 => fl_lt (x3 + 1) (fun x5 => fl_lt (2 * a2) (fun x14 => fl_lt (12 + x14) (fun x15 => fl_lt (x15 + 1) (fun x17 => fl_lt (fa0_15 (x17.toNat)) (fun x18 => fl_lt (x5 % x18) (fun x19 => if x19 = 0 then (fl_lt (fa1 (a2.toNat)) (fun x27 => fl_lt (fa0_15 (2)) (fun x36 => if x36 ≤ x27 then (if x27 ≤ x36 then (fl_lt (x27 + 0) (fun x61 => fl_lt (fl_up fa1 (a2.toNat) x61) (fun f62 => fl_lt (f62 (a2.toNat)) (fun x66 => fl_lt (f62 (21)) (fun x70 => fl_lt (Ff_X8_isWatched x66 x70 a0_25 fa0_15 fa0_24 fa0_23) (fun r71 => if r71 = 1 then (fl_lt (fl_up f62 (a2.toNat) a2) (fun f80 => fl_lt (f80 (22)) (fun x85 => fl_lt (fl_iadd x85 1) (fun x87 => fl_lt (fl_up f80 (22) x87) (fun f88 => f88))))) else (if x66 = x36 then (fl_lt (f62 (18)) (fun x108 => fl_lt (fl_shl 1 a2) (fun x111 => fl_lt (fl_or x108 x111) (fun x112 => fl_lt (fl_up f62 (18) x112) (fun f113 => f113))))) else (f62)))))))) else (fl_lt (x27 + (-1)) (fun x61 => fl_lt (fl_up fa1 (a2.toNat) x61) (fun f62 => fl_lt (f62 (a2.toNat)) (fun x66 => fl_lt (f62 (21)) (fun x70 => fl_lt (Ff_X8_isWatched x66 x70 a0_25 fa0_15 fa0_24 fa0_23) (fun r71 => if r71 = 1 then (fl_lt (fl_up f62 (a2.toNat) a2) (fun f80 => fl_lt (f80 (22)) (fun x85 => fl_lt (fl_iadd x85 1) (fun x87 => fl_lt (fl_up f80 (22) x87) (fun f88 => f88))))) else (if x66 = x36 then (fl_lt (f62 (18)) (fun x108 => fl_lt (fl_shl 1 a2) (fun x111 => fl_lt (fl_or x108 x111) (fun x112 => fl_lt (fl_up f62 (18) x112) (fun f113 => f113))))) else (f62))))))))) else (fl_lt (x27 + 1) (fun x61 => fl_lt (fl_up fa1 (a2.toNat) x61) (fun f62 => fl_lt (f62 (a2.toNat)) (fun x66 => fl_lt (f62 (21)) (fun x70 => fl_lt (Ff_X8_isWatched x66 x70 a0_25 fa0_15 fa0_24 fa0_23) (fun r71 => if r71 = 1 then (fl_lt (fl_up f62 (a2.toNat) a2) (fun f80 => fl_lt (f80 (22)) (fun x85 => fl_lt (fl_iadd x85 1) (fun x87 => fl_lt (fl_up f80 (22) x87) (fun f88 => f88))))) else (if x66 = x36 then (fl_lt (f62 (18)) (fun x108 => fl_lt (fl_shl 1 a2) (fun x111 => fl_lt (fl_or x108 x111) (fun x112 => fl_lt (fl_up f62 (18) x112) (fun f113 => f113))))) else (f62))))))))))) else (fa1))))))))

def Gf_X8_speakOn_78_1 (j40l5 : Int) (j78s0 : Int) : Sum (Int × Int) (Int × (Nat → Int)) :=
  fl_lt (j40l5 + 1) (fun x80 => Sum.inl (x80, j78s0))
def Gf_X8_speakOn_73_1 (j40l5 : Int) : Sum (Int × Int) (Int × (Nat → Int)) :=
  Gf_X8_speakOn_78_1 j40l5 1
def Gf_X8_speakOn_77_1 (j40l5 : Int) : Sum (Int × Int) (Int × (Nat → Int)) :=
  Gf_X8_speakOn_78_1 j40l5 0
def Sf_X8_speakOn_40_1 (a2 : Int) (a0_25 : Int) (fa1 : (Nat → Int)) (fa0_15 : (Nat → Int)) (fa0_24 : (Nat → Int)) (fa0_23 : (Nat → Int)) (x26 : Int) (j40l5 : Int) (j40l4 : Int) : Sum (Int × Int) (Int × (Nat → Int)) :=
  fl_lt (fa1 (a2.toNat)) (fun x44 => fl_lt (x44 + 1) (fun x46 => if x46 < j40l5 then (Sum.inr (if j40l4 = 0 then ((x26, fa1)) else (fl_lt (9 + a2) (fun x95 => fl_lt (fa1 (x95.toNat)) (fun x97 => fl_lt (fl_or x97 x26) (fun x102 => fl_lt (fl_up fa1 (x95.toNat) x102) (fun f103 => (x26, f103)))))))) else (if j40l4 = 0 then (if j40l5 < 0 then (Gf_X8_speakOn_77_1 j40l5) else (fl_lt (fa1 (21)) (fun x66 => fl_lt (Ff_X8_isWatched j40l5 x66 a0_25 fa0_15 fa0_24 fa0_23) (fun r67 => if r67 = 1 then (Gf_X8_speakOn_73_1 j40l5) else (Gf_X8_speakOn_77_1 j40l5))))) else (Gf_X8_speakOn_73_1 j40l5))))
def Ff_X8_speakOn (a2 : Int) (a0_25 : Int) (a0_28 : Int) (fa1 : (Nat → Int)) (fa0_15 : (Nat → Int)) (fa0_24 : (Nat → Int)) (fa0_23 : (Nat → Int)) : Int × (Nat → Int) :=
  fl_lt (fa1 (20)) (fun x3 => fl_lt (2 * a2) (fun x14 => fl_lt (12 + x14) (fun x15 => fl_lt (x15 + 1) (fun x17 => fl_lt (fa0_15 (x17.toNat)) (fun x18 => if x3 < x18 then (fl_lt (fl_shl 1 x3) (fun x26 => fl_lt (fa1 (a2.toNat)) (fun x35 => fl_lt (x35 - 1) (fun x37 => fl_wh (fun t9 => Sf_X8_speakOn_40_1 a2 a0_25 fa1 fa0_15 fa0_24 fa0_23 x26 t9.1 t9.2) (0, (fun _ => 0)) 12 (x37, 0))))) else ((a0_28, fa1)))))))

def Ff_X8_minuteOn (a0_25 : Int) (fa1 : (Nat → Int)) (fa0_15 : (Nat → Int)) (fa0_24 : (Nat → Int)) (fa0_23 : (Nat → Int)) : Int × Int × Int × (Nat → Int) :=
  fl_lt (fa1 (19)) (fun x3 => fl_lt (fa1 (18)) (fun x13 => fl_lt (Ff_X8_hasBit x13 x3) (fun r15 => if r15 = 1 then (fl_lt (Ff_X8_hasBit x13 x3) (fun r77 => if r77 = 1 then (fl_lt (fa1 (21)) (fun x97 => fl_lt (fl_iadd x97 1) (fun x99 => fl_lt (fl_up fa1 (21) x99) (fun f100 => fl_lt (f100 (20)) (fun x105 => fl_lt (x105 + 1) (fun x107 => fl_lt (fl_up f100 (20) x107) (fun f108 => fl_lt (fa0_15 (1)) (fun x118 => if x118 ≤ x107 then (fl_lt (fl_up f108 (20) 0) (fun f127 => fl_lt (Ff_X8_nextOf x3 fa0_15) (fun r133 => fl_lt (fl_up f127 (19) r133) (fun f136 => (x3, (-1), 0, f136))))) else ((x3, (-1), 0, f108)))))))))) else (fl_lt (fa1 (x3.toNat)) (fun x89 => fl_lt (fa1 (21)) (fun x97 => fl_lt (fl_iadd x97 1) (fun x99 => fl_lt (fl_up fa1 (21) x99) (fun f100 => fl_lt (f100 (20)) (fun x105 => fl_lt (x105 + 1) (fun x107 => fl_lt (fl_up f100 (20) x107) (fun f108 => fl_lt (fa0_15 (1)) (fun x118 => if x118 ≤ x107 then (fl_lt (fl_up f108 (20) 0) (fun f127 => fl_lt (Ff_X8_nextOf x3 fa0_15) (fun r133 => fl_lt (fl_up f127 (19) r133) (fun f136 => (x3, x89, 0, f136))))) else ((x3, x89, 0, f108))))))))))))) else (fl_lt (2 * x3) (fun x29 => fl_lt (12 + x29) (fun x30 => fl_lt (fa0_15 (x30.toNat)) (fun x31 => if x31 = 1 then (fl_lt (Ff_X8_walkOn x3 a0_25 fa1 fa0_15 fa0_24 fa0_23) (fun v39nfa1 => fl_lt (v39nfa1 (18)) (fun x75 => fl_lt (Ff_X8_hasBit x75 x3) (fun r77 => if r77 = 1 then (fl_lt (v39nfa1 (21)) (fun x97 => fl_lt (fl_iadd x97 1) (fun x99 => fl_lt (fl_up v39nfa1 (21) x99) (fun f100 => fl_lt (f100 (20)) (fun x105 => fl_lt (x105 + 1) (fun x107 => fl_lt (fl_up f100 (20) x107) (fun f108 => fl_lt (fa0_15 (1)) (fun x118 => if x118 ≤ x107 then (fl_lt (fl_up f108 (20) 0) (fun f127 => fl_lt (Ff_X8_nextOf x3 fa0_15) (fun r133 => fl_lt (fl_up f127 (19) r133) (fun f136 => (x3, (-1), 0, f136))))) else ((x3, (-1), 0, f108)))))))))) else (fl_lt (v39nfa1 (x3.toNat)) (fun x89 => fl_lt (v39nfa1 (21)) (fun x97 => fl_lt (fl_iadd x97 1) (fun x99 => fl_lt (fl_up v39nfa1 (21) x99) (fun f100 => fl_lt (f100 (20)) (fun x105 => fl_lt (x105 + 1) (fun x107 => fl_lt (fl_up f100 (20) x107) (fun f108 => fl_lt (fa0_15 (1)) (fun x118 => if x118 ≤ x107 then (fl_lt (fl_up f108 (20) 0) (fun f127 => fl_lt (Ff_X8_nextOf x3 fa0_15) (fun r133 => fl_lt (fl_up f127 (19) r133) (fun f136 => (x3, x89, 0, f136))))) else ((x3, x89, 0, f108))))))))))))))) else (if x31 = 2 then (fl_c2 (Ff_X8_speakOn x3 a0_25 0 fa1 fa0_15 fa0_24 fa0_23) (fun v63na0_28 v63nfa1 => fl_lt (v63nfa1 (18)) (fun x75 => fl_lt (Ff_X8_hasBit x75 x3) (fun r77 => if r77 = 1 then (fl_lt (v63nfa1 (21)) (fun x97 => fl_lt (fl_iadd x97 1) (fun x99 => fl_lt (fl_up v63nfa1 (21) x99) (fun f100 => fl_lt (f100 (20)) (fun x105 => fl_lt (x105 + 1) (fun x107 => fl_lt (fl_up f100 (20) x107) (fun f108 => fl_lt (fa0_15 (1)) (fun x118 => if x118 ≤ x107 then (fl_lt (fl_up f108 (20) 0) (fun f127 => fl_lt (Ff_X8_nextOf x3 fa0_15) (fun r133 => fl_lt (fl_up f127 (19) r133) (fun f136 => (x3, (-1), v63na0_28, f136))))) else ((x3, (-1), v63na0_28, f108)))))))))) else (fl_lt (v63nfa1 (x3.toNat)) (fun x89 => fl_lt (v63nfa1 (21)) (fun x97 => fl_lt (fl_iadd x97 1) (fun x99 => fl_lt (fl_up v63nfa1 (21) x99) (fun f100 => fl_lt (f100 (20)) (fun x105 => fl_lt (x105 + 1) (fun x107 => fl_lt (fl_up f100 (20) x107) (fun f108 => fl_lt (fa0_15 (1)) (fun x118 => if x118 ≤ x107 then (fl_lt (fl_up f108 (20) 0) (fun f127 => fl_lt (Ff_X8_nextOf x3 fa0_15) (fun r133 => fl_lt (fl_up f127 (19) r133) (fun f136 => (x3, x89, v63na0_28, f136))))) else ((x3, x89, v63na0_28, f108))))))))))))))) else (fl_lt (Ff_X8_hasBit x13 x3) (fun r77 => if r77 = 1 then (fl_lt (fa1 (21)) (fun x97 => fl_lt (fl_iadd x97 1) (fun x99 => fl_lt (fl_up fa1 (21) x99) (fun f100 => fl_lt (f100 (20)) (fun x105 => fl_lt (x105 + 1) (fun x107 => fl_lt (fl_up f100 (20) x107) (fun f108 => fl_lt (fa0_15 (1)) (fun x118 => if x118 ≤ x107 then (fl_lt (fl_up f108 (20) 0) (fun f127 => fl_lt (Ff_X8_nextOf x3 fa0_15) (fun r133 => fl_lt (fl_up f127 (19) r133) (fun f136 => (x3, (-1), 0, f136))))) else ((x3, (-1), 0, f108)))))))))) else (fl_lt (fa1 (x3.toNat)) (fun x89 => fl_lt (fa1 (21)) (fun x97 => fl_lt (fl_iadd x97 1) (fun x99 => fl_lt (fl_up fa1 (21) x99) (fun f100 => fl_lt (f100 (20)) (fun x105 => fl_lt (x105 + 1) (fun x107 => fl_lt (fl_up f100 (20) x107) (fun f108 => fl_lt (fa0_15 (1)) (fun x118 => if x118 ≤ x107 then (fl_lt (fl_up f108 (20) 0) (fun f127 => fl_lt (Ff_X8_nextOf x3 fa0_15) (fun r133 => fl_lt (fl_up f127 (19) r133) (fun f136 => (x3, x89, 0, f136))))) else ((x3, x89, 0, f108)))))))))))))))))))))

def Sf_X5_copyFrom_42_1 (a1_0 : Int) (a1_1 : Int) (a1_2 : Int) (a1_3 : Int) (a1_4 : Int) (fa1_5 : (Nat → Int)) (fa1_6 : (Nat → Int)) (j42l2 : Int) (j42a0_5_a : (Nat → Int)) (j42a0_6_a : (Nat → Int)) : Sum (Int × (Nat → Int) × (Nat → Int)) (Int × Int × Int × Int × Int × (Nat → Int) × (Nat → Int)) :=
  if 9 ≤ j42l2 then (Sum.inr ((a1_0, a1_1, a1_2, a1_3, a1_4, j42a0_5_a, j42a0_6_a))) else (fl_lt (fa1_5 (j42l2.toNat)) (fun x58 => fl_lt (fl_up j42a0_5_a (j42l2.toNat) x58) (fun f59 => fl_lt (fa1_6 (j42l2.toNat)) (fun x70 => fl_lt (fl_up j42a0_6_a (j42l2.toNat) x70) (fun f71 => fl_lt (j42l2 + 1) (fun x72 => Sum.inl (x72, f59, f71)))))))
def Ff_X5_copyFrom (a1_0 : Int) (a1_1 : Int) (a1_2 : Int) (a1_3 : Int) (a1_4 : Int) (fa1_5 : (Nat → Int)) (fa0_5 : (Nat → Int)) (fa1_6 : (Nat → Int)) (fa0_6 : (Nat → Int)) : Int × Int × Int × Int × Int × (Nat → Int) × (Nat → Int) :=
  fl_wh (fun t9 => Sf_X5_copyFrom_42_1 a1_0 a1_1 a1_2 a1_3 a1_4 fa1_5 fa1_6 t9.1 t9.2.1 t9.2.2) (0, 0, 0, 0, 0, (fun _ => 0), (fun _ => 0)) 10 (0, fa0_5, fa0_6)

def Ff_X1_keep (a0_0 : Int) (a0_2 : Int) (gIa0_3 : (Nat → Int)) (a1_0 : Int) (a1_1 : Int) (a1_2 : Int) (a1_3 : Int) (a1_4 : Int) (fa1_5 : (Nat → Int)) (gFa0_3 : (Nat → Nat → Int)) (fa1_6 : (Nat → Int)) : Int × Int × (Nat → Int) × (Nat → Nat → Int) :=
  fl_lt (a0_2 + 1) (fun x6 => fl_lt (x6 % 16) (fun x9 => if x9 = 0 then (fl_c7 (Ff_X5_copyFrom a1_0 a1_1 a1_2 a1_3 a1_4 fa1_5 (gFa0_3 0) fa1_6 (gFa0_3 1)) (fun v23na0_0 v23na0_1 v23na0_2 v23na0_3 v23na0_4 v23nfa0_5 v23nfa0_6 => fl_lt (a0_0 + 1) (fun x32 => fl_lt (fl_min x32 16) (fun x35 => (x35, 0, (fl_nI [v23na0_0, v23na0_1, v23na0_2, v23na0_3, v23na0_4, (gIa0_3 5), (gIa0_3 6), (gIa0_3 7), (gIa0_3 8), (gIa0_3 9), (gIa0_3 10), (gIa0_3 11), (gIa0_3 12), (gIa0_3 13), (gIa0_3 14), (gIa0_3 15), (gIa0_3 16), (gIa0_3 17), (gIa0_3 18), (gIa0_3 19), (gIa0_3 20), (gIa0_3 21), (gIa0_3 22), (gIa0_3 23), (gIa0_3 24), (gIa0_3 25), (gIa0_3 26), (gIa0_3 27), (gIa0_3 28), (gIa0_3 29), (gIa0_3 30), (gIa0_3 31), (gIa0_3 32), (gIa0_3 33), (gIa0_3 34), (gIa0_3 35), (gIa0_3 36), (gIa0_3 37), (gIa0_3 38), (gIa0_3 39), (gIa0_3 40), (gIa0_3 41), (gIa0_3 42), (gIa0_3 43), (gIa0_3 44), (gIa0_3 45), (gIa0_3 46), (gIa0_3 47), (gIa0_3 48), (gIa0_3 49), (gIa0_3 50), (gIa0_3 51), (gIa0_3 52), (gIa0_3 53), (gIa0_3 54), (gIa0_3 55), (gIa0_3 56), (gIa0_3 57), (gIa0_3 58), (gIa0_3 59), (gIa0_3 60), (gIa0_3 61), (gIa0_3 62), (gIa0_3 63), (gIa0_3 64), (gIa0_3 65), (gIa0_3 66), (gIa0_3 67), (gIa0_3 68), (gIa0_3 69), (gIa0_3 70), (gIa0_3 71), (gIa0_3 72), (gIa0_3 73), (gIa0_3 74), (gIa0_3 75), (gIa0_3 76), (gIa0_3 77), (gIa0_3 78), (gIa0_3 79)]), (fl_nF [v23nfa0_5, v23nfa0_6, (gFa0_3 2), (gFa0_3 3), (gFa0_3 4), (gFa0_3 5), (gFa0_3 6), (gFa0_3 7), (gFa0_3 8), (gFa0_3 9), (gFa0_3 10), (gFa0_3 11), (gFa0_3 12), (gFa0_3 13), (gFa0_3 14), (gFa0_3 15), (gFa0_3 16), (gFa0_3 17), (gFa0_3 18), (gFa0_3 19), (gFa0_3 20), (gFa0_3 21), (gFa0_3 22), (gFa0_3 23), (gFa0_3 24), (gFa0_3 25), (gFa0_3 26), (gFa0_3 27), (gFa0_3 28), (gFa0_3 29), (gFa0_3 30), (gFa0_3 31)])))))) else (if x9 = 1 then (fl_c7 (Ff_X5_copyFrom a1_0 a1_1 a1_2 a1_3 a1_4 fa1_5 (gFa0_3 2) fa1_6 (gFa0_3 3)) (fun v23na0_0 v23na0_1 v23na0_2 v23na0_3 v23na0_4 v23nfa0_5 v23nfa0_6 => fl_lt (a0_0 + 1) (fun x32 => fl_lt (fl_min x32 16) (fun x35 => (x35, 1, (fl_nI [(gIa0_3 0), (gIa0_3 1), (gIa0_3 2), (gIa0_3 3), (gIa0_3 4), v23na0_0, v23na0_1, v23na0_2, v23na0_3, v23na0_4, (gIa0_3 10), (gIa0_3 11), (gIa0_3 12), (gIa0_3 13), (gIa0_3 14), (gIa0_3 15), (gIa0_3 16), (gIa0_3 17), (gIa0_3 18), (gIa0_3 19), (gIa0_3 20), (gIa0_3 21), (gIa0_3 22), (gIa0_3 23), (gIa0_3 24), (gIa0_3 25), (gIa0_3 26), (gIa0_3 27), (gIa0_3 28), (gIa0_3 29), (gIa0_3 30), (gIa0_3 31), (gIa0_3 32), (gIa0_3 33), (gIa0_3 34), (gIa0_3 35), (gIa0_3 36), (gIa0_3 37), (gIa0_3 38), (gIa0_3 39), (gIa0_3 40), (gIa0_3 41), (gIa0_3 42), (gIa0_3 43), (gIa0_3 44), (gIa0_3 45), (gIa0_3 46), (gIa0_3 47), (gIa0_3 48), (gIa0_3 49), (gIa0_3 50), (gIa0_3 51), (gIa0_3 52), (gIa0_3 53), (gIa0_3 54), (gIa0_3 55), (gIa0_3 56), (gIa0_3 57), (gIa0_3 58), (gIa0_3 59), (gIa0_3 60), (gIa0_3 61), (gIa0_3 62), (gIa0_3 63), (gIa0_3 64), (gIa0_3 65), (gIa0_3 66), (gIa0_3 67), (gIa0_3 68), (gIa0_3 69), (gIa0_3 70), (gIa0_3 71), (gIa0_3 72), (gIa0_3 73), (gIa0_3 74), (gIa0_3 75), (gIa0_3 76), (gIa0_3 77), (gIa0_3 78), (gIa0_3 79)]), (fl_nF [(gFa0_3 0), (gFa0_3 1), v23nfa0_5, v23nfa0_6, (gFa0_3 4), (gFa0_3 5), (gFa0_3 6), (gFa0_3 7), (gFa0_3 8), (gFa0_3 9), (gFa0_3 10), (gFa0_3 11), (gFa0_3 12), (gFa0_3 13), (gFa0_3 14), (gFa0_3 15), (gFa0_3 16), (gFa0_3 17), (gFa0_3 18), (gFa0_3 19), (gFa0_3 20), (gFa0_3 21), (gFa0_3 22), (gFa0_3 23), (gFa0_3 24), (gFa0_3 25), (gFa0_3 26), (gFa0_3 27), (gFa0_3 28), (gFa0_3 29), (gFa0_3 30), (gFa0_3 31)])))))) else (if x9 = 2 then (fl_c7 (Ff_X5_copyFrom a1_0 a1_1 a1_2 a1_3 a1_4 fa1_5 (gFa0_3 4) fa1_6 (gFa0_3 5)) (fun v23na0_0 v23na0_1 v23na0_2 v23na0_3 v23na0_4 v23nfa0_5 v23nfa0_6 => fl_lt (a0_0 + 1) (fun x32 => fl_lt (fl_min x32 16) (fun x35 => (x35, 2, (fl_nI [(gIa0_3 0), (gIa0_3 1), (gIa0_3 2), (gIa0_3 3), (gIa0_3 4), (gIa0_3 5), (gIa0_3 6), (gIa0_3 7), (gIa0_3 8), (gIa0_3 9), v23na0_0, v23na0_1, v23na0_2, v23na0_3, v23na0_4, (gIa0_3 15), (gIa0_3 16), (gIa0_3 17), (gIa0_3 18), (gIa0_3 19), (gIa0_3 20), (gIa0_3 21), (gIa0_3 22), (gIa0_3 23), (gIa0_3 24), (gIa0_3 25), (gIa0_3 26), (gIa0_3 27), (gIa0_3 28), (gIa0_3 29), (gIa0_3 30), (gIa0_3 31), (gIa0_3 32), (gIa0_3 33), (gIa0_3 34), (gIa0_3 35), (gIa0_3 36), (gIa0_3 37), (gIa0_3 38), (gIa0_3 39), (gIa0_3 40), (gIa0_3 41), (gIa0_3 42), (gIa0_3 43), (gIa0_3 44), (gIa0_3 45), (gIa0_3 46), (gIa0_3 47), (gIa0_3 48), (gIa0_3 49), (gIa0_3 50), (gIa0_3 51), (gIa0_3 52), (gIa0_3 53), (gIa0_3 54), (gIa0_3 55), (gIa0_3 56), (gIa0_3 57), (gIa0_3 58), (gIa0_3 59), (gIa0_3 60), (gIa0_3 61), (gIa0_3 62), (gIa0_3 63), (gIa0_3 64), (gIa0_3 65), (gIa0_3 66), (gIa0_3 67), (gIa0_3 68), (gIa0_3 69), (gIa0_3 70), (gIa0_3 71), (gIa0_3 72), (gIa0_3 73), (gIa0_3 74), (gIa0_3 75), (gIa0_3 76), (gIa0_3 77), (gIa0_3 78), (gIa0_3 79)]), (fl_nF [(gFa0_3 0), (gFa0_3 1), (gFa0_3 2), (gFa0_3 3), v23nfa0_5, v23nfa0_6, (gFa0_3 6), (gFa0_3 7), (gFa0_3 8), (gFa0_3 9), (gFa0_3 10), (gFa0_3 11), (gFa0_3 12), (gFa0_3 13), (gFa0_3 14), (gFa0_3 15), (gFa0_3 16), (gFa0_3 17), (gFa0_3 18), (gFa0_3 19), (gFa0_3 20), (gFa0_3 21), (gFa0_3 22), (gFa0_3 23), (gFa0_3 24), (gFa0_3 25), (gFa0_3 26), (gFa0_3 27), (gFa0_3 28), (gFa0_3 29), (gFa0_3 30), (gFa0_3 31)])))))) else (if x9 = 3 then (fl_c7 (Ff_X5_copyFrom a1_0 a1_1 a1_2 a1_3 a1_4 fa1_5 (gFa0_3 6) fa1_6 (gFa0_3 7)) (fun v23na0_0 v23na0_1 v23na0_2 v23na0_3 v23na0_4 v23nfa0_5 v23nfa0_6 => fl_lt (a0_0 + 1) (fun x32 => fl_lt (fl_min x32 16) (fun x35 => (x35, 3, (fl_nI [(gIa0_3 0), (gIa0_3 1), (gIa0_3 2), (gIa0_3 3), (gIa0_3 4), (gIa0_3 5), (gIa0_3 6), (gIa0_3 7), (gIa0_3 8), (gIa0_3 9), (gIa0_3 10), (gIa0_3 11), (gIa0_3 12), (gIa0_3 13), (gIa0_3 14), v23na0_0, v23na0_1, v23na0_2, v23na0_3, v23na0_4, (gIa0_3 20), (gIa0_3 21), (gIa0_3 22), (gIa0_3 23), (gIa0_3 24), (gIa0_3 25), (gIa0_3 26), (gIa0_3 27), (gIa0_3 28), (gIa0_3 29), (gIa0_3 30), (gIa0_3 31), (gIa0_3 32), (gIa0_3 33), (gIa0_3 34), (gIa0_3 35), (gIa0_3 36), (gIa0_3 37), (gIa0_3 38), (gIa0_3 39), (gIa0_3 40), (gIa0_3 41), (gIa0_3 42), (gIa0_3 43), (gIa0_3 44), (gIa0_3 45), (gIa0_3 46), (gIa0_3 47), (gIa0_3 48), (gIa0_3 49), (gIa0_3 50), (gIa0_3 51), (gIa0_3 52), (gIa0_3 53), (gIa0_3 54), (gIa0_3 55), (gIa0_3 56), (gIa0_3 57), (gIa0_3 58), (gIa0_3 59), (gIa0_3 60), (gIa0_3 61), (gIa0_3 62), (gIa0_3 63), (gIa0_3 64), (gIa0_3 65), (gIa0_3 66), (gIa0_3 67), (gIa0_3 68), (gIa0_3 69), (gIa0_3 70), (gIa0_3 71), (gIa0_3 72), (gIa0_3 73), (gIa0_3 74), (gIa0_3 75), (gIa0_3 76), (gIa0_3 77), (gIa0_3 78), (gIa0_3 79)]), (fl_nF [(gFa0_3 0), (gFa0_3 1), (gFa0_3 2), (gFa0_3 3), (gFa0_3 4), (gFa0_3 5), v23nfa0_5, v23nfa0_6, (gFa0_3 8), (gFa0_3 9), (gFa0_3 10), (gFa0_3 11), (gFa0_3 12), (gFa0_3 13), (gFa0_3 14), (gFa0_3 15), (gFa0_3 16), (gFa0_3 17), (gFa0_3 18), (gFa0_3 19), (gFa0_3 20), (gFa0_3 21), (gFa0_3 22), (gFa0_3 23), (gFa0_3 24), (gFa0_3 25), (gFa0_3 26), (gFa0_3 27), (gFa0_3 28), (gFa0_3 29), (gFa0_3 30), (gFa0_3 31)])))))) else (if x9 = 4 then (fl_c7 (Ff_X5_copyFrom a1_0 a1_1 a1_2 a1_3 a1_4 fa1_5 (gFa0_3 8) fa1_6 (gFa0_3 9)) (fun v23na0_0 v23na0_1 v23na0_2 v23na0_3 v23na0_4 v23nfa0_5 v23nfa0_6 => fl_lt (a0_0 + 1) (fun x32 => fl_lt (fl_min x32 16) (fun x35 => (x35, 4, (fl_nI [(gIa0_3 0), (gIa0_3 1), (gIa0_3 2), (gIa0_3 3), (gIa0_3 4), (gIa0_3 5), (gIa0_3 6), (gIa0_3 7), (gIa0_3 8), (gIa0_3 9), (gIa0_3 10), (gIa0_3 11), (gIa0_3 12), (gIa0_3 13), (gIa0_3 14), (gIa0_3 15), (gIa0_3 16), (gIa0_3 17), (gIa0_3 18), (gIa0_3 19), v23na0_0, v23na0_1, v23na0_2, v23na0_3, v23na0_4, (gIa0_3 25), (gIa0_3 26), (gIa0_3 27), (gIa0_3 28), (gIa0_3 29), (gIa0_3 30), (gIa0_3 31), (gIa0_3 32), (gIa0_3 33), (gIa0_3 34), (gIa0_3 35), (gIa0_3 36), (gIa0_3 37), (gIa0_3 38), (gIa0_3 39), (gIa0_3 40), (gIa0_3 41), (gIa0_3 42), (gIa0_3 43), (gIa0_3 44), (gIa0_3 45), (gIa0_3 46), (gIa0_3 47), (gIa0_3 48), (gIa0_3 49), (gIa0_3 50), (gIa0_3 51), (gIa0_3 52), (gIa0_3 53), (gIa0_3 54), (gIa0_3 55), (gIa0_3 56), (gIa0_3 57), (gIa0_3 58), (gIa0_3 59), (gIa0_3 60), (gIa0_3 61), (gIa0_3 62), (gIa0_3 63), (gIa0_3 64), (gIa0_3 65), (gIa0_3 66), (gIa0_3 67), (gIa0_3 68), (gIa0_3 69), (gIa0_3 70), (gIa0_3 71), (gIa0_3 72), (gIa0_3 73), (gIa0_3 74), (gIa0_3 75), (gIa0_3 76), (gIa0_3 77), (gIa0_3 78), (gIa0_3 79)]), (fl_nF [(gFa0_3 0), (gFa0_3 1), (gFa0_3 2), (gFa0_3 3), (gFa0_3 4), (gFa0_3 5), (gFa0_3 6), (gFa0_3 7), v23nfa0_5, v23nfa0_6, (gFa0_3 10), (gFa0_3 11), (gFa0_3 12), (gFa0_3 13), (gFa0_3 14), (gFa0_3 15), (gFa0_3 16), (gFa0_3 17), (gFa0_3 18), (gFa0_3 19), (gFa0_3 20), (gFa0_3 21), (gFa0_3 22), (gFa0_3 23), (gFa0_3 24), (gFa0_3 25), (gFa0_3 26), (gFa0_3 27), (gFa0_3 28), (gFa0_3 29), (gFa0_3 30), (gFa0_3 31)])))))) else (if x9 = 5 then (fl_c7 (Ff_X5_copyFrom a1_0 a1_1 a1_2 a1_3 a1_4 fa1_5 (gFa0_3 10) fa1_6 (gFa0_3 11)) (fun v23na0_0 v23na0_1 v23na0_2 v23na0_3 v23na0_4 v23nfa0_5 v23nfa0_6 => fl_lt (a0_0 + 1) (fun x32 => fl_lt (fl_min x32 16) (fun x35 => (x35, 5, (fl_nI [(gIa0_3 0), (gIa0_3 1), (gIa0_3 2), (gIa0_3 3), (gIa0_3 4), (gIa0_3 5), (gIa0_3 6), (gIa0_3 7), (gIa0_3 8), (gIa0_3 9), (gIa0_3 10), (gIa0_3 11), (gIa0_3 12), (gIa0_3 13), (gIa0_3 14), (gIa0_3 15), (gIa0_3 16), (gIa0_3 17), (gIa0_3 18), (gIa0_3 19), (gIa0_3 20), (gIa0_3 21), (gIa0_3 22), (gIa0_3 23), (gIa0_3 24), v23na0_0, v23na0_1, v23na0_2, v23na0_3, v23na0_4, (gIa0_3 30), (gIa0_3 31), (gIa0_3 32), (gIa0_3 33), (gIa0_3 34), (gIa0_3 35), (gIa0_3 36), (gIa0_3 37), (gIa0_3 38), (gIa0_3 39), (gIa0_3 40), (gIa0_3 41), (gIa0_3 42), (gIa0_3 43), (gIa0_3 44), (gIa0_3 45), (gIa0_3 46), (gIa0_3 47), (gIa0_3 48), (gIa0_3 49), (gIa0_3 50), (gIa0_3 51), (gIa0_3 52), (gIa0_3 53), (gIa0_3 54), (gIa0_3 55), (gIa0_3 56), (gIa0_3 57), (gIa0_3 58), (gIa0_3 59), (gIa0_3 60), (gIa0_3 61), (gIa0_3 62), (gIa0_3 63), (gIa0_3 64), (gIa0_3 65), (gIa0_3 66), (gIa0_3 67), (gIa0_3 68), (gIa0_3 69), (gIa0_3 70), (gIa0_3 71), (gIa0_3 72), (gIa0_3 73), (gIa0_3 74), (gIa0_3 75), (gIa0_3 76), (gIa0_3 77), (gIa0_3 78), (gIa0_3 79)]), (fl_nF [(gFa0_3 0), (gFa0_3 1), (gFa0_3 2), (gFa0_3 3), (gFa0_3 4), (gFa0_3 5), (gFa0_3 6), (gFa0_3 7), (gFa0_3 8), (gFa0_3 9), v23nfa0_5, v23nfa0_6, (gFa0_3 12), (gFa0_3 13), (gFa0_3 14), (gFa0_3 15), (gFa0_3 16), (gFa0_3 17), (gFa0_3 18), (gFa0_3 19), (gFa0_3 20), (gFa0_3 21), (gFa0_3 22), (gFa0_3 23), (gFa0_3 24), (gFa0_3 25), (gFa0_3 26), (gFa0_3 27), (gFa0_3 28), (gFa0_3 29), (gFa0_3 30), (gFa0_3 31)])))))) else (if x9 = 6 then (fl_c7 (Ff_X5_copyFrom a1_0 a1_1 a1_2 a1_3 a1_4 fa1_5 (gFa0_3 12) fa1_6 (gFa0_3 13)) (fun v23na0_0 v23na0_1 v23na0_2 v23na0_3 v23na0_4 v23nfa0_5 v23nfa0_6 => fl_lt (a0_0 + 1) (fun x32 => fl_lt (fl_min x32 16) (fun x35 => (x35, 6, (fl_nI [(gIa0_3 0), (gIa0_3 1), (gIa0_3 2), (gIa0_3 3), (gIa0_3 4), (gIa0_3 5), (gIa0_3 6), (gIa0_3 7), (gIa0_3 8), (gIa0_3 9), (gIa0_3 10), (gIa0_3 11), (gIa0_3 12), (gIa0_3 13), (gIa0_3 14), (gIa0_3 15), (gIa0_3 16), (gIa0_3 17), (gIa0_3 18), (gIa0_3 19), (gIa0_3 20), (gIa0_3 21), (gIa0_3 22), (gIa0_3 23), (gIa0_3 24), (gIa0_3 25), (gIa0_3 26), (gIa0_3 27), (gIa0_3 28), (gIa0_3 29), v23na0_0, v23na0_1, v23na0_2, v23na0_3, v23na0_4, (gIa0_3 35), (gIa0_3 36), (gIa0_3 37), (gIa0_3 38), (gIa0_3 39), (gIa0_3 40), (gIa0_3 41), (gIa0_3 42), (gIa0_3 43), (gIa0_3 44), (gIa0_3 45), (gIa0_3 46), (gIa0_3 47), (gIa0_3 48), (gIa0_3 49), (gIa0_3 50), (gIa0_3 51), (gIa0_3 52), (gIa0_3 53), (gIa0_3 54), (gIa0_3 55), (gIa0_3 56), (gIa0_3 57), (gIa0_3 58), (gIa0_3 59), (gIa0_3 60), (gIa0_3 61), (gIa0_3 62), (gIa0_3 63), (gIa0_3 64), (gIa0_3 65), (gIa0_3 66), (gIa0_3 67), (gIa0_3 68), (gIa0_3 69), (gIa0_3 70), (gIa0_3 71), (gIa0_3 72), (gIa0_3 73), (gIa0_3 74), (gIa0_3 75), (gIa0_3 76), (gIa0_3 77), (gIa0_3 78), (gIa0_3 79)]), (fl_nF [(gFa0_3 0), (gFa0_3 1), (gFa0_3 2), (gFa0_3 3), (gFa0_3 4), (gFa0_3 5), (gFa0_3 6), (gFa0_3 7), (gFa0_3 8), (gFa0_3 9), (gFa0_3 10), (gFa0_3 11), v23nfa0_5, v23nfa0_6, (gFa0_3 14), (gFa0_3 15), (gFa0_3 16), (gFa0_3 17), (gFa0_3 18), (gFa0_3 19), (gFa0_3 20), (gFa0_3 21), (gFa0_3 22), (gFa0_3 23), (gFa0_3 24), (gFa0_3 25), (gFa0_3 26), (gFa0_3 27), (gFa0_3 28), (gFa0_3 29), (gFa0_3 30), (gFa0_3 31)])))))) else (if x9 = 7 then (fl_c7 (Ff_X5_copyFrom a1_0 a1_1 a1_2 a1_3 a1_4 fa1_5 (gFa0_3 14) fa1_6 (gFa0_3 15)) (fun v23na0_0 v23na0_1 v23na0_2 v23na0_3 v23na0_4 v23nfa0_5 v23nfa0_6 => fl_lt (a0_0 + 1) (fun x32 => fl_lt (fl_min x32 16) (fun x35 => (x35, 7, (fl_nI [(gIa0_3 0), (gIa0_3 1), (gIa0_3 2), (gIa0_3 3), (gIa0_3 4), (gIa0_3 5), (gIa0_3 6), (gIa0_3 7), (gIa0_3 8), (gIa0_3 9), (gIa0_3 10), (gIa0_3 11), (gIa0_3 12), (gIa0_3 13), (gIa0_3 14), (gIa0_3 15), (gIa0_3 16), (gIa0_3 17), (gIa0_3 18), (gIa0_3 19), (gIa0_3 20), (gIa0_3 21), (gIa0_3 22), (gIa0_3 23), (gIa0_3 24), (gIa0_3 25), (gIa0_3 26), (gIa0_3 27), (gIa0_3 28), (gIa0_3 29), (gIa0_3 30), (gIa0_3 31), (gIa0_3 32), (gIa0_3 33), (gIa0_3 34), v23na0_0, v23na0_1, v23na0_2, v23na0_3, v23na0_4, (gIa0_3 40), (gIa0_3 41), (gIa0_3 42), (gIa0_3 43), (gIa0_3 44), (gIa0_3 45), (gIa0_3 46), (gIa0_3 47), (gIa0_3 48), (gIa0_3 49), (gIa0_3 50), (gIa0_3 51), (gIa0_3 52), (gIa0_3 53), (gIa0_3 54), (gIa0_3 55), (gIa0_3 56), (gIa0_3 57), (gIa0_3 58), (gIa0_3 59), (gIa0_3 60), (gIa0_3 61), (gIa0_3 62), (gIa0_3 63), (gIa0_3 64), (gIa0_3 65), (gIa0_3 66), (gIa0_3 67), (gIa0_3 68), (gIa0_3 69), (gIa0_3 70), (gIa0_3 71), (gIa0_3 72), (gIa0_3 73), (gIa0_3 74), (gIa0_3 75), (gIa0_3 76), (gIa0_3 77), (gIa0_3 78), (gIa0_3 79)]), (fl_nF [(gFa0_3 0), (gFa0_3 1), (gFa0_3 2), (gFa0_3 3), (gFa0_3 4), (gFa0_3 5), (gFa0_3 6), (gFa0_3 7), (gFa0_3 8), (gFa0_3 9), (gFa0_3 10), (gFa0_3 11), (gFa0_3 12), (gFa0_3 13), v23nfa0_5, v23nfa0_6, (gFa0_3 16), (gFa0_3 17), (gFa0_3 18), (gFa0_3 19), (gFa0_3 20), (gFa0_3 21), (gFa0_3 22), (gFa0_3 23), (gFa0_3 24), (gFa0_3 25), (gFa0_3 26), (gFa0_3 27), (gFa0_3 28), (gFa0_3 29), (gFa0_3 30), (gFa0_3 31)])))))) else (if x9 = 8 then (fl_c7 (Ff_X5_copyFrom a1_0 a1_1 a1_2 a1_3 a1_4 fa1_5 (gFa0_3 16) fa1_6 (gFa0_3 17)) (fun v23na0_0 v23na0_1 v23na0_2 v23na0_3 v23na0_4 v23nfa0_5 v23nfa0_6 => fl_lt (a0_0 + 1) (fun x32 => fl_lt (fl_min x32 16) (fun x35 => (x35, 8, (fl_nI [(gIa0_3 0), (gIa0_3 1), (gIa0_3 2), (gIa0_3 3), (gIa0_3 4), (gIa0_3 5), (gIa0_3 6), (gIa0_3 7), (gIa0_3 8), (gIa0_3 9), (gIa0_3 10), (gIa0_3 11), (gIa0_3 12), (gIa0_3 13), (gIa0_3 14), (gIa0_3 15), (gIa0_3 16), (gIa0_3 17), (gIa0_3 18), (gIa0_3 19), (gIa0_3 20), (gIa0_3 21), (gIa0_3 22), (gIa0_3 23), (gIa0_3 24), (gIa0_3 25), (gIa0_3 26), (gIa0_3 27), (gIa0_3 28), (gIa0_3 29), (gIa0_3 30), (gIa0_3 31), (gIa0_3 32), (gIa0_3 33), (gIa0_3 34), (gIa0_3 35), (gIa0_3 36), (gIa0_3 37), (gIa0_3 38), (gIa0_3 39), v23na0_0, v23na0_1, v23na0_2, v23na0_3, v23na0_4, (gIa0_3 45), (gIa0_3 46), (gIa0_3 47), (gIa0_3 48), (gIa0_3 49), (gIa0_3 50), (gIa0_3 51), (gIa0_3 52), (gIa0_3 53), (gIa0_3 54), (gIa0_3 55), (gIa0_3 56), (gIa0_3 57), (gIa0_3 58), (gIa0_3 59), (gIa0_3 60), (gIa0_3 61), (gIa0_3 62), (gIa0_3 63), (gIa0_3 64), (gIa0_3 65), (gIa0_3 66), (gIa0_3 67), (gIa0_3 68), (gIa0_3 69), (gIa0_3 70), (gIa0_3 71), (gIa0_3 72), (gIa0_3 73), (gIa0_3 74), (gIa0_3 75), (gIa0_3 76), (gIa0_3 77), (gIa0_3 78), (gIa0_3 79)]), (fl_nF [(gFa0_3 0), (gFa0_3 1), (gFa0_3 2), (gFa0_3 3), (gFa0_3 4), (gFa0_3 5), (gFa0_3 6), (gFa0_3 7), (gFa0_3 8), (gFa0_3 9), (gFa0_3 10), (gFa0_3 11), (gFa0_3 12), (gFa0_3 13), (gFa0_3 14), (gFa0_3 15), v23nfa0_5, v23nfa0_6, (gFa0_3 18), (gFa0_3 19), (gFa0_3 20), (gFa0_3 21), (gFa0_3 22), (gFa0_3 23), (gFa0_3 24), (gFa0_3 25), (gFa0_3 26), (gFa0_3 27), (gFa0_3 28), (gFa0_3 29), (gFa0_3 30), (gFa0_3 31)])))))) else (if x9 = 9 then (fl_c7 (Ff_X5_copyFrom a1_0 a1_1 a1_2 a1_3 a1_4 fa1_5 (gFa0_3 18) fa1_6 (gFa0_3 19)) (fun v23na0_0 v23na0_1 v23na0_2 v23na0_3 v23na0_4 v23nfa0_5 v23nfa0_6 => fl_lt (a0_0 + 1) (fun x32 => fl_lt (fl_min x32 16) (fun x35 => (x35, 9, (fl_nI [(gIa0_3 0), (gIa0_3 1), (gIa0_3 2), (gIa0_3 3), (gIa0_3 4), (gIa0_3 5), (gIa0_3 6), (gIa0_3 7), (gIa0_3 8), (gIa0_3 9), (gIa0_3 10), (gIa0_3 11), (gIa0_3 12), (gIa0_3 13), (gIa0_3 14), (gIa0_3 15), (gIa0_3 16), (gIa0_3 17), (gIa0_3 18), (gIa0_3 19), (gIa0_3 20), (gIa0_3 21), (gIa0_3 22), (gIa0_3 23), (gIa0_3 24), (gIa0_3 25), (gIa0_3 26), (gIa0_3 27), (gIa0_3 28), (gIa0_3 29), (gIa0_3 30), (gIa0_3 31), (gIa0_3 32), (gIa0_3 33), (gIa0_3 34), (gIa0_3 35), (gIa0_3 36), (gIa0_3 37), (gIa0_3 38), (gIa0_3 39), (gIa0_3 40), (gIa0_3 41), (gIa0_3 42), (gIa0_3 43), (gIa0_3 44), v23na0_0, v23na0_1, v23na0_2, v23na0_3, v23na0_4, (gIa0_3 50), (gIa0_3 51), (gIa0_3 52), (gIa0_3 53), (gIa0_3 54), (gIa0_3 55), (gIa0_3 56), (gIa0_3 57), (gIa0_3 58), (gIa0_3 59), (gIa0_3 60), (gIa0_3 61), (gIa0_3 62), (gIa0_3 63), (gIa0_3 64), (gIa0_3 65), (gIa0_3 66), (gIa0_3 67), (gIa0_3 68), (gIa0_3 69), (gIa0_3 70), (gIa0_3 71), (gIa0_3 72), (gIa0_3 73), (gIa0_3 74), (gIa0_3 75), (gIa0_3 76), (gIa0_3 77), (gIa0_3 78), (gIa0_3 79)]), (fl_nF [(gFa0_3 0), (gFa0_3 1), (gFa0_3 2), (gFa0_3 3), (gFa0_3 4), (gFa0_3 5), (gFa0_3 6), (gFa0_3 7), (gFa0_3 8), (gFa0_3 9), (gFa0_3 10), (gFa0_3 11), (gFa0_3 12), (gFa0_3 13), (gFa0_3 14), (gFa0_3 15), (gFa0_3 16), (gFa0_3 17), v23nfa0_5, v23nfa0_6, (gFa0_3 20), (gFa0_3 21), (gFa0_3 22), (gFa0_3 23), (gFa0_3 24), (gFa0_3 25), (gFa0_3 26), (gFa0_3 27), (gFa0_3 28), (gFa0_3 29), (gFa0_3 30), (gFa0_3 31)])))))) else (if x9 = 10 then (fl_c7 (Ff_X5_copyFrom a1_0 a1_1 a1_2 a1_3 a1_4 fa1_5 (gFa0_3 20) fa1_6 (gFa0_3 21)) (fun v23na0_0 v23na0_1 v23na0_2 v23na0_3 v23na0_4 v23nfa0_5 v23nfa0_6 => fl_lt (a0_0 + 1) (fun x32 => fl_lt (fl_min x32 16) (fun x35 => (x35, 10, (fl_nI [(gIa0_3 0), (gIa0_3 1), (gIa0_3 2), (gIa0_3 3), (gIa0_3 4), (gIa0_3 5), (gIa0_3 6), (gIa0_3 7), (gIa0_3 8), (gIa0_3 9), (gIa0_3 10), (gIa0_3 11), (gIa0_3 12), (gIa0_3 13), (gIa0_3 14), (gIa0_3 15), (gIa0_3 16), (gIa0_3 17), (gIa0_3 18), (gIa0_3 19), (gIa0_3 20), (gIa0_3 21), (gIa0_3 22), (gIa0_3 23), (gIa0_3 24), (gIa0_3 25), (gIa0_3 26), (gIa0_3 27), (gIa0_3 28), (gIa0_3 29), (gIa0_3 30), (gIa0_3 31), (gIa0_3 32), (gIa0_3 33), (gIa0_3 34), (gIa0_3 35), (gIa0_3 36), (gIa0_3 37), (gIa0_3 38), (gIa0_3 39), (gIa0_3 40), (gIa0_3 41), (gIa0_3 42), (gIa0_3 43), (gIa0_3 44), (gIa0_3 45), (gIa0_3 46), (gIa0_3 47), (gIa0_3 48), (gIa0_3 49), v23na0_0, v23na0_1, v23na0_2, v23na0_3, v23na0_4, (gIa0_3 55), (gIa0_3 56), (gIa0_3 57), (gIa0_3 58), (gIa0_3 59), (gIa0_3 60), (gIa0_3 61), (gIa0_3 62), (gIa0_3 63), (gIa0_3 64), (gIa0_3 65), (gIa0_3 66), (gIa0_3 67), (gIa0_3 68), (gIa0_3 69), (gIa0_3 70), (gIa0_3 71), (gIa0_3 72), (gIa0_3 73), (gIa0_3 74), (gIa0_3 75), (gIa0_3 76), (gIa0_3 77), (gIa0_3 78), (gIa0_3 79)]), (fl_nF [(gFa0_3 0), (gFa0_3 1), (gFa0_3 2), (gFa0_3 3), (gFa0_3 4), (gFa0_3 5), (gFa0_3 6), (gFa0_3 7), (gFa0_3 8), (gFa0_3 9), (gFa0_3 10), (gFa0_3 11), (gFa0_3 12), (gFa0_3 13), (gFa0_3 14), (gFa0_3 15), (gFa0_3 16), (gFa0_3 17), (gFa0_3 18), (gFa0_3 19), v23nfa0_5, v23nfa0_6, (gFa0_3 22), (gFa0_3 23), (gFa0_3 24), (gFa0_3 25), (gFa0_3 26), (gFa0_3 27), (gFa0_3 28), (gFa0_3 29), (gFa0_3 30), (gFa0_3 31)])))))) else (if x9 = 11 then (fl_c7 (Ff_X5_copyFrom a1_0 a1_1 a1_2 a1_3 a1_4 fa1_5 (gFa0_3 22) fa1_6 (gFa0_3 23)) (fun v23na0_0 v23na0_1 v23na0_2 v23na0_3 v23na0_4 v23nfa0_5 v23nfa0_6 => fl_lt (a0_0 + 1) (fun x32 => fl_lt (fl_min x32 16) (fun x35 => (x35, 11, (fl_nI [(gIa0_3 0), (gIa0_3 1), (gIa0_3 2), (gIa0_3 3), (gIa0_3 4), (gIa0_3 5), (gIa0_3 6), (gIa0_3 7), (gIa0_3 8), (gIa0_3 9), (gIa0_3 10), (gIa0_3 11), (gIa0_3 12), (gIa0_3 13), (gIa0_3 14), (gIa0_3 15), (gIa0_3 16), (gIa0_3 17), (gIa0_3 18), (gIa0_3 19), (gIa0_3 20), (gIa0_3 21), (gIa0_3 22), (gIa0_3 23), (gIa0_3 24), (gIa0_3 25), (gIa0_3 26), (gIa0_3 27), (gIa0_3 28), (gIa0_3 29), (gIa0_3 30), (gIa0_3 31), (gIa0_3 32), (gIa0_3 33), (gIa0_3 34), (gIa0_3 35), (gIa0_3 36), (gIa0_3 37), (gIa0_3 38), (gIa0_3 39), (gIa0_3 40), (gIa0_3 41), (gIa0_3 42), (gIa0_3 43), (gIa0_3 44), (gIa0_3 45), (gIa0_3 46), (gIa0_3 47), (gIa0_3 48), (gIa0_3 49), (gIa0_3 50), (gIa0_3 51), (gIa0_3 52), (gIa0_3 53), (gIa0_3 54), v23na0_0, v23na0_1, v23na0_2, v23na0_3, v23na0_4, (gIa0_3 60), (gIa0_3 61), (gIa0_3 62), (gIa0_3 63), (gIa0_3 64), (gIa0_3 65), (gIa0_3 66), (gIa0_3 67), (gIa0_3 68), (gIa0_3 69), (gIa0_3 70), (gIa0_3 71), (gIa0_3 72), (gIa0_3 73), (gIa0_3 74), (gIa0_3 75), (gIa0_3 76), (gIa0_3 77), (gIa0_3 78), (gIa0_3 79)]), (fl_nF [(gFa0_3 0), (gFa0_3 1), (gFa0_3 2), (gFa0_3 3), (gFa0_3 4), (gFa0_3 5), (gFa0_3 6), (gFa0_3 7), (gFa0_3 8), (gFa0_3 9), (gFa0_3 10), (gFa0_3 11), (gFa0_3 12), (gFa0_3 13), (gFa0_3 14), (gFa0_3 15), (gFa0_3 16), (gFa0_3 17), (gFa0_3 18), (gFa0_3 19), (gFa0_3 20), (gFa0_3 21), v23nfa0_5, v23nfa0_6, (gFa0_3 24), (gFa0_3 25), (gFa0_3 26), (gFa0_3 27), (gFa0_3 28), (gFa0_3 29), (gFa0_3 30), (gFa0_3 31)])))))) else (if x9 = 12 then (fl_c7 (Ff_X5_copyFrom a1_0 a1_1 a1_2 a1_3 a1_4 fa1_5 (gFa0_3 24) fa1_6 (gFa0_3 25)) (fun v23na0_0 v23na0_1 v23na0_2 v23na0_3 v23na0_4 v23nfa0_5 v23nfa0_6 => fl_lt (a0_0 + 1) (fun x32 => fl_lt (fl_min x32 16) (fun x35 => (x35, 12, (fl_nI [(gIa0_3 0), (gIa0_3 1), (gIa0_3 2), (gIa0_3 3), (gIa0_3 4), (gIa0_3 5), (gIa0_3 6), (gIa0_3 7), (gIa0_3 8), (gIa0_3 9), (gIa0_3 10), (gIa0_3 11), (gIa0_3 12), (gIa0_3 13), (gIa0_3 14), (gIa0_3 15), (gIa0_3 16), (gIa0_3 17), (gIa0_3 18), (gIa0_3 19), (gIa0_3 20), (gIa0_3 21), (gIa0_3 22), (gIa0_3 23), (gIa0_3 24), (gIa0_3 25), (gIa0_3 26), (gIa0_3 27), (gIa0_3 28), (gIa0_3 29), (gIa0_3 30), (gIa0_3 31), (gIa0_3 32), (gIa0_3 33), (gIa0_3 34), (gIa0_3 35), (gIa0_3 36), (gIa0_3 37), (gIa0_3 38), (gIa0_3 39), (gIa0_3 40), (gIa0_3 41), (gIa0_3 42), (gIa0_3 43), (gIa0_3 44), (gIa0_3 45), (gIa0_3 46), (gIa0_3 47), (gIa0_3 48), (gIa0_3 49), (gIa0_3 50), (gIa0_3 51), (gIa0_3 52), (gIa0_3 53), (gIa0_3 54), (gIa0_3 55), (gIa0_3 56), (gIa0_3 57), (gIa0_3 58), (gIa0_3 59), v23na0_0, v23na0_1, v23na0_2, v23na0_3, v23na0_4, (gIa0_3 65), (gIa0_3 66), (gIa0_3 67), (gIa0_3 68), (gIa0_3 69), (gIa0_3 70), (gIa0_3 71), (gIa0_3 72), (gIa0_3 73), (gIa0_3 74), (gIa0_3 75), (gIa0_3 76), (gIa0_3 77), (gIa0_3 78), (gIa0_3 79)]), (fl_nF [(gFa0_3 0), (gFa0_3 1), (gFa0_3 2), (gFa0_3 3), (gFa0_3 4), (gFa0_3 5), (gFa0_3 6), (gFa0_3 7), (gFa0_3 8), (gFa0_3 9), (gFa0_3 10), (gFa0_3 11), (gFa0_3 12), (gFa0_3 13), (gFa0_3 14), (gFa0_3 15), (gFa0_3 16), (gFa0_3 17), (gFa0_3 18), (gFa0_3 19), (gFa0_3 20), (gFa0_3 21), (gFa0_3 22), (gFa0_3 23), v23nfa0_5, v23nfa0_6, (gFa0_3 26), (gFa0_3 27), (gFa0_3 28), (gFa0_3 29), (gFa0_3 30), (gFa0_3 31)])))))) else (if x9 = 13 then (fl_c7 (Ff_X5_copyFrom a1_0 a1_1 a1_2 a1_3 a1_4 fa1_5 (gFa0_3 26) fa1_6 (gFa0_3 27)) (fun v23na0_0 v23na0_1 v23na0_2 v23na0_3 v23na0_4 v23nfa0_5 v23nfa0_6 => fl_lt (a0_0 + 1) (fun x32 => fl_lt (fl_min x32 16) (fun x35 => (x35, 13, (fl_nI [(gIa0_3 0), (gIa0_3 1), (gIa0_3 2), (gIa0_3 3), (gIa0_3 4), (gIa0_3 5), (gIa0_3 6), (gIa0_3 7), (gIa0_3 8), (gIa0_3 9), (gIa0_3 10), (gIa0_3 11), (gIa0_3 12), (gIa0_3 13), (gIa0_3 14), (gIa0_3 15), (gIa0_3 16), (gIa0_3 17), (gIa0_3 18), (gIa0_3 19), (gIa0_3 20), (gIa0_3 21), (gIa0_3 22), (gIa0_3 23), (gIa0_3 24), (gIa0_3 25), (gIa0_3 26), (gIa0_3 27), (gIa0_3 28), (gIa0_3 29), (gIa0_3 30), (gIa0_3 31), (gIa0_3 32), (gIa0_3 33), (gIa0_3 34), (gIa0_3 35), (gIa0_3 36), (gIa0_3 37), (gIa0_3 38), (gIa0_3 39), (gIa0_3 40), (gIa0_3 41), (gIa0_3 42), (gIa0_3 43), (gIa0_3 44), (gIa0_3 45), (gIa0_3 46), (gIa0_3 47), (gIa0_3 48), (gIa0_3 49), (gIa0_3 50), (gIa0_3 51), (gIa0_3 52), (gIa0_3 53), (gIa0_3 54), (gIa0_3 55), (gIa0_3 56), (gIa0_3 57), (gIa0_3 58), (gIa0_3 59), (gIa0_3 60), (gIa0_3 61), (gIa0_3 62), (gIa0_3 63), (gIa0_3 64), v23na0_0, v23na0_1, v23na0_2, v23na0_3, v23na0_4, (gIa0_3 70), (gIa0_3 71), (gIa0_3 72), (gIa0_3 73), (gIa0_3 74), (gIa0_3 75), (gIa0_3 76), (gIa0_3 77), (gIa0_3 78), (gIa0_3 79)]), (fl_nF [(gFa0_3 0), (gFa0_3 1), (gFa0_3 2), (gFa0_3 3), (gFa0_3 4), (gFa0_3 5), (gFa0_3 6), (gFa0_3 7), (gFa0_3 8), (gFa0_3 9), (gFa0_3 10), (gFa0_3 11), (gFa0_3 12), (gFa0_3 13), (gFa0_3 14), (gFa0_3 15), (gFa0_3 16), (gFa0_3 17), (gFa0_3 18), (gFa0_3 19), (gFa0_3 20), (gFa0_3 21), (gFa0_3 22), (gFa0_3 23), (gFa0_3 24), (gFa0_3 25), v23nfa0_5, v23nfa0_6, (gFa0_3 28), (gFa0_3 29), (gFa0_3 30), (gFa0_3 31)])))))) else (if x9 = 14 then (fl_c7 (Ff_X5_copyFrom a1_0 a1_1 a1_2 a1_3 a1_4 fa1_5 (gFa0_3 28) fa1_6 (gFa0_3 29)) (fun v23na0_0 v23na0_1 v23na0_2 v23na0_3 v23na0_4 v23nfa0_5 v23nfa0_6 => fl_lt (a0_0 + 1) (fun x32 => fl_lt (fl_min x32 16) (fun x35 => (x35, 14, (fl_nI [(gIa0_3 0), (gIa0_3 1), (gIa0_3 2), (gIa0_3 3), (gIa0_3 4), (gIa0_3 5), (gIa0_3 6), (gIa0_3 7), (gIa0_3 8), (gIa0_3 9), (gIa0_3 10), (gIa0_3 11), (gIa0_3 12), (gIa0_3 13), (gIa0_3 14), (gIa0_3 15), (gIa0_3 16), (gIa0_3 17), (gIa0_3 18), (gIa0_3 19), (gIa0_3 20), (gIa0_3 21), (gIa0_3 22), (gIa0_3 23), (gIa0_3 24), (gIa0_3 25), (gIa0_3 26), (gIa0_3 27), (gIa0_3 28), (gIa0_3 29), (gIa0_3 30), (gIa0_3 31), (gIa0_3 32), (gIa0_3 33), (gIa0_3 34), (gIa0_3 35), (gIa0_3 36), (gIa0_3 37), (gIa0_3 38), (gIa0_3 39), (gIa0_3 40), (gIa0_3 41), (gIa0_3 42), (gIa0_3 43), (gIa0_3 44), (gIa0_3 45), (gIa0_3 46), (gIa0_3 47), (gIa0_3 48), (gIa0_3 49), (gIa0_3 50), (gIa0_3 51), (gIa0_3 52), (gIa0_3 53), (gIa0_3 54), (gIa0_3 55), (gIa0_3 56), (gIa0_3 57), (gIa0_3 58), (gIa0_3 59), (gIa0_3 60), (gIa0_3 61), (gIa0_3 62), (gIa0_3 63), (gIa0_3 64), (gIa0_3 65), (gIa0_3 66), (gIa0_3 67), (gIa0_3 68), (gIa0_3 69), v23na0_0, v23na0_1, v23na0_2, v23na0_3, v23na0_4, (gIa0_3 75), (gIa0_3 76), (gIa0_3 77), (gIa0_3 78), (gIa0_3 79)]), (fl_nF [(gFa0_3 0), (gFa0_3 1), (gFa0_3 2), (gFa0_3 3), (gFa0_3 4), (gFa0_3 5), (gFa0_3 6), (gFa0_3 7), (gFa0_3 8), (gFa0_3 9), (gFa0_3 10), (gFa0_3 11), (gFa0_3 12), (gFa0_3 13), (gFa0_3 14), (gFa0_3 15), (gFa0_3 16), (gFa0_3 17), (gFa0_3 18), (gFa0_3 19), (gFa0_3 20), (gFa0_3 21), (gFa0_3 22), (gFa0_3 23), (gFa0_3 24), (gFa0_3 25), (gFa0_3 26), (gFa0_3 27), v23nfa0_5, v23nfa0_6, (gFa0_3 30), (gFa0_3 31)])))))) else (fl_c7 (Ff_X5_copyFrom a1_0 a1_1 a1_2 a1_3 a1_4 fa1_5 (gFa0_3 30) fa1_6 (gFa0_3 31)) (fun v23na0_0 v23na0_1 v23na0_2 v23na0_3 v23na0_4 v23nfa0_5 v23nfa0_6 => fl_lt (a0_0 + 1) (fun x32 => fl_lt (fl_min x32 16) (fun x35 => (x35, 15, (fl_nI [(gIa0_3 0), (gIa0_3 1), (gIa0_3 2), (gIa0_3 3), (gIa0_3 4), (gIa0_3 5), (gIa0_3 6), (gIa0_3 7), (gIa0_3 8), (gIa0_3 9), (gIa0_3 10), (gIa0_3 11), (gIa0_3 12), (gIa0_3 13), (gIa0_3 14), (gIa0_3 15), (gIa0_3 16), (gIa0_3 17), (gIa0_3 18), (gIa0_3 19), (gIa0_3 20), (gIa0_3 21), (gIa0_3 22), (gIa0_3 23), (gIa0_3 24), (gIa0_3 25), (gIa0_3 26), (gIa0_3 27), (gIa0_3 28), (gIa0_3 29), (gIa0_3 30), (gIa0_3 31), (gIa0_3 32), (gIa0_3 33), (gIa0_3 34), (gIa0_3 35), (gIa0_3 36), (gIa0_3 37), (gIa0_3 38), (gIa0_3 39), (gIa0_3 40), (gIa0_3 41), (gIa0_3 42), (gIa0_3 43), (gIa0_3 44), (gIa0_3 45), (gIa0_3 46), (gIa0_3 47), (gIa0_3 48), (gIa0_3 49), (gIa0_3 50), (gIa0_3 51), (gIa0_3 52), (gIa0_3 53), (gIa0_3 54), (gIa0_3 55), (gIa0_3 56), (gIa0_3 57), (gIa0_3 58), (gIa0_3 59), (gIa0_3 60), (gIa0_3 61), (gIa0_3 62), (gIa0_3 63), (gIa0_3 64), (gIa0_3 65), (gIa0_3 66), (gIa0_3 67), (gIa0_3 68), (gIa0_3 69), (gIa0_3 70), (gIa0_3 71), (gIa0_3 72), (gIa0_3 73), (gIa0_3 74), v23na0_0, v23na0_1, v23na0_2, v23na0_3, v23na0_4]), (fl_nF [(gFa0_3 0), (gFa0_3 1), (gFa0_3 2), (gFa0_3 3), (gFa0_3 4), (gFa0_3 5), (gFa0_3 6), (gFa0_3 7), (gFa0_3 8), (gFa0_3 9), (gFa0_3 10), (gFa0_3 11), (gFa0_3 12), (gFa0_3 13), (gFa0_3 14), (gFa0_3 15), (gFa0_3 16), (gFa0_3 17), (gFa0_3 18), (gFa0_3 19), (gFa0_3 20), (gFa0_3 21), (gFa0_3 22), (gFa0_3 23), (gFa0_3 24), (gFa0_3 25), (gFa0_3 26), (gFa0_3 27), (gFa0_3 28), (gFa0_3 29), v23nfa0_5, v23nfa0_6]))))))))))))))))))))))

def Ff_X1_takeLatest (a0_0 : Int) (a0_2 : Int) (a1_0 : Int) (a1_1 : Int) (a1_2 : Int) (a1_3 : Int) (a1_4 : Int) (gIa0_3 : (Nat → Int)) (gFa0_3 : (Nat → Nat → Int)) (fa1_5 : (Nat → Int)) (fa1_6 : (Nat → Int)) : Int × Int × Int × Int × Int × Int × Int × Int × (Nat → Int) × (Nat → Int) :=
  if a0_0 = 0 then ((0, a0_0, a0_2, a1_0, a1_1, a1_2, a1_3, a1_4, fa1_5, fa1_6)) else (if a0_2 = 0 then (fl_c7 (Ff_X5_copyFrom (gIa0_3 0) (gIa0_3 1) (gIa0_3 2) (gIa0_3 3) (gIa0_3 4) (gFa0_3 0) fa1_5 (gFa0_3 1) fa1_6) (fun v19na0_0 v19na0_1 v19na0_2 v19na0_3 v19na0_4 v19nfa0_5 v19nfa0_6 => fl_lt (a0_0 - 1) (fun x44 => (1, x44, 15, v19na0_0, v19na0_1, v19na0_2, v19na0_3, v19na0_4, v19nfa0_5, v19nfa0_6)))) else (if a0_2 = 1 then (fl_c7 (Ff_X5_copyFrom (gIa0_3 5) (gIa0_3 6) (gIa0_3 7) (gIa0_3 8) (gIa0_3 9) (gFa0_3 2) fa1_5 (gFa0_3 3) fa1_6) (fun v19na0_0 v19na0_1 v19na0_2 v19na0_3 v19na0_4 v19nfa0_5 v19nfa0_6 => fl_lt (a0_0 - 1) (fun x44 => (1, x44, 0, v19na0_0, v19na0_1, v19na0_2, v19na0_3, v19na0_4, v19nfa0_5, v19nfa0_6)))) else (if a0_2 = 2 then (fl_c7 (Ff_X5_copyFrom (gIa0_3 10) (gIa0_3 11) (gIa0_3 12) (gIa0_3 13) (gIa0_3 14) (gFa0_3 4) fa1_5 (gFa0_3 5) fa1_6) (fun v19na0_0 v19na0_1 v19na0_2 v19na0_3 v19na0_4 v19nfa0_5 v19nfa0_6 => fl_lt (a0_0 - 1) (fun x44 => (1, x44, 1, v19na0_0, v19na0_1, v19na0_2, v19na0_3, v19na0_4, v19nfa0_5, v19nfa0_6)))) else (if a0_2 = 3 then (fl_c7 (Ff_X5_copyFrom (gIa0_3 15) (gIa0_3 16) (gIa0_3 17) (gIa0_3 18) (gIa0_3 19) (gFa0_3 6) fa1_5 (gFa0_3 7) fa1_6) (fun v19na0_0 v19na0_1 v19na0_2 v19na0_3 v19na0_4 v19nfa0_5 v19nfa0_6 => fl_lt (a0_0 - 1) (fun x44 => (1, x44, 2, v19na0_0, v19na0_1, v19na0_2, v19na0_3, v19na0_4, v19nfa0_5, v19nfa0_6)))) else (if a0_2 = 4 then (fl_c7 (Ff_X5_copyFrom (gIa0_3 20) (gIa0_3 21) (gIa0_3 22) (gIa0_3 23) (gIa0_3 24) (gFa0_3 8) fa1_5 (gFa0_3 9) fa1_6) (fun v19na0_0 v19na0_1 v19na0_2 v19na0_3 v19na0_4 v19nfa0_5 v19nfa0_6 => fl_lt (a0_0 - 1) (fun x44 => (1, x44, 3, v19na0_0, v19na0_1, v19na0_2, v19na0_3, v19na0_4, v19nfa0_5, v19nfa0_6)))) else (if a0_2 = 5 then (fl_c7 (Ff_X5_copyFrom (gIa0_3 25) (gIa0_3 26) (gIa0_3 27) (gIa0_3 28) (gIa0_3 29) (gFa0_3 10) fa1_5 (gFa0_3 11) fa1_6) (fun v19na0_0 v19na0_1 v19na0_2 v19na0_3 v19na0_4 v19nfa0_5 v19nfa0_6 => fl_lt (a0_0 - 1) (fun x44 => (1, x44, 4, v19na0_0, v19na0_1, v19na0_2, v19na0_3, v19na0_4, v19nfa0_5, v19nfa0_6)))) else (if a0_2 = 6 then (fl_c7 (Ff_X5_copyFrom (gIa0_3 30) (gIa0_3 31) (gIa0_3 32) (gIa0_3 33) (gIa0_3 34) (gFa0_3 12) fa1_5 (gFa0_3 13) fa1_6) (fun v19na0_0 v19na0_1 v19na0_2 v19na0_3 v19na0_4 v19nfa0_5 v19nfa0_6 => fl_lt (a0_0 - 1) (fun x44 => (1, x44, 5, v19na0_0, v19na0_1, v19na0_2, v19na0_3, v19na0_4, v19nfa0_5, v19nfa0_6)))) else (if a0_2 = 7 then (fl_c7 (Ff_X5_copyFrom (gIa0_3 35) (gIa0_3 36) (gIa0_3 37) (gIa0_3 38) (gIa0_3 39) (gFa0_3 14) fa1_5 (gFa0_3 15) fa1_6) (fun v19na0_0 v19na0_1 v19na0_2 v19na0_3 v19na0_4 v19nfa0_5 v19nfa0_6 => fl_lt (a0_0 - 1) (fun x44 => (1, x44, 6, v19na0_0, v19na0_1, v19na0_2, v19na0_3, v19na0_4, v19nfa0_5, v19nfa0_6)))) else (if a0_2 = 8 then (fl_c7 (Ff_X5_copyFrom (gIa0_3 40) (gIa0_3 41) (gIa0_3 42) (gIa0_3 43) (gIa0_3 44) (gFa0_3 16) fa1_5 (gFa0_3 17) fa1_6) (fun v19na0_0 v19na0_1 v19na0_2 v19na0_3 v19na0_4 v19nfa0_5 v19nfa0_6 => fl_lt (a0_0 - 1) (fun x44 => (1, x44, 7, v19na0_0, v19na0_1, v19na0_2, v19na0_3, v19na0_4, v19nfa0_5, v19nfa0_6)))) else (if a0_2 = 9 then (fl_c7 (Ff_X5_copyFrom (gIa0_3 45) (gIa0_3 46) (gIa0_3 47) (gIa0_3 48) (gIa0_3 49) (gFa0_3 18) fa1_5 (gFa0_3 19) fa1_6) (fun v19na0_0 v19na0_1 v19na0_2 v19na0_3 v19na0_4 v19nfa0_5 v19nfa0_6 => fl_lt (a0_0 - 1) (fun x44 => (1, x44, 8, v19na0_0, v19na0_1, v19na0_2, v19na0_3, v19na0_4, v19nfa0_5, v19nfa0_6)))) else (if a0_2 = 10 then (fl_c7 (Ff_X5_copyFrom (gIa0_3 50) (gIa0_3 51) (gIa0_3 52) (gIa0_3 53) (gIa0_3 54) (gFa0_3 20) fa1_5 (gFa0_3 21) fa1_6) (fun v19na0_0 v19na0_1 v19na0_2 v19na0_3 v19na0_4 v19nfa0_5 v19nfa0_6 => fl_lt (a0_0 - 1) (fun x44 => (1, x44, 9, v19na0_0, v19na0_1, v19na0_2, v19na0_3, v19na0_4, v19nfa0_5, v19nfa0_6)))) else (if a0_2 = 11 then (fl_c7 (Ff_X5_copyFrom (gIa0_3 55) (gIa0_3 56) (gIa0_3 57) (gIa0_3 58) (gIa0_3 59) (gFa0_3 22) fa1_5 (gFa0_3 23) fa1_6) (fun v19na0_0 v19na0_1 v19na0_2 v19na0_3 v19na0_4 v19nfa0_5 v19nfa0_6 => fl_lt (a0_0 - 1) (fun x44 => (1, x44, 10, v19na0_0, v19na0_1, v19na0_2, v19na0_3, v19na0_4, v19nfa0_5, v19nfa0_6)))) else (if a0_2 = 12 then (fl_c7 (Ff_X5_copyFrom (gIa0_3 60) (gIa0_3 61) (gIa0_3 62) (gIa0_3 63) (gIa0_3 64) (gFa0_3 24) fa1_5 (gFa0_3 25) fa1_6) (fun v19na0_0 v19na0_1 v19na0_2 v19na0_3 v19na0_4 v19nfa0_5 v19nfa0_6 => fl_lt (a0_0 - 1) (fun x44 => (1, x44, 11, v19na0_0, v19na0_1, v19na0_2, v19na0_3, v19na0_4, v19nfa0_5, v19nfa0_6)))) else (if a0_2 = 13 then (fl_c7 (Ff_X5_copyFrom (gIa0_3 65) (gIa0_3 66) (gIa0_3 67) (gIa0_3 68) (gIa0_3 69) (gFa0_3 26) fa1_5 (gFa0_3 27) fa1_6) (fun v19na0_0 v19na0_1 v19na0_2 v19na0_3 v19na0_4 v19nfa0_5 v19nfa0_6 => fl_lt (a0_0 - 1) (fun x44 => (1, x44, 12, v19na0_0, v19na0_1, v19na0_2, v19na0_3, v19na0_4, v19nfa0_5, v19nfa0_6)))) else (if a0_2 = 14 then (fl_c7 (Ff_X5_copyFrom (gIa0_3 70) (gIa0_3 71) (gIa0_3 72) (gIa0_3 73) (gIa0_3 74) (gFa0_3 28) fa1_5 (gFa0_3 29) fa1_6) (fun v19na0_0 v19na0_1 v19na0_2 v19na0_3 v19na0_4 v19nfa0_5 v19nfa0_6 => fl_lt (a0_0 - 1) (fun x44 => (1, x44, 13, v19na0_0, v19na0_1, v19na0_2, v19na0_3, v19na0_4, v19nfa0_5, v19nfa0_6)))) else (fl_c7 (Ff_X5_copyFrom (gIa0_3 75) (gIa0_3 76) (gIa0_3 77) (gIa0_3 78) (gIa0_3 79) (gFa0_3 30) fa1_5 (gFa0_3 31) fa1_6) (fun v19na0_0 v19na0_1 v19na0_2 v19na0_3 v19na0_4 v19nfa0_5 v19nfa0_6 => fl_lt (a0_0 - 1) (fun x44 => (1, x44, 14, v19na0_0, v19na0_1, v19na0_2, v19na0_3, v19na0_4, v19nfa0_5, v19nfa0_6)))))))))))))))))))

def Ff_X1_addImage (a0_1 : Int) (gIa0_4 : (Nat → Int)) (a1_0 : Int) (a1_1 : Int) (a1_2 : Int) (a1_3 : Int) (a1_4 : Int) (fa1_5 : (Nat → Int)) (gFa0_4 : (Nat → Nat → Int)) (fa1_6 : (Nat → Int)) : Int × Int × (Nat → Int) × (Nat → Nat → Int) :=
  if a0_1 < 3 then (if a0_1 = 0 then (fl_c7 (Ff_X5_copyFrom a1_0 a1_1 a1_2 a1_3 a1_4 fa1_5 (gFa0_4 0) fa1_6 (gFa0_4 1)) (fun v20na0_0 v20na0_1 v20na0_2 v20na0_3 v20na0_4 v20nfa0_5 v20nfa0_6 => (0, 1, (fl_nI [v20na0_0, v20na0_1, v20na0_2, v20na0_3, v20na0_4, (gIa0_4 5), (gIa0_4 6), (gIa0_4 7), (gIa0_4 8), (gIa0_4 9), (gIa0_4 10), (gIa0_4 11), (gIa0_4 12), (gIa0_4 13), (gIa0_4 14)]), (fl_nF [v20nfa0_5, v20nfa0_6, (gFa0_4 2), (gFa0_4 3), (gFa0_4 4), (gFa0_4 5)])))) else (if a0_1 = 1 then (fl_c7 (Ff_X5_copyFrom a1_0 a1_1 a1_2 a1_3 a1_4 fa1_5 (gFa0_4 2) fa1_6 (gFa0_4 3)) (fun v20na0_0 v20na0_1 v20na0_2 v20na0_3 v20na0_4 v20nfa0_5 v20nfa0_6 => (1, 2, (fl_nI [(gIa0_4 0), (gIa0_4 1), (gIa0_4 2), (gIa0_4 3), (gIa0_4 4), v20na0_0, v20na0_1, v20na0_2, v20na0_3, v20na0_4, (gIa0_4 10), (gIa0_4 11), (gIa0_4 12), (gIa0_4 13), (gIa0_4 14)]), (fl_nF [(gFa0_4 0), (gFa0_4 1), v20nfa0_5, v20nfa0_6, (gFa0_4 4), (gFa0_4 5)])))) else (fl_c7 (Ff_X5_copyFrom a1_0 a1_1 a1_2 a1_3 a1_4 fa1_5 (gFa0_4 4) fa1_6 (gFa0_4 5)) (fun v20na0_0 v20na0_1 v20na0_2 v20na0_3 v20na0_4 v20nfa0_5 v20nfa0_6 => (2, 3, (fl_nI [(gIa0_4 0), (gIa0_4 1), (gIa0_4 2), (gIa0_4 3), (gIa0_4 4), (gIa0_4 5), (gIa0_4 6), (gIa0_4 7), (gIa0_4 8), (gIa0_4 9), v20na0_0, v20na0_1, v20na0_2, v20na0_3, v20na0_4]), (fl_nF [(gFa0_4 0), (gFa0_4 1), (gFa0_4 2), (gFa0_4 3), v20nfa0_5, v20nfa0_6])))))) else (((-1), a0_1, gIa0_4, gFa0_4))

def Ff_X1_goBack (a1 : Int) (a0_0 : Int) (a0_1 : Int) (a2_0 : Int) (a2_1 : Int) (a2_2 : Int) (a2_3 : Int) (a2_4 : Int) (gIa0_4 : (Nat → Int)) (gFa0_4 : (Nat → Nat → Int)) (fa2_5 : (Nat → Int)) (fa2_6 : (Nat → Int)) : Int × Int × Int × Int × Int × Int × Int × (Nat → Int) × (Nat → Int) :=
  fl_lt (a0_1 - 1) (fun x7 => fl_lt (Ff_X7_within a1 0 x7) (fun r8 => if r8 = 1 then (if a1 = 0 then (fl_c7 (Ff_X5_copyFrom (gIa0_4 0) (gIa0_4 1) (gIa0_4 2) (gIa0_4 3) (gIa0_4 4) (gFa0_4 0) fa2_5 (gFa0_4 1) fa2_6) (fun v23na0_0 v23na0_1 v23na0_2 v23na0_3 v23na0_4 v23nfa0_5 v23nfa0_6 => (1, 0, v23na0_0, v23na0_1, v23na0_2, v23na0_3, v23na0_4, v23nfa0_5, v23nfa0_6))) else (if a1 = 1 then (fl_c7 (Ff_X5_copyFrom (gIa0_4 5) (gIa0_4 6) (gIa0_4 7) (gIa0_4 8) (gIa0_4 9) (gFa0_4 2) fa2_5 (gFa0_4 3) fa2_6) (fun v23na0_0 v23na0_1 v23na0_2 v23na0_3 v23na0_4 v23nfa0_5 v23nfa0_6 => (1, 0, v23na0_0, v23na0_1, v23na0_2, v23na0_3, v23na0_4, v23nfa0_5, v23nfa0_6))) else (fl_c7 (Ff_X5_copyFrom (gIa0_4 10) (gIa0_4 11) (gIa0_4 12) (gIa0_4 13) (gIa0_4 14) (gFa0_4 4) fa2_5 (gFa0_4 5) fa2_6) (fun v23na0_0 v23na0_1 v23na0_2 v23na0_3 v23na0_4 v23nfa0_5 v23nfa0_6 => (1, 0, v23na0_0, v23na0_1, v23na0_2, v23na0_3, v23na0_4, v23nfa0_5, v23nfa0_6))))) else ((0, a0_0, a2_0, a2_1, a2_2, a2_3, a2_4, fa2_5, fa2_6))))

def Ff_X7_isFigure (a1 : Int) (a0_7_0 : Int) : Int :=
  fl_lt (a0_7_0 - 1) (fun x10 => fl_lt (Ff_X7_within a1 0 x10) (fun r11 => if r11 = 1 then (1) else (0)))

def Ff_X7_hasGallery (a0_7_0 : Int) : Int :=
  if a0_7_0 ≤ 0 then (0) else (1)

def Ff_X7_troubleOfNumber (a1 : Int) (a2 : Int) (a3 : Int) (a0_7_0 : Int) : Int :=
  fl_lt (Ff_X7_hasGallery a0_7_0) (fun r1 => if r1 = 1 then (fl_lt (Ff_X7_within a1 a2 a3) (fun r12 => if r12 = 1 then (0) else (2))) else (1))

def Sf_X7_go_62_1 (a1 : Int) (a0_7_0 : Int) (a0_7_1 : Int) (a0_7_2 : Int) (a0_7_5 : Int) (a0_7_6 : Int) (a0_1_3 : Int) (fa0_7_10 : (Nat → Int)) (fa0_7_11 : (Nat → Int)) (a0_7_14_0 : Int) (a0_7_14_1 : Int) (fa0_7_14_3 : (Nat → Int)) (fa0_7_14_2 : (Nat → Int)) (v48na0_0 : Int) (v48na0_2 : Int) (v48ngIa0_3 : (Nat → Int)) (v48ngFa0_3 : (Nat → Nat → Int)) (j62l4 : Int) (j62a0_1_0 : Int) (j62a0_1_1 : Int) (j62a0_1_2 : Int) (j62a0_1_3 : Int) (j62a0_1_4 : Int) (j62a0_1_5_a : (Nat → Int)) (j62a0_1_6_a : (Nat → Int)) : Sum (Int × Int × Int × Int × Int × Int × (Nat → Int) × (Nat → Int)) (Int × Int × Int × Int × Int × Int × Int × Int × Int × (Nat → Int) × (Nat → Int) × (Nat → Nat → Int) × (Nat → Int)) :=
  if a1 ≤ j62l4 then (Sum.inr (fl_lt (fl_xor a0_1_3 (-1)) (fun x102 => fl_lt (fl_and j62a0_1_3 x102) (fun x103 => fl_c2 (Ff_X7_answered x103) (fun r104 v104na0_8 => (x103, v104na0_8, j62a0_1_0, j62a0_1_1, j62a0_1_2, j62a0_1_3, j62a0_1_4, v48na0_0, v48na0_2, v48ngIa0_3, j62a0_1_5_a, v48ngFa0_3, j62a0_1_6_a)))))) else (fl_c7 (Ff_X0_pass a0_7_0 a0_7_1 a0_7_2 a0_7_5 a0_7_6 j62a0_1_0 j62a0_1_1 j62a0_1_2 j62a0_1_3 j62a0_1_4 fa0_7_10 fa0_7_11 j62a0_1_5_a a0_7_14_0 a0_7_14_1 fa0_7_14_3 fa0_7_14_2 j62a0_1_6_a) (fun v83na1_0 v83na1_1 v83na1_2 v83na1_3 v83na1_4 v83nfa1_5 v83nfa1_6 => fl_lt (j62l4 + 1) (fun x86 => Sum.inl (x86, v83na1_0, v83na1_1, v83na1_2, v83na1_3, v83na1_4, v83nfa1_5, v83nfa1_6))))
def Ff_X7_go (a1 : Int) (a0_7_0 : Int) (a0_7_1 : Int) (a0_7_2 : Int) (a0_7_5 : Int) (a0_7_6 : Int) (a0_1_0 : Int) (a0_1_1 : Int) (a0_1_2 : Int) (a0_1_3 : Int) (a0_1_4 : Int) (a0_4_0 : Int) (a0_4_2 : Int) (gIa0_4_3 : (Nat → Int)) (fa0_1_5 : (Nat → Int)) (gFa0_4_3 : (Nat → Nat → Int)) (fa0_1_6 : (Nat → Int)) (fa0_7_10 : (Nat → Int)) (fa0_7_11 : (Nat → Int)) (a0_7_14_0 : Int) (a0_7_14_1 : Int) (fa0_7_14_3 : (Nat → Int)) (fa0_7_14_2 : (Nat → Int)) : Int × Int × Int × Int × Int × Int × Int × Int × Int × (Nat → Int) × (Nat → Int) × (Nat → Nat → Int) × (Nat → Int) :=
  fl_lt (Ff_X7_troubleOfNumber a1 1 60 a0_7_0) (fun r5 => if r5 = 0 then (fl_lt (fl_iadd a0_1_0 a1) (fun x27 => if x27 ≤ 9999 then (fl_c4 (Ff_X1_keep a0_4_0 a0_4_2 gIa0_4_3 a0_1_0 a0_1_1 a0_1_2 a0_1_3 a0_1_4 fa0_1_5 gFa0_4_3 fa0_1_6) (fun v48na0_0 v48na0_2 v48ngIa0_3 v48ngFa0_3 => fl_wh (fun t9 => Sf_X7_go_62_1 a1 a0_7_0 a0_7_1 a0_7_2 a0_7_5 a0_7_6 a0_1_3 fa0_7_10 fa0_7_11 a0_7_14_0 a0_7_14_1 fa0_7_14_3 fa0_7_14_2 v48na0_0 v48na0_2 v48ngIa0_3 v48ngFa0_3 t9.1 t9.2.1 t9.2.2.1 t9.2.2.2.1 t9.2.2.2.2.1 t9.2.2.2.2.2.1 t9.2.2.2.2.2.2.1 t9.2.2.2.2.2.2.2) (0, 0, 0, 0, 0, 0, 0, 0, 0, (fun _ => 0), (fun _ => 0), (fun _ _ => 0), (fun _ => 0)) 61 (0, a0_1_0, a0_1_1, a0_1_2, a0_1_3, a0_1_4, fa0_1_5, fa0_1_6))) else (fl_c2 (Ff_X7_refused 3) (fun r36 v36na0_8 => ((-1), v36na0_8, a0_1_0, a0_1_1, a0_1_2, a0_1_3, a0_1_4, a0_4_0, a0_4_2, gIa0_4_3, fa0_1_5, gFa0_4_3, fa0_1_6))))) else (if r5 = 1 then (fl_c2 (Ff_X7_refused 1) (fun r15 v15na0_8 => ((-1), v15na0_8, a0_1_0, a0_1_1, a0_1_2, a0_1_3, a0_1_4, a0_4_0, a0_4_2, gIa0_4_3, fa0_1_5, gFa0_4_3, fa0_1_6))) else (fl_c2 (Ff_X7_refused 2) (fun r15 v15na0_8 => ((-1), v15na0_8, a0_1_0, a0_1_1, a0_1_2, a0_1_3, a0_1_4, a0_4_0, a0_4_2, gIa0_4_3, fa0_1_5, gFa0_4_3, fa0_1_6)))))

def Ff_X7_put (a1 : Int) (a0_7_0 : Int) (a0_1_0 : Int) (a0_1_1 : Int) (a0_1_2 : Int) (a0_1_3 : Int) (a0_1_4 : Int) (fa0_1_5 : (Nat → Int)) (a0_4_0 : Int) (a0_4_2 : Int) (gIa0_4_3 : (Nat → Int)) (gFa0_4_3 : (Nat → Nat → Int)) (fa0_1_6 : (Nat → Int)) : Int × Int × (Nat → Int) × Int × Int × (Nat → Int) × (Nat → Nat → Int) :=
  fl_lt (Ff_X7_isFigure a1 a0_7_0) (fun r2 => if r2 = 1 then (fl_lt (Ff_X5_isGone a1 a0_1_3) (fun r19 => if r19 = 1 then (fl_c2 (Ff_X7_refused 5) (fun r40 v40na0_8 => ((-1), v40na0_8, fa0_1_5, a0_4_0, a0_4_2, gIa0_4_3, gFa0_4_3))) else (fl_lt (fa0_1_5 (a1.toNat)) (fun x33 => if x33 = a1 then (fl_c2 (Ff_X7_refused 5) (fun r40 v40na0_8 => ((-1), v40na0_8, fa0_1_5, a0_4_0, a0_4_2, gIa0_4_3, gFa0_4_3))) else (fl_c4 (Ff_X1_keep a0_4_0 a0_4_2 gIa0_4_3 a0_1_0 a0_1_1 a0_1_2 a0_1_3 a0_1_4 fa0_1_5 gFa0_4_3 fa0_1_6) (fun v52na0_0 v52na0_2 v52ngIa0_3 v52ngFa0_3 => fl_lt (fl_up fa0_1_5 (a1.toNat) a1) (fun f74 => fl_c2 (Ff_X7_answered x33) (fun r77 v77na0_8 => (x33, v77na0_8, f74, v52na0_0, v52na0_2, v52ngIa0_3, v52ngFa0_3))))))))) else (fl_c2 (Ff_X7_refused 1) (fun r10 v10na0_8 => ((-1), v10na0_8, fa0_1_5, a0_4_0, a0_4_2, gIa0_4_3, gFa0_4_3))))

def Ff_X7_wind (a1 : Int) (a0_7_0 : Int) (a0_1_0 : Int) (a0_1_1 : Int) (a0_1_2 : Int) (a0_1_3 : Int) (a0_1_4 : Int) (a0_4_0 : Int) (a0_4_2 : Int) (gIa0_4_3 : (Nat → Int)) (fa0_1_5 : (Nat → Int)) (gFa0_4_3 : (Nat → Nat → Int)) (fa0_1_6 : (Nat → Int)) : Int × Int × Int × Int × Int × Int × (Nat → Int) × (Nat → Nat → Int) :=
  fl_lt (Ff_X7_isFigure a1 a0_7_0) (fun r2 => if r2 = 1 then (if a0_1_1 = a1 then (if a0_1_2 = 0 then (fl_c2 (Ff_X7_refused 5) (fun r37 v37na0_8 => ((-1), v37na0_8, a0_1_1, a0_1_2, a0_4_0, a0_4_2, gIa0_4_3, gFa0_4_3))) else (fl_c4 (Ff_X1_keep a0_4_0 a0_4_2 gIa0_4_3 a0_1_0 a0_1_1 a0_1_2 a0_1_3 a0_1_4 fa0_1_5 gFa0_4_3 fa0_1_6) (fun v49na0_0 v49na0_2 v49ngIa0_3 v49ngFa0_3 => fl_c2 (Ff_X5_startTurn a1) (fun v65na0_1 v65na0_2 => fl_c2 (Ff_X7_answered a0_1_1) (fun r70 v70na0_8 => (a0_1_1, v70na0_8, v65na0_1, v65na0_2, v49na0_0, v49na0_2, v49ngIa0_3, v49ngFa0_3)))))) else (fl_c4 (Ff_X1_keep a0_4_0 a0_4_2 gIa0_4_3 a0_1_0 a0_1_1 a0_1_2 a0_1_3 a0_1_4 fa0_1_5 gFa0_4_3 fa0_1_6) (fun v49na0_0 v49na0_2 v49ngIa0_3 v49ngFa0_3 => fl_c2 (Ff_X5_startTurn a1) (fun v65na0_1 v65na0_2 => fl_c2 (Ff_X7_answered a0_1_1) (fun r70 v70na0_8 => (a0_1_1, v70na0_8, v65na0_1, v65na0_2, v49na0_0, v49na0_2, v49ngIa0_3, v49ngFa0_3)))))) else (fl_c2 (Ff_X7_refused 1) (fun r10 v10na0_8 => ((-1), v10na0_8, a0_1_1, a0_1_2, a0_4_0, a0_4_2, gIa0_4_3, gFa0_4_3))))

def Ff_X7_undo (a0_4_0 : Int) (a0_4_2 : Int) (a0_1_0 : Int) (a0_1_1 : Int) (a0_1_2 : Int) (a0_1_3 : Int) (a0_1_4 : Int) (gIa0_4_3 : (Nat → Int)) (gFa0_4_3 : (Nat → Nat → Int)) (fa0_1_5 : (Nat → Int)) (fa0_1_6 : (Nat → Int)) : Int × Int × Int × Int × Int × Int × Int × Int × Int × (Nat → Int) × (Nat → Int) :=
  fl_c10 (Ff_X1_takeLatest a0_4_0 a0_4_2 a0_1_0 a0_1_1 a0_1_2 a0_1_3 a0_1_4 gIa0_4_3 gFa0_4_3 fa0_1_5 fa0_1_6) (fun r8 v8na0_0 v8na0_2 v8na1_0 v8na1_1 v8na1_2 v8na1_3 v8na1_4 v8nfa1_5 v8nfa1_6 => if r8 = 1 then ((1, 0, v8na0_0, v8na0_2, v8na1_0, v8na1_1, v8na1_2, v8na1_3, v8na1_4, v8nfa1_5, v8nfa1_6)) else ((0, 6, v8na0_0, v8na0_2, v8na1_0, v8na1_1, v8na1_2, v8na1_3, v8na1_4, v8nfa1_5, v8nfa1_6)))

def Ff_X7_image (a0_7_0 : Int) (a0_4_1 : Int) (gIa0_4_4 : (Nat → Int)) (a0_1_0 : Int) (a0_1_1 : Int) (a0_1_2 : Int) (a0_1_3 : Int) (a0_1_4 : Int) (fa0_1_5 : (Nat → Int)) (gFa0_4_4 : (Nat → Nat → Int)) (fa0_1_6 : (Nat → Int)) : Int × Int × Int × (Nat → Int) × (Nat → Nat → Int) :=
  fl_lt (Ff_X7_hasGallery a0_7_0) (fun r1 => if r1 = 1 then (if a0_4_1 < 3 then (fl_c4 (Ff_X1_addImage a0_4_1 gIa0_4_4 a0_1_0 a0_1_1 a0_1_2 a0_1_3 a0_1_4 fa0_1_5 gFa0_4_4 fa0_1_6) (fun r39 v39na0_1 v39ngIa0_4 v39ngFa0_4 => if r39 = 2 then (fl_c2 (Ff_X7_answered 2) (fun r42 v42na0_8 => (2, v42na0_8, v39na0_1, v39ngIa0_4, v39ngFa0_4))) else (if r39 = 1 then (fl_c2 (Ff_X7_answered 1) (fun r42 v42na0_8 => (1, v42na0_8, v39na0_1, v39ngIa0_4, v39ngFa0_4))) else (if r39 = 0 then (fl_c2 (Ff_X7_answered 0) (fun r42 v42na0_8 => (0, v42na0_8, v39na0_1, v39ngIa0_4, v39ngFa0_4))) else (fl_c2 (Ff_X7_answered (-1)) (fun r42 v42na0_8 => ((-1), v42na0_8, v39na0_1, v39ngIa0_4, v39ngFa0_4))))))) else (fl_c2 (Ff_X7_refused 3) (fun r26 v26na0_8 => ((-1), v26na0_8, a0_4_1, gIa0_4_4, gFa0_4_4)))) else (fl_c2 (Ff_X7_refused 1) (fun r9 v9na0_8 => ((-1), v9na0_8, a0_4_1, gIa0_4_4, gFa0_4_4))))

def Ff_X7_back (a1 : Int) (a0_4_0 : Int) (a0_4_1 : Int) (a0_1_0 : Int) (a0_1_1 : Int) (a0_1_2 : Int) (a0_1_3 : Int) (a0_1_4 : Int) (gIa0_4_4 : (Nat → Int)) (gFa0_4_4 : (Nat → Nat → Int)) (fa0_1_5 : (Nat → Int)) (fa0_1_6 : (Nat → Int)) : Int × Int × Int × Int × Int × Int × Int × Int × (Nat → Int) × (Nat → Int) :=
  fl_c9 (Ff_X1_goBack a1 a0_4_0 a0_4_1 a0_1_0 a0_1_1 a0_1_2 a0_1_3 a0_1_4 gIa0_4_4 gFa0_4_4 fa0_1_5 fa0_1_6) (fun r9 v9na0_0 v9na2_0 v9na2_1 v9na2_2 v9na2_3 v9na2_4 v9nfa2_5 v9nfa2_6 => if r9 = 1 then ((1, 0, v9na0_0, v9na2_0, v9na2_1, v9na2_2, v9na2_3, v9na2_4, v9nfa2_5, v9nfa2_6)) else ((0, 1, v9na0_0, v9na2_0, v9na2_1, v9na2_2, v9na2_3, v9na2_4, v9nfa2_5, v9nfa2_6)))

def Sf_X8_note_11_1 (a0_21 : Int) (fa0_17 : (Nat → Int)) (j11l1 : Int) (j11a0_19_a : (Nat → Int)) : Sum (Int × (Nat → Int)) (Int × (Nat → Int)) :=
  if 345 ≤ j11l1 then (Sum.inr (fl_lt (a0_21 - 1) (fun x45 => fl_lt (23 * x45) (fun x64 => fl_lt (va_cpy fa0_17 j11a0_19_a (0) (x64.toNat) 23) (fun v67nfa3 => fl_lt (x45 + 1) (fun x76 => (x76, v67nfa3))))))) else (fl_lt (j11l1 + 23) (fun x30 => fl_lt (j11a0_19_a (x30.toNat)) (fun x31 => fl_lt (fl_up j11a0_19_a (j11l1.toNat) x31) (fun f32 => fl_lt (j11l1 + 1) (fun x33 => Sum.inl (x33, f32))))))
def Ff_X8_note (a0_21 : Int) (fa0_17 : (Nat → Int)) (fa0_19 : (Nat → Int)) : Int × (Nat → Int) :=
  if a0_21 = 16 then (fl_wh (fun t9 => Sf_X8_note_11_1 a0_21 fa0_17 t9.1 t9.2) (0, (fun _ => 0)) 346 (0, fa0_19)) else (fl_lt (23 * a0_21) (fun x64 => fl_lt (va_cpy fa0_17 fa0_19 (0) (x64.toNat) 23) (fun v67nfa3 => fl_lt (a0_21 + 1) (fun x76 => (x76, v67nfa3)))))

def Ff_X8_isFigure (a1 : Int) (a0_14 : Int) (fa0_15 : (Nat → Int)) : Int :=
  if a0_14 = 0 then (0) else (fl_lt (fa0_15 (0)) (fun x14 => fl_lt (x14 - 1) (fun x16 => fl_lt (Ff_X8_in a1 0 x16) (fun r17 => if r17 = 1 then (1) else (0)))))

def Ff_X8_why (a1 : Int) (a2 : Int) : Int :=
  if a1 = 0 then (1) else (if a2 = 0 then (2) else (0))

def Sf_X8_go_70_1 (a1 : Int) (fa0_15 : (Nat → Int)) (v1na0_0 : Int) (v1na0_11 : Int) (v52na0_21 : Int) (v52nfa0_19 : (Nat → Int)) (v56na0_25 : Int) (v56nfa0_23 : (Nat → Int)) (v56nfa0_24 : (Nat → Int)) (x65 : Int) (j70l4 : Int) (j70a0_26 : Int) (j70a0_27 : Int) (j70a0_28 : Int) (j70a0_17_a : (Nat → Int)) : Sum (Int × Int × Int × Int × (Nat → Int)) (Int × Int × Int × Int × Int × Int × Int × Int × (Nat → Int) × (Nat → Int) × (Nat → Int) × (Nat → Int)) :=
  if a1 ≤ j70l4 then (Sum.inr (fl_lt (j70a0_17_a (18)) (fun x96 => fl_lt (fl_xor x65 (-1)) (fun x99 => fl_lt (fl_and x96 x99) (fun x100 => (x100, v1na0_0, v1na0_11, v52na0_21, v56na0_25, j70a0_26, j70a0_27, j70a0_28, j70a0_17_a, v52nfa0_19, v56nfa0_23, v56nfa0_24)))))) else (fl_c4 (Ff_X8_minuteOn v56na0_25 j70a0_17_a fa0_15 v56nfa0_24 v56nfa0_23) (fun v81na0_26 v81na0_27 v81na0_28 v81nfa1 => fl_lt (j70l4 + 1) (fun x84 => Sum.inl (x84, v81na0_26, v81na0_27, v81na0_28, v81nfa1))))
def Gf_X8_go_41_1 (a1 : Int) (a0_21 : Int) (a0_25 : Int) (a0_26 : Int) (a0_27 : Int) (a0_28 : Int) (fa0_17 : (Nat → Int)) (fa0_19 : (Nat → Int)) (fa0_15 : (Nat → Int)) (fa0_23 : (Nat → Int)) (fa0_24 : (Nat → Int)) (v1na0_0 : Int) (v1na0_11 : Int) (j41l2 : Int) : Int × Int × Int × Int × Int × Int × Int × Int × (Nat → Int) × (Nat → Int) × (Nat → Int) × (Nat → Int) :=
  if j41l2 = 0 then (fl_c2 (Ff_X8_note a0_21 fa0_17 fa0_19) (fun v52na0_21 v52nfa0_19 => fl_c3 (Ff_X8_watchAsTold fa0_15 fa0_23 fa0_24) (fun v56na0_25 v56nfa0_23 v56nfa0_24 => fl_lt (fa0_17 (18)) (fun x65 => fl_wh (fun t9 => Sf_X8_go_70_1 a1 fa0_15 v1na0_0 v1na0_11 v52na0_21 v52nfa0_19 v56na0_25 v56nfa0_23 v56nfa0_24 x65 t9.1 t9.2.1 t9.2.2.1 t9.2.2.2.1 t9.2.2.2.2) (0, 0, 0, 0, 0, 0, 0, 0, (fun _ => 0), (fun _ => 0), (fun _ => 0), (fun _ => 0)) 2147483648 (0, a0_26, a0_27, a0_28, fa0_17))))) else (fl_c2 (Ff_X8_no j41l2) (fun r47 v47na0_11 => ((-1), v1na0_0, v47na0_11, a0_21, a0_25, a0_26, a0_27, a0_28, fa0_17, fa0_19, fa0_23, fa0_24)))
def Sf_X8_go_70_2 (a1 : Int) (fa0_15 : (Nat → Int)) (v1na0_0 : Int) (v1na0_11 : Int) (v52na0_21 : Int) (v52nfa0_19 : (Nat → Int)) (v56na0_25 : Int) (v56nfa0_23 : (Nat → Int)) (v56nfa0_24 : (Nat → Int)) (x65 : Int) (j70l4 : Int) (j70a0_26 : Int) (j70a0_27 : Int) (j70a0_28 : Int) (j70a0_17_a : (Nat → Int)) : Sum (Int × Int × Int × Int × (Nat → Int)) (Int × Int × Int × Int × Int × Int × Int × Int × (Nat → Int) × (Nat → Int) × (Nat → Int) × (Nat → Int)) :=
  if a1 ≤ j70l4 then (Sum.inr (fl_lt (j70a0_17_a (18)) (fun x96 => fl_lt (fl_xor x65 (-1)) (fun x99 => fl_lt (fl_and x96 x99) (fun x100 => (x100, v1na0_0, v1na0_11, v52na0_21, v56na0_25, j70a0_26, j70a0_27, j70a0_28, j70a0_17_a, v52nfa0_19, v56nfa0_23, v56nfa0_24)))))) else (fl_c4 (Ff_X8_minuteOn v56na0_25 j70a0_17_a fa0_15 v56nfa0_24 v56nfa0_23) (fun v81na0_26 v81na0_27 v81na0_28 v81nfa1 => fl_lt (j70l4 + 1) (fun x84 => Sum.inl (x84, v81na0_26, v81na0_27, v81na0_28, v81nfa1))))
def Gf_X8_go_41_2 (a1 : Int) (a0_21 : Int) (a0_25 : Int) (a0_26 : Int) (a0_27 : Int) (a0_28 : Int) (fa0_17 : (Nat → Int)) (fa0_19 : (Nat → Int)) (fa0_15 : (Nat → Int)) (fa0_23 : (Nat → Int)) (fa0_24 : (Nat → Int)) (v1na0_0 : Int) (v1na0_11 : Int) (j41l2 : Int) : Int × Int × Int × Int × Int × Int × Int × Int × (Nat → Int) × (Nat → Int) × (Nat → Int) × (Nat → Int) :=
  if j41l2 = 0 then (fl_c2 (Ff_X8_note a0_21 fa0_17 fa0_19) (fun v52na0_21 v52nfa0_19 => fl_c3 (Ff_X8_watchAsTold fa0_15 fa0_23 fa0_24) (fun v56na0_25 v56nfa0_23 v56nfa0_24 => fl_lt (fa0_17 (18)) (fun x65 => fl_wh (fun t9 => Sf_X8_go_70_2 a1 fa0_15 v1na0_0 v1na0_11 v52na0_21 v52nfa0_19 v56na0_25 v56nfa0_23 v56nfa0_24 x65 t9.1 t9.2.1 t9.2.2.1 t9.2.2.2.1 t9.2.2.2.2) (0, 0, 0, 0, 0, 0, 0, 0, (fun _ => 0), (fun _ => 0), (fun _ => 0), (fun _ => 0)) 2147483648 (0, a0_26, a0_27, a0_28, fa0_17))))) else (fl_c2 (Ff_X8_no j41l2) (fun r47 v47na0_11 => ((-1), v1na0_0, v47na0_11, a0_21, a0_25, a0_26, a0_27, a0_28, fa0_17, fa0_19, fa0_23, fa0_24)))
def Ff_X8_go (a1 : Int) (a0_14 : Int) (a0_21 : Int) (a0_25 : Int) (a0_26 : Int) (a0_27 : Int) (a0_28 : Int) (fa0_17 : (Nat → Int)) (fa0_19 : (Nat → Int)) (fa0_15 : (Nat → Int)) (fa0_23 : (Nat → Int)) (fa0_24 : (Nat → Int)) : Int × Int × Int × Int × Int × Int × Int × Int × (Nat → Int) × (Nat → Int) × (Nat → Int) × (Nat → Int) :=
  fl_c2 (Ff_X8_good) (fun v1na0_0 v1na0_11 => fl_lt (Ff_X8_in a1 1 60) (fun r13 => if r13 = 1 then (fl_lt (Ff_X8_why a0_14 1) (fun r16 => if r16 = 2 then ((0, 0, 0, 0, 0, 0, 0, 0, (fun _ => 0), (fun _ => 0), (fun _ => 0), (fun _ => 0))) else (if r16 = 1 then ((0, 0, 0, 0, 0, 0, 0, 0, (fun _ => 0), (fun _ => 0), (fun _ => 0), (fun _ => 0))) else (fl_lt (fa0_17 (21)) (fun x30 => fl_lt (fl_iadd x30 a1) (fun x32 => if x32 ≤ 9999 then (Gf_X8_go_41_1 a1 a0_21 a0_25 a0_26 a0_27 a0_28 fa0_17 fa0_19 fa0_15 fa0_23 fa0_24 v1na0_0 v1na0_11 0) else (Gf_X8_go_41_1 a1 a0_21 a0_25 a0_26 a0_27 a0_28 fa0_17 fa0_19 fa0_15 fa0_23 fa0_24 v1na0_0 v1na0_11 3))))))) else (fl_lt (Ff_X8_why a0_14 0) (fun r16 => if r16 = 2 then (Gf_X8_go_41_2 a1 a0_21 a0_25 a0_26 a0_27 a0_28 fa0_17 fa0_19 fa0_15 fa0_23 fa0_24 v1na0_0 v1na0_11 2) else (if r16 = 1 then ((0, 0, 0, 0, 0, 0, 0, 0, (fun _ => 0), (fun _ => 0), (fun _ => 0), (fun _ => 0))) else ((0, 0, 0, 0, 0, 0, 0, 0, (fun _ => 0), (fun _ => 0), (fun _ => 0), (fun _ => 0))))))))

def Ff_X8_put (a1 : Int) (a0_14 : Int) (a0_21 : Int) (fa0_15 : (Nat → Int)) (fa0_17 : (Nat → Int)) (fa0_19 : (Nat → Int)) : Int × Int × Int × Int × (Nat → Int) × (Nat → Int) :=
  fl_c2 (Ff_X8_good) (fun v1na0_0 v1na0_11 => fl_lt (Ff_X8_isFigure a1 a0_14 fa0_15) (fun r6 => if r6 = 1 then (fl_lt (fa0_17 (18)) (fun x24 => fl_lt (Ff_X8_hasBit x24 a1) (fun r26 => if r26 = 1 then (fl_c2 (Ff_X8_no 5) (fun r44 v44na0_11 => ((-1), v1na0_0, v44na0_11, a0_21, fa0_17, fa0_19))) else (fl_lt (fa0_17 (a1.toNat)) (fun x37 => if x37 = a1 then (fl_c2 (Ff_X8_no 5) (fun r44 v44na0_11 => ((-1), v1na0_0, v44na0_11, a0_21, fa0_17, fa0_19))) else (fl_c2 (Ff_X8_note a0_21 fa0_17 fa0_19) (fun v49na0_21 v49nfa0_19 => fl_lt (fl_up fa0_17 (a1.toNat) a1) (fun f65 => (x37, v1na0_0, v1na0_11, v49na0_21, f65, v49nfa0_19))))))))) else (fl_c2 (Ff_X8_no 1) (fun r14 v14na0_11 => ((-1), v1na0_0, v14na0_11, a0_21, fa0_17, fa0_19)))))

def Ff_X8_wind (a1 : Int) (a0_14 : Int) (a0_21 : Int) (fa0_15 : (Nat → Int)) (fa0_17 : (Nat → Int)) (fa0_19 : (Nat → Int)) : Int × Int × Int × Int × (Nat → Int) × (Nat → Int) :=
  fl_c2 (Ff_X8_good) (fun v1na0_0 v1na0_11 => fl_lt (Ff_X8_isFigure a1 a0_14 fa0_15) (fun r6 => if r6 = 1 then (fl_lt (fa0_17 (19)) (fun x24 => if x24 = a1 then (fl_lt (fa0_17 (20)) (fun x35 => if x35 = 0 then (fl_c2 (Ff_X8_no 5) (fun r41 v41na0_11 => ((-1), v1na0_0, v41na0_11, a0_21, fa0_17, fa0_19))) else (fl_c2 (Ff_X8_note a0_21 fa0_17 fa0_19) (fun v46na0_21 v46nfa0_19 => fl_lt (fl_up fa0_17 (19) a1) (fun f64 => fl_lt (fl_up f64 (20) 0) (fun f72 => (x24, v1na0_0, v1na0_11, v46na0_21, f72, v46nfa0_19))))))) else (fl_c2 (Ff_X8_note a0_21 fa0_17 fa0_19) (fun v46na0_21 v46nfa0_19 => fl_lt (fl_up fa0_17 (19) a1) (fun f64 => fl_lt (fl_up f64 (20) 0) (fun f72 => (x24, v1na0_0, v1na0_11, v46na0_21, f72, v46nfa0_19))))))) else (fl_c2 (Ff_X8_no 1) (fun r14 v14na0_11 => ((-1), v1na0_0, v14na0_11, a0_21, fa0_17, fa0_19)))))

def Ff_X8_undo (a0_21 : Int) (fa0_19 : (Nat → Int)) (fa0_17 : (Nat → Int)) : Int × Int × Int × Int × (Nat → Int) :=
  fl_c2 (Ff_X8_good) (fun v1na0_0 v1na0_11 => if a0_21 = 0 then (fl_c2 (Ff_X8_isNot 6) (fun r14 v14na0_11 => (0, v1na0_0, v14na0_11, a0_21, fa0_17))) else (fl_lt (a0_21 - 1) (fun x24 => fl_lt (23 * x24) (fun x38 => fl_lt (va_cpy fa0_19 fa0_17 (x38.toNat) (0) 23) (fun v46nfa3 => (1, v1na0_0, v1na0_11, x24, v46nfa3))))))

def Ff_X8_image (a0_14 : Int) (a0_22 : Int) (fa0_17 : (Nat → Int)) (fa0_20 : (Nat → Int)) : Int × Int × Int × Int × (Nat → Int) :=
  fl_c2 (Ff_X8_good) (fun v1na0_0 v1na0_11 => if a0_14 = 0 then ((0, 0, 0, 0, (fun _ => 0))) else (if a0_22 = 3 then (fl_c2 (Ff_X8_no 3) (fun r27 v27na0_11 => ((-1), v1na0_0, v27na0_11, a0_22, fa0_20))) else (fl_lt (23 * a0_22) (fun x46 => fl_lt (va_cpy fa0_17 fa0_20 (0) (x46.toNat) 23) (fun v49nfa3 => fl_lt (a0_22 + 1) (fun x58 => fl_lt (x58 - 1) (fun x67 => (x67, v1na0_0, v1na0_11, x58, v49nfa3))))))))

def Ff_X8_back (a1 : Int) (a0_21 : Int) (a0_22 : Int) (fa0_20 : (Nat → Int)) (fa0_17 : (Nat → Int)) : Int × Int × Int × Int × (Nat → Int) :=
  fl_c2 (Ff_X8_good) (fun v1na0_0 v1na0_11 => fl_lt (a0_22 - 1) (fun x11 => fl_lt (Ff_X8_in a1 0 x11) (fun r12 => if r12 = 1 then (fl_lt (23 * a1) (fun x31 => fl_lt (va_cpy fa0_20 fa0_17 (x31.toNat) (0) 23) (fun v39nfa3 => (1, v1na0_0, v1na0_11, 0, v39nfa3)))) else (fl_c2 (Ff_X8_isNot 1) (fun r20 v20na0_11 => (0, v1na0_0, v20na0_11, a0_21, fa0_17))))))

def Sf_X7_called_25_1 (a0_7_0 : Int) (a0_7_5 : Int) (a0_7_6 : Int) (j25l3 : Int) (j25l2 : Int) (j25l1 : Int) : Sum (Int × Int × Int) (Int × Int) :=
  if a0_7_0 ≤ j25l3 then (Sum.inr (fl_c2 (Ff_X7_answered j25l1) (fun r59 v59na0_8 => (j25l1, v59na0_8)))) else (fl_lt (fl_shl 1 j25l2) (fun x39 => fl_lt (fl_or j25l1 x39) (fun x40 => fl_lt (Ff_X0_next j25l2 a0_7_0 a0_7_5 a0_7_6) (fun r47 => fl_lt (j25l3 + 1) (fun x51 => Sum.inl (x51, r47, x40))))))
def Ff_X7_called (a0_7_0 : Int) (a0_7_5 : Int) (a0_7_6 : Int) (a0_1_1 : Int) : Int × Int :=
  fl_lt (Ff_X7_hasGallery a0_7_0) (fun r1 => if r1 = 1 then (fl_wh (fun t9 => Sf_X7_called_25_1 a0_7_0 a0_7_5 a0_7_6 t9.1 t9.2.1 t9.2.2) (0, 0) 10 (0, a0_1_1, 0)) else (fl_c2 (Ff_X7_refused 1) (fun r9 v9na0_8 => ((-1), v9na0_8))))

def Sf_X8_goRound_24_1 (fa0_15 : (Nat → Int)) (j15l2 : Int) (j15l1 : Int) (j15a0_29_a : (Nat → Int)) (j24l3 : Int) (j24a0_30 : Int) : Sum (Int × Int) (Sum (Int × Int × Int × (Nat → Int)) (Int × Int × (Nat → Int))) :=
  if j15l1 ≤ j24l3 then (Sum.inr (if j24a0_30 < 0 then (fl_lt (fl_up j15a0_29_a (j15l1.toNat) j15l2) (fun f66 => fl_lt (j15l1 + 1) (fun x67 => fl_lt (Ff_X8_nextOf j15l2 fa0_15) (fun r72 => Sum.inl (r72, x67, j24a0_30, f66))))) else (if 0 ≤ j24a0_30 then (Sum.inr (fl_lt (j15l1 - j24a0_30) (fun x85 => (j24a0_30, x85, j15a0_29_a)))) else ((Sum.inr (0, 0, (fun _ => 0))))))) else (fl_lt (j15a0_29_a (j24l3.toNat)) (fun x34 => if x34 = j15l2 then (fl_lt (j24l3 + 1) (fun x44 => Sum.inl (x44, j24l3))) else (fl_lt (j24l3 + 1) (fun x44 => Sum.inl (x44, j24a0_30)))))
def Sf_X8_goRound_15_1 (fa0_15 : (Nat → Int)) (j15l2 : Int) (j15l1 : Int) (j15a0_30 : Int) (j15a0_29_a : (Nat → Int)) : Sum (Int × Int × Int × (Nat → Int)) (Int × Int × (Nat → Int)) :=
  if 0 ≤ j15a0_30 then ((Sum.inr (0, 0, (fun _ => 0)))) else (fl_wh (fun t9 => Sf_X8_goRound_24_1 fa0_15 j15l2 j15l1 j15a0_29_a t9.1 t9.2) (Sum.inr (0, 0, (fun _ => 0))) 10 (0, j15a0_30))
def Ff_X8_goRound (fa0_17 : (Nat → Int)) (fa0_29 : (Nat → Int)) (fa0_15 : (Nat → Int)) : Int × Int × (Nat → Int) :=
  fl_lt (fa0_17 (19)) (fun x8 => fl_wh (fun t9 => Sf_X8_goRound_15_1 fa0_15 t9.1 t9.2.1 t9.2.2.1 t9.2.2.2) (0, 0, (fun _ => 0)) 13 (x8, 0, (-1), fa0_29))

def Sf_X8_called_25_1 (v1na0_0 : Int) (v1na0_11 : Int) (v18na0_30 : Int) (v18na0_31 : Int) (v18nfa0_29 : (Nat → Int)) (j25l2 : Int) (j25l1 : Int) : Sum (Int × Int) (Int × Int × Int × Int × Int × (Nat → Int)) :=
  fl_lt (v18na0_30 + v18na0_31) (fun x34 => if x34 ≤ j25l2 then (Sum.inr ((j25l1, v1na0_0, v1na0_11, v18na0_30, v18na0_31, v18nfa0_29))) else (fl_lt (v18nfa0_29 (j25l2.toNat)) (fun x45 => fl_lt (fl_shl 1 x45) (fun x46 => fl_lt (fl_or j25l1 x46) (fun x47 => fl_lt (j25l2 + 1) (fun x49 => Sum.inl (x49, x47)))))))
def Ff_X8_called (a0_14 : Int) (fa0_17 : (Nat → Int)) (fa0_29 : (Nat → Int)) (fa0_15 : (Nat → Int)) : Int × Int × Int × Int × Int × (Nat → Int) :=
  fl_c2 (Ff_X8_good) (fun v1na0_0 v1na0_11 => if a0_14 = 0 then ((0, 0, 0, 0, 0, (fun _ => 0))) else (fl_c3 (Ff_X8_goRound fa0_17 fa0_29 fa0_15) (fun v18na0_30 v18na0_31 v18nfa0_29 => fl_wh (fun t9 => Sf_X8_called_25_1 v1na0_0 v1na0_11 v18na0_30 v18na0_31 v18nfa0_29 t9.1 t9.2) (0, 0, 0, 0, 0, (fun _ => 0)) 10 (0, 0))))

def Ff0_X8_called (a0_14 : Int) : Int × Int × Int :=
  fl_c2 (Ff_X8_good) (fun v1na0_0 v1na0_11 => if a0_14 = 0 then (fl_c2 (Ff_X8_no 1) (fun r13 v13na0_11 => ((-1), v1na0_0, v13na0_11))) else ((0, 0, 0)))
end P09224952_defsF
