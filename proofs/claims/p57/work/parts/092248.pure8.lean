section P092248_pure8
section PUH

/-- figure: readFigure and figureLine -/
theorem rp_fig {tp tm : Nat → Int} {e be wd wh : Int} (hT : rp_T tp tm e) (he : e ≤ 900) {st1 be1 tk1 wd1 wh1 at1 en1 tk3 wm1 ns1 : Int} {lt1 : Nat → Int} (a1 : Ff_X3_advance e be wd wh tp = (st1, be1, tk1, wd1, wh1)) (a3 : rp_K e st1 be1 tk1 wd1 wh1 at1 en1 tk3 wm1 ns1 lt1)
    {fg sp sa sh lw ti pu fi tb sc wc c : Int} {kd me sf sm wf wt nm fr : Nat → Int} (hD : rp_D fg sp sa sh lw ti pu fi tb sc wc c kd me sf sm wf wt nm fr) (hw : fr 4 < 9) (hT11 : ¬ fr 11 = 0) (fn fp ta fa pl : Int) :
    (∃ c' ta' tb' kd' me' nm' fr' st2 be2 tk4 wd2 wh2 at2 en2 tk5 wm2 ns2 lt2, Ff_X3_readFigure fn fp c e be wd wh ta tp nm fg tb kd me = (1, fn, fp, c', st2, be2, tk4, wd2, wh2, ta', nm', tb', kd', me') ∧ FfG_X8_figureLine e at1 en1 tk3 wm1 ns1 fa pl fr lt1 tm = (at2, en2, tk5, wm2, ns2, fa, pl, 0, fr', lt2) ∧ rp_K e st2 be2 tk4 wd2 wh2 at2 en2 tk5 wm2 ns2 lt2 ∧ st1 < st2 ∧ rp_D fg sp sa sh lw ti pu fi tb' sc wc c' kd' me' sf sm wf wt nm' fr') ∨
    (∃ q p, rp_fc (Ff_X3_readFigure fn fp c e be wd wh ta tp nm fg tb kd me) q p ∧ rp_fm (FfG_X8_figureLine e at1 en1 tk3 wm1 ns1 fa pl fr lt1 tm) q p) := by
  obtain ⟨hh, ⟨f1, f2, f3, f4, f5, f6⟩, hw', hs, n1, n2, n3⟩ := hD
  have hw2 := hw'
  obtain ⟨w1, w2, w3, -⟩ := hw2
  have hfg : fg = fr 0 := hh.1.1
  have hfg9 : 2 ≤ fg ∧ fg ≤ 9 := by
    have h1 := hh.1.2.1
    have h2 := hh.1.2.2.2 (by omega)
    omega
  have ea : fr 4 = (((fr 4).toNat : Nat) : Int) := by omega
  have hslot : fr (48 + (fr 4).toNat) = 0 := by
    have h1 := (n2.1 (fr 4).toNat (by omega)).1
    by_cases h0 : 0 < fr (48 + (fr 4).toNat)
    · have := n3 _ (by omega) h0; omega
    · omega
  rcases rp_nn hT he a3 n2 (a := (fr 4).toNat) (by omega) hslot (by omega) (by omega) fn fp fa pl with ⟨nm1, st2, be2, tk4, wd2, wh2, at2, en2, tk5, wm2, ns2, lt2, fr1, z, b1, b2, b3, b4, b5, b6, b7, b8, b9⟩ | ⟨q, st2, be2, tk4, wd2, wh2, nm1, c1, at2, en2, tk5, wm2, ns2, lt2, fr1, b1, b2⟩
  rotate_left
  · rw [← ea] at b2
    refine Or.inr ⟨q, st1, ?_, ?_⟩
    · simp only [Ff_X3_readFigure, a1, b1, fl_lt, fl_c2, fl_c3, fl_c4, fl_c5, fl_c6, fl_c7, fl_c8, fl_c9, fl_c10, reduceIte, Int.reduceEq]; exact ⟨rfl, rfl, rfl⟩
    · simp only [FfG_X8_figureLine, b2, fl_lt, fl_c2, fl_c3, fl_c4, fl_c5, fl_c6, fl_c7, fl_c8, fl_c9, fl_c10, reduceIte, Int.reduceEq]; exact ⟨rfl, rfl, rfl⟩
  rw [← ea] at b2
  have la : Ff_X8_last fr1 = fg - 1 := by rw [hfg, ← b7 0 (by omega)]; rfl
  rcases rp_tkw hT he b3 (nn := 2) (by decide) (by decide) rp_sw_is fn fp fa pl with ⟨st3, be3, tk6, wd3, wh3, at3, en3, tk7, wm3, ns3, lt3, c1, c2, c3, c4, c5⟩ | ⟨c1, c2⟩
  rotate_left
  · refine Or.inr ⟨1, st2, ?_, ?_⟩
    · simp only [Ff_X3_readFigure, a1, b1, c1, fl_lt, fl_c2, fl_c3, fl_c4, fl_c5, fl_c6, fl_c7, fl_c8, fl_c9, fl_c10, reduceIte, Int.reduceEq]; exact ⟨rfl, rfl, rfl⟩
    · simp only [FfG_X8_figureLine, b2, c2, fl_lt, fl_c2, fl_c3, fl_c4, fl_c5, fl_c6, fl_c7, fl_c8, fl_c9, fl_c10, reduceIte, Int.reduceEq]; exact ⟨rfl, rfl, rfl⟩
  rcases rp_iww c3 0 (fg - 1) fn fp fa pl with ⟨d1, d2, -, d4, d5, d6, d7, d8, d9, d10⟩ | ⟨q, d1, d2⟩
  rotate_left
  · refine Or.inr ⟨q, st3, ?_, ?_⟩
    · simp only [Ff_X3_readFigure, a1, b1, c1, d1, fl_lt, fl_c2, fl_c3, fl_c4, fl_c5, fl_c6, fl_c7, fl_c8, fl_c9, fl_c10, reduceIte, Int.reduceEq]; exact ⟨rfl, rfl, rfl⟩
    · simp only [FfG_X8_figureLine, b2, c2, la, d2, fl_lt, fl_c2, fl_c3, fl_c4, fl_c5, fl_c6, fl_c7, fl_c8, fl_c9, fl_c10, reduceIte, Int.reduceEq]; exact ⟨rfl, rfl, rfl⟩
  have hwh : wh3 = ((wh3.toNat : Nat) : Int) := by omega
  have ix : (12 + 2 * wh3).toNat = 12 + 2 * wh3.toNat := by omega
  have ix2 : (12 + 2 * wh3 + 1).toNat = 13 + 2 * wh3.toNat := by omega
  obtain ⟨g1, g2, g3, g4⟩ := f3 wh3.toNat (by omega)
  rw [← hwh] at g4
  have hst3 : st3 = at3 := c3.1
  by_cases htold : 0 < fr (12 + 2 * wh3.toNat)
  · have hb : Ff_X7_hasBit tb wh3 = 1 := g4.mpr htold
    have hn : ¬ fr1 (12 + 2 * wh3.toNat) ≤ 0 := by rw [b7 _ (by omega)]; omega
    refine Or.inr ⟨3, st3, ?_, ?_⟩
    · simp only [Ff_X3_readFigure, a1, b1, c1, d1, hb, Ff_X3_fails, fl_lt, fl_c2, fl_c3, fl_c4, fl_c5, fl_c6, fl_c7, fl_c8, fl_c9, fl_c10, reduceIte, Int.reduceEq]; exact ⟨rfl, rfl, rfl⟩
    · simp only [FfG_X8_figureLine, b2, c2, la, d2, ix, if_neg hn, FfG_X8_wrong, fl_lt, fl_c2, fl_c3, fl_c4, fl_c5, fl_c6, fl_c7, fl_c8, fl_c9, fl_c10, reduceIte, Int.reduceEq]; exact ⟨rfl, hst3.symm, rfl⟩
  have hb : ¬ Ff_X7_hasBit tb wh3 = 1 := fun h => htold (g4.mp h)
  have hp : fr1 (12 + 2 * wh3.toNat) ≤ 0 := by rw [b7 _ (by omega)]; omega
  have hbe3 := d7
  obtain ⟨st4, be4, tk8, wd4, wh4, at4, en4, tk9, wm4, ns4, lt4, k1, k2, k3, k4⟩ := rp_adv hT he be3 wd3 wh3 lt3 c3.2.2.2.1 c3.2.2.2.2.1
  rw [d7] at k2
  have hst4 : st4 = at4 := k3.1
  have hb40 : 0 ≤ be4 := k3.2.2.2.1
  have hb41 : be4 ≤ e := k3.2.2.2.2.1
  have kq : FfG_X8_pass e en3 tm lt3 = (at4, en4, tk9, wm4, ns4, lt4) := by simp only [FfG_X8_pass, k2, fl_c6]
  -- what is left, for either kind
  have fin : ∀ (kind : Int) (nn : Int) (csi csj : Nat) (hk : kind = 1 ∨ kind = 2) (hn0 : 0 ≤ nn) (hn8 : nn ≤ 8) (hd : ∀ k : Nat, k < 8 → (k : Int) < nn → 97 ≤ (fl_A (sxc csi)) k ∧ (fl_A (sxc csi)) k ≤ 122 ∧ (fl_A (sxc csj)) k = (fl_A (sxc csi)) k)
      (hc : Ff_X3_isWord tk8 wd4 nn (fl_A (sxc csi)) = 1) (hbe4 : be4 = en4) (hlt4 : st4 < be4)
      (uc : Ff_X3_readFigure fn fp c e be wd wh ta tp nm fg tb kd me = fl_c9 (Ff_X3_takeWhole 1 20 fn fp e st4 be4 tk8 wd4 wh4 ta tp nn (fl_A (sxc csi))) (fun r99 v1 v2 v8 v9 v10 v11 v12 v13 => if r99 = 1 then (fl_c3 (Ff_X0_addFigure wh3 kind v13 tb kd me) (fun y8 y10 y11 => (1, v1, v2, c + 1, v8, v9, v10, v11, v12, v13, nm1, y8, y10, y11))) else (0, v1, v2, c + 1, v8, v9, v10, v11, v12, v13, nm1, tb, kd, me)))
      (um : FfG_X8_figureLine e at1 en1 tk3 wm1 ns1 fa pl fr lt1 tm = fl_c6 (FfG_X8_pass e en4 tm lt4) (fun x4 x5 x6 x7 x8 x12 => fl_c10 (FfG_X8_number 1 20 e x4 x5 x6 x7 x8 fa pl tm x12) (fun r117 y4 y5 y6 y7 y8 y9 y10 y13 y12 => if y13 = 1 then (y4, y5, y6, y7, y8, y9, y10, 1, fr1, y12) else (y4, y5, y6, y7, y8, y9, y10, 0, fl_up (fl_up (fl_up fr1 (12 + 2 * wh3.toNat) kind) (13 + 2 * wh3.toNat) r117) 4 ((fl_up (fl_up fr1 (12 + 2 * wh3.toNat) kind) (13 + 2 * wh3.toNat) r117) 4 + 1), y12)))),
      (∃ c' ta' tb' kd' me' nm' fr' st2 be2 tk4 wd2 wh2 at2 en2 tk5 wm2 ns2 lt2, Ff_X3_readFigure fn fp c e be wd wh ta tp nm fg tb kd me = (1, fn, fp, c', st2, be2, tk4, wd2, wh2, ta', nm', tb', kd', me') ∧ FfG_X8_figureLine e at1 en1 tk3 wm1 ns1 fa pl fr lt1 tm = (at2, en2, tk5, wm2, ns2, fa, pl, 0, fr', lt2) ∧ rp_K e st2 be2 tk4 wd2 wh2 at2 en2 tk5 wm2 ns2 lt2 ∧ st1 < st2 ∧ rp_D fg sp sa sh lw ti pu fi tb' sc wc c' kd' me' sf sm wf wt nm' fr') ∨
      (∃ q p, rp_fc (Ff_X3_readFigure fn fp c e be wd wh ta tp nm fg tb kd me) q p ∧ rp_fm (FfG_X8_figureLine e at1 en1 tk3 wm1 ns1 fa pl fr lt1 tm) q p) := by
    intro kind nn csi csj hk hn0 hn8 hd hc hbe4 hlt4 uc um
    obtain ⟨st5, be5, tk10, wd5, wh5, at5, en5, tk11, wm5, ns5, lt5, m1, m2, m3, m4⟩ := rp_adv hT he be4 wd4 wh4 lt4 hb40 hb41
    rw [hbe4] at m2
    have mq : FfG_X8_pass e en4 tm lt4 = (at5, en5, tk11, wm5, ns5, lt5) := by simp only [FfG_X8_pass, m2, fl_c6]
    rcases rp_num hT he m3 1 20 fn fp fa pl with ⟨st6, be6, tk12, wd6, wh6, at6, en6, tk13, wm6, ns6, lt6, p1, p2, p3, p4, p5, p6, p7, p8, p9, p10⟩ | ⟨q, p1, p2⟩
    · have et : Ff_X3_takeWhole 1 20 fn fp e st4 be4 tk8 wd4 wh4 ta tp nn (fl_A (sxc csi)) = (1, fn, fp, st6, be6, tk12, wd6, wh6, wh5) := by
        simp only [Ff_X3_takeWhole, hc, m1, p1, p2, fl_lt, fl_c2, fl_c3, fl_c4, fl_c5, fl_c6, fl_c7, fl_c8, fl_c9, fl_c10, reduceIte, Int.reduceEq]
      have eadd : Ff_X0_addFigure wh3 kind wh5 tb kd me = (fl_or tb (fl_shl 1 wh3), fl_up kd wh3.toNat kind, fl_up me wh3.toNat wh5) := by
        unfold Ff_X0_addFigure; rw [if_neg (by omega), if_neg (by omega)]; rfl
      have x4 : (fl_up (fl_up fr1 (12 + 2 * wh3.toNat) kind) (13 + 2 * wh3.toNat) wh5) 4 = fr 4 := by
        rw [rp_up_ne _ _ (by omega), rp_up_ne _ _ (by omega), b7 4 (by omega)]
      refine Or.inl ⟨c + 1, wh5, fl_or tb (fl_shl 1 wh3), fl_up kd wh3.toNat kind, fl_up me wh3.toNat wh5, nm1, fl_up (fl_up (fl_up fr1 (12 + 2 * wh3.toNat) kind) (13 + 2 * wh3.toNat) wh5) 4 (fr 4 + 1), st6, be6, tk12, wd6, wh6, at6, en6, tk13, wm6, ns6, lt6, ?_, ?_, p4, by omega, ?_⟩
      · rw [uc]; simp only [et, eadd, fl_lt, fl_c2, fl_c3, fl_c4, fl_c5, fl_c6, fl_c7, fl_c8, fl_c9, fl_c10, reduceIte, Int.reduceEq]
      · rw [um]; simp only [mq, p3, x4, fl_lt, fl_c2, fl_c3, fl_c4, fl_c5, fl_c6, fl_c7, fl_c8, fl_c9, fl_c10, reduceIte, Int.reduceEq]
      · have g : ∀ i : Nat, i ≠ 4 → i ≠ 12 + 2 * wh3.toNat → i ≠ 13 + 2 * wh3.toNat → (fl_up (fl_up (fl_up fr1 (12 + 2 * wh3.toNat) kind) (13 + 2 * wh3.toNat) wh5) 4 (fr 4 + 1)) i = fr1 i := fun i i1 i2 i3 => by
          rw [rp_up_ne _ _ i1, rp_up_ne _ _ i3, rp_up_ne _ _ i2]
        have g0 : ∀ i : Nat, i < 48 → i ≠ 4 → i ≠ 12 + 2 * wh3.toNat → i ≠ 13 + 2 * wh3.toNat → (fl_up (fl_up (fl_up fr1 (12 + 2 * wh3.toNat) kind) (13 + 2 * wh3.toNat) wh5) 4 (fr 4 + 1)) i = fr i := fun i i0 i1 i2 i3 => by rw [g i i1 i2 i3, b7 i i0]
        have hbits := rp_bits ⟨tb.toNat, by omega⟩ ⟨wh3.toNat, by omega⟩
        simp only [Int.toNat_of_nonneg f1, Int.toNat_of_nonneg d9] at hbits
        obtain ⟨⟨t1, t2⟩, t3, t4⟩ := hbits
        refine ⟨?_, ⟨t1, t2, ?_, ?_, ?_, ?_⟩, rp_Dw_cg hw' (fun i hi => g0 i (by omega) (by omega) (by omega) (by omega)), rp_Ds_cg hs (fun i hi => g0 i (by omega) (by omega) (by omega) (by omega)), ?_, ?_, ?_⟩
        · obtain ⟨⟨k1, k2, k3, k4⟩, k5, k6, k7⟩ := hh
          unfold rp_Dh
          rw [g0 0 (by omega) (by omega) (by omega) (by omega), g0 1 (by omega) (by omega) (by omega) (by omega), g0 2 (by omega) (by omega) (by omega) (by omega), g0 3 (by omega) (by omega) (by omega) (by omega), g0 5 (by omega) (by omega) (by omega) (by omega), g0 6 (by omega) (by omega) (by omega) (by omega), g0 7 (by omega) (by omega) (by omega) (by omega), g0 8 (by omega) (by omega) (by omega) (by omega), g0 9 (by omega) (by omega) (by omega) (by omega), g0 10 (by omega) (by omega) (by omega) (by omega), g0 11 (by omega) (by omega) (by omega) (by omega), rp_up_eq]
          exact ⟨⟨k1, k2, fun h => absurd h hT11, k4⟩, k5, k6, k7⟩
        · intro f hf
          have hq := t4 ⟨f, hf⟩
          simp only at hq
          by_cases q : f = wh3.toNat
          · subst q
            rw [rp_up_eq, rp_up_eq, rp_up_ne _ _ (by omega), rp_up_ne _ _ (by omega), rp_up_eq, rp_up_ne _ _ (by omega), rp_up_eq]
            refine ⟨rfl, rfl, by omega, ?_⟩
            rw [hq]
            exact ⟨fun _ => by omega, fun _ => Or.inr rfl⟩
          · rw [rp_up_ne _ _ q, rp_up_ne _ _ q, g0 _ (by omega) (by omega) (by omega) (by omega), g0 _ (by omega) (by omega) (by omega) (by omega)]
            obtain ⟨o1, o2, o3, o4⟩ := f3 f hf
            refine ⟨o1, o2, o3, ?_⟩
            rw [hq, ← o4]
            exact ⟨fun h => h.elim id (fun h => absurd h q), Or.inl⟩
        · rw [rp_up_eq]
          rcases t3 with t3 | t3
          · exact absurd t3 hb
          · rw [t3, f4]
        · rw [rp_up_eq]; omega
        · rw [rp_up_eq]; omega
        · rw [g0 5 (by omega) (by omega) (by omega) (by omega), rp_up_eq]; omega
        · exact rp_N_cg b6 (fun i hi => g i (by omega) (by omega) (by omega))
        · intro s hs2 h0
          rw [g (48 + s) (by omega) (by omega) (by omega), b8 s hs2] at h0
          rw [g0 5 (by omega) (by omega) (by omega) (by omega), rp_up_eq]
          by_cases q : s = (fr 4).toNat
          · left; omega
          · rw [if_neg q] at h0
            have := n3 s hs2 h0; omega
    · have et : Ff_X3_takeWhole 1 20 fn fp e st4 be4 tk8 wd4 wh4 ta tp nn (fl_A (sxc csi)) = (0, q, st5, st5, be5, tk10, wd5, wh5, ta) := by
        simp only [Ff_X3_takeWhole, hc, m1, p1, fl_lt, fl_c2, fl_c3, fl_c4, fl_c5, fl_c6, fl_c7, fl_c8, fl_c9, fl_c10, reduceIte, Int.reduceEq]
      refine Or.inr ⟨q, st5, ?_, ?_⟩
      · rw [uc]; simp only [et, fl_lt, fl_c2, fl_c3, fl_c4, fl_c5, fl_c6, fl_c7, fl_c8, fl_c9, fl_c10, reduceIte, Int.reduceEq]; exact ⟨rfl, rfl, rfl⟩
      · rw [um]; simp only [mq, p2, fl_lt, fl_c2, fl_c3, fl_c4, fl_c5, fl_c6, fl_c7, fl_c8, fl_c9, fl_c10, reduceIte, Int.reduceEq]; exact ⟨rfl, rfl, rfl⟩
  rcases rp_isw k3 (nn := 5) (by decide) (by decide) rp_sw_walks with ⟨o1, o2⟩ | ⟨o1, o2, -, -, o5, o6⟩
  · rcases rp_isw k3 (nn := 6) (by decide) (by decide) rp_sw_speaks with ⟨u1, u2⟩ | ⟨u1, u2, -, -, u5, u6⟩
    · have et : Ff_X3_takeWhole 1 20 fn fp e st4 be4 tk8 wd4 wh4 ta tp 6 (fl_A (sxc 14)) = (0, 1, st4, st4, be4, tk8, wd4, wh4, ta) := by
        simp only [Ff_X3_takeWhole, u1, fl_lt, fl_c2, fl_c3, fl_c4, fl_c5, fl_c6, fl_c7, fl_c8, fl_c9, fl_c10, reduceIte, Int.reduceEq]; rfl
      refine Or.inr ⟨1, st4, ?_, ?_⟩
      · simp only [Ff_X3_readFigure, a1, b1, c1, d1, if_neg hb, k1, o1, et, fl_lt, fl_c2, fl_c3, fl_c4, fl_c5, fl_c6, fl_c7, fl_c8, fl_c9, fl_c10, reduceIte, Int.reduceEq]; exact ⟨rfl, rfl, rfl⟩
      · simp only [FfG_X8_figureLine, b2, c2, la, d2, ix, if_pos hp, kq, o2, u2, FfG_X8_wrong, fl_lt, fl_c2, fl_c3, fl_c4, fl_c5, fl_c6, fl_c7, fl_c8, fl_c9, fl_c10, reduceIte, Int.reduceEq]; exact ⟨rfl, hst4.symm, rfl⟩
    · refine fin 2 6 14 32 (Or.inr rfl) (by decide) (by decide) rp_sw_speaks u1 u5 u6 ?_ ?_
      · simp only [Ff_X3_readFigure, a1, b1, c1, d1, if_neg hb, k1, o1, fl_lt, fl_c2, fl_c3, fl_c4, fl_c5, fl_c6, fl_c7, fl_c8, fl_c9, fl_c10, reduceIte, Int.reduceEq]
      · simp only [FfG_X8_figureLine, b2, c2, la, d2, ix, ix2, if_pos hp, kq, o2, u2, fl_lt, fl_c2, fl_c3, fl_c4, fl_c5, fl_c6, fl_c7, fl_c8, fl_c9, fl_c10, reduceIte, Int.reduceEq]
  · refine fin 1 5 13 31 (Or.inl rfl) (by decide) (by decide) rp_sw_walks o1 o5 o6 ?_ ?_
    · simp only [Ff_X3_readFigure, a1, b1, c1, d1, if_neg hb, k1, o1, fl_lt, fl_c2, fl_c3, fl_c4, fl_c5, fl_c6, fl_c7, fl_c8, fl_c9, fl_c10, reduceIte, Int.reduceEq]
    · simp only [FfG_X8_figureLine, b2, c2, la, d2, ix, ix2, if_pos hp, kq, o2, fl_lt, fl_c2, fl_c3, fl_c4, fl_c5, fl_c6, fl_c7, fl_c8, fl_c9, fl_c10, reduceIte, Int.reduceEq]
end PUH
end P092248_pure8
section P092249_pure9
section PUI

theorem rp_sec {mi sc : Int} {sm : Nat → Int} (h0 : 0 ≤ sc) (h6 : sc ≤ 6) : ((∃ i : Nat, (i : Int) < sc ∧ sm i = mi) ∧ Ff_X0_isSeenMinute mi sc sm = 1) ∨ ((∀ i : Nat, (i : Int) < sc → sm i ≠ mi) ∧ Ff_X0_isSeenMinute mi sc sm = 0) := by
  have main : ∀ (m : Nat) (j : Int), sc + 1 - j ≤ (m : Int) → 0 ≤ j → j ≤ sc → (∀ i : Nat, (i : Int) < j → sm i ≠ mi) → ((∃ i : Nat, (i : Int) < sc ∧ sm i = mi) ∧ fl_wh (Sf_X0_isSeenMinute_2_1 mi sc sm) 0 m j = 1) ∨ ((∀ i : Nat, (i : Int) < sc → sm i ≠ mi) ∧ fl_wh (Sf_X0_isSeenMinute_2_1 mi sc sm) 0 m j = 0) := by
    intro m
    induction m with
    | zero => intro j h1 h2 h3; omega
    | succ m ih =>
      intro j h1 h2 h3 h4
      by_cases hj : sc ≤ j
      · have hs : Sf_X0_isSeenMinute_2_1 mi sc sm j = .inr 0 := by unfold Sf_X0_isSeenMinute_2_1; rw [if_pos hj]
        rw [fl_wh_r hs]
        exact Or.inr ⟨fun i hi => h4 i (by omega), rfl⟩
      · by_cases q : sm j.toNat = mi
        · have hs : Sf_X0_isSeenMinute_2_1 mi sc sm j = .inr 1 := by simp only [Sf_X0_isSeenMinute_2_1, fl_lt]; rw [if_neg hj, if_pos q]
          rw [fl_wh_r hs]
          exact Or.inl ⟨⟨j.toNat, by omega, q⟩, rfl⟩
        · have hs : Sf_X0_isSeenMinute_2_1 mi sc sm j = .inl (j + 1) := by simp only [Sf_X0_isSeenMinute_2_1, fl_lt]; rw [if_neg hj, if_neg q]
          rw [fl_wh_l hs]
          refine ih (j + 1) (by omega) (by omega) (by omega) (fun i hi => ?_)
          by_cases hi2 : i = j.toNat
          · rw [hi2]; exact q
          · exact h4 i (by omega)
  exact main 7 0 (by omega) (by omega) h0 (fun i hi => by omega)
theorem rp_s2 : SfG_X8_seenLine_49_2 = SfG_X8_seenLine_49_1 := rfl
theorem rp_s3 : SfG_X8_seenLine_49_3 = SfG_X8_seenLine_49_1 := rfl
theorem rp_s4 : SfG_X8_seenLine_49_4 = SfG_X8_seenLine_49_1 := rfl
theorem rp_sm1 {e x r27 mi at_ en tk wm ns fa pl : Int} {fr tm lt : Nat → Int} : ∀ (m : Nat) (k : Int), fr 6 + 1 - k ≤ (m : Int) → k ≤ fr 6 →
    fl_wh (fun t9 => SfG_X8_seenLine_49_1 e fr tm x r27 t9.1 t9.2.1 t9.2.2.1 t9.2.2.2.1 t9.2.2.2.2.1 t9.2.2.2.2.2.1 t9.2.2.2.2.2.2.1 t9.2.2.2.2.2.2.2.1 t9.2.2.2.2.2.2.2.2.1 t9.2.2.2.2.2.2.2.2.2.1 t9.2.2.2.2.2.2.2.2.2.2) (0, 0, 0, 0, 0, 0, 0, 0, (fun _ => 0), (fun _ => 0)) m (k, mi, at_, en, tk, wm, ns, fa, pl, 1, lt) = (at_, en, tk, wm, ns, fa, pl, 1, fr, lt) := by
  intro m
  induction m with
  | zero => intro k h1 h2; omega
  | succ m ih =>
    intro k h1 h2
    by_cases hk : fr 6 ≤ k
    · have hs : SfG_X8_seenLine_49_1 e fr tm x r27 k mi at_ en tk wm ns fa pl 1 lt = .inr (at_, en, tk, wm, ns, fa, pl, 1, fr, lt) := by
        unfold SfG_X8_seenLine_49_1
        rw [if_neg (show ¬ (1 : Int) = 0 by decide), fl_lt_eq rfl, if_pos hk]
      rw [fl_wh_r (step := (fun t9 : Int × Int × Int × Int × Int × Int × Int × Int × Int × Int × (Nat → Int) => SfG_X8_seenLine_49_1 e fr tm x r27 t9.1 t9.2.1 t9.2.2.1 t9.2.2.2.1 t9.2.2.2.2.1 t9.2.2.2.2.2.1 t9.2.2.2.2.2.2.1 t9.2.2.2.2.2.2.2.1 t9.2.2.2.2.2.2.2.2.1 t9.2.2.2.2.2.2.2.2.2.1 t9.2.2.2.2.2.2.2.2.2.2)) (s := (k, mi, at_, en, tk, wm, ns, fa, pl, 1, lt)) hs]
    · have hs : SfG_X8_seenLine_49_1 e fr tm x r27 k mi at_ en tk wm ns fa pl 1 lt = .inl (k + 1, mi, at_, en, tk, wm, ns, fa, pl, 1, lt) := by
        unfold SfG_X8_seenLine_49_1
        rw [if_neg (show ¬ (1 : Int) = 0 by decide), fl_lt_eq rfl, if_neg hk]; rfl
      rw [fl_wh_l (step := (fun t9 : Int × Int × Int × Int × Int × Int × Int × Int × Int × Int × (Nat → Int) => SfG_X8_seenLine_49_1 e fr tm x r27 t9.1 t9.2.1 t9.2.2.1 t9.2.2.2.1 t9.2.2.2.2.1 t9.2.2.2.2.2.1 t9.2.2.2.2.2.2.1 t9.2.2.2.2.2.2.2.1 t9.2.2.2.2.2.2.2.2.1 t9.2.2.2.2.2.2.2.2.2.1 t9.2.2.2.2.2.2.2.2.2.2)) (s := (k, mi, at_, en, tk, wm, ns, fa, pl, 1, lt)) hs]
      exact ih (k + 1) (by omega) (by omega)
theorem rp_sm0 {e x r27 mi at_ en tk wm ns fa pl : Int} {fr tm lt : Nat → Int} : ∀ (m : Nat) (k : Int), fr 6 + 1 - k ≤ (m : Int) → 0 ≤ k → k ≤ fr 6 → (∀ i : Nat, (i : Int) < k → fr (37 + 2 * i) ≠ mi) →
    ((∃ i : Nat, (i : Int) < fr 6 ∧ fr (37 + 2 * i) = mi) ∧ fl_wh (fun t9 => SfG_X8_seenLine_49_1 e fr tm x r27 t9.1 t9.2.1 t9.2.2.1 t9.2.2.2.1 t9.2.2.2.2.1 t9.2.2.2.2.2.1 t9.2.2.2.2.2.2.1 t9.2.2.2.2.2.2.2.1 t9.2.2.2.2.2.2.2.2.1 t9.2.2.2.2.2.2.2.2.2.1 t9.2.2.2.2.2.2.2.2.2.2) (0, 0, 0, 0, 0, 0, 0, 0, (fun _ => 0), (fun _ => 0)) m (k, mi, at_, en, tk, wm, ns, fa, pl, 0, lt) = (at_, en, tk, wm, ns, 3, at_, 1, fr, lt)) ∨
    ((∀ i : Nat, (i : Int) < fr 6 → fr (37 + 2 * i) ≠ mi) ∧ fl_wh (fun t9 => SfG_X8_seenLine_49_1 e fr tm x r27 t9.1 t9.2.1 t9.2.2.1 t9.2.2.2.1 t9.2.2.2.2.1 t9.2.2.2.2.2.1 t9.2.2.2.2.2.2.1 t9.2.2.2.2.2.2.2.1 t9.2.2.2.2.2.2.2.2.1 t9.2.2.2.2.2.2.2.2.2.1 t9.2.2.2.2.2.2.2.2.2.2) (0, 0, 0, 0, 0, 0, 0, 0, (fun _ => 0), (fun _ => 0)) m (k, mi, at_, en, tk, wm, ns, fa, pl, 0, lt) = fl_c6 (FfG_X8_pass e en tm lt) (fun y4 y5 y6 y7 y8 y12 => (y4, y5, y6, y7, y8, fa, pl, 0, fl_up (fl_up (fl_up fr x.toNat r27) (x + 1).toNat mi) 6 ((fl_up (fl_up fr x.toNat r27) (x + 1).toNat mi) 6 + 1), y12))) := by
  intro m
  induction m with
  | zero => intro k h1 h2 h3; omega
  | succ m ih =>
    intro k h1 h2 h3 h4
    by_cases hk : fr 6 ≤ k
    · have hs : SfG_X8_seenLine_49_1 e fr tm x r27 k mi at_ en tk wm ns fa pl 0 lt = .inr (fl_c6 (FfG_X8_pass e en tm lt) (fun y4 y5 y6 y7 y8 y12 => (y4, y5, y6, y7, y8, fa, pl, 0, fl_up (fl_up (fl_up fr x.toNat r27) (x + 1).toNat mi) 6 ((fl_up (fl_up fr x.toNat r27) (x + 1).toNat mi) 6 + 1), y12))) := by
        unfold SfG_X8_seenLine_49_1
        rw [if_pos (show (0 : Int) = 0 from rfl), fl_lt_eq rfl, if_pos hk]; rfl
      rw [fl_wh_r (step := (fun t9 : Int × Int × Int × Int × Int × Int × Int × Int × Int × Int × (Nat → Int) => SfG_X8_seenLine_49_1 e fr tm x r27 t9.1 t9.2.1 t9.2.2.1 t9.2.2.2.1 t9.2.2.2.2.1 t9.2.2.2.2.2.1 t9.2.2.2.2.2.2.1 t9.2.2.2.2.2.2.2.1 t9.2.2.2.2.2.2.2.2.1 t9.2.2.2.2.2.2.2.2.2.1 t9.2.2.2.2.2.2.2.2.2.2)) (s := (k, mi, at_, en, tk, wm, ns, fa, pl, 0, lt)) hs]
      exact Or.inr ⟨fun i hi => h4 i (by omega), rfl⟩
    · have ix : (36 + 2 * k + 1).toNat = 37 + 2 * k.toNat := by omega
      by_cases q : fr (37 + 2 * k.toNat) = mi
      · have hs : SfG_X8_seenLine_49_1 e fr tm x r27 k mi at_ en tk wm ns fa pl 0 lt = .inl (k + 1, mi, at_, en, tk, wm, ns, 3, at_, 1, lt) := by
          unfold SfG_X8_seenLine_49_1
          rw [if_pos (show (0 : Int) = 0 from rfl), fl_lt_eq rfl, if_neg hk, fl_lt_eq rfl, fl_lt_eq rfl, fl_lt_eq rfl, ix, fl_lt_eq rfl, if_pos q]; rfl
        rw [fl_wh_l (step := (fun t9 : Int × Int × Int × Int × Int × Int × Int × Int × Int × Int × (Nat → Int) => SfG_X8_seenLine_49_1 e fr tm x r27 t9.1 t9.2.1 t9.2.2.1 t9.2.2.2.1 t9.2.2.2.2.1 t9.2.2.2.2.2.1 t9.2.2.2.2.2.2.1 t9.2.2.2.2.2.2.2.1 t9.2.2.2.2.2.2.2.2.1 t9.2.2.2.2.2.2.2.2.2.1 t9.2.2.2.2.2.2.2.2.2.2)) (s := (k, mi, at_, en, tk, wm, ns, fa, pl, 0, lt)) hs]
        exact Or.inl ⟨⟨k.toNat, by omega, q⟩, rp_sm1 m (k + 1) (by omega) (by omega)⟩
      · have hs : SfG_X8_seenLine_49_1 e fr tm x r27 k mi at_ en tk wm ns fa pl 0 lt = .inl (k + 1, mi, at_, en, tk, wm, ns, fa, pl, 0, lt) := by
          unfold SfG_X8_seenLine_49_1
          rw [if_pos (show (0 : Int) = 0 from rfl), fl_lt_eq rfl, if_neg hk, fl_lt_eq rfl, fl_lt_eq rfl, fl_lt_eq rfl, ix, fl_lt_eq rfl, if_neg q]; rfl
        rw [fl_wh_l (step := (fun t9 : Int × Int × Int × Int × Int × Int × Int × Int × Int × Int × (Nat → Int) => SfG_X8_seenLine_49_1 e fr tm x r27 t9.1 t9.2.1 t9.2.2.1 t9.2.2.2.1 t9.2.2.2.2.1 t9.2.2.2.2.2.1 t9.2.2.2.2.2.2.1 t9.2.2.2.2.2.2.2.1 t9.2.2.2.2.2.2.2.2.1 t9.2.2.2.2.2.2.2.2.2.1 t9.2.2.2.2.2.2.2.2.2.2)) (s := (k, mi, at_, en, tk, wm, ns, fa, pl, 0, lt)) hs]
        refine ih (k + 1) (by omega) (by omega) (by omega) (fun i hi => ?_)
        by_cases hi2 : i = k.toNat
        · rw [hi2]; exact q
        · exact h4 i (by omega)
/-- seen: readSeen and seenLine -/
theorem rp_seen {tp tm : Nat → Int} {e st be tk wd wh : Int} (hT : rp_T tp tm e) (he : e ≤ 900) {st1 be1 tk1 wd1 wh1 at1 en1 tk3 wm1 ns1 : Int} {lt1 : Nat → Int} (w0 : Ff_X3_isWord tk wd 4 (fl_A (sxc 4)) = 1) (a1 : Ff_X3_advance e be wd wh tp = (st1, be1, tk1, wd1, wh1)) (a3 : rp_K e st1 be1 tk1 wd1 wh1 at1 en1 tk3 wm1 ns1 lt1)
    {fg sp sa sh lw ti pu fi tb sc wc c : Int} {kd me sf sm wf wt nm fr : Nat → Int} (hD : rp_D fg sp sa sh lw ti pu fi tb sc wc c kd me sf sm wf wt nm fr) (hw : sc < 6) (hT11 : ¬ fr 11 = 0) (fn fp ta fa pl : Int) :
    (∃ ta' sc' sm' sf' fr' st2 be2 tk4 wd2 wh2 at2 en2 tk5 wm2 ns2 lt2, Ff_X3_readSeen fn fp e st be tk wd wh ta fg sc tp sm sf = (1, fn, fp, st2, be2, tk4, wd2, wh2, ta', sc', sm', sf') ∧ FfG_X8_seenLine e at1 en1 tk3 wm1 ns1 fa pl fr tm lt1 = (at2, en2, tk5, wm2, ns2, fa, pl, 0, fr', lt2) ∧ rp_K e st2 be2 tk4 wd2 wh2 at2 en2 tk5 wm2 ns2 lt2 ∧ st1 < st2 ∧ rp_D fg sp sa sh lw ti pu fi tb sc' wc c kd me sf' sm' wf wt nm fr') ∨
    (∃ q p, rp_fc (Ff_X3_readSeen fn fp e st be tk wd wh ta fg sc tp sm sf) q p ∧ rp_fm (FfG_X8_seenLine e at1 en1 tk3 wm1 ns1 fa pl fr tm lt1) q p) := by
  obtain ⟨hh, hf, hw', ⟨s1, s2, s3, s4⟩, hn⟩ := hD
  have hfg : fg = fr 0 := hh.1.1
  have la : Ff_X8_last fr = fg - 1 := by rw [hfg]; rfl
  have sk : ∀ (mi at_ en tk wm ns fa pl x r27 : Int) (lt : Nat → Int), fl_wh (fun t9 => SfG_X8_seenLine_49_1 e fr tm x r27 t9.1 t9.2.1 t9.2.2.1 t9.2.2.2.1 t9.2.2.2.2.1 t9.2.2.2.2.2.1 t9.2.2.2.2.2.2.1 t9.2.2.2.2.2.2.2.1 t9.2.2.2.2.2.2.2.2.1 t9.2.2.2.2.2.2.2.2.2.1 t9.2.2.2.2.2.2.2.2.2.2) (0, 0, 0, 0, 0, 0, 0, 0, (fun _ => 0), (fun _ => 0)) 6 (0, mi, at_, en, tk, wm, ns, fa, pl, 1, lt) = (at_, en, tk, wm, ns, fa, pl, 1, fr, lt) := fun mi at_ en tk wm ns fa pl x r27 lt => rp_sm1 6 0 (by omega) (by omega)
  rcases rp_num hT he a3 0 (fg - 1) fn fp fa pl with ⟨st2, be2, tk4, wd2, wh2, at2, en2, tk5, wm2, ns2, lt2, b1, b2, b3, b4, b5, b6, b7, b8, b9, b10⟩ | ⟨q, b1, b2⟩
  rotate_left
  · have et : Ff_X3_takeWhole 0 (fg - 1) fn fp e st be tk wd wh ta tp 4 (fl_A (sxc 4)) = (0, q, st1, st1, be1, tk1, wd1, wh1, ta) := by
      simp only [Ff_X3_takeWhole, w0, a1, b1, fl_lt, fl_c2, fl_c3, fl_c4, fl_c5, fl_c6, fl_c7, fl_c8, fl_c9, fl_c10, reduceIte, Int.reduceEq]
    refine Or.inr ⟨q, st1, ?_, ?_⟩
    · simp only [Ff_X3_readSeen, et, fl_lt, fl_c2, fl_c3, fl_c4, fl_c5, fl_c6, fl_c7, fl_c8, fl_c9, fl_c10, reduceIte, Int.reduceEq]; exact ⟨rfl, rfl, rfl⟩
    · simp only [FfG_X8_seenLine, la, b2, sk, fl_lt, fl_c2, fl_c3, fl_c4, fl_c5, fl_c6, fl_c7, fl_c8, fl_c9, fl_c10, reduceIte, Int.reduceEq]; exact ⟨rfl, rfl, rfl⟩
  have et : Ff_X3_takeWhole 0 (fg - 1) fn fp e st be tk wd wh ta tp 4 (fl_A (sxc 4)) = (1, fn, fp, st2, be2, tk4, wd2, wh2, wh1) := by
    simp only [Ff_X3_takeWhole, w0, a1, b1, b2, fl_lt, fl_c2, fl_c3, fl_c4, fl_c5, fl_c6, fl_c7, fl_c8, fl_c9, fl_c10, reduceIte, Int.reduceEq]
  rcases rp_tkw hT he b4 (nn := 2) (by decide) (by decide) rp_sw_at fn fp fa pl with ⟨st3, be3, tk6, wd3, wh3, at3, en3, tk7, wm3, ns3, lt3, c1, c2, c3, c4, c5⟩ | ⟨c1, c2⟩
  rotate_left
  · refine Or.inr ⟨1, st2, ?_, ?_⟩
    · simp only [Ff_X3_readSeen, et, c1, fl_lt, fl_c2, fl_c3, fl_c4, fl_c5, fl_c6, fl_c7, fl_c8, fl_c9, fl_c10, reduceIte, Int.reduceEq]; exact ⟨rfl, rfl, rfl⟩
    · simp only [FfG_X8_seenLine, la, b3, c2, rp_s2, sk, fl_lt, fl_c2, fl_c3, fl_c4, fl_c5, fl_c6, fl_c7, fl_c8, fl_c9, fl_c10, reduceIte, Int.reduceEq]; exact ⟨rfl, rfl, rfl⟩
  rcases rp_iww c3 0 999 fn fp fa pl with ⟨d1, d2, -, d4, d5, d6, d7, d8, d9, d10⟩ | ⟨q, d1, d2⟩
  rotate_left
  · refine Or.inr ⟨q, st3, ?_, ?_⟩
    · simp only [Ff_X3_readSeen, et, c1, d1, fl_lt, fl_c2, fl_c3, fl_c4, fl_c5, fl_c6, fl_c7, fl_c8, fl_c9, fl_c10, reduceIte, Int.reduceEq]; exact ⟨rfl, rfl, rfl⟩
    · simp only [FfG_X8_seenLine, la, b3, c2, d2, rp_s3, sk, fl_lt, fl_c2, fl_c3, fl_c4, fl_c5, fl_c6, fl_c7, fl_c8, fl_c9, fl_c10, reduceIte, Int.reduceEq]; exact ⟨rfl, rfl, rfl⟩
  have hst3 : st3 = at3 := c3.1
  have ix : (36 + 2 * fr 6).toNat = 36 + 2 * sc.toNat := by omega
  have ix2 : (36 + 2 * fr 6 + 1).toNat = 37 + 2 * sc.toNat := by omega
  rcases rp_sm0 (e := e) (x := 36 + 2 * fr 6) (r27 := wh1) (mi := wh3) (at_ := at3) (en := en3) (tk := tk7) (wm := wm3) (ns := ns3) (fa := fa) (pl := pl) (fr := fr) (tm := tm) (lt := lt3) 6 0 (by omega) (by omega) (by omega) (fun i hi => by omega) with ⟨⟨i, i1, i2⟩, g⟩ | ⟨hno, g⟩
  · have gc : Ff_X0_isSeenMinute wh3 sc sm = 1 := by
      rcases rp_sec (mi := wh3) (sc := sc) (sm := sm) s2 (by omega) with ⟨-, h⟩ | ⟨h, -⟩
      · exact h
      · exact absurd ((s4 i (by omega)).2.trans i2) (h i (by omega))
    refine Or.inr ⟨3, st3, ?_, ?_⟩
    · simp only [Ff_X3_readSeen, et, c1, d1, gc, Ff_X3_fails, fl_lt, fl_c2, fl_c3, fl_c4, fl_c5, fl_c6, fl_c7, fl_c8, fl_c9, fl_c10, reduceIte, Int.reduceEq]; exact ⟨rfl, rfl, rfl⟩
    · simp only [FfG_X8_seenLine, la, b3, c2, d2, rp_s4, g, fl_lt, fl_c2, fl_c3, fl_c4, fl_c5, fl_c6, fl_c7, fl_c8, fl_c9, fl_c10, reduceIte, Int.reduceEq]; exact ⟨rfl, hst3.symm, rfl⟩
  · have gc : Ff_X0_isSeenMinute wh3 sc sm = 0 := by
      rcases rp_sec (mi := wh3) (sc := sc) (sm := sm) s2 (by omega) with ⟨⟨i, i1, i2⟩, -⟩ | ⟨-, h⟩
      · exact absurd (((s4 i i1).2.symm).trans i2) (hno i (by omega))
      · exact h
    obtain ⟨st4, be4, tk8, wd4, wh4, at4, en4, tk9, wm4, ns4, lt4, k1, k2, k3, k4⟩ := rp_adv hT he be3 wd3 wh3 lt3 c3.2.2.2.1 c3.2.2.2.2.1
    rw [d7] at k2
    have kq : FfG_X8_pass e en3 tm lt3 = (at4, en4, tk9, wm4, ns4, lt4) := by simp only [FfG_X8_pass, k2, fl_c6]
    have hadd : Ff_X0_addSeen wh1 wh3 sc sf sm = (sc + 1, fl_up sf sc.toNat wh1, fl_up sm sc.toNat wh3) := by
      unfold Ff_X0_addSeen; rw [if_neg (by omega)]; rfl
    have x6 : (fl_up (fl_up fr (36 + 2 * sc.toNat) wh1) (37 + 2 * sc.toNat) wh3) 6 = fr 6 := by
      rw [rp_up_ne _ _ (by omega), rp_up_ne _ _ (by omega)]
    rw [ix, ix2, x6] at g
    refine Or.inl ⟨wh1, sc + 1, fl_up sm sc.toNat wh3, fl_up sf sc.toNat wh1, fl_up (fl_up (fl_up fr (36 + 2 * sc.toNat) wh1) (37 + 2 * sc.toNat) wh3) 6 (fr 6 + 1), st4, be4, tk8, wd4, wh4, at4, en4, tk9, wm4, ns4, lt4, ?_, ?_, k3, by omega, ?_⟩
    · simp only [Ff_X3_readSeen, et, c1, d1, gc, hadd, k1, fl_lt, fl_c2, fl_c3, fl_c4, fl_c5, fl_c6, fl_c7, fl_c8, fl_c9, fl_c10, reduceIte, Int.reduceEq]
    · simp only [FfG_X8_seenLine, la, b3, c2, d2, rp_s4, g, kq, fl_lt, fl_c2, fl_c3, fl_c4, fl_c5, fl_c6, fl_c7, fl_c8, fl_c9, fl_c10, reduceIte, Int.reduceEq]
    · have g0 : ∀ i : Nat, i ≠ 6 → i ≠ 36 + 2 * sc.toNat → i ≠ 37 + 2 * sc.toNat → (fl_up (fl_up (fl_up fr (36 + 2 * sc.toNat) wh1) (37 + 2 * sc.toNat) wh3) 6 (fr 6 + 1)) i = fr i := fun i i1 i2 i3 => by
        rw [rp_up_ne _ _ i1, rp_up_ne _ _ i3, rp_up_ne _ _ i2]
      refine ⟨?_, rp_Df_cg hf (fun i hi => g0 i (by omega) (by omega) (by omega)), rp_Dw_cg hw' (fun i hi => g0 i (by omega) (by omega) (by omega)), ⟨?_, by omega, by omega, ?_⟩, rp_Dn_cg hn (fun i hi => g0 i (by omega) (by omega) (by omega))⟩
      · obtain ⟨⟨k1, k2, k3, k4⟩, k5, k6, k7⟩ := hh
        unfold rp_Dh
        rw [g0 0 (by omega) (by omega) (by omega), g0 1 (by omega) (by omega) (by omega), g0 2 (by omega) (by omega) (by omega), g0 3 (by omega) (by omega) (by omega), g0 4 (by omega) (by omega) (by omega), g0 5 (by omega) (by omega) (by omega), g0 7 (by omega) (by omega) (by omega), g0 8 (by omega) (by omega) (by omega), g0 9 (by omega) (by omega) (by omega), g0 10 (by omega) (by omega) (by omega), g0 11 (by omega) (by omega) (by omega), rp_up_eq]
        exact ⟨⟨k1, k2, fun h => absurd h hT11, k4⟩, k5, k6, k7⟩
      · rw [rp_up_eq]; omega
      · intro i hi
        by_cases q : i = sc.toNat
        · subst q
          rw [rp_up_eq, rp_up_eq]
          constructor
          · rw [rp_up_ne _ _ (by omega), rp_up_ne _ _ (by omega), rp_up_eq]
          · rw [rp_up_ne _ _ (by omega), rp_up_eq]
        · rw [rp_up_ne _ _ q, rp_up_ne _ _ q, g0 _ (by omega) (by omega) (by omega), g0 _ (by omega) (by omega) (by omega)]
          exact s4 i (by omega)
end PUI
end P092249_pure9
section P0922491_pure10
section PUJ
set_option maxRecDepth 20000 in

theorem rp_g74 : Gf_X3_readLine_74_2 = Gf_X3_readLine_74_1 := rfl
theorem rp_beg0 {can e at_ en tk2 wm ns fa pl nn : Int} {lt fr tm cs : Nat → Int} (w : FfG_X8_isWord tk2 ns lt nn cs = 0) : FfG_X8_begins can e at_ en tk2 wm ns fa pl lt fr tm nn cs = (0, at_, en, tk2, wm, ns, fa, pl, 0, lt) := by
  unfold FfG_X8_begins; rw [fl_lt_eq w.symm, if_pos rfl]
theorem rp_beg5 {e at_ en tk2 wm ns fa pl nn : Int} {lt fr tm cs : Nat → Int} (w : FfG_X8_isWord tk2 ns lt nn cs = 1) : FfG_X8_begins 0 e at_ en tk2 wm ns fa pl lt fr tm nn cs = (1, at_, en, tk2, wm, ns, 5, at_, 1, lt) := by
  unfold FfG_X8_begins; rw [fl_lt_eq w.symm, if_neg (show ¬ (1 : Int) = 0 by decide), if_pos rfl]
  simp only [FfG_X8_wrong, fl_lt, fl_c2, fl_c3, fl_c4, fl_c5, fl_c6, fl_c7, fl_c8, fl_c9, fl_c10, reduceIte, Int.reduceEq, ite_self]
theorem rp_beg6 {e at_ en tk2 wm ns fa pl nn : Int} {lt fr tm cs : Nat → Int} (w : FfG_X8_isWord tk2 ns lt nn cs = 1) (h : fr 11 = 0) : FfG_X8_begins 1 e at_ en tk2 wm ns fa pl lt fr tm nn cs = (1, at_, en, tk2, wm, ns, 6, at_, 1, lt) := by
  unfold FfG_X8_begins; rw [fl_lt_eq w.symm, if_neg (show ¬ (1 : Int) = 0 by decide), if_neg (show ¬ (1 : Int) = 0 by decide), fl_lt_eq h.symm, if_pos rfl]
  simp only [FfG_X8_wrong, fl_lt, fl_c2, fl_c3, fl_c4, fl_c5, fl_c6, fl_c7, fl_c8, fl_c9, fl_c10, reduceIte, Int.reduceEq]
theorem rp_beg1 {e at_ en tk2 wm ns fa pl nn at1 en1 tk3 wm1 ns1 : Int} {lt lt1 fr tm cs : Nat → Int} (w : FfG_X8_isWord tk2 ns lt nn cs = 1) (h : ¬ fr 11 = 0) (a2 : Ff_X8_next e en tm lt = (at1, en1, tk3, wm1, ns1, lt1)) : FfG_X8_begins 1 e at_ en tk2 wm ns fa pl lt fr tm nn cs = (1, at1, en1, tk3, wm1, ns1, fa, pl, 0, lt1) := by
  unfold FfG_X8_begins; rw [fl_lt_eq w.symm, if_neg (show ¬ (1 : Int) = 0 by decide), if_neg (show ¬ (1 : Int) = 0 by decide), fl_lt_eq rfl, if_neg h]
  simp only [FfG_X8_pass, a2, fl_lt, fl_c2, fl_c3, fl_c4, fl_c5, fl_c6, fl_c7, fl_c8, fl_c9, fl_c10, reduceIte, Int.reduceEq]
/-- a line -/
theorem rp_line {tp tm : Nat → Int} {e st be tk wd wh at_ en tk2 wm ns : Int} {lt : Nat → Int} (hT : rp_T tp tm e) (he : e ≤ 900) (hK : rp_K e st be tk wd wh at_ en tk2 wm ns lt)
    {fg sp sa sh lw ti pu fi tb sc wc c : Int} {kd me sf sm wf wt nm fr : Nat → Int} (hD : rp_D fg sp sa sh lw ti pu fi tb sc wc c kd me sf sm wf wt nm fr) (fn fp ta fa pl : Int) :
    (∃ c' ta' fg' sp' sa' sh' lw' ti' pu' fi' tb' sc' wc' nm' kd' me' wf' wt' sm' sf' fr' st2 be2 tk4 wd2 wh2 at2 en2 tk5 wm2 ns2 lt2, Ff_X3_readLine fn fp c e st be tk wd wh ta fg sp sa sh lw ti pu fi tb sc tp nm kd me wc wf wt sm sf = (1, fn, fp, c', st2, be2, tk4, wd2, wh2, ta', fg', sp', sa', sh', lw', ti', pu', fi', tb', sc', nm', kd', me', wc', wf', wt', sm', sf') ∧ FfG_X8_readLine e at_ en tk2 wm ns fa pl lt fr tm = (at2, en2, tk5, wm2, ns2, fa, pl, 0, lt2, fr') ∧ rp_K e st2 be2 tk4 wd2 wh2 at2 en2 tk5 wm2 ns2 lt2 ∧ st < st2 ∧ rp_D fg' sp' sa' sh' lw' ti' pu' fi' tb' sc' wc' c' kd' me' sf' sm' wf' wt' nm' fr') ∨
    (∃ q p, rp_fc (Ff_X3_readLine fn fp c e st be tk wd wh ta fg sp sa sh lw ti pu fi tb sc tp nm kd me wc wf wt sm sf) q p ∧ rp_fm (FfG_X8_readLine e at_ en tk2 wm ns fa pl lt fr tm) q p) := by
  have hst : st = at_ := hK.1
  have hb0 : 0 ≤ be := hK.2.2.2.1
  have hb1 : be ≤ e := hK.2.2.2.2.1
  have n01 : ¬ (0 : Int) = 1 := by decide
  have n10 : ¬ (1 : Int) = 0 := by decide
  have hD0 := hD
  obtain ⟨⟨⟨h1, h2, h3, h4⟩, h5, h6, h7⟩, hf, hwD, hsD, hn⟩ := hD
  rcases rp_isw hK (nn := 7) (by decide) (by decide) rp_sw_gallery with ⟨w1, m1⟩ | ⟨w1, m1, -, -, hbe, hlt⟩
  rotate_left
  · -- gallery
    have uc : Ff_X3_readLine fn fp c e st be tk wd wh ta fg sp sa sh lw ti pu fi tb sc tp nm kd me wc wf wt sm sf = if fg ≤ 0 then fl_c13 (Ff_X3_readHall fn fp e be wd wh ta tp fg sp sa sh) (fun r28 v1 v2 v8 v9 v10 v11 v12 v13 x0 x1 x2 x3 => if r28 = 1 then (1, v1, v2, c, v8, v9, v10, v11, v12, v13, x0, x1, x2, x3, lw, ti, pu, fi, tb, sc, nm, kd, me, wc, wf, wt, sm, sf) else (0, v1, v2, c, v8, v9, v10, v11, v12, v13, x0, x1, x2, x3, lw, ti, pu, fi, tb, sc, nm, kd, me, wc, wf, wt, sm, sf)) else (0, 3, st, c, st, be, tk, wd, wh, ta, fg, sp, sa, sh, lw, ti, pu, fi, tb, sc, nm, kd, me, wc, wf, wt, sm, sf) := by
      unfold Ff_X3_readLine; rw [fl_lt_eq w1.symm, if_pos rfl]; rfl
    have um : FfG_X8_readLine e at_ en tk2 wm ns fa pl lt fr tm = fl_c10 (FfG_X8_galleryLine e at_ en tk2 wm ns fa pl fr tm lt) (fun v4 v5 v6 v7 v8 v9 v10 v13 v16 v12 => if v13 = 1 then (v4, v5, v6, v7, v8, v9, v10, 1, v12, v16) else (v4, v5, v6, v7, v8, v9, v10, 0, v12, v16)) := by
      unfold FfG_X8_readLine; rw [fl_lt_eq m1.symm, if_neg n10]
    by_cases h11 : fr 11 = 0
    · obtain ⟨z0, z10, z4, z5, z6⟩ := h3 h11
      rw [if_pos (by omega)] at uc
      rcases rp_hall hT he hK hbe h11 fn fp ta fg sp sa sh fa pl with ⟨v1, v2, v3, v4, st1, be1, tk1, wd1, wh1, at1, en1, tk3, wm1, ns1, lt1, b1, b2, b3, b4, b5, b6, b7, b8, b9, b10, b11, b12⟩ | ⟨q, p, b1, b2⟩
      · refine Or.inl ⟨c, v4, v1, v2, v3, v4, lw, ti, pu, fi, tb, sc, wc, nm, kd, me, wf, wt, sm, sf, fl_up (fl_up (fl_up (fl_up (fl_up fr 0 v1) 1 v2) 2 v3) 3 v4) 11 1, st1, be1, tk1, wd1, wh1, at1, en1, tk3, wm1, ns1, lt1, ?_, ?_, b3, by omega, ?_⟩
        · rw [uc, b1]; rfl
        · rw [um, b2]; rfl
        · have g0 : ∀ i : Nat, i ≠ 0 → i ≠ 1 → i ≠ 2 → i ≠ 3 → i ≠ 11 → (fl_up (fl_up (fl_up (fl_up (fl_up fr 0 v1) 1 v2) 2 v3) 3 v4) 11 1) i = fr i := fun i i0 i1 i2 i3 i4 => by
            rw [rp_up_ne _ _ i4, rp_up_ne _ _ i3, rp_up_ne _ _ i2, rp_up_ne _ _ i1, rp_up_ne _ _ i0]
          have e0 : (fl_up (fl_up (fl_up (fl_up (fl_up fr 0 v1) 1 v2) 2 v3) 3 v4) 11 1) 0 = v1 := rfl
          have e1 : (fl_up (fl_up (fl_up (fl_up (fl_up fr 0 v1) 1 v2) 2 v3) 3 v4) 11 1) 1 = v2 := rfl
          have e2 : (fl_up (fl_up (fl_up (fl_up (fl_up fr 0 v1) 1 v2) 2 v3) 3 v4) 11 1) 2 = v3 := rfl
          have e3 : (fl_up (fl_up (fl_up (fl_up (fl_up fr 0 v1) 1 v2) 2 v3) 3 v4) 11 1) 3 = v4 := rfl
          have e11 : (fl_up (fl_up (fl_up (fl_up (fl_up fr 0 v1) 1 v2) 2 v3) 3 v4) 11 1) 11 = 1 := rfl
          refine ⟨⟨⟨e0.symm, Or.inr e11, fun h => ?_, fun _ => ⟨?_, ?_, e1.symm, e2.symm, e3.symm⟩⟩, ?_, h6, fun h => ?_⟩, rp_Df_cg hf (fun i hi => g0 i (by omega) (by omega) (by omega) (by omega) (by omega)), rp_Dw_cg hwD (fun i hi => g0 i (by omega) (by omega) (by omega) (by omega) (by omega)), rp_Ds_cg hsD (fun i hi => g0 i (by omega) (by omega) (by omega) (by omega) (by omega)), rp_Dn_cg hn (fun i hi => g0 i (by omega) (by omega) (by omega) (by omega) (by omega))⟩
          · rw [e11] at h; omega
          · rw [e0]; exact b5
          · rw [e0]; exact b6
          · rw [g0 10 (by omega) (by omega) (by omega) (by omega) (by omega)]; exact h5
          · omega
      · refine Or.inr ⟨q, p, ?_, ?_⟩
        · rw [uc]; simp only [fl_c13, b1.1, reduceIte, Int.reduceEq]; exact ⟨rfl, b1.2.1, b1.2.2⟩
        · rw [um]; simp only [fl_c10, b2.2.2, reduceIte]; exact ⟨b2.1, b2.2.1, rfl⟩
    · have h11' : fr 11 = 1 := by omega
      have := h4 h11'
      rw [if_neg (by omega)] at uc
      refine Or.inr ⟨3, st, ?_, ?_⟩
      · rw [uc]; exact ⟨rfl, rfl, rfl⟩
      · rw [um]
        have eg : FfG_X8_galleryLine e at_ en tk2 wm ns fa pl fr tm lt = (at_, en, tk2, wm, ns, 3, at_, 1, fr, lt) := by
          unfold FfG_X8_galleryLine; rw [fl_lt_eq rfl, if_neg (by omega)]; rfl
        rw [eg, hst]; exact ⟨rfl, rfl, rfl⟩
  rcases rp_isw hK (nn := 3) (by decide) (by decide) rp_sw_law with ⟨w2, m2⟩ | ⟨w2, m2, -, -, hbe, hlt⟩
  rotate_left
  · -- law
    have uc : Ff_X3_readLine fn fp c e st be tk wd wh ta fg sp sa sh lw ti pu fi tb sc tp nm kd me wc wf wt sm sf = if fg = 0 then (0, 6, st, c, st, be, tk, wd, wh, ta, fg, sp, sa, sh, lw, ti, pu, fi, tb, sc, nm, kd, me, wc, wf, wt, sm, sf) else if lw = 0 then fl_c13 (Ff_X3_readLaw fn fp e be wd wh ta tp fg lw ti pu fi) (fun r28 v1 v2 v8 v9 v10 v11 v12 v13 x4 x5 x6 x7 => if r28 = 1 then (1, v1, v2, c, v8, v9, v10, v11, v12, v13, fg, sp, sa, sh, x4, x5, x6, x7, tb, sc, nm, kd, me, wc, wf, wt, sm, sf) else (0, v1, v2, c, v8, v9, v10, v11, v12, v13, fg, sp, sa, sh, x4, x5, x6, x7, tb, sc, nm, kd, me, wc, wf, wt, sm, sf)) else (0, 3, st, c, st, be, tk, wd, wh, ta, fg, sp, sa, sh, lw, ti, pu, fi, tb, sc, nm, kd, me, wc, wf, wt, sm, sf) := by
      unfold Ff_X3_readLine; rw [fl_lt_eq w1.symm, if_neg n01, fl_lt_eq w2.symm, if_pos rfl]
      unfold Gf_X3_readLine_74_1; rw [fl_lt_eq w2.symm, if_pos rfl]; rfl
    have um : FfG_X8_readLine e at_ en tk2 wm ns fa pl lt fr tm = fl_c10 (FfG_X8_lawLine e at_ en tk2 wm ns fa pl fr tm lt) (fun v4 v5 v6 v7 v8 v9 v10 v13 v16 v12 => if v13 = 1 then (v4, v5, v6, v7, v8, v9, v10, 1, v12, v16) else (v4, v5, v6, v7, v8, v9, v10, 0, v12, v16)) := by
      unfold FfG_X8_readLine; rw [fl_lt_eq m1.symm, if_pos rfl, fl_lt_eq m2.symm, if_neg n10]
    by_cases h11 : fr 11 = 0
    · obtain ⟨z0, z10, z4, z5, z6⟩ := h3 h11
      rw [if_pos (by omega)] at uc
      refine Or.inr ⟨6, st, ?_, ?_⟩
      · rw [uc]; exact ⟨rfl, rfl, rfl⟩
      · have eg : FfG_X8_lawLine e at_ en tk2 wm ns fa pl fr tm lt = (at_, en, tk2, wm, ns, 6, at_, 1, fr, lt) := by
          unfold FfG_X8_lawLine; rw [fl_lt_eq rfl, if_pos (by omega), fl_lt_eq rfl, if_pos h11]; rfl
        rw [um, eg, hst]; exact ⟨rfl, rfl, rfl⟩
    · have h11' : fr 11 = 1 := by omega
      have hb := h4 h11'
      rw [if_neg (by omega)] at uc
      by_cases hlw : lw = 0
      · rw [if_pos hlw] at uc
        rcases rp_law hT he hK hbe (by omega) h11' fn fp ta fg lw ti pu fi fa pl h1 with ⟨v1, v2, v3, st1, be1, tk1, wd1, wh1, at1, en1, tk3, wm1, ns1, lt1, b1, b2, b3, b4, b5, b6, b7, b8, b9, b10⟩ | ⟨q, p, b1, b2⟩
        · refine Or.inl ⟨c, v3, fg, sp, sa, sh, 1, v1, v2, v3, tb, sc, wc, nm, kd, me, wf, wt, sm, sf, fl_up (fl_up (fl_up (fl_up fr 7 v1) 8 v2) 9 v3) 10 1, st1, be1, tk1, wd1, wh1, at1, en1, tk3, wm1, ns1, lt1, ?_, ?_, b3, by omega, ?_⟩
          · rw [uc, b1]; rfl
          · rw [um, b2]; rfl
          · have g0 : ∀ i : Nat, i ≠ 7 → i ≠ 8 → i ≠ 9 → i ≠ 10 → (fl_up (fl_up (fl_up (fl_up fr 7 v1) 8 v2) 9 v3) 10 1) i = fr i := fun i i0 i1 i2 i3 => by
              rw [rp_up_ne _ _ i3, rp_up_ne _ _ i2, rp_up_ne _ _ i1, rp_up_ne _ _ i0]
            refine ⟨⟨⟨?_, ?_, fun h => ?_, fun _ => ?_⟩, rfl, Or.inr rfl, fun _ => ⟨rfl, rfl, rfl, b9, b10⟩⟩, rp_Df_cg hf (fun i hi => g0 i (by omega) (by omega) (by omega) (by omega)), rp_Dw_cg hwD (fun i hi => g0 i (by omega) (by omega) (by omega) (by omega)), rp_Ds_cg hsD (fun i hi => g0 i (by omega) (by omega) (by omega) (by omega)), rp_Dn_cg hn (fun i hi => g0 i (by omega) (by omega) (by omega) (by omega))⟩
            · rw [g0 0 (by omega) (by omega) (by omega) (by omega)]; exact h1
            · rw [g0 11 (by omega) (by omega) (by omega) (by omega)]; exact h2
            · rw [g0 11 (by omega) (by omega) (by omega) (by omega)] at h; exact absurd h h11
            · rw [g0 0 (by omega) (by omega) (by omega) (by omega), g0 1 (by omega) (by omega) (by omega) (by omega), g0 2 (by omega) (by omega) (by omega) (by omega), g0 3 (by omega) (by omega) (by omega) (by omega)]; exact hb
        · refine Or.inr ⟨q, p, ?_, ?_⟩
          · rw [uc]; simp only [fl_c13, b1.1, reduceIte, Int.reduceEq]; exact ⟨rfl, b1.2.1, b1.2.2⟩
          · rw [um]; simp only [fl_c10, b2.2.2, reduceIte]; exact ⟨b2.1, b2.2.1, rfl⟩
      · rw [if_neg hlw] at uc
        refine Or.inr ⟨3, st, ?_, ?_⟩
        · rw [uc]; exact ⟨rfl, rfl, rfl⟩
        · have eg : FfG_X8_lawLine e at_ en tk2 wm ns fa pl fr tm lt = (at_, en, tk2, wm, ns, 3, at_, 1, fr, lt) := by
            unfold FfG_X8_lawLine; rw [fl_lt_eq rfl, if_neg (by omega)]
            simp only [FfG_X8_wrong, fl_lt, fl_c2, fl_c3, fl_c4, fl_c5, fl_c6, fl_c7, fl_c8, fl_c9, fl_c10, reduceIte, Int.reduceEq, ite_self]
          rw [um, eg, hst]; exact ⟨rfl, rfl, rfl⟩
  obtain ⟨st1, be1, tk1, wd1, wh1, at1, en1, tk3, wm1, ns1, lt1, a1, a2, a3, a4⟩ := rp_adv hT he be wd wh lt hb0 hb1
  have h4f : 0 ≤ fr 4 ∧ fr 4 ≤ 9 := ⟨hf.2.2.2.2.1, hf.2.2.2.2.2⟩
  have h5w : wc = fr 5 ∧ 0 ≤ wc ∧ wc ≤ 3 := ⟨hwD.1, hwD.2.1, hwD.2.2.1⟩
  have h6s : sc = fr 6 ∧ 0 ≤ sc ∧ sc ≤ 6 := ⟨hsD.1, hsD.2.1, hsD.2.2.1⟩
  rcases rp_isw hK (nn := 6) (by decide) (by decide) rp_sw_figure with ⟨w3, m3⟩ | ⟨w3, m3, -, -, hbe, hlt⟩
  rotate_left
  · -- figure
    have uc : Ff_X3_readLine fn fp c e st be tk wd wh ta fg sp sa sh lw ti pu fi tb sc tp nm kd me wc wf wt sm sf = if fg = 0 then (0, 6, st, c, st, be, tk, wd, wh, ta, fg, sp, sa, sh, lw, ti, pu, fi, tb, sc, nm, kd, me, wc, wf, wt, sm, sf) else if Ff_J6_bitCount_0f7a4 tb < 9 then fl_c14 (Ff_X3_readFigure fn fp c e be wd wh ta tp nm fg tb kd me) (fun r v1 v2 v6 v8 v9 v10 v11 v12 v13 y4 x8 y10 y11 => if r = 1 then (1, v1, v2, v6, v8, v9, v10, v11, v12, v13, fg, sp, sa, sh, lw, ti, pu, fi, x8, sc, y4, y10, y11, wc, wf, wt, sm, sf) else (0, v1, v2, v6, v8, v9, v10, v11, v12, v13, fg, sp, sa, sh, lw, ti, pu, fi, x8, sc, y4, y10, y11, wc, wf, wt, sm, sf)) else (0, 5, st, c, st, be, tk, wd, wh, ta, fg, sp, sa, sh, lw, ti, pu, fi, tb, sc, nm, kd, me, wc, wf, wt, sm, sf) := by
      unfold Ff_X3_readLine; rw [fl_lt_eq w1.symm, if_neg n01, fl_lt_eq w2.symm, if_neg n01, fl_lt_eq w3.symm, if_pos rfl, rp_g74]
      unfold Gf_X3_readLine_74_1; rw [fl_lt_eq w2.symm, if_neg n01, fl_lt_eq w3.symm, if_pos rfl]; rfl
    rw [show Ff_J6_bitCount_0f7a4 tb = fr 4 from hf.2.2.2.1] at uc
    rw [hbe] at a2
    by_cases h11 : fr 11 = 0
    · obtain ⟨z0, z10, z4, z5, z6⟩ := h3 h11
      rw [if_pos (by omega)] at uc
      refine Or.inr ⟨6, st, ?_, ?_⟩
      · rw [uc]; exact ⟨rfl, rfl, rfl⟩
      · unfold FfG_X8_readLine; rw [fl_lt_eq m1.symm, if_pos rfl, fl_lt_eq m2.symm, if_pos rfl, fl_lt_eq rfl, if_neg (by omega), rp_beg6 m3 h11, hst]; exact ⟨rfl, rfl, rfl⟩
    · have hb := h4 (by omega)
      rw [if_neg (by omega)] at uc
      by_cases h9 : fr 4 < 9
      · rw [if_pos (by omega)] at uc
        have um : FfG_X8_readLine e at_ en tk2 wm ns fa pl lt fr tm = fl_c10 (FfG_X8_figureLine e at1 en1 tk3 wm1 ns1 fa pl fr lt1 tm) (fun v4 v5 v6 v7 v8 v9 v10 v13 v16 v12 => if v13 = 1 then (v4, v5, v6, v7, v8, v9, v10, 1, v12, v16) else (v4, v5, v6, v7, v8, v9, v10, 0, v12, v16)) := by
          unfold FfG_X8_readLine; rw [fl_lt_eq m1.symm, if_pos rfl, fl_lt_eq m2.symm, if_pos rfl, fl_lt_eq rfl, if_neg (by omega), rp_beg1 m3 h11 a2]; rfl
        rcases rp_fig hT he a1 a3 hD0 h9 h11 fn fp ta fa pl with ⟨c', ta', tb', kd', me', nm', fr', st2, be2, tk4, wd2, wh2, at2, en2, tk5, wm2, ns2, lt2, b1, b2, b3, b4, b5⟩ | ⟨q, p, b1, b2⟩
        · refine Or.inl ⟨c', ta', fg, sp, sa, sh, lw, ti, pu, fi, tb', sc, wc, nm', kd', me', wf, wt, sm, sf, fr', st2, be2, tk4, wd2, wh2, at2, en2, tk5, wm2, ns2, lt2, ?_, ?_, b3, by omega, b5⟩
          · rw [uc, b1]; rfl
          · rw [um, b2]; rfl
        · refine Or.inr ⟨q, p, ?_, ?_⟩
          · rw [uc]; simp only [fl_c14, b1.1, reduceIte, Int.reduceEq]; exact ⟨rfl, b1.2.1, b1.2.2⟩
          · rw [um]; simp only [fl_c10, b2.2.2, reduceIte]; exact ⟨b2.1, b2.2.1, rfl⟩
      · rw [if_neg (by omega)] at uc
        refine Or.inr ⟨5, st, ?_, ?_⟩
        · rw [uc]; exact ⟨rfl, rfl, rfl⟩
        · unfold FfG_X8_readLine; rw [fl_lt_eq m1.symm, if_pos rfl, fl_lt_eq m2.symm, if_pos rfl, fl_lt_eq rfl, if_pos (by omega), rp_beg5 m3, hst]; exact ⟨rfl, rfl, rfl⟩
  -- behind figure, there
  have vf : ∀ can : Int, FfG_X8_begins can e at_ en tk2 wm ns fa pl lt fr tm 6 (fl_A (sxc 20)) = (0, at_, en, tk2, wm, ns, fa, pl, 0, lt) := fun can => rp_beg0 m3
  rcases rp_isw hK (nn := 7) (by decide) (by decide) rp_sw_watcher with ⟨w4, m4⟩ | ⟨w4, m4, -, -, hbe, hlt⟩
  rotate_left
  · -- watcher
    have uc : Ff_X3_readLine fn fp c e st be tk wd wh ta fg sp sa sh lw ti pu fi tb sc tp nm kd me wc wf wt sm sf = if fg = 0 then (0, 6, st, c, st, be, tk, wd, wh, ta, fg, sp, sa, sh, lw, ti, pu, fi, tb, sc, nm, kd, me, wc, wf, wt, sm, sf) else if wc < 3 then fl_c14 (Ff_X3_readWatcher fn fp c e be wd wh ta tp nm fg wc wf wt) (fun r v1 v2 v6 v8 v9 v10 v11 v12 v13 y4 x0 y2 y3 => if r = 1 then (1, v1, v2, v6, v8, v9, v10, v11, v12, v13, fg, sp, sa, sh, lw, ti, pu, fi, tb, sc, y4, kd, me, x0, y2, y3, sm, sf) else (0, v1, v2, v6, v8, v9, v10, v11, v12, v13, fg, sp, sa, sh, lw, ti, pu, fi, tb, sc, y4, kd, me, x0, y2, y3, sm, sf)) else (0, 5, st, c, st, be, tk, wd, wh, ta, fg, sp, sa, sh, lw, ti, pu, fi, tb, sc, nm, kd, me, wc, wf, wt, sm, sf) := by
      unfold Ff_X3_readLine; rw [fl_lt_eq w1.symm, if_neg n01, fl_lt_eq w2.symm, if_neg n01, fl_lt_eq w3.symm, if_neg n01, fl_lt_eq w4.symm, if_pos rfl, rp_g74]
      unfold Gf_X3_readLine_74_1; rw [fl_lt_eq w2.symm, if_neg n01, fl_lt_eq w3.symm, if_neg n01, fl_lt_eq w4.symm, if_pos rfl]; rfl
    rw [hbe] at a2
    by_cases h11 : fr 11 = 0
    · obtain ⟨z0, z10, z4, z5, z6⟩ := h3 h11
      rw [if_pos (by omega)] at uc
      refine Or.inr ⟨6, st, ?_, ?_⟩
      · rw [uc]; exact ⟨rfl, rfl, rfl⟩
      · have eg : FfG_X8_readLine e at_ en tk2 wm ns fa pl lt fr tm = (at_, en, tk2, wm, ns, 6, at_, 1, lt, fr) := by
          simp only [FfG_X8_readLine, m1, m2, vf, rp_beg6 m4 h11, z4, z5, fl_lt, fl_c2, fl_c3, fl_c4, fl_c5, fl_c6, fl_c7, fl_c8, fl_c9, fl_c10, reduceIte, Int.reduceEq, Int.reduceLE]
        rw [eg, hst]; exact ⟨rfl, rfl, rfl⟩
    · have hb := h4 (by omega)
      rw [if_neg (by omega)] at uc
      by_cases h9 : wc < 3
      · rw [if_pos h9] at uc
        have um : FfG_X8_readLine e at_ en tk2 wm ns fa pl lt fr tm = fl_c10 (FfG_X8_watcherLine e at1 en1 tk3 wm1 ns1 fa pl fr lt1 tm) (fun v4 v5 v6 v7 v8 v9 v10 v13 v16 v12 => if v13 = 1 then (v4, v5, v6, v7, v8, v9, v10, 1, v12, v16) else (v4, v5, v6, v7, v8, v9, v10, 0, v12, v16)) := by
          have q5 : ¬ 3 ≤ fr 5 := by omega
          unfold FfG_X8_readLine; rw [fl_lt_eq m1.symm, if_pos rfl, fl_lt_eq m2.symm, if_pos rfl, fl_lt_eq rfl]
          by_cases q4 : 9 ≤ fr 4
          · rw [if_pos q4, vf, fl_c10_eq rfl, if_pos rfl, fl_lt_eq rfl, if_neg q5, rp_beg1 m4 h11 a2]; rfl
          · rw [if_neg q4, vf, fl_c10_eq rfl, if_pos rfl, fl_lt_eq rfl, if_neg q5, rp_beg1 m4 h11 a2]; rfl
        rcases rp_watch hT he a1 a3 hD0 h9 h11 fn fp ta fa pl with ⟨c', ta', wc', wf', wt', nm', fr', st2, be2, tk4, wd2, wh2, at2, en2, tk5, wm2, ns2, lt2, b1, b2, b3, b4, b5⟩ | ⟨q, p, b1, b2⟩
        · refine Or.inl ⟨c', ta', fg, sp, sa, sh, lw, ti, pu, fi, tb, sc, wc', nm', kd, me, wf', wt', sm, sf, fr', st2, be2, tk4, wd2, wh2, at2, en2, tk5, wm2, ns2, lt2, ?_, ?_, b3, by omega, b5⟩
          · rw [uc, b1]; rfl
          · rw [um, b2]; rfl
        · refine Or.inr ⟨q, p, ?_, ?_⟩
          · rw [uc]; simp only [fl_c14, b1.1, reduceIte, Int.reduceEq]; exact ⟨rfl, b1.2.1, b1.2.2⟩
          · rw [um]; simp only [fl_c10, b2.2.2, reduceIte]; exact ⟨b2.1, b2.2.1, rfl⟩
      · rw [if_neg h9] at uc
        refine Or.inr ⟨5, st, ?_, ?_⟩
        · rw [uc]; exact ⟨rfl, rfl, rfl⟩
        · have q5 : 3 ≤ fr 5 := by omega
          have eg : FfG_X8_readLine e at_ en tk2 wm ns fa pl lt fr tm = (at_, en, tk2, wm, ns, 5, at_, 1, lt, fr) := by
            unfold FfG_X8_readLine; rw [fl_lt_eq m1.symm, if_pos rfl, fl_lt_eq m2.symm, if_pos rfl, fl_lt_eq rfl]
            by_cases q4 : 9 ≤ fr 4
            · rw [if_pos q4, vf, fl_c10_eq rfl, if_pos rfl, fl_lt_eq rfl, if_pos q5, rp_beg5 m4]; rfl
            · rw [if_neg q4, vf, fl_c10_eq rfl, if_pos rfl, fl_lt_eq rfl, if_pos q5, rp_beg5 m4]; rfl
          rw [eg, hst]; exact ⟨rfl, rfl, rfl⟩
  have vw : ∀ can : Int, FfG_X8_begins can e at_ en tk2 wm ns fa pl lt fr tm 7 (fl_A (sxc 21)) = (0, at_, en, tk2, wm, ns, fa, pl, 0, lt) := fun can => rp_beg0 m4
  rcases rp_isw hK (nn := 4) (by decide) (by decide) rp_sw_seen with ⟨w5, m5⟩ | ⟨w5, m5, -, -, hbe, hlt⟩
  rotate_left
  · -- seen
    have uc : Ff_X3_readLine fn fp c e st be tk wd wh ta fg sp sa sh lw ti pu fi tb sc tp nm kd me wc wf wt sm sf = if fg = 0 then (0, 6, st, c, st, be, tk, wd, wh, ta, fg, sp, sa, sh, lw, ti, pu, fi, tb, sc, nm, kd, me, wc, wf, wt, sm, sf) else if sc < 6 then fl_c12 (Ff_X3_readSeen fn fp e st be tk wd wh ta fg sc tp sm sf) (fun r v1 v2 v8 v9 v10 v11 v12 v13 x9 y13 y12 => if r = 1 then (1, v1, v2, c, v8, v9, v10, v11, v12, v13, fg, sp, sa, sh, lw, ti, pu, fi, tb, x9, nm, kd, me, wc, wf, wt, y13, y12) else (0, v1, v2, c, v8, v9, v10, v11, v12, v13, fg, sp, sa, sh, lw, ti, pu, fi, tb, x9, nm, kd, me, wc, wf, wt, y13, y12)) else (0, 5, st, c, st, be, tk, wd, wh, ta, fg, sp, sa, sh, lw, ti, pu, fi, tb, sc, nm, kd, me, wc, wf, wt, sm, sf) := by
      unfold Ff_X3_readLine; rw [fl_lt_eq w1.symm, if_neg n01, fl_lt_eq w2.symm, if_neg n01, fl_lt_eq w3.symm, if_neg n01, fl_lt_eq w4.symm, if_neg n01, fl_lt_eq w5.symm, if_pos rfl, rp_g74]
      unfold Gf_X3_readLine_74_1; rw [fl_lt_eq w2.symm, if_neg n01, fl_lt_eq w3.symm, if_neg n01, fl_lt_eq w4.symm, if_neg n01]; rfl
    rw [hbe] at a2
    have ul : FfG_X8_readLine e at_ en tk2 wm ns fa pl lt fr tm = if 6 ≤ fr 6 then fl_c10 (FfG_X8_begins 0 e at_ en tk2 wm ns fa pl lt fr tm 4 (fl_A (sxc 22))) (fun r v4 v5 v6 v7 v8 v9 v10 v13 v12 => if r = 0 then fl_c2 (FfG_X8_wrong 1 v4) (fun y9 y10 => (v4, v5, v6, v7, v8, y9, y10, 1, v12, fr)) else if v13 = 1 then (v4, v5, v6, v7, v8, v9, v10, 1, v12, fr) else (0, 0, 0, 0, 0, 0, 0, 0, (fun _ => 0), (fun _ => 0))) else fl_c10 (FfG_X8_begins 1 e at_ en tk2 wm ns fa pl lt fr tm 4 (fl_A (sxc 22))) (fun r v4 v5 v6 v7 v8 v9 v10 v13 v12 => if r = 0 then fl_c2 (FfG_X8_wrong 1 v4) (fun y9 y10 => (v4, v5, v6, v7, v8, y9, y10, 1, v12, fr)) else if v13 = 1 then (v4, v5, v6, v7, v8, v9, v10, 1, v12, fr) else fl_c10 (FfG_X8_seenLine e v4 v5 v6 v7 v8 v9 v10 fr tm v12) (fun u4 u5 u6 u7 u8 u9 u10 u13 u16 u12 => if u13 = 1 then (u4, u5, u6, u7, u8, u9, u10, 1, u12, u16) else (u4, u5, u6, u7, u8, u9, u10, 0, u12, u16))) := by
      unfold FfG_X8_readLine; rw [fl_lt_eq m1.symm, if_pos rfl, fl_lt_eq m2.symm, if_pos rfl, fl_lt_eq rfl]
      by_cases q4 : 9 ≤ fr 4
      · rw [if_pos q4, vf, fl_c10_eq rfl, if_pos rfl, fl_lt_eq rfl]
        by_cases q5 : 3 ≤ fr 5
        · rw [if_pos q5, vw, fl_c10_eq rfl, if_pos rfl]; rfl
        · rw [if_neg q5, vw, fl_c10_eq rfl, if_pos rfl]; rfl
      · rw [if_neg q4, vf, fl_c10_eq rfl, if_pos rfl, fl_lt_eq rfl]
        by_cases q5 : 3 ≤ fr 5
        · rw [if_pos q5, vw, fl_c10_eq rfl, if_pos rfl]; rfl
        · rw [if_neg q5, vw, fl_c10_eq rfl, if_pos rfl]; rfl
    by_cases h11 : fr 11 = 0
    · obtain ⟨z0, z10, z4, z5, z6⟩ := h3 h11
      rw [if_pos (by omega)] at uc
      rw [if_neg (by omega), rp_beg6 m5 h11] at ul
      refine Or.inr ⟨6, st, ?_, ?_⟩
      · rw [uc]; exact ⟨rfl, rfl, rfl⟩
      · rw [ul, hst]; exact ⟨rfl, rfl, rfl⟩
    · have hb := h4 (by omega)
      rw [if_neg (by omega)] at uc
      by_cases h9 : sc < 6
      · rw [if_pos h9] at uc
        rw [if_neg (by omega), rp_beg1 m5 h11 a2, fl_c10_eq rfl, if_neg n10, if_neg n01] at ul
        rcases rp_seen (st := st) hT he w5 a1 a3 hD0 h9 h11 fn fp ta fa pl with ⟨ta', sc', sm', sf', fr', st2, be2, tk4, wd2, wh2, at2, en2, tk5, wm2, ns2, lt2, b1, b2, b3, b4, b5⟩ | ⟨q, p, b1, b2⟩
        · refine Or.inl ⟨c, ta', fg, sp, sa, sh, lw, ti, pu, fi, tb, sc', wc, nm, kd, me, wf, wt, sm', sf', fr', st2, be2, tk4, wd2, wh2, at2, en2, tk5, wm2, ns2, lt2, ?_, ?_, b3, by omega, b5⟩
          · rw [uc, b1]; rfl
          · rw [ul, b2]; rfl
        · refine Or.inr ⟨q, p, ?_, ?_⟩
          · rw [uc]; simp only [fl_c12, b1.1, reduceIte, Int.reduceEq]; exact ⟨rfl, b1.2.1, b1.2.2⟩
          · rw [ul]; simp only [fl_c10, b2.2.2, reduceIte]; exact ⟨b2.1, b2.2.1, rfl⟩
      · rw [if_neg h9] at uc
        rw [if_pos (by omega), rp_beg5 m5] at ul
        refine Or.inr ⟨5, st, ?_, ?_⟩
        · rw [uc]; exact ⟨rfl, rfl, rfl⟩
        · rw [ul, hst]; exact ⟨rfl, rfl, rfl⟩
  · -- none of them
    have uc : Ff_X3_readLine fn fp c e st be tk wd wh ta fg sp sa sh lw ti pu fi tb sc tp nm kd me wc wf wt sm sf = (0, 1, st, c, st, be, tk, wd, wh, ta, fg, sp, sa, sh, lw, ti, pu, fi, tb, sc, nm, kd, me, wc, wf, wt, sm, sf) := by
      unfold Ff_X3_readLine; rw [fl_lt_eq w1.symm, if_neg n01, fl_lt_eq w2.symm, if_neg n01, fl_lt_eq w3.symm, if_neg n01, fl_lt_eq w4.symm, if_neg n01, fl_lt_eq w5.symm, if_neg n01]; rfl
    have vs : ∀ can : Int, FfG_X8_begins can e at_ en tk2 wm ns fa pl lt fr tm 4 (fl_A (sxc 22)) = (0, at_, en, tk2, wm, ns, fa, pl, 0, lt) := fun can => rp_beg0 m5
    have um : FfG_X8_readLine e at_ en tk2 wm ns fa pl lt fr tm = (at_, en, tk2, wm, ns, 1, at_, 1, lt, fr) := by
      unfold FfG_X8_readLine; rw [fl_lt_eq m1.symm, if_pos rfl, fl_lt_eq m2.symm, if_pos rfl, fl_lt_eq rfl]
      by_cases q4 : 9 ≤ fr 4
      · rw [if_pos q4, vf, fl_c10_eq rfl, if_pos rfl, fl_lt_eq rfl]
        by_cases q5 : 3 ≤ fr 5
        · rw [if_pos q5, vw, fl_c10_eq rfl, if_pos rfl, fl_lt_eq rfl]
          by_cases q6 : 6 ≤ fr 6
          · rw [if_pos q6, vs]; rfl
          · rw [if_neg q6, vs]; rfl
        · rw [if_neg q5, vw, fl_c10_eq rfl, if_pos rfl, fl_lt_eq rfl]
          by_cases q6 : 6 ≤ fr 6
          · rw [if_pos q6, vs]; rfl
          · rw [if_neg q6, vs]; rfl
      · rw [if_neg q4, vf, fl_c10_eq rfl, if_pos rfl, fl_lt_eq rfl]
        by_cases q5 : 3 ≤ fr 5
        · rw [if_pos q5, vw, fl_c10_eq rfl, if_pos rfl, fl_lt_eq rfl]
          by_cases q6 : 6 ≤ fr 6
          · rw [if_pos q6, vs]; rfl
          · rw [if_neg q6, vs]; rfl
        · rw [if_neg q5, vw, fl_c10_eq rfl, if_pos rfl, fl_lt_eq rfl]
          by_cases q6 : 6 ≤ fr 6
          · rw [if_pos q6, vs]; rfl
          · rw [if_neg q6, vs]; rfl
    refine Or.inr ⟨1, st, ?_, ?_⟩
    · rw [uc]; exact ⟨rfl, rfl, rfl⟩
    · rw [um, hst]; exact ⟨rfl, rfl, rfl⟩
end PUJ
end P0922491_pure10
section P0922492_pure11
section PUK
set_option maxRecDepth 20000 in

theorem rp_clear (kd me : Nat → Int) : ∃ kd0 me0 : Nat → Int, Ff_X0_clear kd me = (0, 0, 0, 0, 0, kd0, me0) ∧ ∀ f : Nat, f < 9 → kd0 f = 0 ∧ me0 f = 0 := by
  have main : ∀ (m : Nat) (j : Nat) (k1 m1 : Nat → Int), 10 ≤ m + j → j ≤ 9 → (∀ f : Nat, f < j → k1 f = 0 ∧ m1 f = 0) → ∃ kd0 me0 : Nat → Int, fl_wh (fun t9 => Sf_X0_clear_30_1 t9.1 t9.2.1 t9.2.2) (0, 0, 0, 0, 0, (fun _ => 0), (fun _ => 0)) m ((j : Int), k1, m1) = (0, 0, 0, 0, 0, kd0, me0) ∧ ∀ f : Nat, f < 9 → kd0 f = 0 ∧ me0 f = 0 := by
    intro m
    induction m with
    | zero => intro j k1 m1 h1 h2; omega
    | succ m ih =>
      intro j k1 m1 h1 h2 h3
      by_cases hj : 9 ≤ (j : Int)
      · have hs : Sf_X0_clear_30_1 (j : Int) k1 m1 = .inr (0, 0, 0, 0, 0, k1, m1) := by unfold Sf_X0_clear_30_1; rw [if_pos hj]
        rw [fl_wh_r (step := fun t9 : Int × (Nat → Int) × (Nat → Int) => Sf_X0_clear_30_1 t9.1 t9.2.1 t9.2.2) (s := ((j : Int), k1, m1)) hs]
        exact ⟨k1, m1, rfl, fun f hf => h3 f (by omega)⟩
      · have hs : Sf_X0_clear_30_1 (j : Int) k1 m1 = .inl ((j : Int) + 1, fl_up k1 j 0, fl_up m1 j 0) := by unfold Sf_X0_clear_30_1; rw [if_neg hj]; rfl
        rw [fl_wh_l (step := fun t9 : Int × (Nat → Int) × (Nat → Int) => Sf_X0_clear_30_1 t9.1 t9.2.1 t9.2.2) (s := ((j : Int), k1, m1)) hs]
        have := ih (j + 1) (fl_up k1 j 0) (fl_up m1 j 0) (by omega) (by omega) (fun f hf => by
          by_cases q : f = j
          · subst q; rw [rp_up_eq, rp_up_eq]; exact ⟨rfl, rfl⟩
          · rw [rp_up_ne _ _ q, rp_up_ne _ _ q]; exact h3 f (by omega))
        rw [show ((j + 1 : Nat) : Int) = (j : Int) + 1 by omega] at this
        exact this
  exact main 10 0 kd me (by omega) (by omega) (fun f hf => by omega)
theorem rp_bit0 : ∀ f : Fin 9, Ff_X7_hasBit 0 (f.val : Int) = 0 := by decide +kernel
theorem rp_D0 {sp sa sh ti pu fi : Int} {kd me sf sm wf wt nm fr : Nat → Int} (h : ∀ i : Nat, i < 156 → fr i = 0) (hk : ∀ f : Nat, f < 9 → kd f = 0 ∧ me f = 0) : rp_D 0 sp sa sh 0 ti pu fi 0 0 0 0 kd me sf sm wf wt nm fr := by
  have z : ∀ i : Nat, i < 156 → fr i = 0 := h
  refine ⟨⟨⟨(z 0 (by omega)).symm, Or.inl (z 11 (by omega)), fun _ => ⟨z 0 (by omega), z 10 (by omega), z 4 (by omega), z 5 (by omega), z 6 (by omega)⟩, fun h1 => ?_⟩, (z 10 (by omega)).symm, Or.inl rfl, fun h1 => ?_⟩, ⟨by omega, by omega, fun f hf => ?_, ?_, ?_, ?_⟩, ⟨(z 5 (by omega)).symm, by omega, by omega, fun w hw => by omega⟩, ⟨(z 6 (by omega)).symm, by omega, by omega, fun w hw => by omega⟩, ?_, ⟨fun s hs => ?_, fun i hi => by omega, fun s hs h1 => ?_⟩, fun s hs h1 => ?_⟩
  · rw [z 11 (by omega)] at h1; exact absurd h1 (by decide)
  · exact absurd h1 (by decide)
  · rw [z _ (by omega), z _ (by omega), rp_bit0 ⟨f, hf⟩]
    exact ⟨(hk f hf).1, (hk f hf).2, by omega, by decide⟩
  · rw [z 4 (by omega)]; decide
  · rw [z 4 (by omega)]; omega
  · rw [z 4 (by omega)]; omega
  · rw [z 4 (by omega), z 5 (by omega)]; rfl
  · rw [z _ (by omega)]; exact ⟨by omega, by omega, fun k hk => by have h9 : k < 0 := hk; omega⟩
  · rw [z _ (by omega)] at h1; omega
  · rw [z _ (by omega)] at h1; omega
/-- the loop over lines -/
theorem rp_loop {tp tm : Nat → Int} {e : Int} (hT : rp_T tp tm e) (he : e ≤ 900) (hg un im : Int) (r0 s0 : Nat → Int) : ∀ (m1 m2 : Nat) (l c st be tk wd wh ta fg sp sa sh lw ti pu fi tb sc wc : Int) (kd me nm wf wt sm sf fr lt : Nat → Int) (at_ en tk2 wm ns pl : Int), 901 - l ≤ (m1 : Int) → e + 1 - st ≤ (m2 : Int) → 1 ≤ l → l ≤ st → rp_K e st be tk wd wh at_ en tk2 wm ns lt → rp_D fg sp sa sh lw ti pu fi tb sc wc c kd me sf sm wf wt nm fr →
    (∃ c' st' be' tk' wd' wh' ta' fg' sp' sa' sh' lw' ti' pu' fi' tb' sc' wc' kd' me' nm' wf' wt' sm' sf' fr' lt' at1 en1 tk3 wm1 ns1, fl_wh (fun t9 => Sf_X3_read_55_1 tp e t9.1 t9.2.1 t9.2.2.1 t9.2.2.2.1 t9.2.2.2.2.1 t9.2.2.2.2.2.1 t9.2.2.2.2.2.2.1 t9.2.2.2.2.2.2.2.1 t9.2.2.2.2.2.2.2.2.1 t9.2.2.2.2.2.2.2.2.2.1 t9.2.2.2.2.2.2.2.2.2.2.1 t9.2.2.2.2.2.2.2.2.2.2.2.1 t9.2.2.2.2.2.2.2.2.2.2.2.2.1 t9.2.2.2.2.2.2.2.2.2.2.2.2.2.1 t9.2.2.2.2.2.2.2.2.2.2.2.2.2.2.1 t9.2.2.2.2.2.2.2.2.2.2.2.2.2.2.2.1 t9.2.2.2.2.2.2.2.2.2.2.2.2.2.2.2.2.1 t9.2.2.2.2.2.2.2.2.2.2.2.2.2.2.2.2.2.1 t9.2.2.2.2.2.2.2.2.2.2.2.2.2.2.2.2.2.2.1 t9.2.2.2.2.2.2.2.2.2.2.2.2.2.2.2.2.2.2.2.1 t9.2.2.2.2.2.2.2.2.2.2.2.2.2.2.2.2.2.2.2.2.1 t9.2.2.2.2.2.2.2.2.2.2.2.2.2.2.2.2.2.2.2.2.2.1 t9.2.2.2.2.2.2.2.2.2.2.2.2.2.2.2.2.2.2.2.2.2.2.1 t9.2.2.2.2.2.2.2.2.2.2.2.2.2.2.2.2.2.2.2.2.2.2.2.1 t9.2.2.2.2.2.2.2.2.2.2.2.2.2.2.2.2.2.2.2.2.2.2.2.2.1 t9.2.2.2.2.2.2.2.2.2.2.2.2.2.2.2.2.2.2.2.2.2.2.2.2.2.1 t9.2.2.2.2.2.2.2.2.2.2.2.2.2.2.2.2.2.2.2.2.2.2.2.2.2.2.1 t9.2.2.2.2.2.2.2.2.2.2.2.2.2.2.2.2.2.2.2.2.2.2.2.2.2.2.2.1 t9.2.2.2.2.2.2.2.2.2.2.2.2.2.2.2.2.2.2.2.2.2.2.2.2.2.2.2.2) (0, 0, 0, 0, 0, 0, 0, 0, 0, 0, 0, 0, 0, 0, 0, 0, 0, 0, 0, 0, 0, 0, (fun _ => 0), (fun _ => 0), (fun _ => 0), (fun _ => 0), (fun _ => 0), (fun _ => 0), (fun _ => 0)) m1 (l, 1, 0, -1, c, st, be, tk, wd, wh, ta, fg, sp, sa, sh, lw, ti, pu, fi, tb, sc, wc, kd, me, nm, wf, wt, sm, sf) = (1, 0, -1, c', e, st', be', tk', wd', wh', ta', fg', sp', sa', sh', lw', ti', pu', fi', tb', sc', wc', kd', me', nm', wf', wt', sm', sf') ∧ fl_wh (fun t9 => Sf_X8_gallery_77_1 e hg un im tm r0 s0 0 0 t9.1 t9.2.1 t9.2.2.1 t9.2.2.2.1 t9.2.2.2.2.1 t9.2.2.2.2.2.1 t9.2.2.2.2.2.2.1 t9.2.2.2.2.2.2.2.1 t9.2.2.2.2.2.2.2.2) (0, 0, 0, 0, 0, 0, 0, 0, 0, 0, 0, 0, 0, 0, 0, 0, (fun _ => 0), (fun _ => 0), (fun _ => 0), (fun _ => 0)) m2 (at_, en, tk2, wm, ns, 0, pl, fr, lt) = fl_wh (fun t9 => Sf_X8_gallery_195_1 e 0 0 at1 en1 tk3 wm1 ns1 0 pl fr' lt' (va_cpy fr' r0 0 0 156) t9.1 t9.2) (0, 0, 0, 0, 0, 0, 0, 0, 0, 0, 0, 0, 0, 0, 0, 0, (fun _ => 0), (fun _ => 0), (fun _ => 0), (fun _ => 0)) 24 (0, s0) ∧ lw' = 1 ∧ rp_D fg' sp' sa' sh' lw' ti' pu' fi' tb' sc' wc' c' kd' me' sf' sm' wf' wt' nm' fr') ∨
    (∃ q p, rp_fc (fl_wh (fun t9 => Sf_X3_read_55_1 tp e t9.1 t9.2.1 t9.2.2.1 t9.2.2.2.1 t9.2.2.2.2.1 t9.2.2.2.2.2.1 t9.2.2.2.2.2.2.1 t9.2.2.2.2.2.2.2.1 t9.2.2.2.2.2.2.2.2.1 t9.2.2.2.2.2.2.2.2.2.1 t9.2.2.2.2.2.2.2.2.2.2.1 t9.2.2.2.2.2.2.2.2.2.2.2.1 t9.2.2.2.2.2.2.2.2.2.2.2.2.1 t9.2.2.2.2.2.2.2.2.2.2.2.2.2.1 t9.2.2.2.2.2.2.2.2.2.2.2.2.2.2.1 t9.2.2.2.2.2.2.2.2.2.2.2.2.2.2.2.1 t9.2.2.2.2.2.2.2.2.2.2.2.2.2.2.2.2.1 t9.2.2.2.2.2.2.2.2.2.2.2.2.2.2.2.2.2.1 t9.2.2.2.2.2.2.2.2.2.2.2.2.2.2.2.2.2.2.1 t9.2.2.2.2.2.2.2.2.2.2.2.2.2.2.2.2.2.2.2.1 t9.2.2.2.2.2.2.2.2.2.2.2.2.2.2.2.2.2.2.2.2.1 t9.2.2.2.2.2.2.2.2.2.2.2.2.2.2.2.2.2.2.2.2.2.1 t9.2.2.2.2.2.2.2.2.2.2.2.2.2.2.2.2.2.2.2.2.2.2.1 t9.2.2.2.2.2.2.2.2.2.2.2.2.2.2.2.2.2.2.2.2.2.2.2.1 t9.2.2.2.2.2.2.2.2.2.2.2.2.2.2.2.2.2.2.2.2.2.2.2.2.1 t9.2.2.2.2.2.2.2.2.2.2.2.2.2.2.2.2.2.2.2.2.2.2.2.2.2.1 t9.2.2.2.2.2.2.2.2.2.2.2.2.2.2.2.2.2.2.2.2.2.2.2.2.2.2.1 t9.2.2.2.2.2.2.2.2.2.2.2.2.2.2.2.2.2.2.2.2.2.2.2.2.2.2.2.1 t9.2.2.2.2.2.2.2.2.2.2.2.2.2.2.2.2.2.2.2.2.2.2.2.2.2.2.2.2) (0, 0, 0, 0, 0, 0, 0, 0, 0, 0, 0, 0, 0, 0, 0, 0, 0, 0, 0, 0, 0, 0, (fun _ => 0), (fun _ => 0), (fun _ => 0), (fun _ => 0), (fun _ => 0), (fun _ => 0), (fun _ => 0)) m1 (l, 1, 0, -1, c, st, be, tk, wd, wh, ta, fg, sp, sa, sh, lw, ti, pu, fi, tb, sc, wc, kd, me, nm, wf, wt, sm, sf)) q p ∧ ∃ at1 en1 tk3 wm1 ns1 fr' lt', fl_wh (fun t9 => Sf_X8_gallery_77_1 e hg un im tm r0 s0 0 0 t9.1 t9.2.1 t9.2.2.1 t9.2.2.2.1 t9.2.2.2.2.1 t9.2.2.2.2.2.1 t9.2.2.2.2.2.2.1 t9.2.2.2.2.2.2.2.1 t9.2.2.2.2.2.2.2.2) (0, 0, 0, 0, 0, 0, 0, 0, 0, 0, 0, 0, 0, 0, 0, 0, (fun _ => 0), (fun _ => 0), (fun _ => 0), (fun _ => 0)) m2 (at_, en, tk2, wm, ns, 0, pl, fr, lt) = (-1, 0, 0, e, at1, en1, tk3, wm1, ns1, q, p, 4, 1, hg, un, im, fr', lt', r0, s0)) := by
  intro m1
  induction m1 with
  | zero => 
    intro m2 l c st be tk wd wh ta fg sp sa sh lw ti pu fi tb sc wc kd me nm wf wt sm sf fr lt at_ en tk2 wm ns pl h1 h2 h3 h4 hK hD
    have := hK.2.2.1
    omega
  | succ m1 ih =>
    intro m2 l c st be tk wd wh ta fg sp sa sh lw ti pu fi tb sc wc kd me nm wf wt sm sf fr lt at_ en tk2 wm ns pl h1 h2 h3 h4 hK hD
    have hst : st = at_ := hK.1
    have hst1 : st ≤ e := hK.2.2.1
    have hb0 : 0 ≤ be := hK.2.2.2.1
    have hb1 : be ≤ e := hK.2.2.2.2.1
    have n10 : ¬ (1 : Int) = 0 := by decide
    have n01 : ¬ (0 : Int) = 1 := by decide
    cases m2 with
    | zero => omega
    | succ m2 =>
      have ek : (tk = 3 ∧ tk2 = 59 ∧ be = en ∧ st < be) ∨ (tk = 0 ∧ tk2 = 0) ∨ (tk ≠ 3 ∧ tk ≠ 0 ∧ tk2 ≠ 59 ∧ tk2 ≠ 0) := by
        rcases hK.2.2.2.2.2 with ⟨x, y⟩ | ⟨x, y⟩ | ⟨x, y, z, t⟩ | ⟨x, y, -⟩ | ⟨x, y, -⟩
        · exact Or.inr (Or.inl ⟨x, y⟩)
        · exact Or.inr (Or.inr ⟨by omega, by omega, by omega, by omega⟩)
        · exact Or.inl ⟨x, y, z, t⟩
        · exact Or.inr (Or.inr ⟨by omega, by omega, by omega, by omega⟩)
        · exact Or.inr (Or.inr ⟨by omega, by omega, by omega, by omega⟩)
      rcases ek with ⟨k1, k2, k3, k4⟩ | ⟨k1, k2⟩ | ⟨k1, k2, k3, k4⟩
      · -- one more line
        obtain ⟨st1, be1, tk1, wd1, wh1, at1, en1, tk3, wm1, ns1, lt1, a1, a2, a3, a4⟩ := rp_adv hT he be wd wh lt hb0 hb1
        rw [k3] at a2
        have hl : ¬ 900 ≤ l := by omega
        rcases rp_line hT he a3 hD 0 (-1) ta 0 pl with ⟨c', ta', fg', sp', sa', sh', lw', ti', pu', fi', tb', sc', wc', nm', kd', me', wf', wt', sm', sf', fr', st2, be2, tk4, wd2, wh2, at2, en2, tk5, wm2, ns2, lt2, b1, b2, b3, b4, b5⟩ | ⟨q, p, b1, b2⟩
        · have hc : Sf_X3_read_55_1 tp e l 1 0 (-1) c st be tk wd wh ta fg sp sa sh lw ti pu fi tb sc wc kd me nm wf wt sm sf = .inl (l + 1, 1, 0, -1, c', st2, be2, tk4, wd2, wh2, ta', fg', sp', sa', sh', lw', ti', pu', fi', tb', sc', wc', kd', me', nm', wf', wt', sm', sf') := by
            unfold Sf_X3_read_55_1
            rw [if_neg n10, if_pos k1, if_neg hl, a1, fl_c5_eq rfl, b1, fl_c28_eq rfl, if_pos rfl]; rfl
          have hm : Sf_X8_gallery_77_1 e hg un im tm r0 s0 0 0 at_ en tk2 wm ns 0 pl fr lt = .inl (at2, en2, tk5, wm2, ns2, 0, pl, fr', lt2) := by
            unfold Sf_X8_gallery_77_1
            rw [if_pos k2, a2, fl_c6_eq rfl, b2, fl_c10_eq rfl, if_neg n01]
          rw [fl_wh_l (step := (fun t9 : Int × Int × Int × Int × Int × Int × Int × Int × Int × Int × Int × Int × Int × Int × Int × Int × Int × Int × Int × Int × Int × Int × (Nat → Int) × (Nat → Int) × (Nat → Int) × (Nat → Int) × (Nat → Int) × (Nat → Int) × (Nat → Int) => Sf_X3_read_55_1 tp e t9.1 t9.2.1 t9.2.2.1 t9.2.2.2.1 t9.2.2.2.2.1 t9.2.2.2.2.2.1 t9.2.2.2.2.2.2.1 t9.2.2.2.2.2.2.2.1 t9.2.2.2.2.2.2.2.2.1 t9.2.2.2.2.2.2.2.2.2.1 t9.2.2.2.2.2.2.2.2.2.2.1 t9.2.2.2.2.2.2.2.2.2.2.2.1 t9.2.2.2.2.2.2.2.2.2.2.2.2.1 t9.2.2.2.2.2.2.2.2.2.2.2.2.2.1 t9.2.2.2.2.2.2.2.2.2.2.2.2.2.2.1 t9.2.2.2.2.2.2.2.2.2.2.2.2.2.2.2.1 t9.2.2.2.2.2.2.2.2.2.2.2.2.2.2.2.2.1 t9.2.2.2.2.2.2.2.2.2.2.2.2.2.2.2.2.2.1 t9.2.2.2.2.2.2.2.2.2.2.2.2.2.2.2.2.2.2.1 t9.2.2.2.2.2.2.2.2.2.2.2.2.2.2.2.2.2.2.2.1 t9.2.2.2.2.2.2.2.2.2.2.2.2.2.2.2.2.2.2.2.2.1 t9.2.2.2.2.2.2.2.2.2.2.2.2.2.2.2.2.2.2.2.2.2.1 t9.2.2.2.2.2.2.2.2.2.2.2.2.2.2.2.2.2.2.2.2.2.2.1 t9.2.2.2.2.2.2.2.2.2.2.2.2.2.2.2.2.2.2.2.2.2.2.2.1 t9.2.2.2.2.2.2.2.2.2.2.2.2.2.2.2.2.2.2.2.2.2.2.2.2.1 t9.2.2.2.2.2.2.2.2.2.2.2.2.2.2.2.2.2.2.2.2.2.2.2.2.2.1 t9.2.2.2.2.2.2.2.2.2.2.2.2.2.2.2.2.2.2.2.2.2.2.2.2.2.2.1 t9.2.2.2.2.2.2.2.2.2.2.2.2.2.2.2.2.2.2.2.2.2.2.2.2.2.2.2.1 t9.2.2.2.2.2.2.2.2.2.2.2.2.2.2.2.2.2.2.2.2.2.2.2.2.2.2.2.2)) (s := (l, 1, 0, -1, c, st, be, tk, wd, wh, ta, fg, sp, sa, sh, lw, ti, pu, fi, tb, sc, wc, kd, me, nm, wf, wt, sm, sf)) hc, fl_wh_l (step := (fun t9 : Int × Int × Int × Int × Int × Int × Int × (Nat → Int) × (Nat → Int) => Sf_X8_gallery_77_1 e hg un im tm r0 s0 0 0 t9.1 t9.2.1 t9.2.2.1 t9.2.2.2.1 t9.2.2.2.2.1 t9.2.2.2.2.2.1 t9.2.2.2.2.2.2.1 t9.2.2.2.2.2.2.2.1 t9.2.2.2.2.2.2.2.2)) (s := (at_, en, tk2, wm, ns, 0, pl, fr, lt)) hm]
          exact ih m2 (l + 1) c' st2 be2 tk4 wd2 wh2 ta' fg' sp' sa' sh' lw' ti' pu' fi' tb' sc' wc' kd' me' nm' wf' wt' sm' sf' fr' lt2 at2 en2 tk5 wm2 ns2 pl (by omega) (by omega) (by omega) (by omega) b3 b5
        · have hm : ∃ x1 x2 x3 x4 x5 x6 x7, Sf_X8_gallery_77_1 e hg un im tm r0 s0 0 0 at_ en tk2 wm ns 0 pl fr lt = .inr (-1, 0, 0, e, x1, x2, x3, x4, x5, q, p, 4, 1, hg, un, im, x6, x7, r0, s0) := by
            unfold Sf_X8_gallery_77_1
            rw [if_pos k2, a2, fl_c6_eq rfl]
            generalize FfG_X8_readLine e at1 en1 tk3 wm1 ns1 0 pl lt1 fr tm = G at b2
            obtain ⟨g1, g2, g3, g4, g5, g6, g7, g8, g9, g10⟩ := G
            obtain ⟨z1, z2, z3⟩ := b2
            simp only at z1 z2 z3
            subst z1; subst z2; subst z3
            exact ⟨g1, g2, g3, g4, g5, g10, g9, rfl⟩
          obtain ⟨x1, x2, x3, x4, x5, x6, x7, hm⟩ := hm
          refine Or.inr ⟨q, p, ?_, x1, x2, x3, x4, x5, x6, x7, fl_wh_r (step := (fun t9 : Int × Int × Int × Int × Int × Int × Int × (Nat → Int) × (Nat → Int) => Sf_X8_gallery_77_1 e hg un im tm r0 s0 0 0 t9.1 t9.2.1 t9.2.2.1 t9.2.2.2.1 t9.2.2.2.2.1 t9.2.2.2.2.2.1 t9.2.2.2.2.2.2.1 t9.2.2.2.2.2.2.2.1 t9.2.2.2.2.2.2.2.2)) (s := (at_, en, tk2, wm, ns, 0, pl, fr, lt)) hm⟩
          have hc : ∃ X : Int × Int × Int × Int × Int × Int × Int × Int × Int × Int × Int × Int × Int × Int × Int × Int × Int × Int × Int × (Nat → Int) × (Nat → Int) × (Nat → Int) × (Nat → Int) × (Nat → Int) × (Nat → Int) × (Nat → Int), Sf_X3_read_55_1 tp e l 1 0 (-1) c st be tk wd wh ta fg sp sa sh lw ti pu fi tb sc wc kd me nm wf wt sm sf = .inl (l + 1, 0, q, p, X.2) := by
            unfold Sf_X3_read_55_1
            rw [if_neg n10, if_pos k1, if_neg hl, a1, fl_c5_eq rfl]
            generalize Ff_X3_readLine 0 (-1) c e st1 be1 tk1 wd1 wh1 ta fg sp sa sh lw ti pu fi tb sc tp nm kd me wc wf wt sm sf = G at b1
            obtain ⟨g1, g2, g3, gl_c, gl_st, gl_be, gl_tk, gl_wd, gl_wh, gl_ta, gl_fg, gl_sp, gl_sa, gl_sh, gl_lw, gl_ti, gl_pu, gl_fi, gl_tb, gl_sc, gl_nm, gl_kd, gl_me, gl_wc, gl_wf, gl_wt, gl_sm, gl_sf⟩ := G
            obtain ⟨z1, z2, z3⟩ := b1
            simp only at z1 z2 z3
            subst z1; subst z2; subst z3
            exact ⟨(0, gl_c, gl_st, gl_be, gl_tk, gl_wd, gl_wh, gl_ta, gl_fg, gl_sp, gl_sa, gl_sh, gl_lw, gl_ti, gl_pu, gl_fi, gl_tb, gl_sc, gl_wc, gl_kd, gl_me, gl_nm, gl_wf, gl_wt, gl_sm, gl_sf), rfl⟩
          obtain ⟨X, hc⟩ := hc
          rw [fl_wh_l (step := (fun t9 : Int × Int × Int × Int × Int × Int × Int × Int × Int × Int × Int × Int × Int × Int × Int × Int × Int × Int × Int × Int × Int × Int × (Nat → Int) × (Nat → Int) × (Nat → Int) × (Nat → Int) × (Nat → Int) × (Nat → Int) × (Nat → Int) => Sf_X3_read_55_1 tp e t9.1 t9.2.1 t9.2.2.1 t9.2.2.2.1 t9.2.2.2.2.1 t9.2.2.2.2.2.1 t9.2.2.2.2.2.2.1 t9.2.2.2.2.2.2.2.1 t9.2.2.2.2.2.2.2.2.1 t9.2.2.2.2.2.2.2.2.2.1 t9.2.2.2.2.2.2.2.2.2.2.1 t9.2.2.2.2.2.2.2.2.2.2.2.1 t9.2.2.2.2.2.2.2.2.2.2.2.2.1 t9.2.2.2.2.2.2.2.2.2.2.2.2.2.1 t9.2.2.2.2.2.2.2.2.2.2.2.2.2.2.1 t9.2.2.2.2.2.2.2.2.2.2.2.2.2.2.2.1 t9.2.2.2.2.2.2.2.2.2.2.2.2.2.2.2.2.1 t9.2.2.2.2.2.2.2.2.2.2.2.2.2.2.2.2.2.1 t9.2.2.2.2.2.2.2.2.2.2.2.2.2.2.2.2.2.2.1 t9.2.2.2.2.2.2.2.2.2.2.2.2.2.2.2.2.2.2.2.1 t9.2.2.2.2.2.2.2.2.2.2.2.2.2.2.2.2.2.2.2.2.1 t9.2.2.2.2.2.2.2.2.2.2.2.2.2.2.2.2.2.2.2.2.2.1 t9.2.2.2.2.2.2.2.2.2.2.2.2.2.2.2.2.2.2.2.2.2.2.1 t9.2.2.2.2.2.2.2.2.2.2.2.2.2.2.2.2.2.2.2.2.2.2.2.1 t9.2.2.2.2.2.2.2.2.2.2.2.2.2.2.2.2.2.2.2.2.2.2.2.2.1 t9.2.2.2.2.2.2.2.2.2.2.2.2.2.2.2.2.2.2.2.2.2.2.2.2.2.1 t9.2.2.2.2.2.2.2.2.2.2.2.2.2.2.2.2.2.2.2.2.2.2.2.2.2.2.1 t9.2.2.2.2.2.2.2.2.2.2.2.2.2.2.2.2.2.2.2.2.2.2.2.2.2.2.2.1 t9.2.2.2.2.2.2.2.2.2.2.2.2.2.2.2.2.2.2.2.2.2.2.2.2.2.2.2.2)) (s := (l, 1, 0, -1, c, st, be, tk, wd, wh, ta, fg, sp, sa, sh, lw, ti, pu, fi, tb, sc, wc, kd, me, nm, wf, wt, sm, sf)) hc]
          obtain ⟨_, gl_c, gl_st, gl_be, gl_tk, gl_wd, gl_wh, gl_ta, gl_fg, gl_sp, gl_sa, gl_sh, gl_lw, gl_ti, gl_pu, gl_fi, gl_tb, gl_sc, gl_wc, gl_kd, gl_me, gl_nm, gl_wf, gl_wt, gl_sm, gl_sf⟩ := X
          have hm1 : ∃ k, m1 = k + 1 := ⟨m1 - 1, by omega⟩
          obtain ⟨k, hk⟩ := hm1
          subst hk
          have hc2 : Sf_X3_read_55_1 tp e (l + 1) 0 q p gl_c gl_st gl_be gl_tk gl_wd gl_wh gl_ta gl_fg gl_sp gl_sa gl_sh gl_lw gl_ti gl_pu gl_fi gl_tb gl_sc gl_wc gl_kd gl_me gl_nm gl_wf gl_wt gl_sm gl_sf = .inr (0, q, p, gl_c, e, gl_st, gl_be, gl_tk, gl_wd, gl_wh, gl_ta, gl_fg, gl_sp, gl_sa, gl_sh, gl_lw, gl_ti, gl_pu, gl_fi, gl_tb, gl_sc, gl_wc, gl_kd, gl_me, gl_nm, gl_wf, gl_wt, gl_sm, gl_sf) := by
            unfold Sf_X3_read_55_1 Gf_X3_read_89_1
            rw [if_pos rfl, if_pos rfl]
          rw [fl_wh_r (step := (fun t9 : Int × Int × Int × Int × Int × Int × Int × Int × Int × Int × Int × Int × Int × Int × Int × Int × Int × Int × Int × Int × Int × Int × (Nat → Int) × (Nat → Int) × (Nat → Int) × (Nat → Int) × (Nat → Int) × (Nat → Int) × (Nat → Int) => Sf_X3_read_55_1 tp e t9.1 t9.2.1 t9.2.2.1 t9.2.2.2.1 t9.2.2.2.2.1 t9.2.2.2.2.2.1 t9.2.2.2.2.2.2.1 t9.2.2.2.2.2.2.2.1 t9.2.2.2.2.2.2.2.2.1 t9.2.2.2.2.2.2.2.2.2.1 t9.2.2.2.2.2.2.2.2.2.2.1 t9.2.2.2.2.2.2.2.2.2.2.2.1 t9.2.2.2.2.2.2.2.2.2.2.2.2.1 t9.2.2.2.2.2.2.2.2.2.2.2.2.2.1 t9.2.2.2.2.2.2.2.2.2.2.2.2.2.2.1 t9.2.2.2.2.2.2.2.2.2.2.2.2.2.2.2.1 t9.2.2.2.2.2.2.2.2.2.2.2.2.2.2.2.2.1 t9.2.2.2.2.2.2.2.2.2.2.2.2.2.2.2.2.2.1 t9.2.2.2.2.2.2.2.2.2.2.2.2.2.2.2.2.2.2.1 t9.2.2.2.2.2.2.2.2.2.2.2.2.2.2.2.2.2.2.2.1 t9.2.2.2.2.2.2.2.2.2.2.2.2.2.2.2.2.2.2.2.2.1 t9.2.2.2.2.2.2.2.2.2.2.2.2.2.2.2.2.2.2.2.2.2.1 t9.2.2.2.2.2.2.2.2.2.2.2.2.2.2.2.2.2.2.2.2.2.2.1 t9.2.2.2.2.2.2.2.2.2.2.2.2.2.2.2.2.2.2.2.2.2.2.2.1 t9.2.2.2.2.2.2.2.2.2.2.2.2.2.2.2.2.2.2.2.2.2.2.2.2.1 t9.2.2.2.2.2.2.2.2.2.2.2.2.2.2.2.2.2.2.2.2.2.2.2.2.2.1 t9.2.2.2.2.2.2.2.2.2.2.2.2.2.2.2.2.2.2.2.2.2.2.2.2.2.2.1 t9.2.2.2.2.2.2.2.2.2.2.2.2.2.2.2.2.2.2.2.2.2.2.2.2.2.2.2.1 t9.2.2.2.2.2.2.2.2.2.2.2.2.2.2.2.2.2.2.2.2.2.2.2.2.2.2.2.2)) (s := (l + 1, 0, q, p, gl_c, gl_st, gl_be, gl_tk, gl_wd, gl_wh, gl_ta, gl_fg, gl_sp, gl_sa, gl_sh, gl_lw, gl_ti, gl_pu, gl_fi, gl_tb, gl_sc, gl_wc, gl_kd, gl_me, gl_nm, gl_wf, gl_wt, gl_sm, gl_sf)) hc2]
          exact ⟨rfl, rfl, rfl⟩
      · -- the end
        have n03 : ¬ (0 : Int) = 3 := by decide
        have n59 : ¬ (0 : Int) = 59 := by decide
        subst k1; subst k2
        have hD0 := hD
        obtain ⟨⟨⟨d1, d2, d3, d4⟩, d5, d6, d7⟩, -⟩ := hD0
        by_cases hlw : lw = 0
        · have hc : Sf_X3_read_55_1 tp e l 1 0 (-1) c st be 0 wd wh ta fg sp sa sh lw ti pu fi tb sc wc kd me nm wf wt sm sf = .inr (0, 6, st, c, e, st, be, 0, wd, wh, ta, fg, sp, sa, sh, lw, ti, pu, fi, tb, sc, wc, kd, me, nm, wf, wt, sm, sf) := by
            unfold Sf_X3_read_55_1 Gf_X3_read_89_1
            rw [if_neg n10, if_neg n03, if_neg n10, if_pos rfl, if_pos hlw]; rfl
          have hm : Sf_X8_gallery_77_1 e hg un im tm r0 s0 0 0 at_ en 0 wm ns 0 pl fr lt = .inr (-1, 0, 0, e, at_, en, 0, wm, ns, 6, at_, 4, 1, hg, un, im, fr, lt, r0, s0) := by
            unfold Sf_X8_gallery_77_1
            rw [if_neg n59, if_pos rfl, fl_lt_eq rfl]
            by_cases q : fr 11 = 0
            · rw [if_pos q]; rfl
            · rw [if_neg q, fl_lt_eq rfl, if_pos (by omega)]; rfl
          refine Or.inr ⟨6, st, ?_, at_, en, 0, wm, ns, fr, lt, ?_⟩
          · rw [fl_wh_r (step := (fun t9 : Int × Int × Int × Int × Int × Int × Int × Int × Int × Int × Int × Int × Int × Int × Int × Int × Int × Int × Int × Int × Int × Int × (Nat → Int) × (Nat → Int) × (Nat → Int) × (Nat → Int) × (Nat → Int) × (Nat → Int) × (Nat → Int) => Sf_X3_read_55_1 tp e t9.1 t9.2.1 t9.2.2.1 t9.2.2.2.1 t9.2.2.2.2.1 t9.2.2.2.2.2.1 t9.2.2.2.2.2.2.1 t9.2.2.2.2.2.2.2.1 t9.2.2.2.2.2.2.2.2.1 t9.2.2.2.2.2.2.2.2.2.1 t9.2.2.2.2.2.2.2.2.2.2.1 t9.2.2.2.2.2.2.2.2.2.2.2.1 t9.2.2.2.2.2.2.2.2.2.2.2.2.1 t9.2.2.2.2.2.2.2.2.2.2.2.2.2.1 t9.2.2.2.2.2.2.2.2.2.2.2.2.2.2.1 t9.2.2.2.2.2.2.2.2.2.2.2.2.2.2.2.1 t9.2.2.2.2.2.2.2.2.2.2.2.2.2.2.2.2.1 t9.2.2.2.2.2.2.2.2.2.2.2.2.2.2.2.2.2.1 t9.2.2.2.2.2.2.2.2.2.2.2.2.2.2.2.2.2.2.1 t9.2.2.2.2.2.2.2.2.2.2.2.2.2.2.2.2.2.2.2.1 t9.2.2.2.2.2.2.2.2.2.2.2.2.2.2.2.2.2.2.2.2.1 t9.2.2.2.2.2.2.2.2.2.2.2.2.2.2.2.2.2.2.2.2.2.1 t9.2.2.2.2.2.2.2.2.2.2.2.2.2.2.2.2.2.2.2.2.2.2.1 t9.2.2.2.2.2.2.2.2.2.2.2.2.2.2.2.2.2.2.2.2.2.2.2.1 t9.2.2.2.2.2.2.2.2.2.2.2.2.2.2.2.2.2.2.2.2.2.2.2.2.1 t9.2.2.2.2.2.2.2.2.2.2.2.2.2.2.2.2.2.2.2.2.2.2.2.2.2.1 t9.2.2.2.2.2.2.2.2.2.2.2.2.2.2.2.2.2.2.2.2.2.2.2.2.2.2.1 t9.2.2.2.2.2.2.2.2.2.2.2.2.2.2.2.2.2.2.2.2.2.2.2.2.2.2.2.1 t9.2.2.2.2.2.2.2.2.2.2.2.2.2.2.2.2.2.2.2.2.2.2.2.2.2.2.2.2)) (s := (l, 1, 0, -1, c, st, be, 0, wd, wh, ta, fg, sp, sa, sh, lw, ti, pu, fi, tb, sc, wc, kd, me, nm, wf, wt, sm, sf)) hc]; exact ⟨rfl, rfl, rfl⟩
          · rw [fl_wh_r (step := (fun t9 : Int × Int × Int × Int × Int × Int × Int × (Nat → Int) × (Nat → Int) => Sf_X8_gallery_77_1 e hg un im tm r0 s0 0 0 t9.1 t9.2.1 t9.2.2.1 t9.2.2.2.1 t9.2.2.2.2.1 t9.2.2.2.2.2.1 t9.2.2.2.2.2.2.1 t9.2.2.2.2.2.2.2.1 t9.2.2.2.2.2.2.2.2)) (s := (at_, en, 0, wm, ns, 0, pl, fr, lt)) hm, hst]
        · have hlw1 : lw = 1 := by omega
          have h11 : ¬ fr 11 = 0 := fun h => by have := d3 h; omega
          have h10 : ¬ fr 10 = 0 := by omega
          have hc : Sf_X3_read_55_1 tp e l 1 0 (-1) c st be 0 wd wh ta fg sp sa sh lw ti pu fi tb sc wc kd me nm wf wt sm sf = .inr (1, 0, -1, c, e, st, be, 0, wd, wh, ta, fg, sp, sa, sh, lw, ti, pu, fi, tb, sc, wc, kd, me, nm, wf, wt, sm, sf) := by
            unfold Sf_X3_read_55_1 Gf_X3_read_89_1
            rw [if_neg n10, if_neg n03, if_neg n10, if_pos rfl, if_neg hlw]
          have hm : Sf_X8_gallery_77_1 e hg un im tm r0 s0 0 0 at_ en 0 wm ns 0 pl fr lt = .inr (fl_wh (fun t9 => Sf_X8_gallery_195_1 e 0 0 at_ en 0 wm ns 0 pl fr lt (va_cpy fr r0 0 0 156) t9.1 t9.2) (0, 0, 0, 0, 0, 0, 0, 0, 0, 0, 0, 0, 0, 0, 0, 0, (fun _ => 0), (fun _ => 0), (fun _ => 0), (fun _ => 0)) 24 (0, s0)) := by
            unfold Sf_X8_gallery_77_1
            rw [if_neg n59, if_pos rfl, fl_lt_eq rfl, if_neg h11, fl_lt_eq rfl, if_neg h10, fl_lt_eq rfl]
          refine Or.inl ⟨c, st, be, 0, wd, wh, ta, fg, sp, sa, sh, lw, ti, pu, fi, tb, sc, wc, kd, me, nm, wf, wt, sm, sf, fr, lt, at_, en, 0, wm, ns, ?_, ?_, hlw1, hD⟩
          · rw [fl_wh_r (step := (fun t9 : Int × Int × Int × Int × Int × Int × Int × Int × Int × Int × Int × Int × Int × Int × Int × Int × Int × Int × Int × Int × Int × Int × (Nat → Int) × (Nat → Int) × (Nat → Int) × (Nat → Int) × (Nat → Int) × (Nat → Int) × (Nat → Int) => Sf_X3_read_55_1 tp e t9.1 t9.2.1 t9.2.2.1 t9.2.2.2.1 t9.2.2.2.2.1 t9.2.2.2.2.2.1 t9.2.2.2.2.2.2.1 t9.2.2.2.2.2.2.2.1 t9.2.2.2.2.2.2.2.2.1 t9.2.2.2.2.2.2.2.2.2.1 t9.2.2.2.2.2.2.2.2.2.2.1 t9.2.2.2.2.2.2.2.2.2.2.2.1 t9.2.2.2.2.2.2.2.2.2.2.2.2.1 t9.2.2.2.2.2.2.2.2.2.2.2.2.2.1 t9.2.2.2.2.2.2.2.2.2.2.2.2.2.2.1 t9.2.2.2.2.2.2.2.2.2.2.2.2.2.2.2.1 t9.2.2.2.2.2.2.2.2.2.2.2.2.2.2.2.2.1 t9.2.2.2.2.2.2.2.2.2.2.2.2.2.2.2.2.2.1 t9.2.2.2.2.2.2.2.2.2.2.2.2.2.2.2.2.2.2.1 t9.2.2.2.2.2.2.2.2.2.2.2.2.2.2.2.2.2.2.2.1 t9.2.2.2.2.2.2.2.2.2.2.2.2.2.2.2.2.2.2.2.2.1 t9.2.2.2.2.2.2.2.2.2.2.2.2.2.2.2.2.2.2.2.2.2.1 t9.2.2.2.2.2.2.2.2.2.2.2.2.2.2.2.2.2.2.2.2.2.2.1 t9.2.2.2.2.2.2.2.2.2.2.2.2.2.2.2.2.2.2.2.2.2.2.2.1 t9.2.2.2.2.2.2.2.2.2.2.2.2.2.2.2.2.2.2.2.2.2.2.2.2.1 t9.2.2.2.2.2.2.2.2.2.2.2.2.2.2.2.2.2.2.2.2.2.2.2.2.2.1 t9.2.2.2.2.2.2.2.2.2.2.2.2.2.2.2.2.2.2.2.2.2.2.2.2.2.2.1 t9.2.2.2.2.2.2.2.2.2.2.2.2.2.2.2.2.2.2.2.2.2.2.2.2.2.2.2.1 t9.2.2.2.2.2.2.2.2.2.2.2.2.2.2.2.2.2.2.2.2.2.2.2.2.2.2.2.2)) (s := (l, 1, 0, -1, c, st, be, 0, wd, wh, ta, fg, sp, sa, sh, lw, ti, pu, fi, tb, sc, wc, kd, me, nm, wf, wt, sm, sf)) hc]
          · rw [fl_wh_r (step := (fun t9 : Int × Int × Int × Int × Int × Int × Int × (Nat → Int) × (Nat → Int) => Sf_X8_gallery_77_1 e hg un im tm r0 s0 0 0 t9.1 t9.2.1 t9.2.2.1 t9.2.2.2.1 t9.2.2.2.2.1 t9.2.2.2.2.2.1 t9.2.2.2.2.2.2.1 t9.2.2.2.2.2.2.2.1 t9.2.2.2.2.2.2.2.2)) (s := (at_, en, 0, wm, ns, 0, pl, fr, lt)) hm]
      · -- something else
        have hc : Sf_X3_read_55_1 tp e l 1 0 (-1) c st be tk wd wh ta fg sp sa sh lw ti pu fi tb sc wc kd me nm wf wt sm sf = .inr (0, 1, st, c, e, st, be, tk, wd, wh, ta, fg, sp, sa, sh, lw, ti, pu, fi, tb, sc, wc, kd, me, nm, wf, wt, sm, sf) := by
          unfold Sf_X3_read_55_1 Gf_X3_read_89_1
          rw [if_neg n10, if_neg k1, if_neg n10, if_neg k2]; rfl
        have hm : Sf_X8_gallery_77_1 e hg un im tm r0 s0 0 0 at_ en tk2 wm ns 0 pl fr lt = .inr (-1, 0, 0, e, at_, en, tk2, wm, ns, 1, at_, 4, 1, hg, un, im, fr, lt, r0, s0) := by
          unfold Sf_X8_gallery_77_1
          rw [if_neg k3, if_neg k4]; rfl
        refine Or.inr ⟨1, st, ?_, at_, en, tk2, wm, ns, fr, lt, ?_⟩
        · rw [fl_wh_r (step := (fun t9 : Int × Int × Int × Int × Int × Int × Int × Int × Int × Int × Int × Int × Int × Int × Int × Int × Int × Int × Int × Int × Int × Int × (Nat → Int) × (Nat → Int) × (Nat → Int) × (Nat → Int) × (Nat → Int) × (Nat → Int) × (Nat → Int) => Sf_X3_read_55_1 tp e t9.1 t9.2.1 t9.2.2.1 t9.2.2.2.1 t9.2.2.2.2.1 t9.2.2.2.2.2.1 t9.2.2.2.2.2.2.1 t9.2.2.2.2.2.2.2.1 t9.2.2.2.2.2.2.2.2.1 t9.2.2.2.2.2.2.2.2.2.1 t9.2.2.2.2.2.2.2.2.2.2.1 t9.2.2.2.2.2.2.2.2.2.2.2.1 t9.2.2.2.2.2.2.2.2.2.2.2.2.1 t9.2.2.2.2.2.2.2.2.2.2.2.2.2.1 t9.2.2.2.2.2.2.2.2.2.2.2.2.2.2.1 t9.2.2.2.2.2.2.2.2.2.2.2.2.2.2.2.1 t9.2.2.2.2.2.2.2.2.2.2.2.2.2.2.2.2.1 t9.2.2.2.2.2.2.2.2.2.2.2.2.2.2.2.2.2.1 t9.2.2.2.2.2.2.2.2.2.2.2.2.2.2.2.2.2.2.1 t9.2.2.2.2.2.2.2.2.2.2.2.2.2.2.2.2.2.2.2.1 t9.2.2.2.2.2.2.2.2.2.2.2.2.2.2.2.2.2.2.2.2.1 t9.2.2.2.2.2.2.2.2.2.2.2.2.2.2.2.2.2.2.2.2.2.1 t9.2.2.2.2.2.2.2.2.2.2.2.2.2.2.2.2.2.2.2.2.2.2.1 t9.2.2.2.2.2.2.2.2.2.2.2.2.2.2.2.2.2.2.2.2.2.2.2.1 t9.2.2.2.2.2.2.2.2.2.2.2.2.2.2.2.2.2.2.2.2.2.2.2.2.1 t9.2.2.2.2.2.2.2.2.2.2.2.2.2.2.2.2.2.2.2.2.2.2.2.2.2.1 t9.2.2.2.2.2.2.2.2.2.2.2.2.2.2.2.2.2.2.2.2.2.2.2.2.2.2.1 t9.2.2.2.2.2.2.2.2.2.2.2.2.2.2.2.2.2.2.2.2.2.2.2.2.2.2.2.1 t9.2.2.2.2.2.2.2.2.2.2.2.2.2.2.2.2.2.2.2.2.2.2.2.2.2.2.2.2)) (s := (l, 1, 0, -1, c, st, be, tk, wd, wh, ta, fg, sp, sa, sh, lw, ti, pu, fi, tb, sc, wc, kd, me, nm, wf, wt, sm, sf)) hc]; exact ⟨rfl, rfl, rfl⟩
        · rw [fl_wh_r (step := (fun t9 : Int × Int × Int × Int × Int × Int × Int × (Nat → Int) × (Nat → Int) => Sf_X8_gallery_77_1 e hg un im tm r0 s0 0 0 t9.1 t9.2.1 t9.2.2.1 t9.2.2.2.1 t9.2.2.2.2.1 t9.2.2.2.2.2.1 t9.2.2.2.2.2.2.1 t9.2.2.2.2.2.2.2.1 t9.2.2.2.2.2.2.2.2)) (s := (at_, en, tk2, wm, ns, 0, pl, fr, lt)) hm, hst]
end PUK
end P0922492_pure11
section P0922493_pure12
section PUL
set_option maxRecDepth 20000 in

theorem rp_st2 {e at_ en tk wm ns pl : Int} {fr lt rr : Nat → Int} (sx : Nat → Int) : ∀ (m : Nat) (j : Nat) (s : Nat → Int), 24 ≤ m + j → j ≤ 23 → (∀ k : Nat, k < 23 → s k = if k < j then (if k < (rr 0).toNat then (k : Int) else 0) else sx k) → (rr 0).toNat ≤ j → (∀ k : Nat, k < (rr 0).toNat → sx k = (k : Int)) →
    ∃ s1 : Nat → Int, fl_wh (fun t9 => Sf_X8_gallery_235_1 e 0 0 at_ en tk wm ns 0 pl fr lt rr t9.1 t9.2) (0, 0, 0, 0, 0, 0, 0, 0, 0, 0, 0, 0, 0, 0, 0, 0, (fun _ => 0), (fun _ => 0), (fun _ => 0), (fun _ => 0)) m ((j : Int), s) = (rr 0, 0, 0, e, at_, en, tk, wm, ns, 0, pl, 0, 0, 1, 0, 0, fr, lt, rr, s1) ∧ ∀ k : Nat, k < 23 → s1 k = if k = 19 then rr 9 else if k < (rr 0).toNat then (k : Int) else 0 := by
  intro m
  induction m with
  | zero => intro j s h1 h2; omega
  | succ m ih =>
    intro j s h1 h2 h3 h4 h5
    by_cases hj : 23 ≤ (j : Int)
    · have hs : Sf_X8_gallery_235_1 e 0 0 at_ en tk wm ns 0 pl fr lt rr (j : Int) s = .inr (rr 0, 0, 0, e, at_, en, tk, wm, ns, 0, pl, 0, 0, 1, 0, 0, fr, lt, rr, fl_up s 19 (rr 9)) := by
        unfold Sf_X8_gallery_235_1; rw [if_pos hj]; rfl
      rw [fl_wh_r (step := fun t9 : Int × (Nat → Int) => Sf_X8_gallery_235_1 e 0 0 at_ en tk wm ns 0 pl fr lt rr t9.1 t9.2) (s := ((j : Int), s)) hs]
      refine ⟨_, rfl, fun k hk => ?_⟩
      by_cases q : k = 19
      · subst q; rw [rp_up_eq, if_pos rfl]
      · rw [rp_up_ne _ _ q, if_neg q, h3 k hk, if_pos (by omega)]
    · have hs : Sf_X8_gallery_235_1 e 0 0 at_ en tk wm ns 0 pl fr lt rr (j : Int) s = .inl ((j : Int) + 1, fl_up s j 0) := by
        unfold Sf_X8_gallery_235_1; rw [if_neg hj]; rfl
      rw [fl_wh_l (step := fun t9 : Int × (Nat → Int) => Sf_X8_gallery_235_1 e 0 0 at_ en tk wm ns 0 pl fr lt rr t9.1 t9.2) (s := ((j : Int), s)) hs]
      have := ih (j + 1) (fl_up s j 0) (by omega) (by omega) (fun k hk => by
        by_cases q : k = j
        · subst q; rw [rp_up_eq, if_pos (by omega), if_neg (by omega)]
        · rw [rp_up_ne _ _ q, h3 k hk]
          by_cases q2 : k < j
          · rw [if_pos q2, if_pos (show k < j + 1 by omega)]
          · rw [if_neg q2, if_neg (show ¬ k < j + 1 by omega)]) (by omega) h5
      rw [show ((j + 1 : Nat) : Int) = (j : Int) + 1 by omega] at this
      exact this
theorem rp_st1 {e at_ en tk wm ns pl : Int} {fr lt rr : Nat → Int} (h2 : 2 ≤ rr 0) (h9 : rr 0 ≤ 9) : ∀ (m : Nat) (j : Nat) (s : Nat → Int), 24 ≤ m + j → j ≤ 23 → (∀ k : Nat, k < j → s k = if k < (rr 0).toNat then (k : Int) else 0) →
    ∃ s1 : Nat → Int, fl_wh (fun t9 => Sf_X8_gallery_195_1 e 0 0 at_ en tk wm ns 0 pl fr lt rr t9.1 t9.2) (0, 0, 0, 0, 0, 0, 0, 0, 0, 0, 0, 0, 0, 0, 0, 0, (fun _ => 0), (fun _ => 0), (fun _ => 0), (fun _ => 0)) m ((j : Int), s) = (rr 0, 0, 0, e, at_, en, tk, wm, ns, 0, pl, 0, 0, 1, 0, 0, fr, lt, rr, s1) ∧ ∀ k : Nat, k < 23 → s1 k = if k = 19 then rr 9 else if k < (rr 0).toNat then (k : Int) else 0 := by
  intro m
  induction m with
  | zero => intro j s h1 h3; omega
  | succ m ih =>
    intro j s h1 h3 h4
    by_cases hj : 23 ≤ (j : Int)
    · have hs : Sf_X8_gallery_195_1 e 0 0 at_ en tk wm ns 0 pl fr lt rr (j : Int) s = .inr (fl_wh (fun t9 => Sf_X8_gallery_235_1 e 0 0 at_ en tk wm ns 0 pl fr lt rr t9.1 t9.2) (0, 0, 0, 0, 0, 0, 0, 0, 0, 0, 0, 0, 0, 0, 0, 0, (fun _ => 0), (fun _ => 0), (fun _ => 0), (fun _ => 0)) 22 (rr 0, s)) := by
        unfold Sf_X8_gallery_195_1; rw [if_pos hj]; rfl
      rw [fl_wh_r (step := fun t9 : Int × (Nat → Int) => Sf_X8_gallery_195_1 e 0 0 at_ en tk wm ns 0 pl fr lt rr t9.1 t9.2) (s := ((j : Int), s)) hs]
      have := rp_st2 (e := e) (at_ := at_) (en := en) (tk := tk) (wm := wm) (ns := ns) (pl := pl) (fr := fr) (lt := lt) (rr := rr) s 22 (rr 0).toNat s (by omega) (by omega) (fun k hk => by
        by_cases q : k < (rr 0).toNat
        · rw [if_pos q, if_pos q, h4 k (by omega), if_pos q]
        · rw [if_neg q]) (by omega) (fun k hk => by rw [h4 k (by omega), if_pos hk])
      rw [show (((rr 0).toNat : Nat) : Int) = rr 0 by omega] at this
      exact this
    · have hs : ∃ v, Sf_X8_gallery_195_1 e 0 0 at_ en tk wm ns 0 pl fr lt rr (j : Int) s = .inl ((j : Int) + 1, fl_up s j v) ∧ v = if j < (rr 0).toNat then (j : Int) else 0 := by
        unfold Sf_X8_gallery_195_1
        rw [if_neg hj, fl_lt_eq rfl]
        by_cases q : rr 0 ≤ (j : Int)
        · rw [if_pos q]; exact ⟨0, rfl, by rw [if_neg (by omega)]⟩
        · rw [if_neg q]; exact ⟨(j : Int), rfl, by rw [if_pos (by omega)]⟩
      obtain ⟨v, hs, hv⟩ := hs
      rw [fl_wh_l (step := fun t9 : Int × (Nat → Int) => Sf_X8_gallery_195_1 e 0 0 at_ en tk wm ns 0 pl fr lt rr t9.1 t9.2) (s := ((j : Int), s)) hs]
      have := ih (j + 1) (fl_up s j v) (by omega) (by omega) (fun k hk => by
        by_cases q : k = j
        · subst q; rw [rp_up_eq, hv]
        · rw [rp_up_ne _ _ q]; exact h4 k (by omega))
      rw [show ((j + 1 : Nat) : Int) = (j : Int) + 1 by omega] at this
      exact this
/-- gallery: the reading, here and there -/
theorem rp_gal {tp tm : Nat → Int} {n tz : Int} (h0 : 0 ≤ n) (hn : n ≤ tz) (hz : tz ≤ 900) (hT : rp_T tp tm n) (wd wh ta sp sa sh ti pu fi : Int) (kd me nm wf wt sm sf : Nat → Int) (u3 u4 u5 u6 u7 x8 x9 pl x13 hg un im : Int) (f0 lt r0 s0 : Nat → Int) :
    (∃ c' st' be' tk' wd' wh' ta' fg' sp' sa' sh' lw' ti' pu' fi' tb' sc' wc' kd' me' nm' wf' wt' sm' sf' fr' lt' at1 en1 tk3 wm1 ns1 s1, Ff_X3_read n tz wd wh ta sp sa sh ti pu fi kd me tp nm wf wt sm sf = (1, 0, -1, c', n, st', be', tk', wd', wh', ta', fg', sp', sa', sh', lw', ti', pu', fi', tb', sc', wc', kd', me', nm', wf', wt', sm', sf') ∧ Ff_X8_gallery n tz u3 u4 u5 u6 u7 x8 x9 pl x13 hg un im f0 tm lt r0 s0 = (fr' 0, 0, 0, n, at1, en1, tk3, wm1, ns1, 0, pl, 0, 0, 1, 0, 0, fr', lt', va_cpy fr' r0 0 0 156, s1) ∧ lw' = 1 ∧ 2 ≤ fg' ∧ fg' ≤ 9 ∧ rp_D fg' sp' sa' sh' lw' ti' pu' fi' tb' sc' wc' c' kd' me' sf' sm' wf' wt' nm' fr' ∧ ∀ k : Nat, k < 23 → s1 k = if k = 19 then fr' 9 else if (k : Int) < fr' 0 then (k : Int) else 0) ∨
    (∃ q p, rp_fc (Ff_X3_read n tz wd wh ta sp sa sh ti pu fi kd me tp nm wf wt sm sf) q p ∧ ∃ at1 en1 tk3 wm1 ns1 fr' lt', Ff_X8_gallery n tz u3 u4 u5 u6 u7 x8 x9 pl x13 hg un im f0 tm lt r0 s0 = (-1, 0, 0, n, at1, en1, tk3, wm1, ns1, q, p, 4, 1, hg, un, im, fr', lt', r0, s0)) := by
  have n01 : ¬ (0 : Int) = 1 := by decide
  have emin : fl_min n tz = n := by unfold fl_min; rw [if_neg (by omega)]
  obtain ⟨kd0, me0, ecl, hcl⟩ := rp_clear kd me
  -- fresh cleared
  have main : ∀ (m : Nat) (j : Nat) (f : Nat → Int), 157 ≤ m + j → j ≤ 156 → (∀ i : Nat, i < j → f i = 0) → ∃ fz : Nat → Int, (∀ i : Nat, i < 156 → fz i = 0) ∧
      fl_wh (fun t9 => Sf_X8_gallery_39_1 n pl hg un im tm lt r0 s0 0 0 t9.1 t9.2) (0, 0, 0, 0, 0, 0, 0, 0, 0, 0, 0, 0, 0, 0, 0, 0, (fun _ => 0), (fun _ => 0), (fun _ => 0), (fun _ => 0)) m ((j : Int), f) = fl_c6 (Ff_X8_next n 0 tm lt) (fun y4 y5 y6 y7 y8 y12 => fl_c10 (FfG_X8_readLine n y4 y5 y6 y7 y8 0 pl y12 fz tm) (fun z4 z5 z6 z7 z8 z9 z10 z13 z12 z16 => if z13 = 1 then (-1, 0, 0, n, z4, z5, z6, z7, z8, z9, z10, 4, 1, hg, un, im, z16, z12, r0, s0) else fl_wh (fun t9 => Sf_X8_gallery_77_1 n hg un im tm r0 s0 0 0 t9.1 t9.2.1 t9.2.2.1 t9.2.2.2.1 t9.2.2.2.2.1 t9.2.2.2.2.2.1 t9.2.2.2.2.2.2.1 t9.2.2.2.2.2.2.2.1 t9.2.2.2.2.2.2.2.2) (0, 0, 0, 0, 0, 0, 0, 0, 0, 0, 0, 0, 0, 0, 0, 0, (fun _ => 0), (fun _ => 0), (fun _ => 0), (fun _ => 0)) 1804 (z4, z5, z6, z7, z8, z9, z10, z16, z12))) := by
    intro m
    induction m with
    | zero => intro j f h1 h2; omega
    | succ m ih =>
      intro j f h1 h2 h3
      by_cases hj : 156 ≤ (j : Int)
      · have hs : Sf_X8_gallery_39_1 n pl hg un im tm lt r0 s0 0 0 (j : Int) f = .inr (fl_c6 (Ff_X8_next n 0 tm lt) (fun y4 y5 y6 y7 y8 y12 => fl_c10 (FfG_X8_readLine n y4 y5 y6 y7 y8 0 pl y12 f tm) (fun z4 z5 z6 z7 z8 z9 z10 z13 z12 z16 => if z13 = 1 then (-1, 0, 0, n, z4, z5, z6, z7, z8, z9, z10, 4, 1, hg, un, im, z16, z12, r0, s0) else fl_wh (fun t9 => Sf_X8_gallery_77_1 n hg un im tm r0 s0 0 0 t9.1 t9.2.1 t9.2.2.1 t9.2.2.2.1 t9.2.2.2.2.1 t9.2.2.2.2.2.1 t9.2.2.2.2.2.2.1 t9.2.2.2.2.2.2.2.1 t9.2.2.2.2.2.2.2.2) (0, 0, 0, 0, 0, 0, 0, 0, 0, 0, 0, 0, 0, 0, 0, 0, (fun _ => 0), (fun _ => 0), (fun _ => 0), (fun _ => 0)) 1804 (z4, z5, z6, z7, z8, z9, z10, z16, z12)))) := by
          unfold Sf_X8_gallery_39_1; rw [if_pos hj]; rfl
        rw [fl_wh_r (step := fun t9 : Int × (Nat → Int) => Sf_X8_gallery_39_1 n pl hg un im tm lt r0 s0 0 0 t9.1 t9.2) (s := ((j : Int), f)) hs]
        exact ⟨f, fun i hi => h3 i (by omega), rfl⟩
      · have hs : Sf_X8_gallery_39_1 n pl hg un im tm lt r0 s0 0 0 (j : Int) f = .inl ((j : Int) + 1, fl_up f j 0) := by
          unfold Sf_X8_gallery_39_1; rw [if_neg hj]; rfl
        rw [fl_wh_l (step := fun t9 : Int × (Nat → Int) => Sf_X8_gallery_39_1 n pl hg un im tm lt r0 s0 0 0 t9.1 t9.2) (s := ((j : Int), f)) hs]
        have := ih (j + 1) (fl_up f j 0) (by omega) (by omega) (fun i hi => by
          by_cases q : i = j
          · subst q; rw [rp_up_eq]
          · rw [rp_up_ne _ _ q]; exact h3 i (by omega))
        rw [show ((j + 1 : Nat) : Int) = (j : Int) + 1 by omega] at this
        exact this
  obtain ⟨fz, hfz, efz⟩ := main 157 0 f0 (by omega) (by omega) (fun i hi => by omega)
  have um : Ff_X8_gallery n tz u3 u4 u5 u6 u7 x8 x9 pl x13 hg un im f0 tm lt r0 s0 = fl_wh (fun t9 => Sf_X8_gallery_39_1 n pl hg un im tm lt r0 s0 0 0 t9.1 t9.2) (0, 0, 0, 0, 0, 0, 0, 0, 0, 0, 0, 0, 0, 0, 0, 0, (fun _ => 0), (fun _ => 0), (fun _ => 0), (fun _ => 0)) 157 (0, f0) := by
    unfold Ff_X8_gallery Ff_X8_good
    rw [fl_c2_eq rfl, fl_lt_eq (rp_in1 h0 hn).symm, if_pos rfl]
  have efz' : fl_wh (fun t9 => Sf_X8_gallery_39_1 n pl hg un im tm lt r0 s0 0 0 t9.1 t9.2) (0, 0, 0, 0, 0, 0, 0, 0, 0, 0, 0, 0, 0, 0, 0, 0, (fun _ => 0), (fun _ => 0), (fun _ => 0), (fun _ => 0)) 157 (0, f0) = _ := efz
  rw [efz'] at um
  have uc : Ff_X3_read n tz wd wh ta sp sa sh ti pu fi kd me tp nm wf wt sm sf = fl_c5 (Ff_X3_advance n 0 wd wh tp) (fun st be tk wd wh => fl_c28 (Ff_X3_readLine 0 (-1) 0 n st be tk wd wh ta 0 sp sa sh 0 ti pu fi 0 0 tp nm kd0 me0 0 wf wt sm sf) (fun r49 q1 q2 v_c v_st v_be v_tk v_wd v_wh v_ta v_fg v_sp v_sa v_sh v_lw v_ti v_pu v_fi v_tb v_sc v_nm v_kd v_me v_wc v_wf v_wt v_sm v_sf => if r49 = 1 then fl_wh (fun t9 => Sf_X3_read_55_1 tp n t9.1 t9.2.1 t9.2.2.1 t9.2.2.2.1 t9.2.2.2.2.1 t9.2.2.2.2.2.1 t9.2.2.2.2.2.2.1 t9.2.2.2.2.2.2.2.1 t9.2.2.2.2.2.2.2.2.1 t9.2.2.2.2.2.2.2.2.2.1 t9.2.2.2.2.2.2.2.2.2.2.1 t9.2.2.2.2.2.2.2.2.2.2.2.1 t9.2.2.2.2.2.2.2.2.2.2.2.2.1 t9.2.2.2.2.2.2.2.2.2.2.2.2.2.1 t9.2.2.2.2.2.2.2.2.2.2.2.2.2.2.1 t9.2.2.2.2.2.2.2.2.2.2.2.2.2.2.2.1 t9.2.2.2.2.2.2.2.2.2.2.2.2.2.2.2.2.1 t9.2.2.2.2.2.2.2.2.2.2.2.2.2.2.2.2.2.1 t9.2.2.2.2.2.2.2.2.2.2.2.2.2.2.2.2.2.2.1 t9.2.2.2.2.2.2.2.2.2.2.2.2.2.2.2.2.2.2.2.1 t9.2.2.2.2.2.2.2.2.2.2.2.2.2.2.2.2.2.2.2.2.1 t9.2.2.2.2.2.2.2.2.2.2.2.2.2.2.2.2.2.2.2.2.2.1 t9.2.2.2.2.2.2.2.2.2.2.2.2.2.2.2.2.2.2.2.2.2.2.1 t9.2.2.2.2.2.2.2.2.2.2.2.2.2.2.2.2.2.2.2.2.2.2.2.1 t9.2.2.2.2.2.2.2.2.2.2.2.2.2.2.2.2.2.2.2.2.2.2.2.2.1 t9.2.2.2.2.2.2.2.2.2.2.2.2.2.2.2.2.2.2.2.2.2.2.2.2.2.1 t9.2.2.2.2.2.2.2.2.2.2.2.2.2.2.2.2.2.2.2.2.2.2.2.2.2.2.1 t9.2.2.2.2.2.2.2.2.2.2.2.2.2.2.2.2.2.2.2.2.2.2.2.2.2.2.2.1 t9.2.2.2.2.2.2.2.2.2.2.2.2.2.2.2.2.2.2.2.2.2.2.2.2.2.2.2.2) (0, 0, 0, 0, 0, 0, 0, 0, 0, 0, 0, 0, 0, 0, 0, 0, 0, 0, 0, 0, 0, 0, (fun _ => 0), (fun _ => 0), (fun _ => 0), (fun _ => 0), (fun _ => 0), (fun _ => 0), (fun _ => 0)) 900 (1, 1, q1, q2, v_c, v_st, v_be, v_tk, v_wd, v_wh, v_ta, v_fg, v_sp, v_sa, v_sh, v_lw, v_ti, v_pu, v_fi, v_tb, v_sc, v_wc, v_kd, v_me, v_nm, v_wf, v_wt, v_sm, v_sf) else fl_wh (fun t9 => Sf_X3_read_55_1 tp n t9.1 t9.2.1 t9.2.2.1 t9.2.2.2.1 t9.2.2.2.2.1 t9.2.2.2.2.2.1 t9.2.2.2.2.2.2.1 t9.2.2.2.2.2.2.2.1 t9.2.2.2.2.2.2.2.2.1 t9.2.2.2.2.2.2.2.2.2.1 t9.2.2.2.2.2.2.2.2.2.2.1 t9.2.2.2.2.2.2.2.2.2.2.2.1 t9.2.2.2.2.2.2.2.2.2.2.2.2.1 t9.2.2.2.2.2.2.2.2.2.2.2.2.2.1 t9.2.2.2.2.2.2.2.2.2.2.2.2.2.2.1 t9.2.2.2.2.2.2.2.2.2.2.2.2.2.2.2.1 t9.2.2.2.2.2.2.2.2.2.2.2.2.2.2.2.2.1 t9.2.2.2.2.2.2.2.2.2.2.2.2.2.2.2.2.2.1 t9.2.2.2.2.2.2.2.2.2.2.2.2.2.2.2.2.2.2.1 t9.2.2.2.2.2.2.2.2.2.2.2.2.2.2.2.2.2.2.2.1 t9.2.2.2.2.2.2.2.2.2.2.2.2.2.2.2.2.2.2.2.2.1 t9.2.2.2.2.2.2.2.2.2.2.2.2.2.2.2.2.2.2.2.2.2.1 t9.2.2.2.2.2.2.2.2.2.2.2.2.2.2.2.2.2.2.2.2.2.2.1 t9.2.2.2.2.2.2.2.2.2.2.2.2.2.2.2.2.2.2.2.2.2.2.2.1 t9.2.2.2.2.2.2.2.2.2.2.2.2.2.2.2.2.2.2.2.2.2.2.2.2.1 t9.2.2.2.2.2.2.2.2.2.2.2.2.2.2.2.2.2.2.2.2.2.2.2.2.2.1 t9.2.2.2.2.2.2.2.2.2.2.2.2.2.2.2.2.2.2.2.2.2.2.2.2.2.2.1 t9.2.2.2.2.2.2.2.2.2.2.2.2.2.2.2.2.2.2.2.2.2.2.2.2.2.2.2.1 t9.2.2.2.2.2.2.2.2.2.2.2.2.2.2.2.2.2.2.2.2.2.2.2.2.2.2.2.2) (0, 0, 0, 0, 0, 0, 0, 0, 0, 0, 0, 0, 0, 0, 0, 0, 0, 0, 0, 0, 0, 0, (fun _ => 0), (fun _ => 0), (fun _ => 0), (fun _ => 0), (fun _ => 0), (fun _ => 0), (fun _ => 0)) 900 (1, 0, q1, q2, v_c, v_st, v_be, v_tk, v_wd, v_wh, v_ta, v_fg, v_sp, v_sa, v_sh, v_lw, v_ti, v_pu, v_fi, v_tb, v_sc, v_wc, v_kd, v_me, v_nm, v_wf, v_wt, v_sm, v_sf))) := by
    unfold Ff_X3_read
    rw [fl_lt_eq emin.symm, ecl, fl_c7_eq rfl]; rfl
  obtain ⟨st1, be1, tk1, wd1, wh1, at1, en1, tk3, wm1, ns1, lt1, a1, a2, a3, a4⟩ := rp_adv hT (by omega) 0 wd wh lt (by omega) h0
  rw [a1, fl_c5_eq rfl] at uc
  rw [a2, fl_c6_eq rfl] at um
  rcases rp_line hT (by omega) a3 (rp_D0 (sp := sp) (sa := sa) (sh := sh) (ti := ti) (pu := pu) (fi := fi) (sf := sf) (sm := sm) (wf := wf) (wt := wt) (nm := nm) hfz hcl) 0 (-1) ta 0 pl with ⟨c', ta', fg', sp', sa', sh', lw', ti', pu', fi', tb', sc', wc', nm', kd', me', wf', wt', sm', sf', fr', st2, be2, tk4, wd2, wh2, at2, en2, tk5, wm2, ns2, lt2, b1, b2, b3, b4, b5⟩ | ⟨q, p, b1, b2⟩
  · rw [b1, fl_c28_eq rfl, if_pos rfl] at uc
    rw [b2, fl_c10_eq rfl, if_neg n01] at um
    rcases rp_loop hT (by omega) hg un im r0 s0 900 1804 1 c' st2 be2 tk4 wd2 wh2 ta' fg' sp' sa' sh' lw' ti' pu' fi' tb' sc' wc' kd' me' nm' wf' wt' sm' sf' fr' lt2 at2 en2 tk5 wm2 ns2 pl (by omega) (by have := b3.2.1; omega) (by omega) (by omega) b3 b5 with ⟨q_c, q_st, q_be, q_tk, q_wd, q_wh, q_ta, q_fg, q_sp, q_sa, q_sh, q_lw, q_ti, q_pu, q_fi, q_tb, q_sc, q_wc, q_kd, q_me, q_nm, q_wf, q_wt, q_sm, q_sf, fr3, lt3, at3, en3, tk6, wm3, ns3, g1, g2, g3, g4⟩ | ⟨q, p, g1, at3, en3, tk6, wm3, ns3, fr3, lt3, g2⟩
    · have e0 : va_cpy fr3 r0 0 0 156 0 = fr3 0 := rfl
      have e9 : va_cpy fr3 r0 0 0 156 9 = fr3 9 := rfl
      have hh := g4.1.1
      have h11 : fr3 11 = 1 := by
        rcases hh.2.1 with h | h
        · have := hh.2.2.1 h
          have h5 := g4.1.2.1
          omega
        · exact h
      have h29 := hh.2.2.2 h11
      obtain ⟨s1, k1, k2⟩ := rp_st1 (e := n) (at_ := at3) (en := en3) (tk := tk6) (wm := wm3) (ns := ns3) (pl := pl) (fr := fr3) (lt := lt3) (rr := va_cpy fr3 r0 0 0 156) (by rw [e0]; exact h29.1) (by rw [e0]; exact h29.2.1) 24 0 s0 (by omega) (by omega) (fun k hk => by omega)
      refine Or.inl ⟨q_c, q_st, q_be, q_tk, q_wd, q_wh, q_ta, q_fg, q_sp, q_sa, q_sh, q_lw, q_ti, q_pu, q_fi, q_tb, q_sc, q_wc, q_kd, q_me, q_nm, q_wf, q_wt, q_sm, q_sf, fr3, lt3, at3, en3, tk6, wm3, ns3, s1, uc.trans g1, ?_, g3, by rw [hh.1]; exact h29.1, by rw [hh.1]; exact h29.2.1, g4, ?_⟩
      · rw [um, g2, ← e0]; exact k1
      · intro k hk
        rw [k2 k hk, e0, e9]
        by_cases q : k = 19
        · rw [if_pos q, if_pos q]
        · rw [if_neg q, if_neg q]
          by_cases q2 : (k : Int) < fr3 0
          · rw [if_pos q2, if_pos (by omega)]
          · rw [if_neg q2, if_neg (by omega)]
    · exact Or.inr ⟨q, p, by rw [uc]; exact g1, at3, en3, tk6, wm3, ns3, fr3, lt3, um.trans g2⟩
  · have hm : ∃ x1 x2 x3 x4 x5 x6 x7, Ff_X8_gallery n tz u3 u4 u5 u6 u7 x8 x9 pl x13 hg un im f0 tm lt r0 s0 = (-1, 0, 0, n, x1, x2, x3, x4, x5, q, p, 4, 1, hg, un, im, x6, x7, r0, s0) := by
      rw [um]
      generalize FfG_X8_readLine n at1 en1 tk3 wm1 ns1 0 pl lt1 fz tm = G at b2
      obtain ⟨g1, g2, g3, g4, g5, g6, g7, g8, g9, g10⟩ := G
      obtain ⟨z1, z2, z3⟩ := b2
      simp only at z1 z2 z3
      subst z1; subst z2; subst z3
      exact ⟨g1, g2, g3, g4, g5, g10, g9, rfl⟩
    obtain ⟨y1, y2, y3, y4, y5, y6, y7, hm⟩ := hm
    refine Or.inr ⟨q, p, ?_, y1, y2, y3, y4, y5, y6, y7, hm⟩
    rw [uc]
    generalize Ff_X3_readLine 0 (-1) 0 n st1 be1 tk1 wd1 wh1 ta 0 sp sa sh 0 ti pu fi 0 0 tp nm kd0 me0 0 wf wt sm sf = G at b1
    obtain ⟨g1, g2, g3, gl_c, gl_st, gl_be, gl_tk, gl_wd, gl_wh, gl_ta, gl_fg, gl_sp, gl_sa, gl_sh, gl_lw, gl_ti, gl_pu, gl_fi, gl_tb, gl_sc, gl_nm, gl_kd, gl_me, gl_wc, gl_wf, gl_wt, gl_sm, gl_sf⟩ := G
    obtain ⟨z1, z2, z3⟩ := b1
    simp only at z1 z2 z3
    subst z1; subst z2; subst z3
    rw [fl_c28_eq rfl, if_neg n01]
    have hc2 : Sf_X3_read_55_1 tp n 1 0 g2 g3 gl_c gl_st gl_be gl_tk gl_wd gl_wh gl_ta gl_fg gl_sp gl_sa gl_sh gl_lw gl_ti gl_pu gl_fi gl_tb gl_sc gl_wc gl_kd gl_me gl_nm gl_wf gl_wt gl_sm gl_sf = .inr (0, g2, g3, gl_c, n, gl_st, gl_be, gl_tk, gl_wd, gl_wh, gl_ta, gl_fg, gl_sp, gl_sa, gl_sh, gl_lw, gl_ti, gl_pu, gl_fi, gl_tb, gl_sc, gl_wc, gl_kd, gl_me, gl_nm, gl_wf, gl_wt, gl_sm, gl_sf) := by
      unfold Sf_X3_read_55_1 Gf_X3_read_89_1
      rw [if_pos rfl, if_pos rfl]
    rw [fl_wh_r (n := 899) (step := (fun t9 : Int × Int × Int × Int × Int × Int × Int × Int × Int × Int × Int × Int × Int × Int × Int × Int × Int × Int × Int × Int × Int × Int × (Nat → Int) × (Nat → Int) × (Nat → Int) × (Nat → Int) × (Nat → Int) × (Nat → Int) × (Nat → Int) => Sf_X3_read_55_1 tp n t9.1 t9.2.1 t9.2.2.1 t9.2.2.2.1 t9.2.2.2.2.1 t9.2.2.2.2.2.1 t9.2.2.2.2.2.2.1 t9.2.2.2.2.2.2.2.1 t9.2.2.2.2.2.2.2.2.1 t9.2.2.2.2.2.2.2.2.2.1 t9.2.2.2.2.2.2.2.2.2.2.1 t9.2.2.2.2.2.2.2.2.2.2.2.1 t9.2.2.2.2.2.2.2.2.2.2.2.2.1 t9.2.2.2.2.2.2.2.2.2.2.2.2.2.1 t9.2.2.2.2.2.2.2.2.2.2.2.2.2.2.1 t9.2.2.2.2.2.2.2.2.2.2.2.2.2.2.2.1 t9.2.2.2.2.2.2.2.2.2.2.2.2.2.2.2.2.1 t9.2.2.2.2.2.2.2.2.2.2.2.2.2.2.2.2.2.1 t9.2.2.2.2.2.2.2.2.2.2.2.2.2.2.2.2.2.2.1 t9.2.2.2.2.2.2.2.2.2.2.2.2.2.2.2.2.2.2.2.1 t9.2.2.2.2.2.2.2.2.2.2.2.2.2.2.2.2.2.2.2.2.1 t9.2.2.2.2.2.2.2.2.2.2.2.2.2.2.2.2.2.2.2.2.2.1 t9.2.2.2.2.2.2.2.2.2.2.2.2.2.2.2.2.2.2.2.2.2.2.1 t9.2.2.2.2.2.2.2.2.2.2.2.2.2.2.2.2.2.2.2.2.2.2.2.1 t9.2.2.2.2.2.2.2.2.2.2.2.2.2.2.2.2.2.2.2.2.2.2.2.2.1 t9.2.2.2.2.2.2.2.2.2.2.2.2.2.2.2.2.2.2.2.2.2.2.2.2.2.1 t9.2.2.2.2.2.2.2.2.2.2.2.2.2.2.2.2.2.2.2.2.2.2.2.2.2.2.1 t9.2.2.2.2.2.2.2.2.2.2.2.2.2.2.2.2.2.2.2.2.2.2.2.2.2.2.2.1 t9.2.2.2.2.2.2.2.2.2.2.2.2.2.2.2.2.2.2.2.2.2.2.2.2.2.2.2.2)) (s := (1, 0, g2, g3, gl_c, gl_st, gl_be, gl_tk, gl_wd, gl_wh, gl_ta, gl_fg, gl_sp, gl_sa, gl_sh, gl_lw, gl_ti, gl_pu, gl_fi, gl_tb, gl_sc, gl_wc, gl_kd, gl_me, gl_nm, gl_wf, gl_wt, gl_sm, gl_sf)) hc2]
    exact ⟨rfl, rfl, rfl⟩
end PUL
end P0922493_pure12
section P0922494_pure13
section PUM
theorem rp_and255 (x : Int32) : (x &&& 255).toInt = ((x.toBitVec.toNat % 256 : Nat) : Int) := by
  have e1 : (x &&& 255).toBitVec.toNat = x.toBitVec.toNat % 256 := by
    rw [Int32.toBitVec_and, BitVec.toNat_and]
    have e2 : (255 : Int32).toBitVec.toNat = 2 ^ 8 - 1 := by decide
    rw [e2, Nat.and_two_pow_sub_one_eq_mod]
  show (x &&& 255).toBitVec.toInt = _
  rw [BitVec.toInt_eq_toNat_of_lt (by rw [e1]; omega), e1]
theorem rp_i8 (x : Int32) : (x.toInt8.toInt32).toInt = if 2 * (x.toBitVec.toNat % 256) < 256 then ((x.toBitVec.toNat % 256 : Nat) : Int) else ((x.toBitVec.toNat % 256 : Nat) : Int) - 256 := by
  rw [Int8.toInt_toInt32, Int32.toInt_toInt8]
  have h1 : x.toInt = if 2 * x.toBitVec.toNat < 4294967296 then (x.toBitVec.toNat : Int) else (x.toBitVec.toNat : Int) - 4294967296 := by
    show x.toBitVec.toInt = _
    rw [BitVec.toInt_eq_toNat_cond]
    rfl
  have h2 : x.toInt % 256 = ((x.toBitVec.toNat % 256 : Nat) : Int) := by
    rw [h1]; split <;> omega
  have h3 : (2 : Nat) ^ 8 = 256 := rfl
  rw [h3, Int.bmod_def]
  have h4 : ((256 : Nat) : Int) = 256 := rfl
  rw [h4, h2]
  split <;> split <;> omega
def rp_br (b m : Int) : Prop := (m = b ∧ 0 ≤ b) ∨ (b < 0 ∧ 128 ≤ m)
theorem rp_byte (x : Int32) : rp_br (fl_nar (fl_i2b x.toInt)) (fl_and x.toInt 255) := by
  have e1 : fl_i2b x.toInt = (x.toInt8.toInt32).toInt := by unfold fl_i2b; rw [Int32.ofInt_toInt]
  have e2 : fl_nar (x.toInt8.toInt32).toInt = (x.toInt8.toInt32).toInt := by
    unfold fl_nar; rw [Int32.ofInt_toInt]
    show (x.toInt8.toInt32.toInt8.toInt32).toInt = _
    rw [Int8.toInt8_toInt32]
  have e3 : fl_and x.toInt 255 = (x &&& 255).toInt := by
    unfold fl_and; rw [Int32.ofInt_toInt]; rfl
  rw [e1, e2, e3, rp_and255, rp_i8]
  unfold rp_br
  split <;> omega
theorem rp_bs (a s : Int) : rp_br (fl_nar (fl_i2b (fl_shr a s))) (fl_and (fl_shr a s) 255) := rp_byte _
theorem rp_T_up {tp tm : Nat → Int} {t b m : Int} (hT : rp_T tp tm t) (h0 : 0 ≤ t) (h : rp_br b m) : rp_T (fl_up tp t.toNat b) (fl_up tm t.toNat m) (t + 1) := by
  intro i hi
  by_cases q : i = t.toNat
  · subst q; rw [rp_up_eq, rp_up_eq]; exact h
  · rw [rp_up_ne _ _ q, rp_up_ne _ _ q]; exact hT i (by omega)
theorem rp_app {t : Int} (h : t + 4 ≤ 900) (a : Int) (f : Nat → Int) : Ff_X3_appendX a t f = (t + 1 + 1 + 1 + 1, fl_up (fl_up (fl_up (fl_up f t.toNat (fl_nar (fl_i2b (fl_shr a 24)))) (t + 1).toNat (fl_nar (fl_i2b (fl_shr a 16)))) (t + 1 + 1).toNat (fl_nar (fl_i2b (fl_shr a 8)))) (t + 1 + 1 + 1).toNat (fl_nar (fl_i2b (fl_shr a 0)))) := by
  unfold Ff_X3_appendX
  rw [if_neg (by omega), fl_lt_eq rfl, fl_lt_eq rfl, fl_lt_eq rfl, fl_lt_eq rfl, if_neg (by omega), fl_lt_eq rfl, fl_lt_eq rfl, fl_lt_eq rfl, fl_lt_eq rfl, if_neg (by omega), fl_lt_eq rfl, fl_lt_eq rfl, fl_lt_eq rfl, fl_lt_eq rfl, if_neg (by omega)]
  rfl
theorem rp_fs0 (a1 a2 a3 a4 a5 t : Int) (f : Nat → Int) : Sf_X8_feed_23_1 a1 a2 a3 a4 a5 0 t f = .inl (1, t + 1, fl_up f t.toNat (fl_and (fl_shr a1 24) 255)) := by
  unfold Sf_X8_feed_23_1
  rfl
theorem rp_fs1 (a1 a2 a3 a4 a5 t : Int) (f : Nat → Int) : Sf_X8_feed_23_1 a1 a2 a3 a4 a5 1 t f = .inl (2, t + 1, fl_up f t.toNat (fl_and (fl_shr a1 16) 255)) := by
  unfold Sf_X8_feed_23_1
  rfl
theorem rp_fs2 (a1 a2 a3 a4 a5 t : Int) (f : Nat → Int) : Sf_X8_feed_23_1 a1 a2 a3 a4 a5 2 t f = .inl (3, t + 1, fl_up f t.toNat (fl_and (fl_shr a1 8) 255)) := by
  unfold Sf_X8_feed_23_1
  rfl
theorem rp_fs3 (a1 a2 a3 a4 a5 t : Int) (f : Nat → Int) : Sf_X8_feed_23_1 a1 a2 a3 a4 a5 3 t f = .inl (4, t + 1, fl_up f t.toNat (fl_and (fl_shr a1 0) 255)) := by
  unfold Sf_X8_feed_23_1
  rfl
theorem rp_fs4 (a1 a2 a3 a4 a5 t : Int) (f : Nat → Int) : Sf_X8_feed_23_1 a1 a2 a3 a4 a5 4 t f = .inl (5, t + 1, fl_up f t.toNat (fl_and (fl_shr a2 24) 255)) := by
  unfold Sf_X8_feed_23_1
  rfl
theorem rp_fs5 (a1 a2 a3 a4 a5 t : Int) (f : Nat → Int) : Sf_X8_feed_23_1 a1 a2 a3 a4 a5 5 t f = .inl (6, t + 1, fl_up f t.toNat (fl_and (fl_shr a2 16) 255)) := by
  unfold Sf_X8_feed_23_1
  rfl
theorem rp_fs6 (a1 a2 a3 a4 a5 t : Int) (f : Nat → Int) : Sf_X8_feed_23_1 a1 a2 a3 a4 a5 6 t f = .inl (7, t + 1, fl_up f t.toNat (fl_and (fl_shr a2 8) 255)) := by
  unfold Sf_X8_feed_23_1
  rfl
theorem rp_fs7 (a1 a2 a3 a4 a5 t : Int) (f : Nat → Int) : Sf_X8_feed_23_1 a1 a2 a3 a4 a5 7 t f = .inl (8, t + 1, fl_up f t.toNat (fl_and (fl_shr a2 0) 255)) := by
  unfold Sf_X8_feed_23_1
  rfl
theorem rp_fs8 (a1 a2 a3 a4 a5 t : Int) (f : Nat → Int) : Sf_X8_feed_23_1 a1 a2 a3 a4 a5 8 t f = .inl (9, t + 1, fl_up f t.toNat (fl_and (fl_shr a3 24) 255)) := by
  unfold Sf_X8_feed_23_1
  rfl
theorem rp_fs9 (a1 a2 a3 a4 a5 t : Int) (f : Nat → Int) : Sf_X8_feed_23_1 a1 a2 a3 a4 a5 9 t f = .inl (10, t + 1, fl_up f t.toNat (fl_and (fl_shr a3 16) 255)) := by
  unfold Sf_X8_feed_23_1
  rfl
theorem rp_fs10 (a1 a2 a3 a4 a5 t : Int) (f : Nat → Int) : Sf_X8_feed_23_1 a1 a2 a3 a4 a5 10 t f = .inl (11, t + 1, fl_up f t.toNat (fl_and (fl_shr a3 8) 255)) := by
  unfold Sf_X8_feed_23_1
  rfl
theorem rp_fs11 (a1 a2 a3 a4 a5 t : Int) (f : Nat → Int) : Sf_X8_feed_23_1 a1 a2 a3 a4 a5 11 t f = .inl (12, t + 1, fl_up f t.toNat (fl_and (fl_shr a3 0) 255)) := by
  unfold Sf_X8_feed_23_1
  rfl
theorem rp_fs12 (a1 a2 a3 a4 a5 t : Int) (f : Nat → Int) : Sf_X8_feed_23_1 a1 a2 a3 a4 a5 12 t f = .inl (13, t + 1, fl_up f t.toNat (fl_and (fl_shr a4 24) 255)) := by
  unfold Sf_X8_feed_23_1
  rfl
theorem rp_fs13 (a1 a2 a3 a4 a5 t : Int) (f : Nat → Int) : Sf_X8_feed_23_1 a1 a2 a3 a4 a5 13 t f = .inl (14, t + 1, fl_up f t.toNat (fl_and (fl_shr a4 16) 255)) := by
  unfold Sf_X8_feed_23_1
  rfl
theorem rp_fs14 (a1 a2 a3 a4 a5 t : Int) (f : Nat → Int) : Sf_X8_feed_23_1 a1 a2 a3 a4 a5 14 t f = .inl (15, t + 1, fl_up f t.toNat (fl_and (fl_shr a4 8) 255)) := by
  unfold Sf_X8_feed_23_1
  rfl
theorem rp_fs15 (a1 a2 a3 a4 a5 t : Int) (f : Nat → Int) : Sf_X8_feed_23_1 a1 a2 a3 a4 a5 15 t f = .inl (16, t + 1, fl_up f t.toNat (fl_and (fl_shr a4 0) 255)) := by
  unfold Sf_X8_feed_23_1
  rfl
theorem rp_fs16 (a1 a2 a3 a4 a5 t : Int) (f : Nat → Int) : Sf_X8_feed_23_1 a1 a2 a3 a4 a5 16 t f = .inl (17, t + 1, fl_up f t.toNat (fl_and (fl_shr a5 24) 255)) := by
  unfold Sf_X8_feed_23_1
  rfl
theorem rp_fs17 (a1 a2 a3 a4 a5 t : Int) (f : Nat → Int) : Sf_X8_feed_23_1 a1 a2 a3 a4 a5 17 t f = .inl (18, t + 1, fl_up f t.toNat (fl_and (fl_shr a5 16) 255)) := by
  unfold Sf_X8_feed_23_1
  rfl
theorem rp_fs18 (a1 a2 a3 a4 a5 t : Int) (f : Nat → Int) : Sf_X8_feed_23_1 a1 a2 a3 a4 a5 18 t f = .inl (19, t + 1, fl_up f t.toNat (fl_and (fl_shr a5 8) 255)) := by
  unfold Sf_X8_feed_23_1
  rfl
theorem rp_fs19 (a1 a2 a3 a4 a5 t : Int) (f : Nat → Int) : Sf_X8_feed_23_1 a1 a2 a3 a4 a5 19 t f = .inl (20, t + 1, fl_up f t.toNat (fl_and (fl_shr a5 0) 255)) := by
  unfold Sf_X8_feed_23_1
  rfl
def rp_ct (a1 a2 a3 a4 a5 t : Int) (tp : Nat → Int) : Nat → Int := (fl_up (fl_up (fl_up (fl_up (fl_up (fl_up (fl_up (fl_up (fl_up (fl_up (fl_up (fl_up (fl_up (fl_up (fl_up (fl_up (fl_up (fl_up (fl_up (fl_up tp t.toNat (fl_nar (fl_i2b (fl_shr a1 24)))) (t + 1).toNat (fl_nar (fl_i2b (fl_shr a1 16)))) (t + 1 + 1).toNat (fl_nar (fl_i2b (fl_shr a1 8)))) (t + 1 + 1 + 1).toNat (fl_nar (fl_i2b (fl_shr a1 0)))) (t + 1 + 1 + 1 + 1).toNat (fl_nar (fl_i2b (fl_shr a2 24)))) (t + 1 + 1 + 1 + 1 + 1).toNat (fl_nar (fl_i2b (fl_shr a2 16)))) (t + 1 + 1 + 1 + 1 + 1 + 1).toNat (fl_nar (fl_i2b (fl_shr a2 8)))) (t + 1 + 1 + 1 + 1 + 1 + 1 + 1).toNat (fl_nar (fl_i2b (fl_shr a2 0)))) (t + 1 + 1 + 1 + 1 + 1 + 1 + 1 + 1).toNat (fl_nar (fl_i2b (fl_shr a3 24)))) (t + 1 + 1 + 1 + 1 + 1 + 1 + 1 + 1 + 1).toNat (fl_nar (fl_i2b (fl_shr a3 16)))) (t + 1 + 1 + 1 + 1 + 1 + 1 + 1 + 1 + 1 + 1).toNat (fl_nar (fl_i2b (fl_shr a3 8)))) (t + 1 + 1 + 1 + 1 + 1 + 1 + 1 + 1 + 1 + 1 + 1).toNat (fl_nar (fl_i2b (fl_shr a3 0)))) (t + 1 + 1 + 1 + 1 + 1 + 1 + 1 + 1 + 1 + 1 + 1 + 1).toNat (fl_nar (fl_i2b (fl_shr a4 24)))) (t + 1 + 1 + 1 + 1 + 1 + 1 + 1 + 1 + 1 + 1 + 1 + 1 + 1).toNat (fl_nar (fl_i2b (fl_shr a4 16)))) (t + 1 + 1 + 1 + 1 + 1 + 1 + 1 + 1 + 1 + 1 + 1 + 1 + 1 + 1).toNat (fl_nar (fl_i2b (fl_shr a4 8)))) (t + 1 + 1 + 1 + 1 + 1 + 1 + 1 + 1 + 1 + 1 + 1 + 1 + 1 + 1 + 1).toNat (fl_nar (fl_i2b (fl_shr a4 0)))) (t + 1 + 1 + 1 + 1 + 1 + 1 + 1 + 1 + 1 + 1 + 1 + 1 + 1 + 1 + 1 + 1).toNat (fl_nar (fl_i2b (fl_shr a5 24)))) (t + 1 + 1 + 1 + 1 + 1 + 1 + 1 + 1 + 1 + 1 + 1 + 1 + 1 + 1 + 1 + 1 + 1).toNat (fl_nar (fl_i2b (fl_shr a5 16)))) (t + 1 + 1 + 1 + 1 + 1 + 1 + 1 + 1 + 1 + 1 + 1 + 1 + 1 + 1 + 1 + 1 + 1 + 1).toNat (fl_nar (fl_i2b (fl_shr a5 8)))) (t + 1 + 1 + 1 + 1 + 1 + 1 + 1 + 1 + 1 + 1 + 1 + 1 + 1 + 1 + 1 + 1 + 1 + 1 + 1).toNat (fl_nar (fl_i2b (fl_shr a5 0))))
def rp_mt (a1 a2 a3 a4 a5 t : Int) (tm : Nat → Int) : Nat → Int := (fl_up (fl_up (fl_up (fl_up (fl_up (fl_up (fl_up (fl_up (fl_up (fl_up (fl_up (fl_up (fl_up (fl_up (fl_up (fl_up (fl_up (fl_up (fl_up (fl_up tm t.toNat (fl_and (fl_shr a1 24) 255)) (t + 1).toNat (fl_and (fl_shr a1 16) 255)) (t + 1 + 1).toNat (fl_and (fl_shr a1 8) 255)) (t + 1 + 1 + 1).toNat (fl_and (fl_shr a1 0) 255)) (t + 1 + 1 + 1 + 1).toNat (fl_and (fl_shr a2 24) 255)) (t + 1 + 1 + 1 + 1 + 1).toNat (fl_and (fl_shr a2 16) 255)) (t + 1 + 1 + 1 + 1 + 1 + 1).toNat (fl_and (fl_shr a2 8) 255)) (t + 1 + 1 + 1 + 1 + 1 + 1 + 1).toNat (fl_and (fl_shr a2 0) 255)) (t + 1 + 1 + 1 + 1 + 1 + 1 + 1 + 1).toNat (fl_and (fl_shr a3 24) 255)) (t + 1 + 1 + 1 + 1 + 1 + 1 + 1 + 1 + 1).toNat (fl_and (fl_shr a3 16) 255)) (t + 1 + 1 + 1 + 1 + 1 + 1 + 1 + 1 + 1 + 1).toNat (fl_and (fl_shr a3 8) 255)) (t + 1 + 1 + 1 + 1 + 1 + 1 + 1 + 1 + 1 + 1 + 1).toNat (fl_and (fl_shr a3 0) 255)) (t + 1 + 1 + 1 + 1 + 1 + 1 + 1 + 1 + 1 + 1 + 1 + 1).toNat (fl_and (fl_shr a4 24) 255)) (t + 1 + 1 + 1 + 1 + 1 + 1 + 1 + 1 + 1 + 1 + 1 + 1 + 1).toNat (fl_and (fl_shr a4 16) 255)) (t + 1 + 1 + 1 + 1 + 1 + 1 + 1 + 1 + 1 + 1 + 1 + 1 + 1 + 1).toNat (fl_and (fl_shr a4 8) 255)) (t + 1 + 1 + 1 + 1 + 1 + 1 + 1 + 1 + 1 + 1 + 1 + 1 + 1 + 1 + 1).toNat (fl_and (fl_shr a4 0) 255)) (t + 1 + 1 + 1 + 1 + 1 + 1 + 1 + 1 + 1 + 1 + 1 + 1 + 1 + 1 + 1 + 1).toNat (fl_and (fl_shr a5 24) 255)) (t + 1 + 1 + 1 + 1 + 1 + 1 + 1 + 1 + 1 + 1 + 1 + 1 + 1 + 1 + 1 + 1 + 1).toNat (fl_and (fl_shr a5 16) 255)) (t + 1 + 1 + 1 + 1 + 1 + 1 + 1 + 1 + 1 + 1 + 1 + 1 + 1 + 1 + 1 + 1 + 1 + 1).toNat (fl_and (fl_shr a5 8) 255)) (t + 1 + 1 + 1 + 1 + 1 + 1 + 1 + 1 + 1 + 1 + 1 + 1 + 1 + 1 + 1 + 1 + 1 + 1 + 1).toNat (fl_and (fl_shr a5 0) 255))
theorem rp_fT {tp tm : Nat → Int} {t : Int} (hT : rp_T tp tm t) (h0 : 0 ≤ t) (a1 a2 a3 a4 a5 : Int) : rp_T (rp_ct a1 a2 a3 a4 a5 t tp) (rp_mt a1 a2 a3 a4 a5 t tm) (t + 1 + 1 + 1 + 1 + 1 + 1 + 1 + 1 + 1 + 1 + 1 + 1 + 1 + 1 + 1 + 1 + 1 + 1 + 1 + 1) := by
  unfold rp_ct rp_mt
  have hT := rp_T_up hT (by omega) (rp_bs a1 24)
  have hT := rp_T_up hT (by omega) (rp_bs a1 16)
  have hT := rp_T_up hT (by omega) (rp_bs a1 8)
  have hT := rp_T_up hT (by omega) (rp_bs a1 0)
  have hT := rp_T_up hT (by omega) (rp_bs a2 24)
  have hT := rp_T_up hT (by omega) (rp_bs a2 16)
  have hT := rp_T_up hT (by omega) (rp_bs a2 8)
  have hT := rp_T_up hT (by omega) (rp_bs a2 0)
  have hT := rp_T_up hT (by omega) (rp_bs a3 24)
  have hT := rp_T_up hT (by omega) (rp_bs a3 16)
  have hT := rp_T_up hT (by omega) (rp_bs a3 8)
  have hT := rp_T_up hT (by omega) (rp_bs a3 0)
  have hT := rp_T_up hT (by omega) (rp_bs a4 24)
  have hT := rp_T_up hT (by omega) (rp_bs a4 16)
  have hT := rp_T_up hT (by omega) (rp_bs a4 8)
  have hT := rp_T_up hT (by omega) (rp_bs a4 0)
  have hT := rp_T_up hT (by omega) (rp_bs a5 24)
  have hT := rp_T_up hT (by omega) (rp_bs a5 16)
  have hT := rp_T_up hT (by omega) (rp_bs a5 8)
  have hT := rp_T_up hT (by omega) (rp_bs a5 0)
  exact hT
theorem rp_feedc {t : Int} (h0 : 0 ≤ t) (h : t + 20 ≤ 900) (a1 a2 a3 a4 a5 : Int) (tp : Nat → Int) : Ff_X7_feed a1 a2 a3 a4 a5 t tp = (t + 1 + 1 + 1 + 1 + 1 + 1 + 1 + 1 + 1 + 1 + 1 + 1 + 1 + 1 + 1 + 1 + 1 + 1 + 1 + 1, t + 1 + 1 + 1 + 1 + 1 + 1 + 1 + 1 + 1 + 1 + 1 + 1 + 1 + 1 + 1 + 1 + 1 + 1 + 1 + 1, rp_ct a1 a2 a3 a4 a5 t tp) := by
  unfold Ff_X7_feed
  rw [fl_lt_eq rfl, if_pos (by omega), rp_app (by omega), fl_c2_eq rfl, rp_app (by omega), fl_c2_eq rfl, rp_app (by omega), fl_c2_eq rfl, rp_app (by omega), fl_c2_eq rfl, rp_app (by omega), fl_c2_eq rfl]
  rfl
theorem rp_feedm {t : Int} (h0 : 0 ≤ t) (h : t + 20 ≤ 900) (a1 a2 a3 a4 a5 : Int) (tm : Nat → Int) : Ff_X8_feed a1 a2 a3 a4 a5 t tm = (t + 1 + 1 + 1 + 1 + 1 + 1 + 1 + 1 + 1 + 1 + 1 + 1 + 1 + 1 + 1 + 1 + 1 + 1 + 1 + 1, 0, t + 1 + 1 + 1 + 1 + 1 + 1 + 1 + 1 + 1 + 1 + 1 + 1 + 1 + 1 + 1 + 1 + 1 + 1 + 1 + 1, rp_mt a1 a2 a3 a4 a5 t tm) := by
  unfold Ff_X8_feed
  rw [fl_lt_eq rfl, if_pos (by omega)]
  rw [fl_wh_l (step := (fun t9 : Int × Int × (Nat → Int) => Sf_X8_feed_23_1 a1 a2 a3 a4 a5 t9.1 t9.2.1 t9.2.2)) (rp_fs0 a1 a2 a3 a4 a5 _ _)]
  rw [fl_wh_l (step := (fun t9 : Int × Int × (Nat → Int) => Sf_X8_feed_23_1 a1 a2 a3 a4 a5 t9.1 t9.2.1 t9.2.2)) (rp_fs1 a1 a2 a3 a4 a5 _ _)]
  rw [fl_wh_l (step := (fun t9 : Int × Int × (Nat → Int) => Sf_X8_feed_23_1 a1 a2 a3 a4 a5 t9.1 t9.2.1 t9.2.2)) (rp_fs2 a1 a2 a3 a4 a5 _ _)]
  rw [fl_wh_l (step := (fun t9 : Int × Int × (Nat → Int) => Sf_X8_feed_23_1 a1 a2 a3 a4 a5 t9.1 t9.2.1 t9.2.2)) (rp_fs3 a1 a2 a3 a4 a5 _ _)]
  rw [fl_wh_l (step := (fun t9 : Int × Int × (Nat → Int) => Sf_X8_feed_23_1 a1 a2 a3 a4 a5 t9.1 t9.2.1 t9.2.2)) (rp_fs4 a1 a2 a3 a4 a5 _ _)]
  rw [fl_wh_l (step := (fun t9 : Int × Int × (Nat → Int) => Sf_X8_feed_23_1 a1 a2 a3 a4 a5 t9.1 t9.2.1 t9.2.2)) (rp_fs5 a1 a2 a3 a4 a5 _ _)]
  rw [fl_wh_l (step := (fun t9 : Int × Int × (Nat → Int) => Sf_X8_feed_23_1 a1 a2 a3 a4 a5 t9.1 t9.2.1 t9.2.2)) (rp_fs6 a1 a2 a3 a4 a5 _ _)]
  rw [fl_wh_l (step := (fun t9 : Int × Int × (Nat → Int) => Sf_X8_feed_23_1 a1 a2 a3 a4 a5 t9.1 t9.2.1 t9.2.2)) (rp_fs7 a1 a2 a3 a4 a5 _ _)]
  rw [fl_wh_l (step := (fun t9 : Int × Int × (Nat → Int) => Sf_X8_feed_23_1 a1 a2 a3 a4 a5 t9.1 t9.2.1 t9.2.2)) (rp_fs8 a1 a2 a3 a4 a5 _ _)]
  rw [fl_wh_l (step := (fun t9 : Int × Int × (Nat → Int) => Sf_X8_feed_23_1 a1 a2 a3 a4 a5 t9.1 t9.2.1 t9.2.2)) (rp_fs9 a1 a2 a3 a4 a5 _ _)]
  rw [fl_wh_l (step := (fun t9 : Int × Int × (Nat → Int) => Sf_X8_feed_23_1 a1 a2 a3 a4 a5 t9.1 t9.2.1 t9.2.2)) (rp_fs10 a1 a2 a3 a4 a5 _ _)]
  rw [fl_wh_l (step := (fun t9 : Int × Int × (Nat → Int) => Sf_X8_feed_23_1 a1 a2 a3 a4 a5 t9.1 t9.2.1 t9.2.2)) (rp_fs11 a1 a2 a3 a4 a5 _ _)]
  rw [fl_wh_l (step := (fun t9 : Int × Int × (Nat → Int) => Sf_X8_feed_23_1 a1 a2 a3 a4 a5 t9.1 t9.2.1 t9.2.2)) (rp_fs12 a1 a2 a3 a4 a5 _ _)]
  rw [fl_wh_l (step := (fun t9 : Int × Int × (Nat → Int) => Sf_X8_feed_23_1 a1 a2 a3 a4 a5 t9.1 t9.2.1 t9.2.2)) (rp_fs13 a1 a2 a3 a4 a5 _ _)]
  rw [fl_wh_l (step := (fun t9 : Int × Int × (Nat → Int) => Sf_X8_feed_23_1 a1 a2 a3 a4 a5 t9.1 t9.2.1 t9.2.2)) (rp_fs14 a1 a2 a3 a4 a5 _ _)]
  rw [fl_wh_l (step := (fun t9 : Int × Int × (Nat → Int) => Sf_X8_feed_23_1 a1 a2 a3 a4 a5 t9.1 t9.2.1 t9.2.2)) (rp_fs15 a1 a2 a3 a4 a5 _ _)]
  rw [fl_wh_l (step := (fun t9 : Int × Int × (Nat → Int) => Sf_X8_feed_23_1 a1 a2 a3 a4 a5 t9.1 t9.2.1 t9.2.2)) (rp_fs16 a1 a2 a3 a4 a5 _ _)]
  rw [fl_wh_l (step := (fun t9 : Int × Int × (Nat → Int) => Sf_X8_feed_23_1 a1 a2 a3 a4 a5 t9.1 t9.2.1 t9.2.2)) (rp_fs17 a1 a2 a3 a4 a5 _ _)]
  rw [fl_wh_l (step := (fun t9 : Int × Int × (Nat → Int) => Sf_X8_feed_23_1 a1 a2 a3 a4 a5 t9.1 t9.2.1 t9.2.2)) (rp_fs18 a1 a2 a3 a4 a5 _ _)]
  rw [fl_wh_l (step := (fun t9 : Int × Int × (Nat → Int) => Sf_X8_feed_23_1 a1 a2 a3 a4 a5 t9.1 t9.2.1 t9.2.2)) (rp_fs19 a1 a2 a3 a4 a5 _ _)]
  exact fl_wh_r (step := (fun t9 : Int × Int × (Nat → Int) => Sf_X8_feed_23_1 a1 a2 a3 a4 a5 t9.1 t9.2.1 t9.2.2)) (s := (20, t + 1 + 1 + 1 + 1 + 1 + 1 + 1 + 1 + 1 + 1 + 1 + 1 + 1 + 1 + 1 + 1 + 1 + 1 + 1 + 1, rp_mt a1 a2 a3 a4 a5 t tm)) rfl
/-- feed: here and there -/
theorem rp_feed {tp tm : Nat → Int} {t : Int} (hT : rp_T tp tm t) (h0 : 0 ≤ t) (a1 a2 a3 a4 a5 : Int) :
    (t + 20 ≤ 900 ∧ ∃ tp' tm', Ff_X7_feed a1 a2 a3 a4 a5 t tp = (t + 20, t + 20, tp') ∧ Ff_X8_feed a1 a2 a3 a4 a5 t tm = (t + 20, 0, t + 20, tm') ∧ rp_T tp' tm' (t + 20)) ∨
    (900 < t + 20 ∧ Ff_X7_feed a1 a2 a3 a4 a5 t tp = (-1, t, tp) ∧ Ff_X8_feed a1 a2 a3 a4 a5 t tm = (-1, 0, t, tm)) := by
  by_cases h : t + 20 ≤ 900
  · have e : t + 1 + 1 + 1 + 1 + 1 + 1 + 1 + 1 + 1 + 1 + 1 + 1 + 1 + 1 + 1 + 1 + 1 + 1 + 1 + 1 = t + 20 := by omega
    have hf := rp_fT hT h0 a1 a2 a3 a4 a5
    have h1 := rp_feedc h0 h a1 a2 a3 a4 a5 tp
    have h2 := rp_feedm h0 h a1 a2 a3 a4 a5 tm
    rw [e] at hf h1 h2
    exact Or.inl ⟨h, _, _, h1, h2, hf⟩
  · refine Or.inr ⟨by omega, ?_, ?_⟩
    · unfold Ff_X7_feed; rw [fl_lt_eq rfl, if_neg h]
    · unfold Ff_X8_feed; rw [fl_lt_eq rfl, if_neg h]
theorem rp_feed2 {tp tpx tpm : Int32} {f g f1 g1 : Nat → Int32} (hR : rp_T (fl_A f) (fl_A g) tp.toInt) (h0 : 0 ≤ tp.toInt) (a1 a2 a3 a4 a5 : Int) (ftx : tpx.toInt = (Ff_X7_feed a1 a2 a3 a4 a5 tp.toInt (fl_A f)).2.1) (ffx : fl_A f1 = (Ff_X7_feed a1 a2 a3 a4 a5 tp.toInt (fl_A f)).2.2) (ftm : tpm.toInt = (Ff_X8_feed a1 a2 a3 a4 a5 tp.toInt (fl_A g)).2.2.1) (ffm : fl_A g1 = (Ff_X8_feed a1 a2 a3 a4 a5 tp.toInt (fl_A g)).2.2.2) : tpx = tpm ∧ rp_T (fl_A f1) (fl_A g1) tpx.toInt := by
  rcases rp_feed hR h0 a1 a2 a3 a4 a5 with ⟨-, tp9, tm9, e1, e2, e3⟩ | ⟨-, e1, e2⟩
  · rw [e1] at ftx ffx; rw [e2] at ftm ffm
    simp only at ftx ffx ftm ffm
    refine ⟨Int32.toInt_inj.mp (ftx.trans ftm.symm), ?_⟩
    rw [ffx, ffm, ftx]; exact e3
  · rw [e1] at ftx ffx; rw [e2] at ftm ffm
    simp only at ftx ffx ftm ffm
    refine ⟨Int32.toInt_inj.mp (ftx.trans ftm.symm), ?_⟩
    rw [ffx, ffm, ftx]; exact hR
end PUM
end P0922494_pure13
section P09224951_fls
section FLS
def fl_nI (l : List Int) : Nat → Int := fun k => l.getD k 0
def fl_nF (l : List (Nat → Int)) : Nat → Nat → Int := fun k => l.getD k (fun _ => 0)
def fl_rem (x y : Int) : Int := (Int32.ofInt x - Int32.ofInt x / Int32.ofInt y * Int32.ofInt y).toInt
theorem fl_rem_eq {x y z : Int32} (e : z = x - x / y * y) : z.toInt = fl_rem x.toInt y.toInt := by subst e; unfold fl_rem; rw [Int32.ofInt_toInt, Int32.ofInt_toInt]
end FLS
end P09224951_fls
section P09224952_defsF
def Ff_X5_isGone (a1 : Int) (a0_3 : Int) : Int :=
  fl_lt (Ff_X7_hasBit a0_3 a1) (fun r5 => if r5 = 1 then (1) else (0))

def Ff_X6_placeOf (a1 : Int) (a2 : Int) (fa0_3 : (Nat → Int)) (fa0_2 : (Nat → Int)) : Int :=
  fl_lt (fa0_3 (a1.toNat)) (fun x5 => fl_lt (fa0_2 (a1.toNat)) (fun x11 => if x5 ≤ x11 then (fl_lt (x11 - x5) (fun x53 => if 0 < x53 then (fl_lt (2 * x53) (fun x72 => fl_lt (fl_rem a2 x72) (fun x73 => if x53 < x73 then (fl_lt (x72 - x73) (fun x94 => fl_lt (fl_isub x11 x94) (fun x121 => x121))) else (fl_lt (fl_isub x11 x73) (fun x121 => x121))))) else (x11))) else (fl_lt (x5 - x11) (fun x37 => if 0 < x37 then (fl_lt (2 * x37) (fun x72 => fl_lt (fl_rem a2 x72) (fun x73 => if x37 < x73 then (fl_lt (x72 - x73) (fun x94 => fl_lt (x11 + x94) (fun x109 => x109))) else (fl_lt (x11 + x73) (fun x109 => x109))))) else (x11)))))

def Sf_X6_placesIn_7_1 (a1 : Int) (a0_0 : Int) (fa0_3 : (Nat → Int)) (fa0_2 : (Nat → Int)) (j7l3 : Int) (j7l2 : Int) : Sum (Int × Int) (Int) :=
  if a0_0 ≤ j7l3 then (Sum.inr (j7l2)) else (fl_lt (Ff_X6_placeOf j7l3 a1 fa0_3 fa0_2) (fun r20 => fl_lt (fl_shl 1 r20) (fun x23 => fl_lt (fl_or j7l2 x23) (fun x24 => fl_lt (j7l3 + 1) (fun x26 => Sum.inl (x26, x24))))))
def Ff_X6_placesIn (a1 : Int) (a0_0 : Int) (a0_1 : Int) (fa0_3 : (Nat → Int)) (fa0_2 : (Nat → Int)) : Int :=
  fl_wh (fun t9 => Sf_X6_placesIn_7_1 a1 a0_0 fa0_3 fa0_2 t9.1 t9.2) 0 4 (0, a0_1)

def Ff_X0_next (a1 : Int) (a0_0 : Int) (a0_5 : Int) (a0_6 : Int) : Int :=
  if 0 < a0_0 then (fl_lt (a1 * a0_5) (fun x16 => fl_lt (x16 + a0_6) (fun x21 => fl_lt (x21 % a0_0) (fun x26 => x26)))) else (0)

def Ff_X0_stepsIn (a1 : Int) (a2 : Int) (fa0_10 : (Nat → Int)) (fa0_11 : (Nat → Int)) : Int :=
  fl_lt (Ff_X7_within a1 0 8) (fun r4 => if r4 = 1 then (fl_lt (fa0_10 (a1.toNat)) (fun x15 => if x15 = 1 then (fl_lt (fa0_11 (a1.toNat)) (fun x27 => if x27 ≤ 0 then (0) else (fl_lt (fl_rem a2 x27) (fun x35 => if x35 = 0 then (1) else (0))))) else (0))) else (0))

def Ff_X0_nearer (a1 : Int) (a0_2 : Int) : Int :=
  if a1 = a0_2 then (a1) else (if a0_2 ≤ a1 then (fl_lt (fl_isub a1 1) (fun x26 => x26)) else (fl_lt (a1 + 1) (fun x20 => x20)))

def Ff_X0_isHeardAt (a1 : Int) (a2 : Int) : Int :=
  fl_lt (fl_shl 7 a1) (fun x4 => fl_lt (x4 / 2) (fun x6 => fl_lt (fl_and a2 x6) (fun x7 => if x7 = 0 then (0) else (1))))

def Ff_X0_partSaid (a1 : Int) (a2 : Int) (fa0_10 : (Nat → Int)) (fa0_11 : (Nat → Int)) : Int :=
  fl_lt (Ff_X7_within a1 0 8) (fun r4 => if r4 = 1 then (fl_lt (fa0_10 (a1.toNat)) (fun x15 => if x15 = 2 then (fl_lt (fa0_11 (a1.toNat)) (fun x36 => if x36 < a2 then (0) else (fl_lt (fl_isub a2 1) (fun x43 => fl_lt (fl_shl 1 x43) (fun x44 => x44))))) else (0))) else (0))

def Ff_X0_step (a2 : Int) (a0_2 : Int) (a1_0 : Int) (a1_3 : Int) (a1_4 : Int) (fa1_5 : (Nat → Int)) (a3_0 : Int) (a3_1 : Int) (fa3_3 : (Nat → Int)) (fa3_2 : (Nat → Int)) : Int × Int × (Nat → Int) :=
  fl_lt (Ff_X5_isGone a2 a1_3) (fun r2 => if r2 = 1 then ((a1_3, a1_4, fa1_5)) else (fl_lt (fa1_5 (a2.toNat)) (fun x15 => fl_lt (Ff_X0_nearer x15 a0_2) (fun r16 => fl_lt (Ff_X6_placesIn a1_0 a3_0 a3_1 fa3_3 fa3_2) (fun r26 => fl_lt (Ff_X7_hasBit r26 r16) (fun r31 => if r31 = 1 then (fl_lt (fl_iadd a1_4 1) (fun x43 => fl_lt (fl_up fa1_5 (a2.toNat) a2) (fun f81 => (a1_3, x43, f81)))) else (if r16 = a0_2 then (fl_lt (fl_shl 1 a2) (fun x69 => fl_lt (fl_or a1_3 x69) (fun x70 => fl_lt (fl_up fa1_5 (a2.toNat) r16) (fun f81 => (x70, a1_4, f81))))) else (fl_lt (fl_up fa1_5 (a2.toNat) r16) (fun f81 => (a1_3, a1_4, f81))))))))))

def Ff_X0_pass (a0_0 : Int) (a0_1 : Int) (a0_2 : Int) (a0_5 : Int) (a0_6 : Int) (a1_0 : Int) (a1_1 : Int) (a1_2 : Int) (a1_3 : Int) (a1_4 : Int) (fa0_10 : (Nat → Int)) (fa0_11 : (Nat → Int)) (fa1_5 : (Nat → Int)) (a2_0 : Int) (a2_1 : Int) (fa2_3 : (Nat → Int)) (fa2_2 : (Nat → Int)) (fa1_6 : (Nat → Int)) : Int × Int × Int × Int × Int × (Nat → Int) × (Nat → Int) :=
  fl_lt (fl_iadd a1_2 1) (fun x10 => fl_lt (Ff_X0_stepsIn a1_1 x10 fa0_10 fa0_11) (fun r17 => if r17 = 1 then (fl_c3 (Ff_X0_step a1_1 a0_2 a1_0 a1_3 a1_4 fa1_5 a2_0 a2_1 fa2_3 fa2_2) (fun v27na1_3 v27na1_4 v27nfa1_5 => fl_lt (Ff_X0_partSaid a1_1 x10 fa0_10 fa0_11) (fun r34 => if r34 = 0 then (fl_lt (fl_iadd a1_0 1) (fun x81 => if x10 < a0_1 then ((x81, a1_1, x10, v27na1_3, v27na1_4, v27nfa1_5, fa1_6)) else (fl_lt (Ff_X0_next a1_1 a0_0 a0_5 a0_6) (fun r103 => fl_c2 (Ff_X5_startTurn r103) (fun v106na0_1 v106na0_2 => (x81, v106na0_1, v106na0_2, v27na1_3, v27na1_4, v27nfa1_5, fa1_6)))))) else (fl_lt (v27nfa1_5 (a1_1.toNat)) (fun x49 => fl_lt (Ff_X6_placesIn a1_0 a2_0 a2_1 fa2_3 fa2_2) (fun r55 => fl_lt (Ff_X0_isHeardAt x49 r55) (fun r58 => if r58 = 1 then (fl_lt (fa1_6 (a1_1.toNat)) (fun x70 => fl_lt (fl_or x70 r34) (fun x73 => fl_lt (fl_up fa1_6 (a1_1.toNat) x73) (fun f74 => fl_lt (fl_iadd a1_0 1) (fun x81 => if x10 < a0_1 then ((x81, a1_1, x10, v27na1_3, v27na1_4, v27nfa1_5, f74)) else (fl_lt (Ff_X0_next a1_1 a0_0 a0_5 a0_6) (fun r103 => fl_c2 (Ff_X5_startTurn r103) (fun v106na0_1 v106na0_2 => (x81, v106na0_1, v106na0_2, v27na1_3, v27na1_4, v27nfa1_5, f74))))))))) else (fl_lt (fl_iadd a1_0 1) (fun x81 => if x10 < a0_1 then ((x81, a1_1, x10, v27na1_3, v27na1_4, v27nfa1_5, fa1_6)) else (fl_lt (Ff_X0_next a1_1 a0_0 a0_5 a0_6) (fun r103 => fl_c2 (Ff_X5_startTurn r103) (fun v106na0_1 v106na0_2 => (x81, v106na0_1, v106na0_2, v27na1_3, v27na1_4, v27nfa1_5, fa1_6))))))))))))) else (fl_lt (Ff_X0_partSaid a1_1 x10 fa0_10 fa0_11) (fun r34 => if r34 = 0 then (fl_lt (fl_iadd a1_0 1) (fun x81 => if x10 < a0_1 then ((x81, a1_1, x10, a1_3, a1_4, fa1_5, fa1_6)) else (fl_lt (Ff_X0_next a1_1 a0_0 a0_5 a0_6) (fun r103 => fl_c2 (Ff_X5_startTurn r103) (fun v106na0_1 v106na0_2 => (x81, v106na0_1, v106na0_2, a1_3, a1_4, fa1_5, fa1_6)))))) else (fl_lt (fa1_5 (a1_1.toNat)) (fun x49 => fl_lt (Ff_X6_placesIn a1_0 a2_0 a2_1 fa2_3 fa2_2) (fun r55 => fl_lt (Ff_X0_isHeardAt x49 r55) (fun r58 => if r58 = 1 then (fl_lt (fa1_6 (a1_1.toNat)) (fun x70 => fl_lt (fl_or x70 r34) (fun x73 => fl_lt (fl_up fa1_6 (a1_1.toNat) x73) (fun f74 => fl_lt (fl_iadd a1_0 1) (fun x81 => if x10 < a0_1 then ((x81, a1_1, x10, a1_3, a1_4, fa1_5, f74)) else (fl_lt (Ff_X0_next a1_1 a0_0 a0_5 a0_6) (fun r103 => fl_c2 (Ff_X5_startTurn r103) (fun v106na0_1 v106na0_2 => (x81, v106na0_1, v106na0_2, a1_3, a1_4, fa1_5, f74))))))))) else (fl_lt (fl_iadd a1_0 1) (fun x81 => if x10 < a0_1 then ((x81, a1_1, x10, a1_3, a1_4, fa1_5, fa1_6)) else (fl_lt (Ff_X0_next a1_1 a0_0 a0_5 a0_6) (fun r103 => fl_c2 (Ff_X5_startTurn r103) (fun v106na0_1 v106na0_2 => (x81, v106na0_1, v106na0_2, a1_3, a1_4, fa1_5, fa1_6))))))))))))))

def Ff_X8_hasBit (a1 : Int) (a2 : Int) : Int :=
  fl_lt (fl_shr a1 a2) (fun x2 => fl_lt (fl_and x2 1) (fun x4 => if x4 = 1 then (1) else (0)))

def Sf_X8_watchAsTold_2_1 (fa0_15 : (Nat → Int)) (j2l1 : Int) (j2a0_23_a : (Nat → Int)) (j2a0_24_a : (Nat → Int)) : Sum (Int × (Nat → Int) × (Nat → Int)) (Int × (Nat → Int) × (Nat → Int)) :=
  fl_lt (fa0_15 (5)) (fun x8 => if x8 ≤ j2l1 then (Sum.inr ((0, j2a0_23_a, j2a0_24_a))) else (fl_lt (2 * j2l1) (fun x25 => fl_lt (30 + x25) (fun x26 => fl_lt (fa0_15 (x26.toNat)) (fun x27 => fl_lt (fl_up j2a0_23_a (j2l1.toNat) x27) (fun f28 => fl_lt (x26 + 1) (fun x45 => fl_lt (fa0_15 (x45.toNat)) (fun x46 => fl_lt (fl_up j2a0_24_a (j2l1.toNat) x46) (fun f47 => fl_lt (j2l1 + 1) (fun x48 => Sum.inl (x48, f28, f47)))))))))))
def Ff_X8_watchAsTold (fa0_15 : (Nat → Int)) (fa0_23 : (Nat → Int)) (fa0_24 : (Nat → Int)) : Int × (Nat → Int) × (Nat → Int) :=
  fl_wh (fun t9 => Sf_X8_watchAsTold_2_1 fa0_15 t9.1 t9.2.1 t9.2.2) (0, (fun _ => 0), (fun _ => 0)) 4 (0, fa0_23, fa0_24)

def Ff_X8_watcherAt (a1 : Int) (a2 : Int) (fa0_24 : (Nat → Int)) (fa0_23 : (Nat → Int)) : Int :=
  fl_lt (fa0_24 (a1.toNat)) (fun x5 => fl_lt (fa0_23 (a1.toNat)) (fun x11 => fl_lt (x5 - x11) (fun x12 => if 0 ≤ x12 then (if x12 = 0 then (x11) else (fl_lt (2 * x12) (fun x42 => fl_lt (fl_rem a2 x42) (fun x43 => if x43 ≤ x12 then (if 0 ≤ x12 then (fl_lt (x11 + x43) (fun x86 => x86)) else (0)) else (fl_lt (x42 - x43) (fun x59 => if 0 ≤ x12 then (fl_lt (x11 + x59) (fun x86 => x86)) else (0))))))) else (fl_lt (-x12) (fun x19 => if x19 = 0 then (0) else (fl_lt (2 * x19) (fun x42 => fl_lt (fl_rem a2 x42) (fun x43 => if x43 ≤ x19 then (if 0 ≤ x12 then (0) else (fl_lt (fl_isub x11 x43) (fun x74 => x74))) else (fl_lt (x42 - x43) (fun x59 => if 0 ≤ x12 then (0) else (fl_lt (fl_isub x11 x59) (fun x74 => x74))))))))))))

def Sf_X8_isWatched_15_1 (a1 : Int) (a2 : Int) (fa0_15 : (Nat → Int)) (fa0_24 : (Nat → Int)) (fa0_23 : (Nat → Int)) (j15l3 : Int) : Sum (Int) (Int) :=
  fl_lt (fa0_15 (5)) (fun x21 => if x21 ≤ j15l3 then (Sum.inr (0)) else (fl_lt (Ff_X8_watcherAt j15l3 a2 fa0_24 fa0_23) (fun r28 => if r28 = a1 then (Sum.inr (1)) else (fl_lt (j15l3 + 1) (fun x37 => Sum.inl x37)))))
def Ff_X8_isWatched (a1 : Int) (a2 : Int) (a0_25 : Int) (fa0_15 : (Nat → Int)) (fa0_24 : (Nat → Int)) (fa0_23 : (Nat → Int)) : Int :=
  fl_lt (Ff_X8_hasBit a0_25 a1) (fun r5 => if r5 = 1 then (1) else (fl_wh (Sf_X8_isWatched_15_1 a1 a2 fa0_15 fa0_24 fa0_23) 0 4 0))

def Ff_X8_nextOf (a1 : Int) (fa0_15 : (Nat → Int)) : Int :=
  fl_lt (fa0_15 (7)) (fun x6 => fl_lt (x6 * a1) (fun x8 => fl_lt (fa0_15 (8)) (fun x15 => fl_lt (x8 + x15) (fun x16 => fl_lt (fa0_15 (0)) (fun x22 => fl_lt (x16 % x22) (fun x23 => x23))))))

def Ff_X8_walkOn (a2 : Int) (a0_25 : Int) (fa1 : (Nat → Int)) (fa0_15 : (Nat → Int)) (fa0_24 : (Nat → Int)) (fa0_23 : (Nat → Int)) : (Nat → Int) :=
  fl_lt (fa1 (20)) (fun x3 => fl_lt (x3 + 1) (fun x5 => fl_lt (2 * a2) (fun x14 => fl_lt (12 + x14) (fun x15 => fl_lt (x15 + 1) (fun x17 => fl_lt (fa0_15 (x17.toNat)) (fun x18 => fl_lt (x5 % x18) (fun x19 => if x19 = 0 then (fl_lt (fa1 (a2.toNat)) (fun x27 => fl_lt (fa0_15 (2)) (fun x36 => if x36 ≤ x27 then (if x27 ≤ x36 then (fl_lt (x27 + 0) (fun x61 => fl_lt (fl_up fa1 (a2.toNat) x61) (fun f62 => fl_lt (f62 (a2.toNat)) (fun x66 => fl_lt (f62 (21)) (fun x70 => fl_lt (Ff_X8_isWatched x66 x70 a0_25 fa0_15 fa0_24 fa0_23) (fun r71 => if r71 = 1 then (fl_lt (fl_up f62 (a2.toNat) a2) (fun f80 => fl_lt (f80 (22)) (fun x85 => fl_lt (fl_iadd x85 1) (fun x87 => fl_lt (fl_up f80 (22) x87) (fun f88 => f88))))) else (if x66 = x36 then (fl_lt (f62 (18)) (fun x108 => fl_lt (fl_shl 1 a2) (fun x111 => fl_lt (fl_or x108 x111) (fun x112 => fl_lt (fl_up f62 (18) x112) (fun f113 => f113))))) else (f62)))))))) else (fl_lt (x27 + (-1)) (fun x61 => fl_lt (fl_up fa1 (a2.toNat) x61) (fun f62 => fl_lt (f62 (a2.toNat)) (fun x66 => fl_lt (f62 (21)) (fun x70 => fl_lt (Ff_X8_isWatched x66 x70 a0_25 fa0_15 fa0_24 fa0_23) (fun r71 => if r71 = 1 then (fl_lt (fl_up f62 (a2.toNat) a2) (fun f80 => fl_lt (f80 (22)) (fun x85 => fl_lt (fl_iadd x85 1) (fun x87 => fl_lt (fl_up f80 (22) x87) (fun f88 => f88))))) else (if x66 = x36 then (fl_lt (f62 (18)) (fun x108 => fl_lt (fl_shl 1 a2) (fun x111 => fl_lt (fl_or x108 x111) (fun x112 => fl_lt (fl_up f62 (18) x112) (fun f113 => f113))))) else (f62))))))))) else (fl_lt (x27 + 1) (fun x61 => fl_lt (fl_up fa1 (a2.toNat) x61) (fun f62 => fl_lt (f62 (a2.toNat)) (fun x66 => fl_lt (f62 (21)) (fun x70 => fl_lt (Ff_X8_isWatched x66 x70 a0_25 fa0_15 fa0_24 fa0_23) (fun r71 => if r71 = 1 then (fl_lt (fl_up f62 (a2.toNat) a2) (fun f80 => fl_lt (f80 (22)) (fun x85 => fl_lt (fl_iadd x85 1) (fun x87 => fl_lt (fl_up f80 (22) x87) (fun f88 => f88))))) else (if x66 = x36 then (fl_lt (f62 (18)) (fun x108 => fl_lt (fl_shl 1 a2) (fun x111 => fl_lt (fl_or x108 x111) (fun x112 => fl_lt (fl_up f62 (18) x112) (fun f113 => f113))))) else (f62))))))))))) else (fa1))))))))

def Gf_X8_speakOn_78_1 (j40l5 : Int) (j78s0 : Int) : Sum (Int × Int) (Int × (Nat → Int)) :=
  fl_lt (j40l5 + 1) (fun x80 => Sum.inl (x80, j78s0))
def Gf_X8_speakOn_73_1 (j40l5 : Int) : Sum (Int × Int) (Int × (Nat → Int)) :=
  Gf_X8_speakOn_78_1 j40l5 1
def Gf_X8_speakOn_77_1 (j40l5 : Int) : Sum (Int × Int) (Int × (Nat → Int)) :=
  Gf_X8_speakOn_78_1 j40l5 0
def Sf_X8_speakOn_40_1 (a2 : Int) (a0_25 : Int) (fa1 : (Nat → Int)) (fa0_15 : (Nat → Int)) (fa0_24 : (Nat → Int)) (fa0_23 : (Nat → Int)) (x26 : Int) (j40l5 : Int) (j40l4 : Int) : Sum (Int × Int) (Int × (Nat → Int)) :=
  fl_lt (fa1 (a2.toNat)) (fun x44 => fl_lt (x44 + 1) (fun x46 => if x46 < j40l5 then (Sum.inr (if j40l4 = 0 then ((x26, fa1)) else (fl_lt (9 + a2) (fun x95 => fl_lt (fa1 (x95.toNat)) (fun x97 => fl_lt (fl_or x97 x26) (fun x102 => fl_lt (fl_up fa1 (x95.toNat) x102) (fun f103 => (x26, f103)))))))) else (if j40l4 = 0 then (if j40l5 < 0 then (Gf_X8_speakOn_77_1 j40l5) else (fl_lt (fa1 (21)) (fun x66 => fl_lt (Ff_X8_isWatched j40l5 x66 a0_25 fa0_15 fa0_24 fa0_23) (fun r67 => if r67 = 1 then (Gf_X8_speakOn_73_1 j40l5) else (Gf_X8_speakOn_77_1 j40l5))))) else (Gf_X8_speakOn_73_1 j40l5))))
def Ff_X8_speakOn (a2 : Int) (a0_25 : Int) (a0_28 : Int) (fa1 : (Nat → Int)) (fa0_15 : (Nat → Int)) (fa0_24 : (Nat → Int)) (fa0_23 : (Nat → Int)) : Int × (Nat → Int) :=
  fl_lt (fa1 (20)) (fun x3 => fl_lt (2 * a2) (fun x14 => fl_lt (12 + x14) (fun x15 => fl_lt (x15 + 1) (fun x17 => fl_lt (fa0_15 (x17.toNat)) (fun x18 => if x3 < x18 then (fl_lt (fl_shl 1 x3) (fun x26 => fl_lt (fa1 (a2.toNat)) (fun x35 => fl_lt (x35 - 1) (fun x37 => fl_wh (fun t9 => Sf_X8_speakOn_40_1 a2 a0_25 fa1 fa0_15 fa0_24 fa0_23 x26 t9.1 t9.2) (0, (fun _ => 0)) 12 (x37, 0))))) else ((a0_28, fa1)))))))

def Ff_X8_minuteOn (a0_25 : Int) (fa1 : (Nat → Int)) (fa0_15 : (Nat → Int)) (fa0_24 : (Nat → Int)) (fa0_23 : (Nat → Int)) : Int × Int × Int × (Nat → Int) :=
  fl_lt (fa1 (19)) (fun x3 => fl_lt (fa1 (18)) (fun x13 => fl_lt (Ff_X8_hasBit x13 x3) (fun r15 => if r15 = 1 then (fl_lt (Ff_X8_hasBit x13 x3) (fun r77 => if r77 = 1 then (fl_lt (fa1 (21)) (fun x97 => fl_lt (fl_iadd x97 1) (fun x99 => fl_lt (fl_up fa1 (21) x99) (fun f100 => fl_lt (f100 (20)) (fun x105 => fl_lt (x105 + 1) (fun x107 => fl_lt (fl_up f100 (20) x107) (fun f108 => fl_lt (fa0_15 (1)) (fun x118 => if x118 ≤ x107 then (fl_lt (fl_up f108 (20) 0) (fun f127 => fl_lt (Ff_X8_nextOf x3 fa0_15) (fun r133 => fl_lt (fl_up f127 (19) r133) (fun f136 => (x3, (-1), 0, f136))))) else ((x3, (-1), 0, f108)))))))))) else (fl_lt (fa1 (x3.toNat)) (fun x89 => fl_lt (fa1 (21)) (fun x97 => fl_lt (fl_iadd x97 1) (fun x99 => fl_lt (fl_up fa1 (21) x99) (fun f100 => fl_lt (f100 (20)) (fun x105 => fl_lt (x105 + 1) (fun x107 => fl_lt (fl_up f100 (20) x107) (fun f108 => fl_lt (fa0_15 (1)) (fun x118 => if x118 ≤ x107 then (fl_lt (fl_up f108 (20) 0) (fun f127 => fl_lt (Ff_X8_nextOf x3 fa0_15) (fun r133 => fl_lt (fl_up f127 (19) r133) (fun f136 => (x3, x89, 0, f136))))) else ((x3, x89, 0, f108))))))))))))) else (fl_lt (2 * x3) (fun x29 => fl_lt (12 + x29) (fun x30 => fl_lt (fa0_15 (x30.toNat)) (fun x31 => if x31 = 1 then (fl_lt (Ff_X8_walkOn x3 a0_25 fa1 fa0_15 fa0_24 fa0_23) (fun v39nfa1 => fl_lt (v39nfa1 (18)) (fun x75 => fl_lt (Ff_X8_hasBit x75 x3) (fun r77 => if r77 = 1 then (fl_lt (v39nfa1 (21)) (fun x97 => fl_lt (fl_iadd x97 1) (fun x99 => fl_lt (fl_up v39nfa1 (21) x99) (fun f100 => fl_lt (f100 (20)) (fun x105 => fl_lt (x105 + 1) (fun x107 => fl_lt (fl_up f100 (20) x107) (fun f108 => fl_lt (fa0_15 (1)) (fun x118 => if x118 ≤ x107 then (fl_lt (fl_up f108 (20) 0) (fun f127 => fl_lt (Ff_X8_nextOf x3 fa0_15) (fun r133 => fl_lt (fl_up f127 (19) r133) (fun f136 => (x3, (-1), 0, f136))))) else ((x3, (-1), 0, f108)))))))))) else (fl_lt (v39nfa1 (x3.toNat)) (fun x89 => fl_lt (v39nfa1 (21)) (fun x97 => fl_lt (fl_iadd x97 1) (fun x99 => fl_lt (fl_up v39nfa1 (21) x99) (fun f100 => fl_lt (f100 (20)) (fun x105 => fl_lt (x105 + 1) (fun x107 => fl_lt (fl_up f100 (20) x107) (fun f108 => fl_lt (fa0_15 (1)) (fun x118 => if x118 ≤ x107 then (fl_lt (fl_up f108 (20) 0) (fun f127 => fl_lt (Ff_X8_nextOf x3 fa0_15) (fun r133 => fl_lt (fl_up f127 (19) r133) (fun f136 => (x3, x89, 0, f136))))) else ((x3, x89, 0, f108))))))))))))))) else (if x31 = 2 then (fl_c2 (Ff_X8_speakOn x3 a0_25 0 fa1 fa0_15 fa0_24 fa0_23) (fun v63na0_28 v63nfa1 => fl_lt (v63nfa1 (18)) (fun x75 => fl_lt (Ff_X8_hasBit x75 x3) (fun r77 => if r77 = 1 then (fl_lt (v63nfa1 (21)) (fun x97 => fl_lt (fl_iadd x97 1) (fun x99 => fl_lt (fl_up v63nfa1 (21) x99) (fun f100 => fl_lt (f100 (20)) (fun x105 => fl_lt (x105 + 1) (fun x107 => fl_lt (fl_up f100 (20) x107) (fun f108 => fl_lt (fa0_15 (1)) (fun x118 => if x118 ≤ x107 then (fl_lt (fl_up f108 (20) 0) (fun f127 => fl_lt (Ff_X8_nextOf x3 fa0_15) (fun r133 => fl_lt (fl_up f127 (19) r133) (fun f136 => (x3, (-1), v63na0_28, f136))))) else ((x3, (-1), v63na0_28, f108)))))))))) else (fl_lt (v63nfa1 (x3.toNat)) (fun x89 => fl_lt (v63nfa1 (21)) (fun x97 => fl_lt (fl_iadd x97 1) (fun x99 => fl_lt (fl_up v63nfa1 (21) x99) (fun f100 => fl_lt (f100 (20)) (fun x105 => fl_lt (x105 + 1) (fun x107 => fl_lt (fl_up f100 (20) x107) (fun f108 => fl_lt (fa0_15 (1)) (fun x118 => if x118 ≤ x107 then (fl_lt (fl_up f108 (20) 0) (fun f127 => fl_lt (Ff_X8_nextOf x3 fa0_15) (fun r133 => fl_lt (fl_up f127 (19) r133) (fun f136 => (x3, x89, v63na0_28, f136))))) else ((x3, x89, v63na0_28, f108))))))))))))))) else (fl_lt (Ff_X8_hasBit x13 x3) (fun r77 => if r77 = 1 then (fl_lt (fa1 (21)) (fun x97 => fl_lt (fl_iadd x97 1) (fun x99 => fl_lt (fl_up fa1 (21) x99) (fun f100 => fl_lt (f100 (20)) (fun x105 => fl_lt (x105 + 1) (fun x107 => fl_lt (fl_up f100 (20) x107) (fun f108 => fl_lt (fa0_15 (1)) (fun x118 => if x118 ≤ x107 then (fl_lt (fl_up f108 (20) 0) (fun f127 => fl_lt (Ff_X8_nextOf x3 fa0_15) (fun r133 => fl_lt (fl_up f127 (19) r133) (fun f136 => (x3, (-1), 0, f136))))) else ((x3, (-1), 0, f108)))))))))) else (fl_lt (fa1 (x3.toNat)) (fun x89 => fl_lt (fa1 (21)) (fun x97 => fl_lt (fl_iadd x97 1) (fun x99 => fl_lt (fl_up fa1 (21) x99) (fun f100 => fl_lt (f100 (20)) (fun x105 => fl_lt (x105 + 1) (fun x107 => fl_lt (fl_up f100 (20) x107) (fun f108 => fl_lt (fa0_15 (1)) (fun x118 => if x118 ≤ x107 then (fl_lt (fl_up f108 (20) 0) (fun f127 => fl_lt (Ff_X8_nextOf x3 fa0_15) (fun r133 => fl_lt (fl_up f127 (19) r133) (fun f136 => (x3, x89, 0, f136))))) else ((x3, x89, 0, f108)))))))))))))))))))))

def Sf_X5_copyFrom_42_1 (a1_0 : Int) (a1_1 : Int) (a1_2 : Int) (a1_3 : Int) (a1_4 : Int) (fa1_5 : (Nat → Int)) (fa1_6 : (Nat → Int)) (j42l2 : Int) (j42a0_5_a : (Nat → Int)) (j42a0_6_a : (Nat → Int)) : Sum (Int × (Nat → Int) × (Nat → Int)) (Int × Int × Int × Int × Int × (Nat → Int) × (Nat → Int)) :=
  if 9 ≤ j42l2 then (Sum.inr ((a1_0, a1_1, a1_2, a1_3, a1_4, j42a0_5_a, j42a0_6_a))) else (fl_lt (fa1_5 (j42l2.toNat)) (fun x58 => fl_lt (fl_up j42a0_5_a (j42l2.toNat) x58) (fun f59 => fl_lt (fa1_6 (j42l2.toNat)) (fun x70 => fl_lt (fl_up j42a0_6_a (j42l2.toNat) x70) (fun f71 => fl_lt (j42l2 + 1) (fun x72 => Sum.inl (x72, f59, f71)))))))
def Ff_X5_copyFrom (a1_0 : Int) (a1_1 : Int) (a1_2 : Int) (a1_3 : Int) (a1_4 : Int) (fa1_5 : (Nat → Int)) (fa0_5 : (Nat → Int)) (fa1_6 : (Nat → Int)) (fa0_6 : (Nat → Int)) : Int × Int × Int × Int × Int × (Nat → Int) × (Nat → Int) :=
  fl_wh (fun t9 => Sf_X5_copyFrom_42_1 a1_0 a1_1 a1_2 a1_3 a1_4 fa1_5 fa1_6 t9.1 t9.2.1 t9.2.2) (0, 0, 0, 0, 0, (fun _ => 0), (fun _ => 0)) 10 (0, fa0_5, fa0_6)

def Ff_X1_keep (a0_0 : Int) (a0_2 : Int) (gIa0_3 : (Nat → Int)) (a1_0 : Int) (a1_1 : Int) (a1_2 : Int) (a1_3 : Int) (a1_4 : Int) (fa1_5 : (Nat → Int)) (gFa0_3 : (Nat → Nat → Int)) (fa1_6 : (Nat → Int)) : Int × Int × (Nat → Int) × (Nat → Nat → Int) :=
  fl_lt (a0_2 + 1) (fun x6 => fl_lt (x6 % 16) (fun x9 => if x9 = 0 then (fl_c7 (Ff_X5_copyFrom a1_0 a1_1 a1_2 a1_3 a1_4 fa1_5 (gFa0_3 0) fa1_6 (gFa0_3 1)) (fun v23na0_0 v23na0_1 v23na0_2 v23na0_3 v23na0_4 v23nfa0_5 v23nfa0_6 => fl_lt (a0_0 + 1) (fun x32 => fl_lt (fl_min x32 16) (fun x35 => (x35, 0, (fl_nI [v23na0_0, v23na0_1, v23na0_2, v23na0_3, v23na0_4, (gIa0_3 5), (gIa0_3 6), (gIa0_3 7), (gIa0_3 8), (gIa0_3 9), (gIa0_3 10), (gIa0_3 11), (gIa0_3 12), (gIa0_3 13), (gIa0_3 14), (gIa0_3 15), (gIa0_3 16), (gIa0_3 17), (gIa0_3 18), (gIa0_3 19), (gIa0_3 20), (gIa0_3 21), (gIa0_3 22), (gIa0_3 23), (gIa0_3 24), (gIa0_3 25), (gIa0_3 26), (gIa0_3 27), (gIa0_3 28), (gIa0_3 29), (gIa0_3 30), (gIa0_3 31), (gIa0_3 32), (gIa0_3 33), (gIa0_3 34), (gIa0_3 35), (gIa0_3 36), (gIa0_3 37), (gIa0_3 38), (gIa0_3 39), (gIa0_3 40), (gIa0_3 41), (gIa0_3 42), (gIa0_3 43), (gIa0_3 44), (gIa0_3 45), (gIa0_3 46), (gIa0_3 47), (gIa0_3 48), (gIa0_3 49), (gIa0_3 50), (gIa0_3 51), (gIa0_3 52), (gIa0_3 53), (gIa0_3 54), (gIa0_3 55), (gIa0_3 56), (gIa0_3 57), (gIa0_3 58), (gIa0_3 59), (gIa0_3 60), (gIa0_3 61), (gIa0_3 62), (gIa0_3 63), (gIa0_3 64), (gIa0_3 65), (gIa0_3 66), (gIa0_3 67), (gIa0_3 68), (gIa0_3 69), (gIa0_3 70), (gIa0_3 71), (gIa0_3 72), (gIa0_3 73), (gIa0_3 74), (gIa0_3 75), (gIa0_3 76), (gIa0_3 77), (gIa0_3 78), (gIa0_3 79)]), (fl_nF [v23nfa0_5, v23nfa0_6, (gFa0_3 2), (gFa0_3 3), (gFa0_3 4), (gFa0_3 5), (gFa0_3 6), (gFa0_3 7), (gFa0_3 8), (gFa0_3 9), (gFa0_3 10), (gFa0_3 11), (gFa0_3 12), (gFa0_3 13), (gFa0_3 14), (gFa0_3 15), (gFa0_3 16), (gFa0_3 17), (gFa0_3 18), (gFa0_3 19), (gFa0_3 20), (gFa0_3 21), (gFa0_3 22), (gFa0_3 23), (gFa0_3 24), (gFa0_3 25), (gFa0_3 26), (gFa0_3 27), (gFa0_3 28), (gFa0_3 29), (gFa0_3 30), (gFa0_3 31)])))))) else (if x9 = 1 then (fl_c7 (Ff_X5_copyFrom a1_0 a1_1 a1_2 a1_3 a1_4 fa1_5 (gFa0_3 2) fa1_6 (gFa0_3 3)) (fun v23na0_0 v23na0_1 v23na0_2 v23na0_3 v23na0_4 v23nfa0_5 v23nfa0_6 => fl_lt (a0_0 + 1) (fun x32 => fl_lt (fl_min x32 16) (fun x35 => (x35, 1, (fl_nI [(gIa0_3 0), (gIa0_3 1), (gIa0_3 2), (gIa0_3 3), (gIa0_3 4), v23na0_0, v23na0_1, v23na0_2, v23na0_3, v23na0_4, (gIa0_3 10), (gIa0_3 11), (gIa0_3 12), (gIa0_3 13), (gIa0_3 14), (gIa0_3 15), (gIa0_3 16), (gIa0_3 17), (gIa0_3 18), (gIa0_3 19), (gIa0_3 20), (gIa0_3 21), (gIa0_3 22), (gIa0_3 23), (gIa0_3 24), (gIa0_3 25), (gIa0_3 26), (gIa0_3 27), (gIa0_3 28), (gIa0_3 29), (gIa0_3 30), (gIa0_3 31), (gIa0_3 32), (gIa0_3 33), (gIa0_3 34), (gIa0_3 35), (gIa0_3 36), (gIa0_3 37), (gIa0_3 38), (gIa0_3 39), (gIa0_3 40), (gIa0_3 41), (gIa0_3 42), (gIa0_3 43), (gIa0_3 44), (gIa0_3 45), (gIa0_3 46), (gIa0_3 47), (gIa0_3 48), (gIa0_3 49), (gIa0_3 50), (gIa0_3 51), (gIa0_3 52), (gIa0_3 53), (gIa0_3 54), (gIa0_3 55), (gIa0_3 56), (gIa0_3 57), (gIa0_3 58), (gIa0_3 59), (gIa0_3 60), (gIa0_3 61), (gIa0_3 62), (gIa0_3 63), (gIa0_3 64), (gIa0_3 65), (gIa0_3 66), (gIa0_3 67), (gIa0_3 68), (gIa0_3 69), (gIa0_3 70), (gIa0_3 71), (gIa0_3 72), (gIa0_3 73), (gIa0_3 74), (gIa0_3 75), (gIa0_3 76), (gIa0_3 77), (gIa0_3 78), (gIa0_3 79)]), (fl_nF [(gFa0_3 0), (gFa0_3 1), v23nfa0_5, v23nfa0_6, (gFa0_3 4), (gFa0_3 5), (gFa0_3 6), (gFa0_3 7), (gFa0_3 8), (gFa0_3 9), (gFa0_3 10), (gFa0_3 11), (gFa0_3 12), (gFa0_3 13), (gFa0_3 14), (gFa0_3 15), (gFa0_3 16), (gFa0_3 17), (gFa0_3 18), (gFa0_3 19), (gFa0_3 20), (gFa0_3 21), (gFa0_3 22), (gFa0_3 23), (gFa0_3 24), (gFa0_3 25), (gFa0_3 26), (gFa0_3 27), (gFa0_3 28), (gFa0_3 29), (gFa0_3 30), (gFa0_3 31)])))))) else (if x9 = 2 then (fl_c7 (Ff_X5_copyFrom a1_0 a1_1 a1_2 a1_3 a1_4 fa1_5 (gFa0_3 4) fa1_6 (gFa0_3 5)) (fun v23na0_0 v23na0_1 v23na0_2 v23na0_3 v23na0_4 v23nfa0_5 v23nfa0_6 => fl_lt (a0_0 + 1) (fun x32 => fl_lt (fl_min x32 16) (fun x35 => (x35, 2, (fl_nI [(gIa0_3 0), (gIa0_3 1), (gIa0_3 2), (gIa0_3 3), (gIa0_3 4), (gIa0_3 5), (gIa0_3 6), (gIa0_3 7), (gIa0_3 8), (gIa0_3 9), v23na0_0, v23na0_1, v23na0_2, v23na0_3, v23na0_4, (gIa0_3 15), (gIa0_3 16), (gIa0_3 17), (gIa0_3 18), (gIa0_3 19), (gIa0_3 20), (gIa0_3 21), (gIa0_3 22), (gIa0_3 23), (gIa0_3 24), (gIa0_3 25), (gIa0_3 26), (gIa0_3 27), (gIa0_3 28), (gIa0_3 29), (gIa0_3 30), (gIa0_3 31), (gIa0_3 32), (gIa0_3 33), (gIa0_3 34), (gIa0_3 35), (gIa0_3 36), (gIa0_3 37), (gIa0_3 38), (gIa0_3 39), (gIa0_3 40), (gIa0_3 41), (gIa0_3 42), (gIa0_3 43), (gIa0_3 44), (gIa0_3 45), (gIa0_3 46), (gIa0_3 47), (gIa0_3 48), (gIa0_3 49), (gIa0_3 50), (gIa0_3 51), (gIa0_3 52), (gIa0_3 53), (gIa0_3 54), (gIa0_3 55), (gIa0_3 56), (gIa0_3 57), (gIa0_3 58), (gIa0_3 59), (gIa0_3 60), (gIa0_3 61), (gIa0_3 62), (gIa0_3 63), (gIa0_3 64), (gIa0_3 65), (gIa0_3 66), (gIa0_3 67), (gIa0_3 68), (gIa0_3 69), (gIa0_3 70), (gIa0_3 71), (gIa0_3 72), (gIa0_3 73), (gIa0_3 74), (gIa0_3 75), (gIa0_3 76), (gIa0_3 77), (gIa0_3 78), (gIa0_3 79)]), (fl_nF [(gFa0_3 0), (gFa0_3 1), (gFa0_3 2), (gFa0_3 3), v23nfa0_5, v23nfa0_6, (gFa0_3 6), (gFa0_3 7), (gFa0_3 8), (gFa0_3 9), (gFa0_3 10), (gFa0_3 11), (gFa0_3 12), (gFa0_3 13), (gFa0_3 14), (gFa0_3 15), (gFa0_3 16), (gFa0_3 17), (gFa0_3 18), (gFa0_3 19), (gFa0_3 20), (gFa0_3 21), (gFa0_3 22), (gFa0_3 23), (gFa0_3 24), (gFa0_3 25), (gFa0_3 26), (gFa0_3 27), (gFa0_3 28), (gFa0_3 29), (gFa0_3 30), (gFa0_3 31)])))))) else (if x9 = 3 then (fl_c7 (Ff_X5_copyFrom a1_0 a1_1 a1_2 a1_3 a1_4 fa1_5 (gFa0_3 6) fa1_6 (gFa0_3 7)) (fun v23na0_0 v23na0_1 v23na0_2 v23na0_3 v23na0_4 v23nfa0_5 v23nfa0_6 => fl_lt (a0_0 + 1) (fun x32 => fl_lt (fl_min x32 16) (fun x35 => (x35, 3, (fl_nI [(gIa0_3 0), (gIa0_3 1), (gIa0_3 2), (gIa0_3 3), (gIa0_3 4), (gIa0_3 5), (gIa0_3 6), (gIa0_3 7), (gIa0_3 8), (gIa0_3 9), (gIa0_3 10), (gIa0_3 11), (gIa0_3 12), (gIa0_3 13), (gIa0_3 14), v23na0_0, v23na0_1, v23na0_2, v23na0_3, v23na0_4, (gIa0_3 20), (gIa0_3 21), (gIa0_3 22), (gIa0_3 23), (gIa0_3 24), (gIa0_3 25), (gIa0_3 26), (gIa0_3 27), (gIa0_3 28), (gIa0_3 29), (gIa0_3 30), (gIa0_3 31), (gIa0_3 32), (gIa0_3 33), (gIa0_3 34), (gIa0_3 35), (gIa0_3 36), (gIa0_3 37), (gIa0_3 38), (gIa0_3 39), (gIa0_3 40), (gIa0_3 41), (gIa0_3 42), (gIa0_3 43), (gIa0_3 44), (gIa0_3 45), (gIa0_3 46), (gIa0_3 47), (gIa0_3 48), (gIa0_3 49), (gIa0_3 50), (gIa0_3 51), (gIa0_3 52), (gIa0_3 53), (gIa0_3 54), (gIa0_3 55), (gIa0_3 56), (gIa0_3 57), (gIa0_3 58), (gIa0_3 59), (gIa0_3 60), (gIa0_3 61), (gIa0_3 62), (gIa0_3 63), (gIa0_3 64), (gIa0_3 65), (gIa0_3 66), (gIa0_3 67), (gIa0_3 68), (gIa0_3 69), (gIa0_3 70), (gIa0_3 71), (gIa0_3 72), (gIa0_3 73), (gIa0_3 74), (gIa0_3 75), (gIa0_3 76), (gIa0_3 77), (gIa0_3 78), (gIa0_3 79)]), (fl_nF [(gFa0_3 0), (gFa0_3 1), (gFa0_3 2), (gFa0_3 3), (gFa0_3 4), (gFa0_3 5), v23nfa0_5, v23nfa0_6, (gFa0_3 8), (gFa0_3 9), (gFa0_3 10), (gFa0_3 11), (gFa0_3 12), (gFa0_3 13), (gFa0_3 14), (gFa0_3 15), (gFa0_3 16), (gFa0_3 17), (gFa0_3 18), (gFa0_3 19), (gFa0_3 20), (gFa0_3 21), (gFa0_3 22), (gFa0_3 23), (gFa0_3 24), (gFa0_3 25), (gFa0_3 26), (gFa0_3 27), (gFa0_3 28), (gFa0_3 29), (gFa0_3 30), (gFa0_3 31)])))))) else (if x9 = 4 then (fl_c7 (Ff_X5_copyFrom a1_0 a1_1 a1_2 a1_3 a1_4 fa1_5 (gFa0_3 8) fa1_6 (gFa0_3 9)) (fun v23na0_0 v23na0_1 v23na0_2 v23na0_3 v23na0_4 v23nfa0_5 v23nfa0_6 => fl_lt (a0_0 + 1) (fun x32 => fl_lt (fl_min x32 16) (fun x35 => (x35, 4, (fl_nI [(gIa0_3 0), (gIa0_3 1), (gIa0_3 2), (gIa0_3 3), (gIa0_3 4), (gIa0_3 5), (gIa0_3 6), (gIa0_3 7), (gIa0_3 8), (gIa0_3 9), (gIa0_3 10), (gIa0_3 11), (gIa0_3 12), (gIa0_3 13), (gIa0_3 14), (gIa0_3 15), (gIa0_3 16), (gIa0_3 17), (gIa0_3 18), (gIa0_3 19), v23na0_0, v23na0_1, v23na0_2, v23na0_3, v23na0_4, (gIa0_3 25), (gIa0_3 26), (gIa0_3 27), (gIa0_3 28), (gIa0_3 29), (gIa0_3 30), (gIa0_3 31), (gIa0_3 32), (gIa0_3 33), (gIa0_3 34), (gIa0_3 35), (gIa0_3 36), (gIa0_3 37), (gIa0_3 38), (gIa0_3 39), (gIa0_3 40), (gIa0_3 41), (gIa0_3 42), (gIa0_3 43), (gIa0_3 44), (gIa0_3 45), (gIa0_3 46), (gIa0_3 47), (gIa0_3 48), (gIa0_3 49), (gIa0_3 50), (gIa0_3 51), (gIa0_3 52), (gIa0_3 53), (gIa0_3 54), (gIa0_3 55), (gIa0_3 56), (gIa0_3 57), (gIa0_3 58), (gIa0_3 59), (gIa0_3 60), (gIa0_3 61), (gIa0_3 62), (gIa0_3 63), (gIa0_3 64), (gIa0_3 65), (gIa0_3 66), (gIa0_3 67), (gIa0_3 68), (gIa0_3 69), (gIa0_3 70), (gIa0_3 71), (gIa0_3 72), (gIa0_3 73), (gIa0_3 74), (gIa0_3 75), (gIa0_3 76), (gIa0_3 77), (gIa0_3 78), (gIa0_3 79)]), (fl_nF [(gFa0_3 0), (gFa0_3 1), (gFa0_3 2), (gFa0_3 3), (gFa0_3 4), (gFa0_3 5), (gFa0_3 6), (gFa0_3 7), v23nfa0_5, v23nfa0_6, (gFa0_3 10), (gFa0_3 11), (gFa0_3 12), (gFa0_3 13), (gFa0_3 14), (gFa0_3 15), (gFa0_3 16), (gFa0_3 17), (gFa0_3 18), (gFa0_3 19), (gFa0_3 20), (gFa0_3 21), (gFa0_3 22), (gFa0_3 23), (gFa0_3 24), (gFa0_3 25), (gFa0_3 26), (gFa0_3 27), (gFa0_3 28), (gFa0_3 29), (gFa0_3 30), (gFa0_3 31)])))))) else (if x9 = 5 then (fl_c7 (Ff_X5_copyFrom a1_0 a1_1 a1_2 a1_3 a1_4 fa1_5 (gFa0_3 10) fa1_6 (gFa0_3 11)) (fun v23na0_0 v23na0_1 v23na0_2 v23na0_3 v23na0_4 v23nfa0_5 v23nfa0_6 => fl_lt (a0_0 + 1) (fun x32 => fl_lt (fl_min x32 16) (fun x35 => (x35, 5, (fl_nI [(gIa0_3 0), (gIa0_3 1), (gIa0_3 2), (gIa0_3 3), (gIa0_3 4), (gIa0_3 5), (gIa0_3 6), (gIa0_3 7), (gIa0_3 8), (gIa0_3 9), (gIa0_3 10), (gIa0_3 11), (gIa0_3 12), (gIa0_3 13), (gIa0_3 14), (gIa0_3 15), (gIa0_3 16), (gIa0_3 17), (gIa0_3 18), (gIa0_3 19), (gIa0_3 20), (gIa0_3 21), (gIa0_3 22), (gIa0_3 23), (gIa0_3 24), v23na0_0, v23na0_1, v23na0_2, v23na0_3, v23na0_4, (gIa0_3 30), (gIa0_3 31), (gIa0_3 32), (gIa0_3 33), (gIa0_3 34), (gIa0_3 35), (gIa0_3 36), (gIa0_3 37), (gIa0_3 38), (gIa0_3 39), (gIa0_3 40), (gIa0_3 41), (gIa0_3 42), (gIa0_3 43), (gIa0_3 44), (gIa0_3 45), (gIa0_3 46), (gIa0_3 47), (gIa0_3 48), (gIa0_3 49), (gIa0_3 50), (gIa0_3 51), (gIa0_3 52), (gIa0_3 53), (gIa0_3 54), (gIa0_3 55), (gIa0_3 56), (gIa0_3 57), (gIa0_3 58), (gIa0_3 59), (gIa0_3 60), (gIa0_3 61), (gIa0_3 62), (gIa0_3 63), (gIa0_3 64), (gIa0_3 65), (gIa0_3 66), (gIa0_3 67), (gIa0_3 68), (gIa0_3 69), (gIa0_3 70), (gIa0_3 71), (gIa0_3 72), (gIa0_3 73), (gIa0_3 74), (gIa0_3 75), (gIa0_3 76), (gIa0_3 77), (gIa0_3 78), (gIa0_3 79)]), (fl_nF [(gFa0_3 0), (gFa0_3 1), (gFa0_3 2), (gFa0_3 3), (gFa0_3 4), (gFa0_3 5), (gFa0_3 6), (gFa0_3 7), (gFa0_3 8), (gFa0_3 9), v23nfa0_5, v23nfa0_6, (gFa0_3 12), (gFa0_3 13), (gFa0_3 14), (gFa0_3 15), (gFa0_3 16), (gFa0_3 17), (gFa0_3 18), (gFa0_3 19), (gFa0_3 20), (gFa0_3 21), (gFa0_3 22), (gFa0_3 23), (gFa0_3 24), (gFa0_3 25), (gFa0_3 26), (gFa0_3 27), (gFa0_3 28), (gFa0_3 29), (gFa0_3 30), (gFa0_3 31)])))))) else (if x9 = 6 then (fl_c7 (Ff_X5_copyFrom a1_0 a1_1 a1_2 a1_3 a1_4 fa1_5 (gFa0_3 12) fa1_6 (gFa0_3 13)) (fun v23na0_0 v23na0_1 v23na0_2 v23na0_3 v23na0_4 v23nfa0_5 v23nfa0_6 => fl_lt (a0_0 + 1) (fun x32 => fl_lt (fl_min x32 16) (fun x35 => (x35, 6, (fl_nI [(gIa0_3 0), (gIa0_3 1), (gIa0_3 2), (gIa0_3 3), (gIa0_3 4), (gIa0_3 5), (gIa0_3 6), (gIa0_3 7), (gIa0_3 8), (gIa0_3 9), (gIa0_3 10), (gIa0_3 11), (gIa0_3 12), (gIa0_3 13), (gIa0_3 14), (gIa0_3 15), (gIa0_3 16), (gIa0_3 17), (gIa0_3 18), (gIa0_3 19), (gIa0_3 20), (gIa0_3 21), (gIa0_3 22), (gIa0_3 23), (gIa0_3 24), (gIa0_3 25), (gIa0_3 26), (gIa0_3 27), (gIa0_3 28), (gIa0_3 29), v23na0_0, v23na0_1, v23na0_2, v23na0_3, v23na0_4, (gIa0_3 35), (gIa0_3 36), (gIa0_3 37), (gIa0_3 38), (gIa0_3 39), (gIa0_3 40), (gIa0_3 41), (gIa0_3 42), (gIa0_3 43), (gIa0_3 44), (gIa0_3 45), (gIa0_3 46), (gIa0_3 47), (gIa0_3 48), (gIa0_3 49), (gIa0_3 50), (gIa0_3 51), (gIa0_3 52), (gIa0_3 53), (gIa0_3 54), (gIa0_3 55), (gIa0_3 56), (gIa0_3 57), (gIa0_3 58), (gIa0_3 59), (gIa0_3 60), (gIa0_3 61), (gIa0_3 62), (gIa0_3 63), (gIa0_3 64), (gIa0_3 65), (gIa0_3 66), (gIa0_3 67), (gIa0_3 68), (gIa0_3 69), (gIa0_3 70), (gIa0_3 71), (gIa0_3 72), (gIa0_3 73), (gIa0_3 74), (gIa0_3 75), (gIa0_3 76), (gIa0_3 77), (gIa0_3 78), (gIa0_3 79)]), (fl_nF [(gFa0_3 0), (gFa0_3 1), (gFa0_3 2), (gFa0_3 3), (gFa0_3 4), (gFa0_3 5), (gFa0_3 6), (gFa0_3 7), (gFa0_3 8), (gFa0_3 9), (gFa0_3 10), (gFa0_3 11), v23nfa0_5, v23nfa0_6, (gFa0_3 14), (gFa0_3 15), (gFa0_3 16), (gFa0_3 17), (gFa0_3 18), (gFa0_3 19), (gFa0_3 20), (gFa0_3 21), (gFa0_3 22), (gFa0_3 23), (gFa0_3 24), (gFa0_3 25), (gFa0_3 26), (gFa0_3 27), (gFa0_3 28), (gFa0_3 29), (gFa0_3 30), (gFa0_3 31)])))))) else (if x9 = 7 then (fl_c7 (Ff_X5_copyFrom a1_0 a1_1 a1_2 a1_3 a1_4 fa1_5 (gFa0_3 14) fa1_6 (gFa0_3 15)) (fun v23na0_0 v23na0_1 v23na0_2 v23na0_3 v23na0_4 v23nfa0_5 v23nfa0_6 => fl_lt (a0_0 + 1) (fun x32 => fl_lt (fl_min x32 16) (fun x35 => (x35, 7, (fl_nI [(gIa0_3 0), (gIa0_3 1), (gIa0_3 2), (gIa0_3 3), (gIa0_3 4), (gIa0_3 5), (gIa0_3 6), (gIa0_3 7), (gIa0_3 8), (gIa0_3 9), (gIa0_3 10), (gIa0_3 11), (gIa0_3 12), (gIa0_3 13), (gIa0_3 14), (gIa0_3 15), (gIa0_3 16), (gIa0_3 17), (gIa0_3 18), (gIa0_3 19), (gIa0_3 20), (gIa0_3 21), (gIa0_3 22), (gIa0_3 23), (gIa0_3 24), (gIa0_3 25), (gIa0_3 26), (gIa0_3 27), (gIa0_3 28), (gIa0_3 29), (gIa0_3 30), (gIa0_3 31), (gIa0_3 32), (gIa0_3 33), (gIa0_3 34), v23na0_0, v23na0_1, v23na0_2, v23na0_3, v23na0_4, (gIa0_3 40), (gIa0_3 41), (gIa0_3 42), (gIa0_3 43), (gIa0_3 44), (gIa0_3 45), (gIa0_3 46), (gIa0_3 47), (gIa0_3 48), (gIa0_3 49), (gIa0_3 50), (gIa0_3 51), (gIa0_3 52), (gIa0_3 53), (gIa0_3 54), (gIa0_3 55), (gIa0_3 56), (gIa0_3 57), (gIa0_3 58), (gIa0_3 59), (gIa0_3 60), (gIa0_3 61), (gIa0_3 62), (gIa0_3 63), (gIa0_3 64), (gIa0_3 65), (gIa0_3 66), (gIa0_3 67), (gIa0_3 68), (gIa0_3 69), (gIa0_3 70), (gIa0_3 71), (gIa0_3 72), (gIa0_3 73), (gIa0_3 74), (gIa0_3 75), (gIa0_3 76), (gIa0_3 77), (gIa0_3 78), (gIa0_3 79)]), (fl_nF [(gFa0_3 0), (gFa0_3 1), (gFa0_3 2), (gFa0_3 3), (gFa0_3 4), (gFa0_3 5), (gFa0_3 6), (gFa0_3 7), (gFa0_3 8), (gFa0_3 9), (gFa0_3 10), (gFa0_3 11), (gFa0_3 12), (gFa0_3 13), v23nfa0_5, v23nfa0_6, (gFa0_3 16), (gFa0_3 17), (gFa0_3 18), (gFa0_3 19), (gFa0_3 20), (gFa0_3 21), (gFa0_3 22), (gFa0_3 23), (gFa0_3 24), (gFa0_3 25), (gFa0_3 26), (gFa0_3 27), (gFa0_3 28), (gFa0_3 29), (gFa0_3 30), (gFa0_3 31)])))))) else (if x9 = 8 then (fl_c7 (Ff_X5_copyFrom a1_0 a1_1 a1_2 a1_3 a1_4 fa1_5 (gFa0_3 16) fa1_6 (gFa0_3 17)) (fun v23na0_0 v23na0_1 v23na0_2 v23na0_3 v23na0_4 v23nfa0_5 v23nfa0_6 => fl_lt (a0_0 + 1) (fun x32 => fl_lt (fl_min x32 16) (fun x35 => (x35, 8, (fl_nI [(gIa0_3 0), (gIa0_3 1), (gIa0_3 2), (gIa0_3 3), (gIa0_3 4), (gIa0_3 5), (gIa0_3 6), (gIa0_3 7), (gIa0_3 8), (gIa0_3 9), (gIa0_3 10), (gIa0_3 11), (gIa0_3 12), (gIa0_3 13), (gIa0_3 14), (gIa0_3 15), (gIa0_3 16), (gIa0_3 17), (gIa0_3 18), (gIa0_3 19), (gIa0_3 20), (gIa0_3 21), (gIa0_3 22), (gIa0_3 23), (gIa0_3 24), (gIa0_3 25), (gIa0_3 26), (gIa0_3 27), (gIa0_3 28), (gIa0_3 29), (gIa0_3 30), (gIa0_3 31), (gIa0_3 32), (gIa0_3 33), (gIa0_3 34), (gIa0_3 35), (gIa0_3 36), (gIa0_3 37), (gIa0_3 38), (gIa0_3 39), v23na0_0, v23na0_1, v23na0_2, v23na0_3, v23na0_4, (gIa0_3 45), (gIa0_3 46), (gIa0_3 47), (gIa0_3 48), (gIa0_3 49), (gIa0_3 50), (gIa0_3 51), (gIa0_3 52), (gIa0_3 53), (gIa0_3 54), (gIa0_3 55), (gIa0_3 56), (gIa0_3 57), (gIa0_3 58), (gIa0_3 59), (gIa0_3 60), (gIa0_3 61), (gIa0_3 62), (gIa0_3 63), (gIa0_3 64), (gIa0_3 65), (gIa0_3 66), (gIa0_3 67), (gIa0_3 68), (gIa0_3 69), (gIa0_3 70), (gIa0_3 71), (gIa0_3 72), (gIa0_3 73), (gIa0_3 74), (gIa0_3 75), (gIa0_3 76), (gIa0_3 77), (gIa0_3 78), (gIa0_3 79)]), (fl_nF [(gFa0_3 0), (gFa0_3 1), (gFa0_3 2), (gFa0_3 3), (gFa0_3 4), (gFa0_3 5), (gFa0_3 6), (gFa0_3 7), (gFa0_3 8), (gFa0_3 9), (gFa0_3 10), (gFa0_3 11), (gFa0_3 12), (gFa0_3 13), (gFa0_3 14), (gFa0_3 15), v23nfa0_5, v23nfa0_6, (gFa0_3 18), (gFa0_3 19), (gFa0_3 20), (gFa0_3 21), (gFa0_3 22), (gFa0_3 23), (gFa0_3 24), (gFa0_3 25), (gFa0_3 26), (gFa0_3 27), (gFa0_3 28), (gFa0_3 29), (gFa0_3 30), (gFa0_3 31)])))))) else (if x9 = 9 then (fl_c7 (Ff_X5_copyFrom a1_0 a1_1 a1_2 a1_3 a1_4 fa1_5 (gFa0_3 18) fa1_6 (gFa0_3 19)) (fun v23na0_0 v23na0_1 v23na0_2 v23na0_3 v23na0_4 v23nfa0_5 v23nfa0_6 => fl_lt (a0_0 + 1) (fun x32 => fl_lt (fl_min x32 16) (fun x35 => (x35, 9, (fl_nI [(gIa0_3 0), (gIa0_3 1), (gIa0_3 2), (gIa0_3 3), (gIa0_3 4), (gIa0_3 5), (gIa0_3 6), (gIa0_3 7), (gIa0_3 8), (gIa0_3 9), (gIa0_3 10), (gIa0_3 11), (gIa0_3 12), (gIa0_3 13), (gIa0_3 14), (gIa0_3 15), (gIa0_3 16), (gIa0_3 17), (gIa0_3 18), (gIa0_3 19), (gIa0_3 20), (gIa0_3 21), (gIa0_3 22), (gIa0_3 23), (gIa0_3 24), (gIa0_3 25), (gIa0_3 26), (gIa0_3 27), (gIa0_3 28), (gIa0_3 29), (gIa0_3 30), (gIa0_3 31), (gIa0_3 32), (gIa0_3 33), (gIa0_3 34), (gIa0_3 35), (gIa0_3 36), (gIa0_3 37), (gIa0_3 38), (gIa0_3 39), (gIa0_3 40), (gIa0_3 41), (gIa0_3 42), (gIa0_3 43), (gIa0_3 44), v23na0_0, v23na0_1, v23na0_2, v23na0_3, v23na0_4, (gIa0_3 50), (gIa0_3 51), (gIa0_3 52), (gIa0_3 53), (gIa0_3 54), (gIa0_3 55), (gIa0_3 56), (gIa0_3 57), (gIa0_3 58), (gIa0_3 59), (gIa0_3 60), (gIa0_3 61), (gIa0_3 62), (gIa0_3 63), (gIa0_3 64), (gIa0_3 65), (gIa0_3 66), (gIa0_3 67), (gIa0_3 68), (gIa0_3 69), (gIa0_3 70), (gIa0_3 71), (gIa0_3 72), (gIa0_3 73), (gIa0_3 74), (gIa0_3 75), (gIa0_3 76), (gIa0_3 77), (gIa0_3 78), (gIa0_3 79)]), (fl_nF [(gFa0_3 0), (gFa0_3 1), (gFa0_3 2), (gFa0_3 3), (gFa0_3 4), (gFa0_3 5), (gFa0_3 6), (gFa0_3 7), (gFa0_3 8), (gFa0_3 9), (gFa0_3 10), (gFa0_3 11), (gFa0_3 12), (gFa0_3 13), (gFa0_3 14), (gFa0_3 15), (gFa0_3 16), (gFa0_3 17), v23nfa0_5, v23nfa0_6, (gFa0_3 20), (gFa0_3 21), (gFa0_3 22), (gFa0_3 23), (gFa0_3 24), (gFa0_3 25), (gFa0_3 26), (gFa0_3 27), (gFa0_3 28), (gFa0_3 29), (gFa0_3 30), (gFa0_3 31)])))))) else (if x9 = 10 then (fl_c7 (Ff_X5_copyFrom a1_0 a1_1 a1_2 a1_3 a1_4 fa1_5 (gFa0_3 20) fa1_6 (gFa0_3 21)) (fun v23na0_0 v23na0_1 v23na0_2 v23na0_3 v23na0_4 v23nfa0_5 v23nfa0_6 => fl_lt (a0_0 + 1) (fun x32 => fl_lt (fl_min x32 16) (fun x35 => (x35, 10, (fl_nI [(gIa0_3 0), (gIa0_3 1), (gIa0_3 2), (gIa0_3 3), (gIa0_3 4), (gIa0_3 5), (gIa0_3 6), (gIa0_3 7), (gIa0_3 8), (gIa0_3 9), (gIa0_3 10), (gIa0_3 11), (gIa0_3 12), (gIa0_3 13), (gIa0_3 14), (gIa0_3 15), (gIa0_3 16), (gIa0_3 17), (gIa0_3 18), (gIa0_3 19), (gIa0_3 20), (gIa0_3 21), (gIa0_3 22), (gIa0_3 23), (gIa0_3 24), (gIa0_3 25), (gIa0_3 26), (gIa0_3 27), (gIa0_3 28), (gIa0_3 29), (gIa0_3 30), (gIa0_3 31), (gIa0_3 32), (gIa0_3 33), (gIa0_3 34), (gIa0_3 35), (gIa0_3 36), (gIa0_3 37), (gIa0_3 38), (gIa0_3 39), (gIa0_3 40), (gIa0_3 41), (gIa0_3 42), (gIa0_3 43), (gIa0_3 44), (gIa0_3 45), (gIa0_3 46), (gIa0_3 47), (gIa0_3 48), (gIa0_3 49), v23na0_0, v23na0_1, v23na0_2, v23na0_3, v23na0_4, (gIa0_3 55), (gIa0_3 56), (gIa0_3 57), (gIa0_3 58), (gIa0_3 59), (gIa0_3 60), (gIa0_3 61), (gIa0_3 62), (gIa0_3 63), (gIa0_3 64), (gIa0_3 65), (gIa0_3 66), (gIa0_3 67), (gIa0_3 68), (gIa0_3 69), (gIa0_3 70), (gIa0_3 71), (gIa0_3 72), (gIa0_3 73), (gIa0_3 74), (gIa0_3 75), (gIa0_3 76), (gIa0_3 77), (gIa0_3 78), (gIa0_3 79)]), (fl_nF [(gFa0_3 0), (gFa0_3 1), (gFa0_3 2), (gFa0_3 3), (gFa0_3 4), (gFa0_3 5), (gFa0_3 6), (gFa0_3 7), (gFa0_3 8), (gFa0_3 9), (gFa0_3 10), (gFa0_3 11), (gFa0_3 12), (gFa0_3 13), (gFa0_3 14), (gFa0_3 15), (gFa0_3 16), (gFa0_3 17), (gFa0_3 18), (gFa0_3 19), v23nfa0_5, v23nfa0_6, (gFa0_3 22), (gFa0_3 23), (gFa0_3 24), (gFa0_3 25), (gFa0_3 26), (gFa0_3 27), (gFa0_3 28), (gFa0_3 29), (gFa0_3 30), (gFa0_3 31)])))))) else (if x9 = 11 then (fl_c7 (Ff_X5_copyFrom a1_0 a1_1 a1_2 a1_3 a1_4 fa1_5 (gFa0_3 22) fa1_6 (gFa0_3 23)) (fun v23na0_0 v23na0_1 v23na0_2 v23na0_3 v23na0_4 v23nfa0_5 v23nfa0_6 => fl_lt (a0_0 + 1) (fun x32 => fl_lt (fl_min x32 16) (fun x35 => (x35, 11, (fl_nI [(gIa0_3 0), (gIa0_3 1), (gIa0_3 2), (gIa0_3 3), (gIa0_3 4), (gIa0_3 5), (gIa0_3 6), (gIa0_3 7), (gIa0_3 8), (gIa0_3 9), (gIa0_3 10), (gIa0_3 11), (gIa0_3 12), (gIa0_3 13), (gIa0_3 14), (gIa0_3 15), (gIa0_3 16), (gIa0_3 17), (gIa0_3 18), (gIa0_3 19), (gIa0_3 20), (gIa0_3 21), (gIa0_3 22), (gIa0_3 23), (gIa0_3 24), (gIa0_3 25), (gIa0_3 26), (gIa0_3 27), (gIa0_3 28), (gIa0_3 29), (gIa0_3 30), (gIa0_3 31), (gIa0_3 32), (gIa0_3 33), (gIa0_3 34), (gIa0_3 35), (gIa0_3 36), (gIa0_3 37), (gIa0_3 38), (gIa0_3 39), (gIa0_3 40), (gIa0_3 41), (gIa0_3 42), (gIa0_3 43), (gIa0_3 44), (gIa0_3 45), (gIa0_3 46), (gIa0_3 47), (gIa0_3 48), (gIa0_3 49), (gIa0_3 50), (gIa0_3 51), (gIa0_3 52), (gIa0_3 53), (gIa0_3 54), v23na0_0, v23na0_1, v23na0_2, v23na0_3, v23na0_4, (gIa0_3 60), (gIa0_3 61), (gIa0_3 62), (gIa0_3 63), (gIa0_3 64), (gIa0_3 65), (gIa0_3 66), (gIa0_3 67), (gIa0_3 68), (gIa0_3 69), (gIa0_3 70), (gIa0_3 71), (gIa0_3 72), (gIa0_3 73), (gIa0_3 74), (gIa0_3 75), (gIa0_3 76), (gIa0_3 77), (gIa0_3 78), (gIa0_3 79)]), (fl_nF [(gFa0_3 0), (gFa0_3 1), (gFa0_3 2), (gFa0_3 3), (gFa0_3 4), (gFa0_3 5), (gFa0_3 6), (gFa0_3 7), (gFa0_3 8), (gFa0_3 9), (gFa0_3 10), (gFa0_3 11), (gFa0_3 12), (gFa0_3 13), (gFa0_3 14), (gFa0_3 15), (gFa0_3 16), (gFa0_3 17), (gFa0_3 18), (gFa0_3 19), (gFa0_3 20), (gFa0_3 21), v23nfa0_5, v23nfa0_6, (gFa0_3 24), (gFa0_3 25), (gFa0_3 26), (gFa0_3 27), (gFa0_3 28), (gFa0_3 29), (gFa0_3 30), (gFa0_3 31)])))))) else (if x9 = 12 then (fl_c7 (Ff_X5_copyFrom a1_0 a1_1 a1_2 a1_3 a1_4 fa1_5 (gFa0_3 24) fa1_6 (gFa0_3 25)) (fun v23na0_0 v23na0_1 v23na0_2 v23na0_3 v23na0_4 v23nfa0_5 v23nfa0_6 => fl_lt (a0_0 + 1) (fun x32 => fl_lt (fl_min x32 16) (fun x35 => (x35, 12, (fl_nI [(gIa0_3 0), (gIa0_3 1), (gIa0_3 2), (gIa0_3 3), (gIa0_3 4), (gIa0_3 5), (gIa0_3 6), (gIa0_3 7), (gIa0_3 8), (gIa0_3 9), (gIa0_3 10), (gIa0_3 11), (gIa0_3 12), (gIa0_3 13), (gIa0_3 14), (gIa0_3 15), (gIa0_3 16), (gIa0_3 17), (gIa0_3 18), (gIa0_3 19), (gIa0_3 20), (gIa0_3 21), (gIa0_3 22), (gIa0_3 23), (gIa0_3 24), (gIa0_3 25), (gIa0_3 26), (gIa0_3 27), (gIa0_3 28), (gIa0_3 29), (gIa0_3 30), (gIa0_3 31), (gIa0_3 32), (gIa0_3 33), (gIa0_3 34), (gIa0_3 35), (gIa0_3 36), (gIa0_3 37), (gIa0_3 38), (gIa0_3 39), (gIa0_3 40), (gIa0_3 41), (gIa0_3 42), (gIa0_3 43), (gIa0_3 44), (gIa0_3 45), (gIa0_3 46), (gIa0_3 47), (gIa0_3 48), (gIa0_3 49), (gIa0_3 50), (gIa0_3 51), (gIa0_3 52), (gIa0_3 53), (gIa0_3 54), (gIa0_3 55), (gIa0_3 56), (gIa0_3 57), (gIa0_3 58), (gIa0_3 59), v23na0_0, v23na0_1, v23na0_2, v23na0_3, v23na0_4, (gIa0_3 65), (gIa0_3 66), (gIa0_3 67), (gIa0_3 68), (gIa0_3 69), (gIa0_3 70), (gIa0_3 71), (gIa0_3 72), (gIa0_3 73), (gIa0_3 74), (gIa0_3 75), (gIa0_3 76), (gIa0_3 77), (gIa0_3 78), (gIa0_3 79)]), (fl_nF [(gFa0_3 0), (gFa0_3 1), (gFa0_3 2), (gFa0_3 3), (gFa0_3 4), (gFa0_3 5), (gFa0_3 6), (gFa0_3 7), (gFa0_3 8), (gFa0_3 9), (gFa0_3 10), (gFa0_3 11), (gFa0_3 12), (gFa0_3 13), (gFa0_3 14), (gFa0_3 15), (gFa0_3 16), (gFa0_3 17), (gFa0_3 18), (gFa0_3 19), (gFa0_3 20), (gFa0_3 21), (gFa0_3 22), (gFa0_3 23), v23nfa0_5, v23nfa0_6, (gFa0_3 26), (gFa0_3 27), (gFa0_3 28), (gFa0_3 29), (gFa0_3 30), (gFa0_3 31)])))))) else (if x9 = 13 then (fl_c7 (Ff_X5_copyFrom a1_0 a1_1 a1_2 a1_3 a1_4 fa1_5 (gFa0_3 26) fa1_6 (gFa0_3 27)) (fun v23na0_0 v23na0_1 v23na0_2 v23na0_3 v23na0_4 v23nfa0_5 v23nfa0_6 => fl_lt (a0_0 + 1) (fun x32 => fl_lt (fl_min x32 16) (fun x35 => (x35, 13, (fl_nI [(gIa0_3 0), (gIa0_3 1), (gIa0_3 2), (gIa0_3 3), (gIa0_3 4), (gIa0_3 5), (gIa0_3 6), (gIa0_3 7), (gIa0_3 8), (gIa0_3 9), (gIa0_3 10), (gIa0_3 11), (gIa0_3 12), (gIa0_3 13), (gIa0_3 14), (gIa0_3 15), (gIa0_3 16), (gIa0_3 17), (gIa0_3 18), (gIa0_3 19), (gIa0_3 20), (gIa0_3 21), (gIa0_3 22), (gIa0_3 23), (gIa0_3 24), (gIa0_3 25), (gIa0_3 26), (gIa0_3 27), (gIa0_3 28), (gIa0_3 29), (gIa0_3 30), (gIa0_3 31), (gIa0_3 32), (gIa0_3 33), (gIa0_3 34), (gIa0_3 35), (gIa0_3 36), (gIa0_3 37), (gIa0_3 38), (gIa0_3 39), (gIa0_3 40), (gIa0_3 41), (gIa0_3 42), (gIa0_3 43), (gIa0_3 44), (gIa0_3 45), (gIa0_3 46), (gIa0_3 47), (gIa0_3 48), (gIa0_3 49), (gIa0_3 50), (gIa0_3 51), (gIa0_3 52), (gIa0_3 53), (gIa0_3 54), (gIa0_3 55), (gIa0_3 56), (gIa0_3 57), (gIa0_3 58), (gIa0_3 59), (gIa0_3 60), (gIa0_3 61), (gIa0_3 62), (gIa0_3 63), (gIa0_3 64), v23na0_0, v23na0_1, v23na0_2, v23na0_3, v23na0_4, (gIa0_3 70), (gIa0_3 71), (gIa0_3 72), (gIa0_3 73), (gIa0_3 74), (gIa0_3 75), (gIa0_3 76), (gIa0_3 77), (gIa0_3 78), (gIa0_3 79)]), (fl_nF [(gFa0_3 0), (gFa0_3 1), (gFa0_3 2), (gFa0_3 3), (gFa0_3 4), (gFa0_3 5), (gFa0_3 6), (gFa0_3 7), (gFa0_3 8), (gFa0_3 9), (gFa0_3 10), (gFa0_3 11), (gFa0_3 12), (gFa0_3 13), (gFa0_3 14), (gFa0_3 15), (gFa0_3 16), (gFa0_3 17), (gFa0_3 18), (gFa0_3 19), (gFa0_3 20), (gFa0_3 21), (gFa0_3 22), (gFa0_3 23), (gFa0_3 24), (gFa0_3 25), v23nfa0_5, v23nfa0_6, (gFa0_3 28), (gFa0_3 29), (gFa0_3 30), (gFa0_3 31)])))))) else (if x9 = 14 then (fl_c7 (Ff_X5_copyFrom a1_0 a1_1 a1_2 a1_3 a1_4 fa1_5 (gFa0_3 28) fa1_6 (gFa0_3 29)) (fun v23na0_0 v23na0_1 v23na0_2 v23na0_3 v23na0_4 v23nfa0_5 v23nfa0_6 => fl_lt (a0_0 + 1) (fun x32 => fl_lt (fl_min x32 16) (fun x35 => (x35, 14, (fl_nI [(gIa0_3 0), (gIa0_3 1), (gIa0_3 2), (gIa0_3 3), (gIa0_3 4), (gIa0_3 5), (gIa0_3 6), (gIa0_3 7), (gIa0_3 8), (gIa0_3 9), (gIa0_3 10), (gIa0_3 11), (gIa0_3 12), (gIa0_3 13), (gIa0_3 14), (gIa0_3 15), (gIa0_3 16), (gIa0_3 17), (gIa0_3 18), (gIa0_3 19), (gIa0_3 20), (gIa0_3 21), (gIa0_3 22), (gIa0_3 23), (gIa0_3 24), (gIa0_3 25), (gIa0_3 26), (gIa0_3 27), (gIa0_3 28), (gIa0_3 29), (gIa0_3 30), (gIa0_3 31), (gIa0_3 32), (gIa0_3 33), (gIa0_3 34), (gIa0_3 35), (gIa0_3 36), (gIa0_3 37), (gIa0_3 38), (gIa0_3 39), (gIa0_3 40), (gIa0_3 41), (gIa0_3 42), (gIa0_3 43), (gIa0_3 44), (gIa0_3 45), (gIa0_3 46), (gIa0_3 47), (gIa0_3 48), (gIa0_3 49), (gIa0_3 50), (gIa0_3 51), (gIa0_3 52), (gIa0_3 53), (gIa0_3 54), (gIa0_3 55), (gIa0_3 56), (gIa0_3 57), (gIa0_3 58), (gIa0_3 59), (gIa0_3 60), (gIa0_3 61), (gIa0_3 62), (gIa0_3 63), (gIa0_3 64), (gIa0_3 65), (gIa0_3 66), (gIa0_3 67), (gIa0_3 68), (gIa0_3 69), v23na0_0, v23na0_1, v23na0_2, v23na0_3, v23na0_4, (gIa0_3 75), (gIa0_3 76), (gIa0_3 77), (gIa0_3 78), (gIa0_3 79)]), (fl_nF [(gFa0_3 0), (gFa0_3 1), (gFa0_3 2), (gFa0_3 3), (gFa0_3 4), (gFa0_3 5), (gFa0_3 6), (gFa0_3 7), (gFa0_3 8), (gFa0_3 9), (gFa0_3 10), (gFa0_3 11), (gFa0_3 12), (gFa0_3 13), (gFa0_3 14), (gFa0_3 15), (gFa0_3 16), (gFa0_3 17), (gFa0_3 18), (gFa0_3 19), (gFa0_3 20), (gFa0_3 21), (gFa0_3 22), (gFa0_3 23), (gFa0_3 24), (gFa0_3 25), (gFa0_3 26), (gFa0_3 27), v23nfa0_5, v23nfa0_6, (gFa0_3 30), (gFa0_3 31)])))))) else (fl_c7 (Ff_X5_copyFrom a1_0 a1_1 a1_2 a1_3 a1_4 fa1_5 (gFa0_3 30) fa1_6 (gFa0_3 31)) (fun v23na0_0 v23na0_1 v23na0_2 v23na0_3 v23na0_4 v23nfa0_5 v23nfa0_6 => fl_lt (a0_0 + 1) (fun x32 => fl_lt (fl_min x32 16) (fun x35 => (x35, 15, (fl_nI [(gIa0_3 0), (gIa0_3 1), (gIa0_3 2), (gIa0_3 3), (gIa0_3 4), (gIa0_3 5), (gIa0_3 6), (gIa0_3 7), (gIa0_3 8), (gIa0_3 9), (gIa0_3 10), (gIa0_3 11), (gIa0_3 12), (gIa0_3 13), (gIa0_3 14), (gIa0_3 15), (gIa0_3 16), (gIa0_3 17), (gIa0_3 18), (gIa0_3 19), (gIa0_3 20), (gIa0_3 21), (gIa0_3 22), (gIa0_3 23), (gIa0_3 24), (gIa0_3 25), (gIa0_3 26), (gIa0_3 27), (gIa0_3 28), (gIa0_3 29), (gIa0_3 30), (gIa0_3 31), (gIa0_3 32), (gIa0_3 33), (gIa0_3 34), (gIa0_3 35), (gIa0_3 36), (gIa0_3 37), (gIa0_3 38), (gIa0_3 39), (gIa0_3 40), (gIa0_3 41), (gIa0_3 42), (gIa0_3 43), (gIa0_3 44), (gIa0_3 45), (gIa0_3 46), (gIa0_3 47), (gIa0_3 48), (gIa0_3 49), (gIa0_3 50), (gIa0_3 51), (gIa0_3 52), (gIa0_3 53), (gIa0_3 54), (gIa0_3 55), (gIa0_3 56), (gIa0_3 57), (gIa0_3 58), (gIa0_3 59), (gIa0_3 60), (gIa0_3 61), (gIa0_3 62), (gIa0_3 63), (gIa0_3 64), (gIa0_3 65), (gIa0_3 66), (gIa0_3 67), (gIa0_3 68), (gIa0_3 69), (gIa0_3 70), (gIa0_3 71), (gIa0_3 72), (gIa0_3 73), (gIa0_3 74), v23na0_0, v23na0_1, v23na0_2, v23na0_3, v23na0_4]), (fl_nF [(gFa0_3 0), (gFa0_3 1), (gFa0_3 2), (gFa0_3 3), (gFa0_3 4), (gFa0_3 5), (gFa0_3 6), (gFa0_3 7), (gFa0_3 8), (gFa0_3 9), (gFa0_3 10), (gFa0_3 11), (gFa0_3 12), (gFa0_3 13), (gFa0_3 14), (gFa0_3 15), (gFa0_3 16), (gFa0_3 17), (gFa0_3 18), (gFa0_3 19), (gFa0_3 20), (gFa0_3 21), (gFa0_3 22), (gFa0_3 23), (gFa0_3 24), (gFa0_3 25), (gFa0_3 26), (gFa0_3 27), (gFa0_3 28), (gFa0_3 29), v23nfa0_5, v23nfa0_6]))))))))))))))))))))))

def Ff_X1_takeLatest (a0_0 : Int) (a0_2 : Int) (a1_0 : Int) (a1_1 : Int) (a1_2 : Int) (a1_3 : Int) (a1_4 : Int) (gIa0_3 : (Nat → Int)) (gFa0_3 : (Nat → Nat → Int)) (fa1_5 : (Nat → Int)) (fa1_6 : (Nat → Int)) : Int × Int × Int × Int × Int × Int × Int × Int × (Nat → Int) × (Nat → Int) :=
  if a0_0 = 0 then ((0, a0_0, a0_2, a1_0, a1_1, a1_2, a1_3, a1_4, fa1_5, fa1_6)) else (if a0_2 = 0 then (fl_c7 (Ff_X5_copyFrom (gIa0_3 0) (gIa0_3 1) (gIa0_3 2) (gIa0_3 3) (gIa0_3 4) (gFa0_3 0) fa1_5 (gFa0_3 1) fa1_6) (fun v19na0_0 v19na0_1 v19na0_2 v19na0_3 v19na0_4 v19nfa0_5 v19nfa0_6 => fl_lt (a0_0 - 1) (fun x44 => (1, x44, 15, v19na0_0, v19na0_1, v19na0_2, v19na0_3, v19na0_4, v19nfa0_5, v19nfa0_6)))) else (if a0_2 = 1 then (fl_c7 (Ff_X5_copyFrom (gIa0_3 5) (gIa0_3 6) (gIa0_3 7) (gIa0_3 8) (gIa0_3 9) (gFa0_3 2) fa1_5 (gFa0_3 3) fa1_6) (fun v19na0_0 v19na0_1 v19na0_2 v19na0_3 v19na0_4 v19nfa0_5 v19nfa0_6 => fl_lt (a0_0 - 1) (fun x44 => (1, x44, 0, v19na0_0, v19na0_1, v19na0_2, v19na0_3, v19na0_4, v19nfa0_5, v19nfa0_6)))) else (if a0_2 = 2 then (fl_c7 (Ff_X5_copyFrom (gIa0_3 10) (gIa0_3 11) (gIa0_3 12) (gIa0_3 13) (gIa0_3 14) (gFa0_3 4) fa1_5 (gFa0_3 5) fa1_6) (fun v19na0_0 v19na0_1 v19na0_2 v19na0_3 v19na0_4 v19nfa0_5 v19nfa0_6 => fl_lt (a0_0 - 1) (fun x44 => (1, x44, 1, v19na0_0, v19na0_1, v19na0_2, v19na0_3, v19na0_4, v19nfa0_5, v19nfa0_6)))) else (if a0_2 = 3 then (fl_c7 (Ff_X5_copyFrom (gIa0_3 15) (gIa0_3 16) (gIa0_3 17) (gIa0_3 18) (gIa0_3 19) (gFa0_3 6) fa1_5 (gFa0_3 7) fa1_6) (fun v19na0_0 v19na0_1 v19na0_2 v19na0_3 v19na0_4 v19nfa0_5 v19nfa0_6 => fl_lt (a0_0 - 1) (fun x44 => (1, x44, 2, v19na0_0, v19na0_1, v19na0_2, v19na0_3, v19na0_4, v19nfa0_5, v19nfa0_6)))) else (if a0_2 = 4 then (fl_c7 (Ff_X5_copyFrom (gIa0_3 20) (gIa0_3 21) (gIa0_3 22) (gIa0_3 23) (gIa0_3 24) (gFa0_3 8) fa1_5 (gFa0_3 9) fa1_6) (fun v19na0_0 v19na0_1 v19na0_2 v19na0_3 v19na0_4 v19nfa0_5 v19nfa0_6 => fl_lt (a0_0 - 1) (fun x44 => (1, x44, 3, v19na0_0, v19na0_1, v19na0_2, v19na0_3, v19na0_4, v19nfa0_5, v19nfa0_6)))) else (if a0_2 = 5 then (fl_c7 (Ff_X5_copyFrom (gIa0_3 25) (gIa0_3 26) (gIa0_3 27) (gIa0_3 28) (gIa0_3 29) (gFa0_3 10) fa1_5 (gFa0_3 11) fa1_6) (fun v19na0_0 v19na0_1 v19na0_2 v19na0_3 v19na0_4 v19nfa0_5 v19nfa0_6 => fl_lt (a0_0 - 1) (fun x44 => (1, x44, 4, v19na0_0, v19na0_1, v19na0_2, v19na0_3, v19na0_4, v19nfa0_5, v19nfa0_6)))) else (if a0_2 = 6 then (fl_c7 (Ff_X5_copyFrom (gIa0_3 30) (gIa0_3 31) (gIa0_3 32) (gIa0_3 33) (gIa0_3 34) (gFa0_3 12) fa1_5 (gFa0_3 13) fa1_6) (fun v19na0_0 v19na0_1 v19na0_2 v19na0_3 v19na0_4 v19nfa0_5 v19nfa0_6 => fl_lt (a0_0 - 1) (fun x44 => (1, x44, 5, v19na0_0, v19na0_1, v19na0_2, v19na0_3, v19na0_4, v19nfa0_5, v19nfa0_6)))) else (if a0_2 = 7 then (fl_c7 (Ff_X5_copyFrom (gIa0_3 35) (gIa0_3 36) (gIa0_3 37) (gIa0_3 38) (gIa0_3 39) (gFa0_3 14) fa1_5 (gFa0_3 15) fa1_6) (fun v19na0_0 v19na0_1 v19na0_2 v19na0_3 v19na0_4 v19nfa0_5 v19nfa0_6 => fl_lt (a0_0 - 1) (fun x44 => (1, x44, 6, v19na0_0, v19na0_1, v19na0_2, v19na0_3, v19na0_4, v19nfa0_5, v19nfa0_6)))) else (if a0_2 = 8 then (fl_c7 (Ff_X5_copyFrom (gIa0_3 40) (gIa0_3 41) (gIa0_3 42) (gIa0_3 43) (gIa0_3 44) (gFa0_3 16) fa1_5 (gFa0_3 17) fa1_6) (fun v19na0_0 v19na0_1 v19na0_2 v19na0_3 v19na0_4 v19nfa0_5 v19nfa0_6 => fl_lt (a0_0 - 1) (fun x44 => (1, x44, 7, v19na0_0, v19na0_1, v19na0_2, v19na0_3, v19na0_4, v19nfa0_5, v19nfa0_6)))) else (if a0_2 = 9 then (fl_c7 (Ff_X5_copyFrom (gIa0_3 45) (gIa0_3 46) (gIa0_3 47) (gIa0_3 48) (gIa0_3 49) (gFa0_3 18) fa1_5 (gFa0_3 19) fa1_6) (fun v19na0_0 v19na0_1 v19na0_2 v19na0_3 v19na0_4 v19nfa0_5 v19nfa0_6 => fl_lt (a0_0 - 1) (fun x44 => (1, x44, 8, v19na0_0, v19na0_1, v19na0_2, v19na0_3, v19na0_4, v19nfa0_5, v19nfa0_6)))) else (if a0_2 = 10 then (fl_c7 (Ff_X5_copyFrom (gIa0_3 50) (gIa0_3 51) (gIa0_3 52) (gIa0_3 53) (gIa0_3 54) (gFa0_3 20) fa1_5 (gFa0_3 21) fa1_6) (fun v19na0_0 v19na0_1 v19na0_2 v19na0_3 v19na0_4 v19nfa0_5 v19nfa0_6 => fl_lt (a0_0 - 1) (fun x44 => (1, x44, 9, v19na0_0, v19na0_1, v19na0_2, v19na0_3, v19na0_4, v19nfa0_5, v19nfa0_6)))) else (if a0_2 = 11 then (fl_c7 (Ff_X5_copyFrom (gIa0_3 55) (gIa0_3 56) (gIa0_3 57) (gIa0_3 58) (gIa0_3 59) (gFa0_3 22) fa1_5 (gFa0_3 23) fa1_6) (fun v19na0_0 v19na0_1 v19na0_2 v19na0_3 v19na0_4 v19nfa0_5 v19nfa0_6 => fl_lt (a0_0 - 1) (fun x44 => (1, x44, 10, v19na0_0, v19na0_1, v19na0_2, v19na0_3, v19na0_4, v19nfa0_5, v19nfa0_6)))) else (if a0_2 = 12 then (fl_c7 (Ff_X5_copyFrom (gIa0_3 60) (gIa0_3 61) (gIa0_3 62) (gIa0_3 63) (gIa0_3 64) (gFa0_3 24) fa1_5 (gFa0_3 25) fa1_6) (fun v19na0_0 v19na0_1 v19na0_2 v19na0_3 v19na0_4 v19nfa0_5 v19nfa0_6 => fl_lt (a0_0 - 1) (fun x44 => (1, x44, 11, v19na0_0, v19na0_1, v19na0_2, v19na0_3, v19na0_4, v19nfa0_5, v19nfa0_6)))) else (if a0_2 = 13 then (fl_c7 (Ff_X5_copyFrom (gIa0_3 65) (gIa0_3 66) (gIa0_3 67) (gIa0_3 68) (gIa0_3 69) (gFa0_3 26) fa1_5 (gFa0_3 27) fa1_6) (fun v19na0_0 v19na0_1 v19na0_2 v19na0_3 v19na0_4 v19nfa0_5 v19nfa0_6 => fl_lt (a0_0 - 1) (fun x44 => (1, x44, 12, v19na0_0, v19na0_1, v19na0_2, v19na0_3, v19na0_4, v19nfa0_5, v19nfa0_6)))) else (if a0_2 = 14 then (fl_c7 (Ff_X5_copyFrom (gIa0_3 70) (gIa0_3 71) (gIa0_3 72) (gIa0_3 73) (gIa0_3 74) (gFa0_3 28) fa1_5 (gFa0_3 29) fa1_6) (fun v19na0_0 v19na0_1 v19na0_2 v19na0_3 v19na0_4 v19nfa0_5 v19nfa0_6 => fl_lt (a0_0 - 1) (fun x44 => (1, x44, 13, v19na0_0, v19na0_1, v19na0_2, v19na0_3, v19na0_4, v19nfa0_5, v19nfa0_6)))) else (fl_c7 (Ff_X5_copyFrom (gIa0_3 75) (gIa0_3 76) (gIa0_3 77) (gIa0_3 78) (gIa0_3 79) (gFa0_3 30) fa1_5 (gFa0_3 31) fa1_6) (fun v19na0_0 v19na0_1 v19na0_2 v19na0_3 v19na0_4 v19nfa0_5 v19nfa0_6 => fl_lt (a0_0 - 1) (fun x44 => (1, x44, 14, v19na0_0, v19na0_1, v19na0_2, v19na0_3, v19na0_4, v19nfa0_5, v19nfa0_6)))))))))))))))))))

def Ff_X1_addImage (a0_1 : Int) (gIa0_4 : (Nat → Int)) (a1_0 : Int) (a1_1 : Int) (a1_2 : Int) (a1_3 : Int) (a1_4 : Int) (fa1_5 : (Nat → Int)) (gFa0_4 : (Nat → Nat → Int)) (fa1_6 : (Nat → Int)) : Int × Int × (Nat → Int) × (Nat → Nat → Int) :=
  if a0_1 < 3 then (if a0_1 = 0 then (fl_c7 (Ff_X5_copyFrom a1_0 a1_1 a1_2 a1_3 a1_4 fa1_5 (gFa0_4 0) fa1_6 (gFa0_4 1)) (fun v20na0_0 v20na0_1 v20na0_2 v20na0_3 v20na0_4 v20nfa0_5 v20nfa0_6 => (0, 1, (fl_nI [v20na0_0, v20na0_1, v20na0_2, v20na0_3, v20na0_4, (gIa0_4 5), (gIa0_4 6), (gIa0_4 7), (gIa0_4 8), (gIa0_4 9), (gIa0_4 10), (gIa0_4 11), (gIa0_4 12), (gIa0_4 13), (gIa0_4 14)]), (fl_nF [v20nfa0_5, v20nfa0_6, (gFa0_4 2), (gFa0_4 3), (gFa0_4 4), (gFa0_4 5)])))) else (if a0_1 = 1 then (fl_c7 (Ff_X5_copyFrom a1_0 a1_1 a1_2 a1_3 a1_4 fa1_5 (gFa0_4 2) fa1_6 (gFa0_4 3)) (fun v20na0_0 v20na0_1 v20na0_2 v20na0_3 v20na0_4 v20nfa0_5 v20nfa0_6 => (1, 2, (fl_nI [(gIa0_4 0), (gIa0_4 1), (gIa0_4 2), (gIa0_4 3), (gIa0_4 4), v20na0_0, v20na0_1, v20na0_2, v20na0_3, v20na0_4, (gIa0_4 10), (gIa0_4 11), (gIa0_4 12), (gIa0_4 13), (gIa0_4 14)]), (fl_nF [(gFa0_4 0), (gFa0_4 1), v20nfa0_5, v20nfa0_6, (gFa0_4 4), (gFa0_4 5)])))) else (fl_c7 (Ff_X5_copyFrom a1_0 a1_1 a1_2 a1_3 a1_4 fa1_5 (gFa0_4 4) fa1_6 (gFa0_4 5)) (fun v20na0_0 v20na0_1 v20na0_2 v20na0_3 v20na0_4 v20nfa0_5 v20nfa0_6 => (2, 3, (fl_nI [(gIa0_4 0), (gIa0_4 1), (gIa0_4 2), (gIa0_4 3), (gIa0_4 4), (gIa0_4 5), (gIa0_4 6), (gIa0_4 7), (gIa0_4 8), (gIa0_4 9), v20na0_0, v20na0_1, v20na0_2, v20na0_3, v20na0_4]), (fl_nF [(gFa0_4 0), (gFa0_4 1), (gFa0_4 2), (gFa0_4 3), v20nfa0_5, v20nfa0_6])))))) else (((-1), a0_1, gIa0_4, gFa0_4))

def Ff_X1_goBack (a1 : Int) (a0_0 : Int) (a0_1 : Int) (a2_0 : Int) (a2_1 : Int) (a2_2 : Int) (a2_3 : Int) (a2_4 : Int) (gIa0_4 : (Nat → Int)) (gFa0_4 : (Nat → Nat → Int)) (fa2_5 : (Nat → Int)) (fa2_6 : (Nat → Int)) : Int × Int × Int × Int × Int × Int × Int × (Nat → Int) × (Nat → Int) :=
  fl_lt (a0_1 - 1) (fun x7 => fl_lt (Ff_X7_within a1 0 x7) (fun r8 => if r8 = 1 then (if a1 = 0 then (fl_c7 (Ff_X5_copyFrom (gIa0_4 0) (gIa0_4 1) (gIa0_4 2) (gIa0_4 3) (gIa0_4 4) (gFa0_4 0) fa2_5 (gFa0_4 1) fa2_6) (fun v23na0_0 v23na0_1 v23na0_2 v23na0_3 v23na0_4 v23nfa0_5 v23nfa0_6 => (1, 0, v23na0_0, v23na0_1, v23na0_2, v23na0_3, v23na0_4, v23nfa0_5, v23nfa0_6))) else (if a1 = 1 then (fl_c7 (Ff_X5_copyFrom (gIa0_4 5) (gIa0_4 6) (gIa0_4 7) (gIa0_4 8) (gIa0_4 9) (gFa0_4 2) fa2_5 (gFa0_4 3) fa2_6) (fun v23na0_0 v23na0_1 v23na0_2 v23na0_3 v23na0_4 v23nfa0_5 v23nfa0_6 => (1, 0, v23na0_0, v23na0_1, v23na0_2, v23na0_3, v23na0_4, v23nfa0_5, v23nfa0_6))) else (fl_c7 (Ff_X5_copyFrom (gIa0_4 10) (gIa0_4 11) (gIa0_4 12) (gIa0_4 13) (gIa0_4 14) (gFa0_4 4) fa2_5 (gFa0_4 5) fa2_6) (fun v23na0_0 v23na0_1 v23na0_2 v23na0_3 v23na0_4 v23nfa0_5 v23nfa0_6 => (1, 0, v23na0_0, v23na0_1, v23na0_2, v23na0_3, v23na0_4, v23nfa0_5, v23nfa0_6))))) else ((0, a0_0, a2_0, a2_1, a2_2, a2_3, a2_4, fa2_5, fa2_6))))

def Ff_X7_isFigure (a1 : Int) (a0_7_0 : Int) : Int :=
  fl_lt (a0_7_0 - 1) (fun x10 => fl_lt (Ff_X7_within a1 0 x10) (fun r11 => if r11 = 1 then (1) else (0)))

def Ff_X7_hasGallery (a0_7_0 : Int) : Int :=
  if a0_7_0 ≤ 0 then (0) else (1)

def Ff_X7_troubleOfNumber (a1 : Int) (a2 : Int) (a3 : Int) (a0_7_0 : Int) : Int :=
  fl_lt (Ff_X7_hasGallery a0_7_0) (fun r1 => if r1 = 1 then (fl_lt (Ff_X7_within a1 a2 a3) (fun r12 => if r12 = 1 then (0) else (2))) else (1))

def Sf_X7_go_62_1 (a1 : Int) (a0_7_0 : Int) (a0_7_1 : Int) (a0_7_2 : Int) (a0_7_5 : Int) (a0_7_6 : Int) (a0_1_3 : Int) (fa0_7_10 : (Nat → Int)) (fa0_7_11 : (Nat → Int)) (a0_7_14_0 : Int) (a0_7_14_1 : Int) (fa0_7_14_3 : (Nat → Int)) (fa0_7_14_2 : (Nat → Int)) (v48na0_0 : Int) (v48na0_2 : Int) (v48ngIa0_3 : (Nat → Int)) (v48ngFa0_3 : (Nat → Nat → Int)) (j62l4 : Int) (j62a0_1_0 : Int) (j62a0_1_1 : Int) (j62a0_1_2 : Int) (j62a0_1_3 : Int) (j62a0_1_4 : Int) (j62a0_1_5_a : (Nat → Int)) (j62a0_1_6_a : (Nat → Int)) : Sum (Int × Int × Int × Int × Int × Int × (Nat → Int) × (Nat → Int)) (Int × Int × Int × Int × Int × Int × Int × Int × Int × (Nat → Int) × (Nat → Int) × (Nat → Nat → Int) × (Nat → Int)) :=
  if a1 ≤ j62l4 then (Sum.inr (fl_lt (fl_xor a0_1_3 (-1)) (fun x102 => fl_lt (fl_and j62a0_1_3 x102) (fun x103 => fl_c2 (Ff_X7_answered x103) (fun r104 v104na0_8 => (x103, v104na0_8, j62a0_1_0, j62a0_1_1, j62a0_1_2, j62a0_1_3, j62a0_1_4, v48na0_0, v48na0_2, v48ngIa0_3, j62a0_1_5_a, v48ngFa0_3, j62a0_1_6_a)))))) else (fl_c7 (Ff_X0_pass a0_7_0 a0_7_1 a0_7_2 a0_7_5 a0_7_6 j62a0_1_0 j62a0_1_1 j62a0_1_2 j62a0_1_3 j62a0_1_4 fa0_7_10 fa0_7_11 j62a0_1_5_a a0_7_14_0 a0_7_14_1 fa0_7_14_3 fa0_7_14_2 j62a0_1_6_a) (fun v83na1_0 v83na1_1 v83na1_2 v83na1_3 v83na1_4 v83nfa1_5 v83nfa1_6 => fl_lt (j62l4 + 1) (fun x86 => Sum.inl (x86, v83na1_0, v83na1_1, v83na1_2, v83na1_3, v83na1_4, v83nfa1_5, v83nfa1_6))))
def Ff_X7_go (a1 : Int) (a0_7_0 : Int) (a0_7_1 : Int) (a0_7_2 : Int) (a0_7_5 : Int) (a0_7_6 : Int) (a0_1_0 : Int) (a0_1_1 : Int) (a0_1_2 : Int) (a0_1_3 : Int) (a0_1_4 : Int) (a0_4_0 : Int) (a0_4_2 : Int) (gIa0_4_3 : (Nat → Int)) (fa0_1_5 : (Nat → Int)) (gFa0_4_3 : (Nat → Nat → Int)) (fa0_1_6 : (Nat → Int)) (fa0_7_10 : (Nat → Int)) (fa0_7_11 : (Nat → Int)) (a0_7_14_0 : Int) (a0_7_14_1 : Int) (fa0_7_14_3 : (Nat → Int)) (fa0_7_14_2 : (Nat → Int)) : Int × Int × Int × Int × Int × Int × Int × Int × Int × (Nat → Int) × (Nat → Int) × (Nat → Nat → Int) × (Nat → Int) :=
  fl_lt (Ff_X7_troubleOfNumber a1 1 60 a0_7_0) (fun r5 => if r5 = 0 then (fl_lt (fl_iadd a0_1_0 a1) (fun x27 => if x27 ≤ 9999 then (fl_c4 (Ff_X1_keep a0_4_0 a0_4_2 gIa0_4_3 a0_1_0 a0_1_1 a0_1_2 a0_1_3 a0_1_4 fa0_1_5 gFa0_4_3 fa0_1_6) (fun v48na0_0 v48na0_2 v48ngIa0_3 v48ngFa0_3 => fl_wh (fun t9 => Sf_X7_go_62_1 a1 a0_7_0 a0_7_1 a0_7_2 a0_7_5 a0_7_6 a0_1_3 fa0_7_10 fa0_7_11 a0_7_14_0 a0_7_14_1 fa0_7_14_3 fa0_7_14_2 v48na0_0 v48na0_2 v48ngIa0_3 v48ngFa0_3 t9.1 t9.2.1 t9.2.2.1 t9.2.2.2.1 t9.2.2.2.2.1 t9.2.2.2.2.2.1 t9.2.2.2.2.2.2.1 t9.2.2.2.2.2.2.2) (0, 0, 0, 0, 0, 0, 0, 0, 0, (fun _ => 0), (fun _ => 0), (fun _ _ => 0), (fun _ => 0)) 61 (0, a0_1_0, a0_1_1, a0_1_2, a0_1_3, a0_1_4, fa0_1_5, fa0_1_6))) else (fl_c2 (Ff_X7_refused 3) (fun r36 v36na0_8 => ((-1), v36na0_8, a0_1_0, a0_1_1, a0_1_2, a0_1_3, a0_1_4, a0_4_0, a0_4_2, gIa0_4_3, fa0_1_5, gFa0_4_3, fa0_1_6))))) else (if r5 = 1 then (fl_c2 (Ff_X7_refused 1) (fun r15 v15na0_8 => ((-1), v15na0_8, a0_1_0, a0_1_1, a0_1_2, a0_1_3, a0_1_4, a0_4_0, a0_4_2, gIa0_4_3, fa0_1_5, gFa0_4_3, fa0_1_6))) else (fl_c2 (Ff_X7_refused 2) (fun r15 v15na0_8 => ((-1), v15na0_8, a0_1_0, a0_1_1, a0_1_2, a0_1_3, a0_1_4, a0_4_0, a0_4_2, gIa0_4_3, fa0_1_5, gFa0_4_3, fa0_1_6)))))

def Ff_X7_put (a1 : Int) (a0_7_0 : Int) (a0_1_0 : Int) (a0_1_1 : Int) (a0_1_2 : Int) (a0_1_3 : Int) (a0_1_4 : Int) (fa0_1_5 : (Nat → Int)) (a0_4_0 : Int) (a0_4_2 : Int) (gIa0_4_3 : (Nat → Int)) (gFa0_4_3 : (Nat → Nat → Int)) (fa0_1_6 : (Nat → Int)) : Int × Int × (Nat → Int) × Int × Int × (Nat → Int) × (Nat → Nat → Int) :=
  fl_lt (Ff_X7_isFigure a1 a0_7_0) (fun r2 => if r2 = 1 then (fl_lt (Ff_X5_isGone a1 a0_1_3) (fun r19 => if r19 = 1 then (fl_c2 (Ff_X7_refused 5) (fun r40 v40na0_8 => ((-1), v40na0_8, fa0_1_5, a0_4_0, a0_4_2, gIa0_4_3, gFa0_4_3))) else (fl_lt (fa0_1_5 (a1.toNat)) (fun x33 => if x33 = a1 then (fl_c2 (Ff_X7_refused 5) (fun r40 v40na0_8 => ((-1), v40na0_8, fa0_1_5, a0_4_0, a0_4_2, gIa0_4_3, gFa0_4_3))) else (fl_c4 (Ff_X1_keep a0_4_0 a0_4_2 gIa0_4_3 a0_1_0 a0_1_1 a0_1_2 a0_1_3 a0_1_4 fa0_1_5 gFa0_4_3 fa0_1_6) (fun v52na0_0 v52na0_2 v52ngIa0_3 v52ngFa0_3 => fl_lt (fl_up fa0_1_5 (a1.toNat) a1) (fun f74 => fl_c2 (Ff_X7_answered x33) (fun r77 v77na0_8 => (x33, v77na0_8, f74, v52na0_0, v52na0_2, v52ngIa0_3, v52ngFa0_3))))))))) else (fl_c2 (Ff_X7_refused 1) (fun r10 v10na0_8 => ((-1), v10na0_8, fa0_1_5, a0_4_0, a0_4_2, gIa0_4_3, gFa0_4_3))))

def Ff_X7_wind (a1 : Int) (a0_7_0 : Int) (a0_1_0 : Int) (a0_1_1 : Int) (a0_1_2 : Int) (a0_1_3 : Int) (a0_1_4 : Int) (a0_4_0 : Int) (a0_4_2 : Int) (gIa0_4_3 : (Nat → Int)) (fa0_1_5 : (Nat → Int)) (gFa0_4_3 : (Nat → Nat → Int)) (fa0_1_6 : (Nat → Int)) : Int × Int × Int × Int × Int × Int × (Nat → Int) × (Nat → Nat → Int) :=
  fl_lt (Ff_X7_isFigure a1 a0_7_0) (fun r2 => if r2 = 1 then (if a0_1_1 = a1 then (if a0_1_2 = 0 then (fl_c2 (Ff_X7_refused 5) (fun r37 v37na0_8 => ((-1), v37na0_8, a0_1_1, a0_1_2, a0_4_0, a0_4_2, gIa0_4_3, gFa0_4_3))) else (fl_c4 (Ff_X1_keep a0_4_0 a0_4_2 gIa0_4_3 a0_1_0 a0_1_1 a0_1_2 a0_1_3 a0_1_4 fa0_1_5 gFa0_4_3 fa0_1_6) (fun v49na0_0 v49na0_2 v49ngIa0_3 v49ngFa0_3 => fl_c2 (Ff_X5_startTurn a1) (fun v65na0_1 v65na0_2 => fl_c2 (Ff_X7_answered a0_1_1) (fun r70 v70na0_8 => (a0_1_1, v70na0_8, v65na0_1, v65na0_2, v49na0_0, v49na0_2, v49ngIa0_3, v49ngFa0_3)))))) else (fl_c4 (Ff_X1_keep a0_4_0 a0_4_2 gIa0_4_3 a0_1_0 a0_1_1 a0_1_2 a0_1_3 a0_1_4 fa0_1_5 gFa0_4_3 fa0_1_6) (fun v49na0_0 v49na0_2 v49ngIa0_3 v49ngFa0_3 => fl_c2 (Ff_X5_startTurn a1) (fun v65na0_1 v65na0_2 => fl_c2 (Ff_X7_answered a0_1_1) (fun r70 v70na0_8 => (a0_1_1, v70na0_8, v65na0_1, v65na0_2, v49na0_0, v49na0_2, v49ngIa0_3, v49ngFa0_3)))))) else (fl_c2 (Ff_X7_refused 1) (fun r10 v10na0_8 => ((-1), v10na0_8, a0_1_1, a0_1_2, a0_4_0, a0_4_2, gIa0_4_3, gFa0_4_3))))

def Ff_X7_undo (a0_4_0 : Int) (a0_4_2 : Int) (a0_1_0 : Int) (a0_1_1 : Int) (a0_1_2 : Int) (a0_1_3 : Int) (a0_1_4 : Int) (gIa0_4_3 : (Nat → Int)) (gFa0_4_3 : (Nat → Nat → Int)) (fa0_1_5 : (Nat → Int)) (fa0_1_6 : (Nat → Int)) : Int × Int × Int × Int × Int × Int × Int × Int × Int × (Nat → Int) × (Nat → Int) :=
  fl_c10 (Ff_X1_takeLatest a0_4_0 a0_4_2 a0_1_0 a0_1_1 a0_1_2 a0_1_3 a0_1_4 gIa0_4_3 gFa0_4_3 fa0_1_5 fa0_1_6) (fun r8 v8na0_0 v8na0_2 v8na1_0 v8na1_1 v8na1_2 v8na1_3 v8na1_4 v8nfa1_5 v8nfa1_6 => if r8 = 1 then ((1, 0, v8na0_0, v8na0_2, v8na1_0, v8na1_1, v8na1_2, v8na1_3, v8na1_4, v8nfa1_5, v8nfa1_6)) else ((0, 6, v8na0_0, v8na0_2, v8na1_0, v8na1_1, v8na1_2, v8na1_3, v8na1_4, v8nfa1_5, v8nfa1_6)))

def Ff_X7_image (a0_7_0 : Int) (a0_4_1 : Int) (gIa0_4_4 : (Nat → Int)) (a0_1_0 : Int) (a0_1_1 : Int) (a0_1_2 : Int) (a0_1_3 : Int) (a0_1_4 : Int) (fa0_1_5 : (Nat → Int)) (gFa0_4_4 : (Nat → Nat → Int)) (fa0_1_6 : (Nat → Int)) : Int × Int × Int × (Nat → Int) × (Nat → Nat → Int) :=
  fl_lt (Ff_X7_hasGallery a0_7_0) (fun r1 => if r1 = 1 then (if a0_4_1 < 3 then (fl_c4 (Ff_X1_addImage a0_4_1 gIa0_4_4 a0_1_0 a0_1_1 a0_1_2 a0_1_3 a0_1_4 fa0_1_5 gFa0_4_4 fa0_1_6) (fun r39 v39na0_1 v39ngIa0_4 v39ngFa0_4 => if r39 = 2 then (fl_c2 (Ff_X7_answered 2) (fun r42 v42na0_8 => (2, v42na0_8, v39na0_1, v39ngIa0_4, v39ngFa0_4))) else (if r39 = 1 then (fl_c2 (Ff_X7_answered 1) (fun r42 v42na0_8 => (1, v42na0_8, v39na0_1, v39ngIa0_4, v39ngFa0_4))) else (if r39 = 0 then (fl_c2 (Ff_X7_answered 0) (fun r42 v42na0_8 => (0, v42na0_8, v39na0_1, v39ngIa0_4, v39ngFa0_4))) else (fl_c2 (Ff_X7_answered (-1)) (fun r42 v42na0_8 => ((-1), v42na0_8, v39na0_1, v39ngIa0_4, v39ngFa0_4))))))) else (fl_c2 (Ff_X7_refused 3) (fun r26 v26na0_8 => ((-1), v26na0_8, a0_4_1, gIa0_4_4, gFa0_4_4)))) else (fl_c2 (Ff_X7_refused 1) (fun r9 v9na0_8 => ((-1), v9na0_8, a0_4_1, gIa0_4_4, gFa0_4_4))))

def Ff_X7_back (a1 : Int) (a0_4_0 : Int) (a0_4_1 : Int) (a0_1_0 : Int) (a0_1_1 : Int) (a0_1_2 : Int) (a0_1_3 : Int) (a0_1_4 : Int) (gIa0_4_4 : (Nat → Int)) (gFa0_4_4 : (Nat → Nat → Int)) (fa0_1_5 : (Nat → Int)) (fa0_1_6 : (Nat → Int)) : Int × Int × Int × Int × Int × Int × Int × Int × (Nat → Int) × (Nat → Int) :=
  fl_c9 (Ff_X1_goBack a1 a0_4_0 a0_4_1 a0_1_0 a0_1_1 a0_1_2 a0_1_3 a0_1_4 gIa0_4_4 gFa0_4_4 fa0_1_5 fa0_1_6) (fun r9 v9na0_0 v9na2_0 v9na2_1 v9na2_2 v9na2_3 v9na2_4 v9nfa2_5 v9nfa2_6 => if r9 = 1 then ((1, 0, v9na0_0, v9na2_0, v9na2_1, v9na2_2, v9na2_3, v9na2_4, v9nfa2_5, v9nfa2_6)) else ((0, 1, v9na0_0, v9na2_0, v9na2_1, v9na2_2, v9na2_3, v9na2_4, v9nfa2_5, v9nfa2_6)))

def Sf_X8_note_11_1 (a0_21 : Int) (fa0_17 : (Nat → Int)) (j11l1 : Int) (j11a0_19_a : (Nat → Int)) : Sum (Int × (Nat → Int)) (Int × (Nat → Int)) :=
  if 345 ≤ j11l1 then (Sum.inr (fl_lt (a0_21 - 1) (fun x45 => fl_lt (23 * x45) (fun x64 => fl_lt (va_cpy fa0_17 j11a0_19_a (0) (x64.toNat) 23) (fun v67nfa3 => fl_lt (x45 + 1) (fun x76 => (x76, v67nfa3))))))) else (fl_lt (j11l1 + 23) (fun x30 => fl_lt (j11a0_19_a (x30.toNat)) (fun x31 => fl_lt (fl_up j11a0_19_a (j11l1.toNat) x31) (fun f32 => fl_lt (j11l1 + 1) (fun x33 => Sum.inl (x33, f32))))))
def Ff_X8_note (a0_21 : Int) (fa0_17 : (Nat → Int)) (fa0_19 : (Nat → Int)) : Int × (Nat → Int) :=
  if a0_21 = 16 then (fl_wh (fun t9 => Sf_X8_note_11_1 a0_21 fa0_17 t9.1 t9.2) (0, (fun _ => 0)) 346 (0, fa0_19)) else (fl_lt (23 * a0_21) (fun x64 => fl_lt (va_cpy fa0_17 fa0_19 (0) (x64.toNat) 23) (fun v67nfa3 => fl_lt (a0_21 + 1) (fun x76 => (x76, v67nfa3)))))

def Ff_X8_isFigure (a1 : Int) (a0_14 : Int) (fa0_15 : (Nat → Int)) : Int :=
  if a0_14 = 0 then (0) else (fl_lt (fa0_15 (0)) (fun x14 => fl_lt (x14 - 1) (fun x16 => fl_lt (Ff_X8_in a1 0 x16) (fun r17 => if r17 = 1 then (1) else (0)))))

def Ff_X8_why (a1 : Int) (a2 : Int) : Int :=
  if a1 = 0 then (1) else (if a2 = 0 then (2) else (0))

def Sf_X8_go_70_1 (a1 : Int) (fa0_15 : (Nat → Int)) (v1na0_0 : Int) (v1na0_11 : Int) (v52na0_21 : Int) (v52nfa0_19 : (Nat → Int)) (v56na0_25 : Int) (v56nfa0_23 : (Nat → Int)) (v56nfa0_24 : (Nat → Int)) (x65 : Int) (j70l4 : Int) (j70a0_26 : Int) (j70a0_27 : Int) (j70a0_28 : Int) (j70a0_17_a : (Nat → Int)) : Sum (Int × Int × Int × Int × (Nat → Int)) (Int × Int × Int × Int × Int × Int × Int × Int × (Nat → Int) × (Nat → Int) × (Nat → Int) × (Nat → Int)) :=
  if a1 ≤ j70l4 then (Sum.inr (fl_lt (j70a0_17_a (18)) (fun x96 => fl_lt (fl_xor x65 (-1)) (fun x99 => fl_lt (fl_and x96 x99) (fun x100 => (x100, v1na0_0, v1na0_11, v52na0_21, v56na0_25, j70a0_26, j70a0_27, j70a0_28, j70a0_17_a, v52nfa0_19, v56nfa0_23, v56nfa0_24)))))) else (fl_c4 (Ff_X8_minuteOn v56na0_25 j70a0_17_a fa0_15 v56nfa0_24 v56nfa0_23) (fun v81na0_26 v81na0_27 v81na0_28 v81nfa1 => fl_lt (j70l4 + 1) (fun x84 => Sum.inl (x84, v81na0_26, v81na0_27, v81na0_28, v81nfa1))))
def Gf_X8_go_41_1 (a1 : Int) (a0_21 : Int) (a0_25 : Int) (a0_26 : Int) (a0_27 : Int) (a0_28 : Int) (fa0_17 : (Nat → Int)) (fa0_19 : (Nat → Int)) (fa0_15 : (Nat → Int)) (fa0_23 : (Nat → Int)) (fa0_24 : (Nat → Int)) (v1na0_0 : Int) (v1na0_11 : Int) (j41l2 : Int) : Int × Int × Int × Int × Int × Int × Int × Int × (Nat → Int) × (Nat → Int) × (Nat → Int) × (Nat → Int) :=
  if j41l2 = 0 then (fl_c2 (Ff_X8_note a0_21 fa0_17 fa0_19) (fun v52na0_21 v52nfa0_19 => fl_c3 (Ff_X8_watchAsTold fa0_15 fa0_23 fa0_24) (fun v56na0_25 v56nfa0_23 v56nfa0_24 => fl_lt (fa0_17 (18)) (fun x65 => fl_wh (fun t9 => Sf_X8_go_70_1 a1 fa0_15 v1na0_0 v1na0_11 v52na0_21 v52nfa0_19 v56na0_25 v56nfa0_23 v56nfa0_24 x65 t9.1 t9.2.1 t9.2.2.1 t9.2.2.2.1 t9.2.2.2.2) (0, 0, 0, 0, 0, 0, 0, 0, (fun _ => 0), (fun _ => 0), (fun _ => 0), (fun _ => 0)) 2147483648 (0, a0_26, a0_27, a0_28, fa0_17))))) else (fl_c2 (Ff_X8_no j41l2) (fun r47 v47na0_11 => ((-1), v1na0_0, v47na0_11, a0_21, a0_25, a0_26, a0_27, a0_28, fa0_17, fa0_19, fa0_23, fa0_24)))
def Sf_X8_go_70_2 (a1 : Int) (fa0_15 : (Nat → Int)) (v1na0_0 : Int) (v1na0_11 : Int) (v52na0_21 : Int) (v52nfa0_19 : (Nat → Int)) (v56na0_25 : Int) (v56nfa0_23 : (Nat → Int)) (v56nfa0_24 : (Nat → Int)) (x65 : Int) (j70l4 : Int) (j70a0_26 : Int) (j70a0_27 : Int) (j70a0_28 : Int) (j70a0_17_a : (Nat → Int)) : Sum (Int × Int × Int × Int × (Nat → Int)) (Int × Int × Int × Int × Int × Int × Int × Int × (Nat → Int) × (Nat → Int) × (Nat → Int) × (Nat → Int)) :=
  if a1 ≤ j70l4 then (Sum.inr (fl_lt (j70a0_17_a (18)) (fun x96 => fl_lt (fl_xor x65 (-1)) (fun x99 => fl_lt (fl_and x96 x99) (fun x100 => (x100, v1na0_0, v1na0_11, v52na0_21, v56na0_25, j70a0_26, j70a0_27, j70a0_28, j70a0_17_a, v52nfa0_19, v56nfa0_23, v56nfa0_24)))))) else (fl_c4 (Ff_X8_minuteOn v56na0_25 j70a0_17_a fa0_15 v56nfa0_24 v56nfa0_23) (fun v81na0_26 v81na0_27 v81na0_28 v81nfa1 => fl_lt (j70l4 + 1) (fun x84 => Sum.inl (x84, v81na0_26, v81na0_27, v81na0_28, v81nfa1))))
def Gf_X8_go_41_2 (a1 : Int) (a0_21 : Int) (a0_25 : Int) (a0_26 : Int) (a0_27 : Int) (a0_28 : Int) (fa0_17 : (Nat → Int)) (fa0_19 : (Nat → Int)) (fa0_15 : (Nat → Int)) (fa0_23 : (Nat → Int)) (fa0_24 : (Nat → Int)) (v1na0_0 : Int) (v1na0_11 : Int) (j41l2 : Int) : Int × Int × Int × Int × Int × Int × Int × Int × (Nat → Int) × (Nat → Int) × (Nat → Int) × (Nat → Int) :=
  if j41l2 = 0 then (fl_c2 (Ff_X8_note a0_21 fa0_17 fa0_19) (fun v52na0_21 v52nfa0_19 => fl_c3 (Ff_X8_watchAsTold fa0_15 fa0_23 fa0_24) (fun v56na0_25 v56nfa0_23 v56nfa0_24 => fl_lt (fa0_17 (18)) (fun x65 => fl_wh (fun t9 => Sf_X8_go_70_2 a1 fa0_15 v1na0_0 v1na0_11 v52na0_21 v52nfa0_19 v56na0_25 v56nfa0_23 v56nfa0_24 x65 t9.1 t9.2.1 t9.2.2.1 t9.2.2.2.1 t9.2.2.2.2) (0, 0, 0, 0, 0, 0, 0, 0, (fun _ => 0), (fun _ => 0), (fun _ => 0), (fun _ => 0)) 2147483648 (0, a0_26, a0_27, a0_28, fa0_17))))) else (fl_c2 (Ff_X8_no j41l2) (fun r47 v47na0_11 => ((-1), v1na0_0, v47na0_11, a0_21, a0_25, a0_26, a0_27, a0_28, fa0_17, fa0_19, fa0_23, fa0_24)))
def Ff_X8_go (a1 : Int) (a0_14 : Int) (a0_21 : Int) (a0_25 : Int) (a0_26 : Int) (a0_27 : Int) (a0_28 : Int) (fa0_17 : (Nat → Int)) (fa0_19 : (Nat → Int)) (fa0_15 : (Nat → Int)) (fa0_23 : (Nat → Int)) (fa0_24 : (Nat → Int)) : Int × Int × Int × Int × Int × Int × Int × Int × (Nat → Int) × (Nat → Int) × (Nat → Int) × (Nat → Int) :=
  fl_c2 (Ff_X8_good) (fun v1na0_0 v1na0_11 => fl_lt (Ff_X8_in a1 1 60) (fun r13 => if r13 = 1 then (fl_lt (Ff_X8_why a0_14 1) (fun r16 => if r16 = 2 then ((0, 0, 0, 0, 0, 0, 0, 0, (fun _ => 0), (fun _ => 0), (fun _ => 0), (fun _ => 0))) else (if r16 = 1 then ((0, 0, 0, 0, 0, 0, 0, 0, (fun _ => 0), (fun _ => 0), (fun _ => 0), (fun _ => 0))) else (fl_lt (fa0_17 (21)) (fun x30 => fl_lt (fl_iadd x30 a1) (fun x32 => if x32 ≤ 9999 then (Gf_X8_go_41_1 a1 a0_21 a0_25 a0_26 a0_27 a0_28 fa0_17 fa0_19 fa0_15 fa0_23 fa0_24 v1na0_0 v1na0_11 0) else (Gf_X8_go_41_1 a1 a0_21 a0_25 a0_26 a0_27 a0_28 fa0_17 fa0_19 fa0_15 fa0_23 fa0_24 v1na0_0 v1na0_11 3))))))) else (fl_lt (Ff_X8_why a0_14 0) (fun r16 => if r16 = 2 then (Gf_X8_go_41_2 a1 a0_21 a0_25 a0_26 a0_27 a0_28 fa0_17 fa0_19 fa0_15 fa0_23 fa0_24 v1na0_0 v1na0_11 2) else (if r16 = 1 then ((0, 0, 0, 0, 0, 0, 0, 0, (fun _ => 0), (fun _ => 0), (fun _ => 0), (fun _ => 0))) else ((0, 0, 0, 0, 0, 0, 0, 0, (fun _ => 0), (fun _ => 0), (fun _ => 0), (fun _ => 0))))))))

def Ff_X8_put (a1 : Int) (a0_14 : Int) (a0_21 : Int) (fa0_15 : (Nat → Int)) (fa0_17 : (Nat → Int)) (fa0_19 : (Nat → Int)) : Int × Int × Int × Int × (Nat → Int) × (Nat → Int) :=
  fl_c2 (Ff_X8_good) (fun v1na0_0 v1na0_11 => fl_lt (Ff_X8_isFigure a1 a0_14 fa0_15) (fun r6 => if r6 = 1 then (fl_lt (fa0_17 (18)) (fun x24 => fl_lt (Ff_X8_hasBit x24 a1) (fun r26 => if r26 = 1 then (fl_c2 (Ff_X8_no 5) (fun r44 v44na0_11 => ((-1), v1na0_0, v44na0_11, a0_21, fa0_17, fa0_19))) else (fl_lt (fa0_17 (a1.toNat)) (fun x37 => if x37 = a1 then (fl_c2 (Ff_X8_no 5) (fun r44 v44na0_11 => ((-1), v1na0_0, v44na0_11, a0_21, fa0_17, fa0_19))) else (fl_c2 (Ff_X8_note a0_21 fa0_17 fa0_19) (fun v49na0_21 v49nfa0_19 => fl_lt (fl_up fa0_17 (a1.toNat) a1) (fun f65 => (x37, v1na0_0, v1na0_11, v49na0_21, f65, v49nfa0_19))))))))) else (fl_c2 (Ff_X8_no 1) (fun r14 v14na0_11 => ((-1), v1na0_0, v14na0_11, a0_21, fa0_17, fa0_19)))))

def Ff_X8_wind (a1 : Int) (a0_14 : Int) (a0_21 : Int) (fa0_15 : (Nat → Int)) (fa0_17 : (Nat → Int)) (fa0_19 : (Nat → Int)) : Int × Int × Int × Int × (Nat → Int) × (Nat → Int) :=
  fl_c2 (Ff_X8_good) (fun v1na0_0 v1na0_11 => fl_lt (Ff_X8_isFigure a1 a0_14 fa0_15) (fun r6 => if r6 = 1 then (fl_lt (fa0_17 (19)) (fun x24 => if x24 = a1 then (fl_lt (fa0_17 (20)) (fun x35 => if x35 = 0 then (fl_c2 (Ff_X8_no 5) (fun r41 v41na0_11 => ((-1), v1na0_0, v41na0_11, a0_21, fa0_17, fa0_19))) else (fl_c2 (Ff_X8_note a0_21 fa0_17 fa0_19) (fun v46na0_21 v46nfa0_19 => fl_lt (fl_up fa0_17 (19) a1) (fun f64 => fl_lt (fl_up f64 (20) 0) (fun f72 => (x24, v1na0_0, v1na0_11, v46na0_21, f72, v46nfa0_19))))))) else (fl_c2 (Ff_X8_note a0_21 fa0_17 fa0_19) (fun v46na0_21 v46nfa0_19 => fl_lt (fl_up fa0_17 (19) a1) (fun f64 => fl_lt (fl_up f64 (20) 0) (fun f72 => (x24, v1na0_0, v1na0_11, v46na0_21, f72, v46nfa0_19))))))) else (fl_c2 (Ff_X8_no 1) (fun r14 v14na0_11 => ((-1), v1na0_0, v14na0_11, a0_21, fa0_17, fa0_19)))))

def Ff_X8_undo (a0_21 : Int) (fa0_19 : (Nat → Int)) (fa0_17 : (Nat → Int)) : Int × Int × Int × Int × (Nat → Int) :=
  fl_c2 (Ff_X8_good) (fun v1na0_0 v1na0_11 => if a0_21 = 0 then (fl_c2 (Ff_X8_isNot 6) (fun r14 v14na0_11 => (0, v1na0_0, v14na0_11, a0_21, fa0_17))) else (fl_lt (a0_21 - 1) (fun x24 => fl_lt (23 * x24) (fun x38 => fl_lt (va_cpy fa0_19 fa0_17 (x38.toNat) (0) 23) (fun v46nfa3 => (1, v1na0_0, v1na0_11, x24, v46nfa3))))))

def Ff_X8_image (a0_14 : Int) (a0_22 : Int) (fa0_17 : (Nat → Int)) (fa0_20 : (Nat → Int)) : Int × Int × Int × Int × (Nat → Int) :=
  fl_c2 (Ff_X8_good) (fun v1na0_0 v1na0_11 => if a0_14 = 0 then ((0, 0, 0, 0, (fun _ => 0))) else (if a0_22 = 3 then (fl_c2 (Ff_X8_no 3) (fun r27 v27na0_11 => ((-1), v1na0_0, v27na0_11, a0_22, fa0_20))) else (fl_lt (23 * a0_22) (fun x46 => fl_lt (va_cpy fa0_17 fa0_20 (0) (x46.toNat) 23) (fun v49nfa3 => fl_lt (a0_22 + 1) (fun x58 => fl_lt (x58 - 1) (fun x67 => (x67, v1na0_0, v1na0_11, x58, v49nfa3))))))))

def Ff_X8_back (a1 : Int) (a0_21 : Int) (a0_22 : Int) (fa0_20 : (Nat → Int)) (fa0_17 : (Nat → Int)) : Int × Int × Int × Int × (Nat → Int) :=
  fl_c2 (Ff_X8_good) (fun v1na0_0 v1na0_11 => fl_lt (a0_22 - 1) (fun x11 => fl_lt (Ff_X8_in a1 0 x11) (fun r12 => if r12 = 1 then (fl_lt (23 * a1) (fun x31 => fl_lt (va_cpy fa0_20 fa0_17 (x31.toNat) (0) 23) (fun v39nfa3 => (1, v1na0_0, v1na0_11, 0, v39nfa3)))) else (fl_c2 (Ff_X8_isNot 1) (fun r20 v20na0_11 => (0, v1na0_0, v20na0_11, a0_21, fa0_17))))))

def Gf_X8_led_55_1 : Int × Int :=
  (0, 1)
def Gf_X8_led_49_1 (j4l3 : Int) (j49l2 : Int) : Sum (Int × Int) (Int × Int) :=
  fl_lt (j4l3 + 1) (fun x49 => Sum.inl (x49, j49l2))
def Sf_X8_led_4_1 (a1 : Int) (a0_14 : Int) (fa0_15 : (Nat → Int)) (fa0_17 : (Nat → Int)) (j4l3 : Int) (j4l2 : Int) : Sum (Int × Int) (Int × Int) :=
  if a0_14 = 0 then ((Sum.inr (0, 0))) else (fl_lt (fa0_15 (0)) (fun x17 => if x17 ≤ j4l3 then (Sum.inr (Gf_X8_led_55_1 )) else (fl_lt (fa0_17 (j4l3.toNat)) (fun x26 => if x26 = j4l3 then (Gf_X8_led_49_1 j4l3 j4l2) else (if j4l2 = a1 then (Sum.inr ((j4l3, 0))) else (fl_lt (fl_iadd j4l2 1) (fun x46 => Gf_X8_led_49_1 j4l3 x46)))))))
def Ff_X8_led (a1 : Int) (a0_14 : Int) (fa0_15 : (Nat → Int)) (fa0_17 : (Nat → Int)) : Int × Int :=
  fl_wh (fun t9 => Sf_X8_led_4_1 a1 a0_14 fa0_15 fa0_17 t9.1 t9.2) (0, 0) 10 (0, 0)

def Ff_X8_thrown (a0_0 : Int) : Int :=
  a0_0

def Gf0_X8_led_55_1 : Int × Int :=
  (0, 1)
def Ff0_X8_led (a0_14 : Int) : Int × Int :=
  if a0_14 = 0 then (Gf0_X8_led_55_1 ) else ((0, 0))
end P09224952_defsF
section P092249600_rs1
section RSA
/-- a bit set: here and there -/
theorem rs_hb (x k : Int) : Ff_X8_hasBit x k = Ff_X7_hasBit x k := rfl
theorem rs_hb01 (x k : Int) : Ff_X7_hasBit x k = 0 ∨ Ff_X7_hasBit x k = 1 := by
  unfold Ff_X7_hasBit
  rw [fl_lt_eq rfl, fl_lt_eq rfl]
  split
  · exact Or.inr rfl
  · exact Or.inl rfl
theorem rs_bit {b f : Int} (h0 : 0 ≤ b) (h1 : b ≤ 511) (f0 : 0 ≤ f) (f8 : f ≤ 8) : (0 ≤ fl_or b (fl_shl 1 f) ∧ fl_or b (fl_shl 1 f) ≤ 511) ∧ ∀ g : Int, 0 ≤ g → g ≤ 8 → (Ff_X7_hasBit (fl_or b (fl_shl 1 f)) g = 1 ↔ (Ff_X7_hasBit b g = 1 ∨ g = f)) := by
  have h := rp_bits ⟨b.toNat, by omega⟩ ⟨f.toNat, by omega⟩
  simp only [Int.toNat_of_nonneg h0, Int.toNat_of_nonneg f0] at h
  obtain ⟨a1, a2, a3⟩ := h
  clear a2
  refine ⟨a1, fun g g0 g8 => ?_⟩
  have hg := a3 ⟨g.toNat, by omega⟩
  simp only [Int.toNat_of_nonneg g0] at hg
  rw [hg]
  constructor
  · rintro (q | q)
    · exact Or.inl q
    · exact Or.inr (by omega)
  · rintro (q | q)
    · exact Or.inl q
    · exact Or.inr (by omega)
/-- where a watcher is: here and there -/
theorem rs_at (w mi : Int) (f t : Nat → Int) : Ff_X8_watcherAt w mi t f = Ff_X6_placeOf w mi t f := by
  unfold Ff_X8_watcherAt Ff_X6_placeOf
  simp only [fl_lt]
  generalize t w.toNat = a
  generalize f w.toNat = b
  by_cases h : a ≤ b
  · by_cases h2 : a = b
    · subst h2
      rw [if_pos (by omega), if_pos (by omega), if_pos h, if_neg (by omega)]
    · have e : -(a - b) = b - a := by omega
      have h3 : ¬ (0 ≤ a - b) := by omega
      have h4 : ¬ (b - a = 0) := by omega
      have h5 : 0 < b - a := by omega
      rw [e]
      simp only [h, h3, h4, h5, reduceIte]
      by_cases h6 : fl_rem mi (2 * (b - a)) ≤ b - a
      · rw [if_pos h6, if_neg (by omega)]
      · rw [if_neg h6, if_pos (by omega)]
  · have h3 : 0 ≤ a - b := by omega
    have h4 : ¬ (a - b = 0) := by omega
    have h5 : 0 < a - b := by omega
    simp only [h, h3, h4, h5, reduceIte]
    by_cases h6 : fl_rem mi (2 * (a - b)) ≤ a - b
    · rw [if_pos h6, if_neg (by omega)]
    · rw [if_neg h6, if_pos (by omega)]
theorem rs_irem {x y : Int} (h0 : 0 ≤ x) (h1 : x ≤ 2147483647) (h2 : 0 < y) (h3 : y ≤ 2147483647) : fl_rem x y = x % y := by
  have e1 := rp_ofi (x := x) (by omega) h1
  have e2 := rp_ofi (x := y) (by omega) h3
  have q := (ai_rem2 (x := Int32.ofInt x) (y := Int32.ofInt y) rfl (by rw [e1]; exact h0) (by rw [e2]; exact h2) (Int.le_refl _)).1
  rw [e1, e2] at q
  exact q
theorem rs_at8 {w mi : Int} {f t : Nat → Int} (h0 : 0 ≤ mi) (h1 : mi ≤ 2147483647) (hf : 0 ≤ f w.toNat ∧ f w.toNat ≤ 8) (ht : 0 ≤ t w.toNat ∧ t w.toNat ≤ 8) : 0 ≤ Ff_X6_placeOf w mi t f ∧ Ff_X6_placeOf w mi t f ≤ 8 := by
  unfold Ff_X6_placeOf
  simp only [fl_lt]
  generalize t w.toNat = a at ht ⊢
  generalize f w.toNat = b at hf ⊢
  by_cases h : a ≤ b
  · rw [if_pos h]
    by_cases h5 : 0 < b - a
    · rw [if_pos h5, rs_irem h0 h1 (by omega) (by omega)]
      have m0 := Int.emod_nonneg mi (show 2 * (b - a) ≠ 0 by omega)
      have m1 := Int.emod_lt_of_pos mi (show 0 < 2 * (b - a) by omega)
      generalize mi % (2 * (b - a)) = k at m0 m1 ⊢
      by_cases h6 : b - a < k
      · rw [if_pos h6, rp_isub (by omega) (by omega) (by omega) (by omega) (by omega) (by omega)]; omega
      · rw [if_neg h6, rp_isub (by omega) (by omega) (by omega) (by omega) (by omega) (by omega)]; omega
    · rw [if_neg h5]; omega
  · rw [if_neg h, if_pos (by omega), rs_irem h0 h1 (by omega) (by omega)]
    have m0 := Int.emod_nonneg mi (show 2 * (a - b) ≠ 0 by omega)
    have m1 := Int.emod_lt_of_pos mi (show 0 < 2 * (a - b) by omega)
    generalize mi % (2 * (a - b)) = k at m0 m1 ⊢
    by_cases h6 : a - b < k
    · rw [if_pos h6]; omega
    · rw [if_neg h6]; omega
/-- the places of watchers in a minute, as bits -/
theorem rs_pi {mi c : Int} {t f : Nat → Int} (hp : ∀ w : Nat, (w : Int) < c → 0 ≤ Ff_X6_placeOf (w : Int) mi t f ∧ Ff_X6_placeOf (w : Int) mi t f ≤ 8) :
    ∀ (m : Nat) (j b : Int), c + 1 - j ≤ (m : Int) → 0 ≤ j → j ≤ c → 0 ≤ b → b ≤ 511 →
    ∃ B, fl_wh (fun t9 : Int × Int => Sf_X6_placesIn_7_1 mi c t f t9.1 t9.2) 0 m (j, b) = B ∧ 0 ≤ B ∧ B ≤ 511 ∧ ∀ p : Int, 0 ≤ p → p ≤ 8 → (Ff_X7_hasBit B p = 1 ↔ (Ff_X7_hasBit b p = 1 ∨ ∃ w : Nat, j ≤ (w : Int) ∧ (w : Int) < c ∧ Ff_X6_placeOf (w : Int) mi t f = p)) := by
  intro m
  induction m with
  | zero => intro j b h1 h2 h3; omega
  | succ m ih =>
    intro j b h1 h2 h3 h4 h5
    by_cases hj : c ≤ j
    · refine ⟨b, fl_wh_r (step := fun t9 : Int × Int => Sf_X6_placesIn_7_1 mi c t f t9.1 t9.2) (s := (j, b)) ?_, h4, h5, ?_⟩
      · show Sf_X6_placesIn_7_1 mi c t f j b = .inr b
        unfold Sf_X6_placesIn_7_1
        rw [if_pos hj]
      · intro p _ _
        constructor
        · exact Or.inl
        · rintro (h | ⟨w, a, b', _⟩)
          · exact h
          · omega
    · have hw := hp j.toNat (by omega)
      rw [Int.toNat_of_nonneg h2] at hw
      obtain ⟨⟨k1, k2⟩, k3⟩ := rs_bit h4 h5 hw.1 hw.2
      have st : Sf_X6_placesIn_7_1 mi c t f j b = .inl (j + 1, fl_or b (fl_shl 1 (Ff_X6_placeOf j mi t f))) := by
        unfold Sf_X6_placesIn_7_1
        rw [if_neg hj]; rfl
      obtain ⟨B, e1, e2, e3, e4⟩ := ih (j + 1) _ (by omega) (by omega) (by omega) k1 k2
      refine ⟨B, (fl_wh_l (step := fun t9 : Int × Int => Sf_X6_placesIn_7_1 mi c t f t9.1 t9.2) (s := (j, b)) st).trans e1, e2, e3, fun p p0 p8 => ?_⟩
      rw [e4 p p0 p8, k3 p p0 p8]
      constructor
      · rintro ((h | h) | ⟨w, w1, w2, w3⟩)
        · exact Or.inl h
        · exact Or.inr ⟨j.toNat, by omega, by omega, by rw [Int.toNat_of_nonneg h2]; exact h.symm⟩
        · exact Or.inr ⟨w, by omega, w2, w3⟩
      · rintro (h | ⟨w, w1, w2, w3⟩)
        · exact Or.inl (Or.inl h)
        · by_cases q : (w : Int) = j
          · exact Or.inl (Or.inr (by rw [← w3, q]))
          · exact Or.inr ⟨w, by omega, w2, w3⟩
theorem rs_iw {p mi c : Int} {r t f : Nat → Int} (hc : r 5 = c) : ∀ (m : Nat) (j : Int), c + 1 - j ≤ (m : Int) → 0 ≤ j → j ≤ c →
    (fl_wh (Sf_X8_isWatched_15_1 p mi r t f) 0 m j = 0 ∨ fl_wh (Sf_X8_isWatched_15_1 p mi r t f) 0 m j = 1) ∧ (fl_wh (Sf_X8_isWatched_15_1 p mi r t f) 0 m j = 1 ↔ ∃ w : Nat, j ≤ (w : Int) ∧ (w : Int) < c ∧ Ff_X6_placeOf (w : Int) mi t f = p) := by
  intro m
  induction m with
  | zero => intro j h1 h2 h3; omega
  | succ m ih =>
    intro j h1 h2 h3
    by_cases hj : c ≤ j
    · have st : Sf_X8_isWatched_15_1 p mi r t f j = .inr 0 := by
        unfold Sf_X8_isWatched_15_1
        rw [hc, fl_lt_eq rfl, if_pos hj]
      rw [fl_wh_r (step := Sf_X8_isWatched_15_1 p mi r t f) (s := j) st]
      refine ⟨Or.inl rfl, ⟨fun h => absurd h (by decide), ?_⟩⟩
      rintro ⟨w, a, b, _⟩
      omega
    · by_cases hw : Ff_X6_placeOf j mi t f = p
      · have st : Sf_X8_isWatched_15_1 p mi r t f j = .inr 1 := by
          unfold Sf_X8_isWatched_15_1
          rw [hc, fl_lt_eq rfl, if_neg hj, rs_at, fl_lt_eq rfl, if_pos hw]
        rw [fl_wh_r (step := Sf_X8_isWatched_15_1 p mi r t f) (s := j) st]
        refine ⟨Or.inr rfl, ⟨fun _ => ⟨j.toNat, by omega, by omega, by rw [Int.toNat_of_nonneg h2]; exact hw⟩, fun _ => rfl⟩⟩
      · have st : Sf_X8_isWatched_15_1 p mi r t f j = .inl (j + 1) := by
          unfold Sf_X8_isWatched_15_1
          rw [hc, fl_lt_eq rfl, if_neg hj, rs_at, fl_lt_eq rfl, if_neg hw]; rfl
        rw [fl_wh_l (step := Sf_X8_isWatched_15_1 p mi r t f) (s := j) st]
        obtain ⟨i1, i2⟩ := ih (j + 1) (by omega) (by omega) (by omega)
        refine ⟨i1, i2.trans ⟨?_, ?_⟩⟩
        · rintro ⟨w, a, b, d⟩
          exact ⟨w, by omega, b, d⟩
        · rintro ⟨w, a, b, d⟩
          refine ⟨w, ?_, b, d⟩
          by_cases q : (w : Int) = j
          · rw [q] at d; exact absurd d hw
          · omega
/-- the watchers alike: those that watch here, and there -/
def rs_W (c po : Int) (wf wt : Nat → Int) (sd : Int) (r f t : Nat → Int) : Prop := c = r 5 ∧ 0 ≤ c ∧ c ≤ 3 ∧ po = sd ∧ 0 ≤ po ∧ po ≤ 511 ∧ ∀ w : Nat, (w : Int) < c → wf w = f w ∧ wt w = t w ∧ (0 ≤ f w ∧ f w ≤ 8) ∧ (0 ≤ t w ∧ t w ≤ 8)
theorem rs_pocg {w mi : Int} {f t f' t' : Nat → Int} (hf : f' w.toNat = f w.toNat) (ht : t' w.toNat = t w.toNat) : Ff_X6_placeOf w mi t' f' = Ff_X6_placeOf w mi t f := by
  unfold Ff_X6_placeOf
  rw [hf, ht]
theorem rs_W8 {c po sd : Int} {wf wt r f t : Nat → Int} (h : rs_W c po wf wt sd r f t) {mi : Int} (h0 : 0 ≤ mi) (h1 : mi ≤ 2147483647) (w : Nat) (hw : (w : Int) < c) : 0 ≤ Ff_X6_placeOf (w : Int) mi wt wf ∧ Ff_X6_placeOf (w : Int) mi wt wf ≤ 8 ∧ Ff_X6_placeOf (w : Int) mi t f = Ff_X6_placeOf (w : Int) mi wt wf := by
  obtain ⟨-, -, -, -, -, -, k⟩ := h
  obtain ⟨k1, k2, k3, k4⟩ := k w hw
  have e : ((w : Int)).toNat = w := Int.toNat_natCast w
  have q := rs_at8 (w := (w : Int)) (f := wf) (t := wt) h0 h1 (by rw [e, k1]; exact k3) (by rw [e, k2]; exact k4)
  exact ⟨q.1, q.2, rs_pocg (by rw [e, k1]) (by rw [e, k2])⟩
/-- watched at a place: here and there -/
theorem rs_wat {c po sd : Int} {wf wt r f t : Nat → Int} (h : rs_W c po wf wt sd r f t) {mi : Int} (h0 : 0 ≤ mi) (h1 : mi ≤ 2147483647) :
    0 ≤ Ff_X6_placesIn mi c po wt wf ∧ Ff_X6_placesIn mi c po wt wf ≤ 511 ∧ ∀ p : Int, 0 ≤ p → p ≤ 8 → Ff_X8_isWatched p mi sd r t f = Ff_X7_hasBit (Ff_X6_placesIn mi c po wt wf) p := by
  obtain ⟨k1, k2, k3, k4, k5, k6, k7⟩ := id h
  obtain ⟨B, e1, e2, e3, e4⟩ := rs_pi (mi := mi) (c := c) (t := wt) (f := wf) (fun w hw => ⟨(rs_W8 h h0 h1 w hw).1, (rs_W8 h h0 h1 w hw).2.1⟩) 4 0 po (by omega) (by omega) k2 k5 k6
  have eB : Ff_X6_placesIn mi c po wt wf = B := e1
  rw [eB]
  refine ⟨e2, e3, fun p p0 p8 => ?_⟩
  have e5 := e4 p p0 p8
  unfold Ff_X8_isWatched
  rw [rs_hb, fl_lt_eq rfl, ← k4]
  obtain ⟨i1, i2⟩ := rs_iw (p := p) (mi := mi) (c := c) (r := r) (t := t) (f := f) k1.symm 4 0 (by omega) (by omega) k2
  by_cases q : Ff_X7_hasBit po p = 1
  · rw [if_pos q]
    exact (e5.mpr (Or.inl q)).symm
  · rw [if_neg q]
    by_cases q2 : ∃ w : Nat, (0 : Int) ≤ (w : Int) ∧ (w : Int) < c ∧ Ff_X6_placeOf (w : Int) mi t f = p
    · rw [i2.mpr q2]
      obtain ⟨w, a, b, d⟩ := q2
      exact (e5.mpr (Or.inr ⟨w, a, b, by rw [← (rs_W8 h h0 h1 w b).2.2]; exact d⟩)).symm
    · have z1 : fl_wh (Sf_X8_isWatched_15_1 p mi r t f) 0 4 0 = 0 := i1.resolve_right (fun z => q2 (i2.mp z))
      rw [z1]
      refine ((rs_hb01 B p).resolve_right (fun z => ?_)).symm
      rcases e5.mp z with z | ⟨w, a, b, d⟩
      · exact q z
      · exact q2 ⟨w, a, b, by rw [(rs_W8 h h0 h1 w b).2.2]; exact d⟩
set_option maxRecDepth 20000 in
theorem rs_b9 : ∀ w : Fin 512, Ff_X7_hasBit (w.val : Int) 9 = 0 := by decide +kernel
theorem rs_wat9 {c po sd : Int} {wf wt r f t : Nat → Int} (h : rs_W c po wf wt sd r f t) {mi : Int} (h0 : 0 ≤ mi) (h1 : mi ≤ 2147483647) : Ff_X8_isWatched 9 mi sd r t f = 0 := by
  obtain ⟨k1, k2, k3, k4, k5, k6, k7⟩ := id h
  unfold Ff_X8_isWatched
  have b9 := rs_b9 ⟨po.toNat, by omega⟩
  simp only [Int.toNat_of_nonneg k5] at b9
  rw [rs_hb, fl_lt_eq rfl, ← k4, b9, if_neg (by decide)]
  obtain ⟨i1, i2⟩ := rs_iw (p := 9) (mi := mi) (c := c) (r := r) (t := t) (f := f) k1.symm 4 0 (by omega) (by omega) k2
  refine i1.resolve_right (fun z => ?_)
  obtain ⟨w, a, b, d⟩ := i2.mp z
  have q := rs_W8 h h0 h1 w b
  omega
set_option maxRecDepth 20000 in
theorem rs_hd0 : ∀ w : Fin 512, ∀ f : Fin 9, (Ff_X0_isHeardAt (f.val : Int) (w.val : Int) = 1 ↔ ((1 ≤ (f.val : Int) ∧ Ff_X7_hasBit (w.val : Int) ((f.val : Int) - 1) = 1) ∨ Ff_X7_hasBit (w.val : Int) (f.val : Int) = 1 ∨ ((f.val : Int) ≤ 7 ∧ Ff_X7_hasBit (w.val : Int) ((f.val : Int) + 1) = 1))) := by decide +kernel
theorem rs_hd {w f : Int} (w0 : 0 ≤ w) (w1 : w ≤ 511) (f0 : 0 ≤ f) (f1 : f ≤ 8) : Ff_X0_isHeardAt f w = 1 ↔ ((1 ≤ f ∧ Ff_X7_hasBit w (f - 1) = 1) ∨ Ff_X7_hasBit w f = 1 ∨ (f ≤ 7 ∧ Ff_X7_hasBit w (f + 1) = 1)) := by
  have h := rs_hd0 ⟨w.toNat, by omega⟩ ⟨f.toNat, by omega⟩
  simp only [Int.toNat_of_nonneg w0, Int.toNat_of_nonneg f0] at h
  exact h
end RSA
end P092249600_rs1
section P092249601_rs2
section RSB
/-- what is said is heard: there -/
theorem rs_spk {c po sd : Int} {wf wt r f t : Nat → Int} (hW : rs_W c po wf wt sd r f t) {row : Nat → Int} {T : Nat} (m0 : 0 ≤ row 21) (m1 : row 21 ≤ 2147483647) (p0 : 0 ≤ row T) (p8 : row T ≤ 8) (x26 : Int) :
    fl_wh (fun t9 : Int × Int => Sf_X8_speakOn_40_1 (T : Int) sd row r t f x26 t9.1 t9.2) (0, (fun _ => 0)) 12 (row T - 1, 0) = if Ff_X0_isHeardAt (row T) (Ff_X6_placesIn (row 21) c po wt wf) = 1 then (x26, fl_up row (9 + T) (fl_or (row (9 + T)) x26)) else (x26, row) := by
  have eT : ((T : Int)).toNat = T := Int.toNat_natCast T
  have eT9 : (9 + (T : Int)).toNat = 9 + T := by omega
  obtain ⟨w1, w2, w3⟩ := rs_wat hW m0 m1
  have w9 := rs_wat9 hW m0 m1
  have stp : ∀ p v : Int, p ≤ row T + 1 → (v = 0 ∨ v = 1) → ∃ v', Sf_X8_speakOn_40_1 (T : Int) sd row r t f x26 p v = .inl (p + 1, v') ∧ (v' = 0 ∨ v' = 1) ∧ (v' = 1 ↔ (v = 1 ∨ (0 ≤ p ∧ Ff_X8_isWatched p (row 21) sd r t f = 1))) := by
    intro p v hp hv
    unfold Sf_X8_speakOn_40_1
    rw [eT, fl_lt_eq rfl, fl_lt_eq rfl, if_neg (by omega)]
    rcases hv with hv | hv
    · rw [if_pos hv]
      by_cases hq : p < 0
      · rw [if_pos hq]
        refine ⟨0, rfl, Or.inl rfl, ⟨fun h => absurd h (by decide), ?_⟩⟩
        rintro (h | h) <;> omega
      · rw [if_neg hq, fl_lt_eq rfl, fl_lt_eq rfl]
        by_cases hw : Ff_X8_isWatched p (row 21) sd r t f = 1
        · rw [if_pos hw]
          exact ⟨1, rfl, Or.inr rfl, ⟨fun _ => Or.inr ⟨by omega, hw⟩, fun _ => rfl⟩⟩
        · rw [if_neg hw]
          refine ⟨0, rfl, Or.inl rfl, ⟨fun h => absurd h (by decide), ?_⟩⟩
          rintro (h | h)
          · omega
          · exact absurd h.2 hw
    · rw [if_neg (by omega)]
      exact ⟨1, rfl, Or.inr rfl, ⟨fun _ => Or.inl hv, fun _ => rfl⟩⟩
  have fin : ∀ v : Int, Sf_X8_speakOn_40_1 (T : Int) sd row r t f x26 (row T + 2) v = .inr (if v = 0 then (x26, row) else (x26, fl_up row (9 + T) (fl_or (row (9 + T)) x26))) := by
    intro v
    unfold Sf_X8_speakOn_40_1
    rw [eT, fl_lt_eq rfl, fl_lt_eq rfl, if_pos (by omega), fl_lt_eq rfl, eT9]
    rfl
  obtain ⟨v1, s1, a1, b1⟩ := stp (row T - 1) 0 (by omega) (Or.inl rfl)
  obtain ⟨v2, s2, a2, b2⟩ := stp (row T) v1 (by omega) a1
  obtain ⟨v3, s3, a3, b3⟩ := stp (row T + 1) v2 (by omega) a2
  rw [fl_wh_l (step := fun t9 : Int × Int => Sf_X8_speakOn_40_1 (T : Int) sd row r t f x26 t9.1 t9.2) s1, show row T - 1 + 1 = row T by omega,
    fl_wh_l (step := fun t9 : Int × Int => Sf_X8_speakOn_40_1 (T : Int) sd row r t f x26 t9.1 t9.2) s2,
    fl_wh_l (step := fun t9 : Int × Int => Sf_X8_speakOn_40_1 (T : Int) sd row r t f x26 t9.1 t9.2) s3, show row T + 1 + 1 = row T + 2 by omega,
    fl_wh_r (step := fun t9 : Int × Int => Sf_X8_speakOn_40_1 (T : Int) sd row r t f x26 t9.1 t9.2) (s := (row T + 2, v3)) (fin v3)]
  have key : v3 = 1 ↔ Ff_X0_isHeardAt (row T) (Ff_X6_placesIn (row 21) c po wt wf) = 1 := by
    rw [b3, b2, b1, rs_hd w1 w2 p0 p8]
    constructor
    · rintro (((h | ⟨h, g⟩) | ⟨h, g⟩) | ⟨h, g⟩)
      · omega
      · exact Or.inl ⟨by omega, by rw [← w3 _ h (by omega)]; exact g⟩
      · exact Or.inr (Or.inl (by rw [← w3 _ h (by omega)]; exact g))
      · by_cases q : row T = 8
        · rw [q] at g
          have g9 : Ff_X8_isWatched 9 (row 21) sd r t f = 1 := g
          omega
        · exact Or.inr (Or.inr ⟨by omega, by rw [← w3 _ h (by omega)]; exact g⟩)
    · rintro (⟨h, g⟩ | g | ⟨h, g⟩)
      · exact Or.inl (Or.inl (Or.inr ⟨by omega, by rw [w3 _ (by omega) (by omega)]; exact g⟩))
      · exact Or.inl (Or.inr ⟨by omega, by rw [w3 _ (by omega) (by omega)]; exact g⟩)
      · exact Or.inr ⟨by omega, by rw [w3 _ (by omega) (by omega)]; exact g⟩
  by_cases q : Ff_X0_isHeardAt (row T) (Ff_X6_placesIn (row 21) c po wt wf) = 1
  · rw [if_pos q, if_neg (by have := key.mpr q; omega)]
  · rw [if_neg q, if_pos (by have : ¬ v3 = 1 := fun z => q (key.mp z); omega)]
/-- the halls as minutes want them -/
def rs_G (fg sp sa ti pu : Int) (kd me r : Nat → Int) : Prop := (fg = r 0 ∧ 2 ≤ fg ∧ fg ≤ 9) ∧ (sp = r 1 ∧ 1 ≤ sp ∧ sp ≤ 20) ∧ (sa = r 2 ∧ 0 ≤ sa ∧ sa ≤ 8) ∧ (ti = r 7 ∧ 0 ≤ ti ∧ ti ≤ 8) ∧ (pu = r 8 ∧ 0 ≤ pu ∧ pu ≤ 8) ∧ ∀ k : Nat, k < 9 → kd k = r (12 + 2 * k) ∧ me k = r (13 + 2 * k) ∧ 0 ≤ me k ∧ me k ≤ 20 ∧ (kd k = 1 → 1 ≤ me k)
/-- a scene here, and its row there -/
def rs_S (fg sp : Int) (kd : Nat → Int) (mi tu sn go ca : Int) (pl he st : Nat → Int) : Prop := (mi = st 21 ∧ tu = st 19 ∧ sn = st 20 ∧ go = st 18 ∧ ca = st 22) ∧ 0 ≤ mi ∧ (0 ≤ tu ∧ tu < fg) ∧ (0 ≤ sn ∧ sn < sp) ∧ (0 ≤ go ∧ go ≤ 511) ∧ ∀ k : Nat, (k : Int) < fg → pl k = st k ∧ he k = st (9 + k) ∧ (0 ≤ pl k ∧ pl k ≤ 8) ∧ (Ff_X7_hasBit go (k : Int) = 1 → kd k = 1)
/-- a step: here -/
def rs_Q (sa mi tu sn go ca c po : Int) (kd me pl wf wt : Nat → Int) : Int × Int × (Nat → Int) := if Ff_X0_stepsIn tu (fl_iadd sn 1) kd me = 1 then Ff_X0_step tu sa mi go ca pl c po wt wf else (go, ca, pl)
def rs_E (mi tu sn c po : Int) (kd me pl wf wt he : Nat → Int) : Nat → Int := if Ff_X0_partSaid tu (fl_iadd sn 1) kd me = 0 then he else if Ff_X0_isHeardAt (pl tu.toNat) (Ff_X6_placesIn mi c po wt wf) = 1 then fl_up he tu.toNat (fl_or (he tu.toNat) (Ff_X0_partSaid tu (fl_iadd sn 1) kd me)) else he
theorem rs_passc (fg sp sa ti pu mi tu sn go ca c po : Int) (kd me pl wf wt he : Nat → Int) : Ff_X0_pass fg sp sa ti pu mi tu sn go ca kd me pl c po wt wf he =
    if fl_iadd sn 1 < sp then (fl_iadd mi 1, tu, fl_iadd sn 1, (rs_Q sa mi tu sn go ca c po kd me pl wf wt).1, (rs_Q sa mi tu sn go ca c po kd me pl wf wt).2.1, (rs_Q sa mi tu sn go ca c po kd me pl wf wt).2.2, rs_E mi tu sn c po kd me (rs_Q sa mi tu sn go ca c po kd me pl wf wt).2.2 wf wt he)
    else (fl_iadd mi 1, Ff_X0_next tu fg ti pu, 0, (rs_Q sa mi tu sn go ca c po kd me pl wf wt).1, (rs_Q sa mi tu sn go ca c po kd me pl wf wt).2.1, (rs_Q sa mi tu sn go ca c po kd me pl wf wt).2.2, rs_E mi tu sn c po kd me (rs_Q sa mi tu sn go ca c po kd me pl wf wt).2.2 wf wt he) := by
  unfold Ff_X0_pass rs_Q rs_E
  simp only [fl_lt, fl_c3, fl_c2, Ff_X5_startTurn]
  by_cases a : Ff_X0_stepsIn tu (fl_iadd sn 1) kd me = 1
  · simp only [if_pos a]
    generalize Ff_X0_step tu sa mi go ca pl c po wt wf = q
    by_cases b : Ff_X0_partSaid tu (fl_iadd sn 1) kd me = 0
    · simp only [if_pos b]
    · simp only [if_neg b]
      by_cases d : Ff_X0_isHeardAt (q.2.2 tu.toNat) (Ff_X6_placesIn mi c po wt wf) = 1
      · simp only [if_pos d]
      · simp only [if_neg d]
  · simp only [if_neg a]
    by_cases b : Ff_X0_partSaid tu (fl_iadd sn 1) kd me = 0
    · simp only [if_pos b]
    · simp only [if_neg b]
      by_cases d : Ff_X0_isHeardAt (pl tu.toNat) (Ff_X6_placesIn mi c po wt wf) = 1
      · simp only [if_pos d]
      · simp only [if_neg d]
/-- the minute ends: there -/
def rs_tm (tu : Int) (r row : Nat → Int) : Nat → Int := if r 1 ≤ fl_up row 21 (fl_iadd (row 21) 1) 20 + 1 then fl_up (fl_up (fl_up (fl_up row 21 (fl_iadd (row 21) 1)) 20 (fl_up row 21 (fl_iadd (row 21) 1) 20 + 1)) 20 0) 19 (Ff_X8_nextOf tu r) else fl_up (fl_up row 21 (fl_iadd (row 21) 1)) 20 (fl_up row 21 (fl_iadd (row 21) 1) 20 + 1)
def rs_M (sd : Int) (st r f t : Nat → Int) : Int × (Nat → Int) := if Ff_X7_hasBit (st 18) (st 19) = 1 then (0, st) else if r (12 + 2 * st 19).toNat = 1 then (0, Ff_X8_walkOn (st 19) sd st r t f) else if r (12 + 2 * st 19).toNat = 2 then Ff_X8_speakOn (st 19) sd 0 st r t f else (0, st)
theorem rs_passm (sd : Int) (st r f t : Nat → Int) : Ff_X8_minuteOn sd st r t f = (st 19, (if Ff_X7_hasBit ((rs_M sd st r f t).2 18) (st 19) = 1 then -1 else (rs_M sd st r f t).2 (st 19).toNat), (rs_M sd st r f t).1, rs_tm (st 19) r (rs_M sd st r f t).2) := by
  have hb : Ff_X8_hasBit = Ff_X7_hasBit := rfl
  unfold Ff_X8_minuteOn rs_M
  rw [hb]
  simp only [fl_lt, fl_c2]
  by_cases a : Ff_X7_hasBit (st 18) (st 19) = 1
  · simp only [if_pos a]
    unfold rs_tm
    split <;> rfl
  · simp only [if_neg a]
    by_cases b : r (12 + 2 * st 19).toNat = 1
    · simp only [if_pos b]
      generalize Ff_X8_walkOn (st 19) sd st r t f = row
      unfold rs_tm
      by_cases d : Ff_X7_hasBit (row 18) (st 19) = 1
      · simp only [if_pos d]
        split <;> rfl
      · simp only [if_neg d]
        split <;> rfl
    · simp only [if_neg b]
      by_cases b2 : r (12 + 2 * st 19).toNat = 2
      · simp only [if_pos b2]
        generalize Ff_X8_speakOn (st 19) sd 0 st r t f = q
        unfold rs_tm
        by_cases d : Ff_X7_hasBit (q.2 18) (st 19) = 1
        · simp only [if_pos d]
          split <;> rfl
        · simp only [if_neg d]
          split <;> rfl
      · simp only [if_neg b2, if_neg a]
        unfold rs_tm
        split <;> rfl
/-- a walk: there -/
theorem rs_walk {sd : Int} {st r f t : Nat → Int} {T : Nat} (p0 : 0 ≤ st T) (p8 : st T ≤ 8) (h20 : (st 20 + 1) % r (13 + 2 * T) = 0) (hT : T < 9) : Ff_X8_walkOn (T : Int) sd st r t f = (if Ff_X8_isWatched (Ff_X0_nearer (st T) (r 2)) (st 21) sd r t f = 1 then fl_up (fl_up (fl_up st T (Ff_X0_nearer (st T) (r 2))) T (T : Int)) 22 (fl_iadd (st 22) 1) else if Ff_X0_nearer (st T) (r 2) = r 2 then fl_up (fl_up st T (Ff_X0_nearer (st T) (r 2))) 18 (fl_or (st 18) (fl_shl 1 (T : Int))) else fl_up st T (Ff_X0_nearer (st T) (r 2))) := by
  have eT : ((T : Int)).toNat = T := Int.toNat_natCast T
  have eM : (12 + 2 * (T : Int) + 1).toNat = 13 + 2 * T := by omega
  have u21 : ∀ v : Int, fl_up st T v 21 = st 21 := fun v => rp_up_ne _ _ (by omega)
  have u18 : ∀ v : Int, fl_up st T v 18 = st 18 := fun v => rp_up_ne _ _ (by omega)
  have u22 : ∀ v w : Int, fl_up (fl_up st T v) T w 22 = st 22 := fun v w => by rw [rp_up_ne _ _ (by omega), rp_up_ne _ _ (by omega)]
  have uT : ∀ v : Int, fl_up st T v T = v := fun v => rp_up_eq _ _ _
  unfold Ff_X8_walkOn
  simp only [fl_lt, eT, eM, if_pos h20, u21, u18, u22, uT]
  unfold Ff_X0_nearer
  simp only [fl_lt]
  by_cases a : r 2 ≤ st T
  · rw [if_pos a]
    by_cases b : st T ≤ r 2
    · have e : st T = r 2 := by omega
      rw [if_pos b]
      simp only [if_pos e, show st T + 0 = st T by omega]
    · have e : ¬ st T = r 2 := by omega
      rw [if_neg b]
      have es : fl_isub (st T) 1 = st T + -1 := by rw [rp_isub (by omega) (by omega) (by omega) (by omega) (by omega) (by omega)]; omega
      simp only [if_neg e, if_pos a, es]
  · have e : ¬ st T = r 2 := by omega
    rw [if_neg a]
    simp only [if_neg e, if_neg a]
theorem rs_stay {sd : Int} {st r f t : Nat → Int} {T : Nat} (h20 : ¬ (st 20 + 1) % r (13 + 2 * T) = 0) : Ff_X8_walkOn (T : Int) sd st r t f = st := by
  have eM : (12 + 2 * (T : Int) + 1).toNat = 13 + 2 * T := by omega
  unfold Ff_X8_walkOn
  simp only [fl_lt, eM, if_neg h20]
end RSB
end P092249601_rs2
section P092249602_rs3
section RSC
theorem rs_up2 (f : Nat → Int) (i : Nat) (v w : Int) : fl_up (fl_up f i v) i w = fl_up f i w := by
  funext k
  by_cases q : k = i
  · rw [q, rp_up_eq, rp_up_eq]
  · rw [rp_up_ne _ _ q, rp_up_ne _ _ q, rp_up_ne _ _ q]
theorem rs_S_pl {fg sp mi tu sn go ca : Int} {kd pl he st : Nat → Int} (h : rs_S fg sp kd mi tu sn go ca pl he st) {T : Nat} (hT : T < 9) {v : Int} (v0 : 0 ≤ v) (v8 : v ≤ 8) : rs_S fg sp kd mi tu sn go ca (fl_up pl T v) he (fl_up st T v) := by
  obtain ⟨⟨s1, s2, s3, s4, s5⟩, m0, a2, a3, a4, hk⟩ := h
  refine ⟨⟨?_, ?_, ?_, ?_, ?_⟩, m0, a2, a3, a4, fun k hk' => ?_⟩
  · rw [rp_up_ne _ _ (by omega)]; exact s1
  · rw [rp_up_ne _ _ (by omega)]; exact s2
  · rw [rp_up_ne _ _ (by omega)]; exact s3
  · rw [rp_up_ne _ _ (by omega)]; exact s4
  · rw [rp_up_ne _ _ (by omega)]; exact s5
  · obtain ⟨k1, k2, k3, k4⟩ := hk k hk'
    refine ⟨?_, by rw [rp_up_ne _ _ (by omega)]; exact k2, ?_, k4⟩
    · by_cases q : k = T
      · rw [q, rp_up_eq, rp_up_eq]
      · rw [rp_up_ne _ _ q, rp_up_ne _ _ q]; exact k1
    · by_cases q : k = T
      · rw [q, rp_up_eq]; exact ⟨v0, v8⟩
      · rw [rp_up_ne _ _ q]; exact k3
theorem rs_S_ca {fg sp mi tu sn go ca : Int} {kd pl he st : Nat → Int} (hf : fg ≤ 9) (h : rs_S fg sp kd mi tu sn go ca pl he st) (v : Int) : rs_S fg sp kd mi tu sn go v pl he (fl_up st 22 v) := by
  obtain ⟨⟨s1, s2, s3, s4, s5⟩, m0, a2, a3, a4, hk⟩ := h
  refine ⟨⟨?_, ?_, ?_, ?_, (rp_up_eq _ _ _).symm⟩, m0, a2, a3, a4, fun k hk' => ?_⟩
  · rw [rp_up_ne _ _ (by omega)]; exact s1
  · rw [rp_up_ne _ _ (by omega)]; exact s2
  · rw [rp_up_ne _ _ (by omega)]; exact s3
  · rw [rp_up_ne _ _ (by omega)]; exact s4
  · rw [rp_up_ne _ _ (by omega), rp_up_ne _ _ (by omega)]; exact hk k hk'
theorem rs_S_go {fg sp mi tu sn go ca : Int} {kd pl he st : Nat → Int} (hf : fg ≤ 9) (h : rs_S fg sp kd mi tu sn go ca pl he st) {v : Int} (v0 : 0 ≤ v ∧ v ≤ 511) (hv : ∀ k : Nat, (k : Int) < fg → Ff_X7_hasBit v (k : Int) = 1 → kd k = 1) : rs_S fg sp kd mi tu sn v ca pl he (fl_up st 18 v) := by
  obtain ⟨⟨s1, s2, s3, s4, s5⟩, m0, a2, a3, a4, hk⟩ := h
  refine ⟨⟨?_, ?_, ?_, (rp_up_eq _ _ _).symm, ?_⟩, m0, a2, a3, v0, fun k hk' => ?_⟩
  · rw [rp_up_ne _ _ (by omega)]; exact s1
  · rw [rp_up_ne _ _ (by omega)]; exact s2
  · rw [rp_up_ne _ _ (by omega)]; exact s3
  · rw [rp_up_ne _ _ (by omega)]; exact s5
  · rw [rp_up_ne _ _ (by omega), rp_up_ne _ _ (by omega)]
    obtain ⟨k1, k2, k3, k4⟩ := hk k hk'
    exact ⟨k1, k2, k3, hv k hk'⟩
theorem rs_S_he {fg sp mi tu sn go ca : Int} {kd pl he st : Nat → Int} (hf : fg ≤ 9) (h : rs_S fg sp kd mi tu sn go ca pl he st) {T : Nat} (hT : T < 9) (v : Int) : rs_S fg sp kd mi tu sn go ca pl (fl_up he T v) (fl_up st (9 + T) v) := by
  obtain ⟨⟨s1, s2, s3, s4, s5⟩, m0, a2, a3, a4, hk⟩ := h
  refine ⟨⟨?_, ?_, ?_, ?_, ?_⟩, m0, a2, a3, a4, fun k hk' => ?_⟩
  · rw [rp_up_ne _ _ (by omega)]; exact s1
  · rw [rp_up_ne _ _ (by omega)]; exact s2
  · rw [rp_up_ne _ _ (by omega)]; exact s3
  · rw [rp_up_ne _ _ (by omega)]; exact s4
  · rw [rp_up_ne _ _ (by omega)]; exact s5
  · obtain ⟨k1, k2, k3, k4⟩ := hk k hk'
    refine ⟨by rw [rp_up_ne _ _ (by omega)]; exact k1, ?_, k3, k4⟩
    by_cases q : k = T
    · rw [q, rp_up_eq, rp_up_eq]
    · rw [rp_up_ne _ _ q, rp_up_ne _ _ (by omega)]; exact k2
set_option maxRecDepth 20000 in
theorem rs_sh : ∀ n : Fin 20, ¬ fl_shl 1 (n.val : Int) = 0 := by decide +kernel
theorem rs_near {p sa : Int} (p0 : 0 ≤ p) (p8 : p ≤ 8) (s0 : 0 ≤ sa) (s8 : sa ≤ 8) : 0 ≤ Ff_X0_nearer p sa ∧ Ff_X0_nearer p sa ≤ 8 := by
  unfold Ff_X0_nearer
  by_cases a : p = sa
  · rw [if_pos a]; omega
  · rw [if_neg a]
    by_cases b : sa ≤ p
    · rw [if_pos b, fl_lt_eq rfl, rp_isub (by omega) (by omega) (by omega) (by omega) (by omega) (by omega)]; omega
    · rw [if_neg b, fl_lt_eq rfl]; omega
theorem rs_mid {fg sp sa ti pu mi sn go ca c po sd : Int} {T : Nat} {kd me pl he wf wt r f t st : Nat → Int} (hG : rs_G fg sp sa ti pu kd me r) (hW : rs_W c po wf wt sd r f t) (hS : rs_S fg sp kd mi (T : Int) sn go ca pl he st) (hmi : mi ≤ 2000000000) :
    ∃ go1 ca1 pl1 he1 sd1 row1, rs_Q sa mi (T : Int) sn go ca c po kd me pl wf wt = (go1, ca1, pl1) ∧ rs_E mi (T : Int) sn c po kd me pl1 wf wt he = he1 ∧ rs_M sd st r f t = (sd1, row1) ∧ rs_S fg sp kd mi (T : Int) sn go1 ca1 pl1 he1 row1 ∧ sd1 = Ff_X0_partSaid (T : Int) (fl_iadd sn 1) kd me := by
  obtain ⟨⟨s1, s2, s3, s4, s5⟩, m0, ⟨t0, t1⟩, ⟨n0, n1⟩, ⟨g0, g1⟩, hk⟩ := id hS
  obtain ⟨⟨f1, f2, f3⟩, ⟨sp1, sp2, sp3⟩, ⟨sa1, sa2, sa3⟩, ⟨ti1, ti2, ti3⟩, ⟨pu1, pu2, pu3⟩, hkd⟩ := id hG
  have hT9 : T < 9 := by omega
  have eT : ((T : Int)).toNat = T := Int.toNat_natCast T
  obtain ⟨k1, k2, k3, k4⟩ := hk T t1
  obtain ⟨d1, d2, d3, d4, d5⟩ := hkd T hT9
  have es : fl_iadd sn 1 = sn + 1 := rp_iadd (by omega) (by omega) (by omega) (by omega) (by omega) (by omega)
  have e12 : (12 + 2 * st 19).toNat = 12 + 2 * T := by rw [← s2]; omega
  have hM : rs_M sd st r f t = if Ff_X7_hasBit go (T : Int) = 1 then (0, st) else if kd T = 1 then (0, Ff_X8_walkOn (T : Int) sd st r t f) else if kd T = 2 then Ff_X8_speakOn (T : Int) sd 0 st r t f else (0, st) := by
    unfold rs_M
    rw [e12, ← s2, ← s4, ← d1]
  have hwi : Ff_X7_within (T : Int) 0 8 = 1 := (rp_in _ _ _).trans (rp_in1 (by omega) (by omega))
  have hst : Ff_X0_stepsIn (T : Int) (sn + 1) kd me = if kd T = 1 then (if (sn + 1) % me T = 0 then 1 else 0) else 0 := by
    unfold Ff_X0_stepsIn
    rw [hwi, fl_lt_eq rfl, if_pos rfl, eT, fl_lt_eq rfl]
    by_cases q : kd T = 1
    · have q5 := d5 q
      rw [if_pos q, if_pos q, fl_lt_eq rfl, if_neg (by omega), rs_irem (by omega) (by omega) (by omega) (by omega), fl_lt_eq rfl]
    · rw [if_neg q, if_neg q]
  have hps : Ff_X0_partSaid (T : Int) (sn + 1) kd me = if kd T = 2 then (if me T < sn + 1 then 0 else fl_shl 1 sn) else 0 := by
    unfold Ff_X0_partSaid
    rw [hwi, fl_lt_eq rfl, if_pos rfl, eT, fl_lt_eq rfl]
    by_cases q : kd T = 2
    · rw [if_pos q, if_pos q, fl_lt_eq rfl]
      by_cases q2 : me T < sn + 1
      · rw [if_pos q2, if_pos q2]
      · rw [if_neg q2, if_neg q2, fl_lt_eq rfl, fl_lt_eq rfl, rp_isub (by omega) (by omega) (by omega) (by omega) (by omega) (by omega), show sn + 1 - 1 = sn by omega]
    · rw [if_neg q, if_neg q]
  by_cases hg : Ff_X7_hasBit go (T : Int) = 1
  · have hk1 : kd T = 1 := k4 hg
    refine ⟨go, ca, pl, he, 0, st, ?_, ?_, ?_, hS, ?_⟩
    · unfold rs_Q
      have eg : Ff_X0_step (T : Int) sa mi go ca pl c po wt wf = (go, ca, pl) := by
        unfold Ff_X0_step Ff_X5_isGone
        rw [hg]; rfl
      rw [eg]
      split <;> rfl
    · have hpz : Ff_X0_partSaid (T : Int) (sn + 1) kd me = 0 := by rw [hps, if_neg (by omega)]
      unfold rs_E
      rw [es, hpz, if_pos rfl]
    · rw [hM, if_pos hg]
    · rw [es, hps, if_neg (by omega)]
  · by_cases hk1 : kd T = 1
    · have hpz : Ff_X0_partSaid (T : Int) (sn + 1) kd me = 0 := by rw [hps, if_neg (by omega)]
      by_cases h20 : (sn + 1) % me T = 0
      · have h20' : (st 20 + 1) % r (13 + 2 * T) = 0 := by rw [← s3, ← d2]; exact h20
        have hw := rs_walk (sd := sd) (st := st) (r := r) (f := f) (t := t) (T := T) (by rw [← k1]; exact k3.1) (by rw [← k1]; exact k3.2) h20' hT9
        rw [← k1, ← sa1, ← s1, ← s5, ← s4] at hw
        obtain ⟨b1, b2, b3⟩ := rs_wat hW (mi := mi) m0 (by omega)
        have hR := rs_near k3.1 k3.2 sa2 sa3
        have hq : rs_Q sa mi (T : Int) sn go ca c po kd me pl wf wt = (if Ff_X7_hasBit (Ff_X6_placesIn mi c po wt wf) (Ff_X0_nearer (pl T) sa) = 1 then (go, fl_iadd ca 1, fl_up pl T (T : Int)) else if Ff_X0_nearer (pl T) sa = sa then (fl_or go (fl_shl 1 (T : Int)), ca, fl_up pl T (Ff_X0_nearer (pl T) sa)) else (go, ca, fl_up pl T (Ff_X0_nearer (pl T) sa))) := by
          unfold rs_Q
          rw [es, hst, if_pos hk1, if_pos h20, if_pos rfl]
          unfold Ff_X0_step Ff_X5_isGone
          simp only [fl_lt, eT, if_neg hg]
          rw [if_neg (by decide)]
        rw [b3 _ hR.1 hR.2] at hw
        generalize Ff_X0_nearer (pl T) sa = R at hR hq hw
        have hE : ∀ pl1 : Nat → Int, rs_E mi (T : Int) sn c po kd me pl1 wf wt he = he := fun pl1 => by unfold rs_E; rw [es, hpz, if_pos rfl]
        by_cases hb : Ff_X7_hasBit (Ff_X6_placesIn mi c po wt wf) R = 1
        · rw [if_pos hb] at hq hw
          rw [rs_up2] at hw
          refine ⟨_, _, _, he, 0, _, hq, hE _, by rw [hM, if_neg hg, if_pos hk1, hw], rs_S_ca f3 (rs_S_pl hS hT9 (by omega) (by omega)) _, by rw [es, hpz]⟩
        · rw [if_neg hb] at hq hw
          by_cases hs : R = sa
          · rw [if_pos hs] at hq hw
            obtain ⟨z1, z2⟩ := rs_bit g0 g1 (f := (T : Int)) (by omega) (by omega)
            refine ⟨_, _, _, he, 0, _, hq, hE _, by rw [hM, if_neg hg, if_pos hk1, hw], rs_S_go f3 (rs_S_pl hS hT9 hR.1 hR.2) z1 (fun k hk' h9 => ?_), by rw [es, hpz]⟩
            rcases (z2 (k : Int) (by omega) (by omega)).mp h9 with q | q
            · exact (hk k hk').2.2.2 q
            · have : k = T := by omega
              rw [this]; exact hk1
          · rw [if_neg hs] at hq hw
            exact ⟨_, _, _, he, 0, _, hq, hE _, by rw [hM, if_neg hg, if_pos hk1, hw], rs_S_pl hS hT9 hR.1 hR.2, by rw [es, hpz]⟩
      · refine ⟨go, ca, pl, he, 0, st, ?_, ?_, ?_, hS, ?_⟩
        · unfold rs_Q
          rw [es, hst, if_pos hk1, if_neg h20, if_neg (by decide)]
        · unfold rs_E
          rw [es, hpz, if_pos rfl]
        · rw [hM, if_neg hg, if_pos hk1, rs_stay (by rw [← s3, ← d2]; exact h20)]
        · rw [es, hpz]
    · have hq : rs_Q sa mi (T : Int) sn go ca c po kd me pl wf wt = (go, ca, pl) := by
        unfold rs_Q
        rw [es, hst, if_neg hk1, if_neg (by decide)]
      by_cases hk2 : kd T = 2
      · have hM2 : rs_M sd st r f t = Ff_X8_speakOn (T : Int) sd 0 st r t f := by rw [hM, if_neg hg, if_neg hk1, if_pos hk2]
        have e13 : (12 + 2 * (T : Int) + 1).toNat = 13 + 2 * T := by omega
        by_cases hm : me T < sn + 1
        · have hpz : Ff_X0_partSaid (T : Int) (sn + 1) kd me = 0 := by rw [hps, if_pos hk2, if_pos hm]
          refine ⟨go, ca, pl, he, 0, st, hq, ?_, ?_, hS, by rw [es, hpz]⟩
          · unfold rs_E
            rw [es, hpz, if_pos rfl]
          · rw [hM2]
            unfold Ff_X8_speakOn
            simp only [fl_lt, e13]
            rw [if_neg (by omega)]
        · have hpz : Ff_X0_partSaid (T : Int) (sn + 1) kd me = fl_shl 1 sn := by rw [hps, if_pos hk2, if_neg hm]
          have hnz := rs_sh ⟨sn.toNat, by omega⟩
          simp only [Int.toNat_of_nonneg n0] at hnz
          have hsk := rs_spk hW (row := st) (T := T) (by omega) (by omega) (by rw [← k1]; exact k3.1) (by rw [← k1]; exact k3.2) (fl_shl 1 sn)
          have hsp : Ff_X8_speakOn (T : Int) sd 0 st r t f = if Ff_X0_isHeardAt (pl T) (Ff_X6_placesIn mi c po wt wf) = 1 then (fl_shl 1 sn, fl_up st (9 + T) (fl_or (he T) (fl_shl 1 sn))) else (fl_shl 1 sn, st) := by
            rw [← k1, ← k2, ← s1] at hsk
            rw [← hsk]
            unfold Ff_X8_speakOn
            simp only [fl_lt, e13, eT]
            rw [if_pos (by omega), ← s3, ← k1]
          by_cases hh : Ff_X0_isHeardAt (pl T) (Ff_X6_placesIn mi c po wt wf) = 1
          · rw [if_pos hh] at hsp
            refine ⟨go, ca, pl, _, _, _, hq, ?_, by rw [hM2, hsp], rs_S_he f3 hS hT9 _, by rw [es, hpz]⟩
            unfold rs_E
            rw [es, hpz, if_neg hnz, eT, if_pos hh]
          · rw [if_neg hh] at hsp
            refine ⟨go, ca, pl, he, _, _, hq, ?_, by rw [hM2, hsp], hS, by rw [es, hpz]⟩
            unfold rs_E
            rw [es, hpz, if_neg hnz, eT, if_neg hh]
      · have hpz : Ff_X0_partSaid (T : Int) (sn + 1) kd me = 0 := by rw [hps, if_neg hk2]
        refine ⟨go, ca, pl, he, 0, st, hq, ?_, by rw [hM, if_neg hg, if_neg hk1, if_neg hk2], hS, by rw [es, hpz]⟩
        unfold rs_E
        rw [es, hpz, if_pos rfl]
theorem rs_next {fg sp sa ti pu : Int} {kd me r : Nat → Int} (hG : rs_G fg sp sa ti pu kd me r) (x : Int) : Ff_X8_nextOf x r = Ff_X0_next x fg ti pu ∧ 0 ≤ Ff_X0_next x fg ti pu ∧ Ff_X0_next x fg ti pu < fg := by
  obtain ⟨⟨f1, f2, f3⟩, -, -, ⟨ti1, -, -⟩, ⟨pu1, -, -⟩, -⟩ := hG
  unfold Ff_X8_nextOf Ff_X0_next
  simp only [fl_lt]
  rw [if_pos (by omega), ← f1, ← ti1, ← pu1, Int.mul_comm ti x]
  exact ⟨rfl, Int.emod_nonneg _ (by omega), Int.emod_lt_of_pos _ (by omega)⟩
theorem rs_tail {fg sp sa ti pu mi sn go ca : Int} {T : Nat} {kd me pl he r st : Nat → Int} (hG : rs_G fg sp sa ti pu kd me r) (hS : rs_S fg sp kd mi (T : Int) sn go ca pl he st) (hmi : mi ≤ 2000000000) :
    (sn + 1 < sp → rs_S fg sp kd (mi + 1) (T : Int) (sn + 1) go ca pl he (rs_tm (T : Int) r st)) ∧ (¬ sn + 1 < sp → rs_S fg sp kd (mi + 1) (Ff_X0_next (T : Int) fg ti pu) 0 go ca pl he (rs_tm (T : Int) r st)) := by
  obtain ⟨⟨s1, s2, s3, s4, s5⟩, m0, ⟨t0, t1⟩, ⟨n0, n1⟩, ⟨g0, g1⟩, hk⟩ := id hS
  obtain ⟨⟨f1, f2, f3⟩, ⟨sp1, sp2, sp3⟩, -⟩ := id hG
  obtain ⟨x1, x2, x3⟩ := rs_next hG (T : Int)
  have ei : fl_iadd (st 21) 1 = mi + 1 := by rw [← s1]; exact rp_iadd (by omega) (by omega) (by omega) (by omega) (by omega) (by omega)
  have e20 : fl_up st 21 (mi + 1) 20 = sn := by rw [rp_up_ne _ _ (by omega)]; exact s3.symm
  have er : rs_tm (T : Int) r st = if sp ≤ sn + 1 then fl_up (fl_up (fl_up (fl_up st 21 (mi + 1)) 20 (sn + 1)) 20 0) 19 (Ff_X0_next (T : Int) fg ti pu) else fl_up (fl_up st 21 (mi + 1)) 20 (sn + 1) := by
    unfold rs_tm
    rw [ei, e20, x1, ← sp1]
  have hr : ∀ row : Nat → Int, (∀ k : Nat, k < 19 ∨ k = 22 → row k = st k) → ∀ k : Nat, (k : Int) < fg → pl k = row k ∧ he k = row (9 + k) ∧ (0 ≤ pl k ∧ pl k ≤ 8) ∧ (Ff_X7_hasBit go (k : Int) = 1 → kd k = 1) := by
    intro row hrow k hk'
    rw [hrow k (by omega), hrow (9 + k) (by omega)]
    exact hk k hk'
  constructor
  · intro h
    rw [er, if_neg (by omega)]
    have hrow : ∀ k : Nat, k < 19 ∨ k = 22 → fl_up (fl_up st 21 (mi + 1)) 20 (sn + 1) k = st k := fun k hk' => by rw [rp_up_ne _ _ (by omega), rp_up_ne _ _ (by omega)]
    refine ⟨⟨?_, ?_, (rp_up_eq _ _ _).symm, ?_, ?_⟩, by omega, ⟨t0, t1⟩, by omega, ⟨g0, g1⟩, hr _ hrow⟩
    · rw [rp_up_ne _ _ (by omega), rp_up_eq]
    · rw [rp_up_ne _ _ (by omega), rp_up_ne _ _ (by omega)]; exact s2
    · rw [hrow 18 (by omega)]; exact s4
    · rw [hrow 22 (by omega)]; exact s5
  · intro h
    rw [er, if_pos (by omega), rs_up2]
    have hrow : ∀ k : Nat, k < 19 ∨ k = 22 → fl_up (fl_up (fl_up st 21 (mi + 1)) 20 0) 19 (Ff_X0_next (T : Int) fg ti pu) k = st k := fun k hk' => by rw [rp_up_ne _ _ (by omega), rp_up_ne _ _ (by omega), rp_up_ne _ _ (by omega)]
    refine ⟨⟨?_, (rp_up_eq _ _ _).symm, ?_, ?_, ?_⟩, by omega, ⟨x2, x3⟩, by omega, ⟨g0, g1⟩, hr _ hrow⟩
    · rw [rp_up_ne _ _ (by omega), rp_up_ne _ _ (by omega), rp_up_eq]
    · rw [rp_up_ne _ _ (by omega), rp_up_eq]
    · rw [hrow 18 (by omega)]; exact s4
    · rw [hrow 22 (by omega)]; exact s5
/-- a minute passes: here and there -/
theorem rs_pass {fg sp sa ti pu mi tu sn go ca c po sd : Int} {kd me pl he wf wt r f t st : Nat → Int} (hG : rs_G fg sp sa ti pu kd me r) (hW : rs_W c po wf wt sd r f t) (hS : rs_S fg sp kd mi tu sn go ca pl he st) (hmi : mi ≤ 2000000000) :
    ∃ tu1 sn1 go1 ca1 pl1 he1 st1, Ff_X0_pass fg sp sa ti pu mi tu sn go ca kd me pl c po wt wf he = (mi + 1, tu1, sn1, go1, ca1, pl1, he1) ∧ Ff_X8_minuteOn sd st r t f = (tu, (if Ff_X7_hasBit go1 tu = 1 then -1 else pl1 tu.toNat), Ff_X0_partSaid tu (fl_iadd sn 1) kd me, st1) ∧ rs_S fg sp kd (mi + 1) tu1 sn1 go1 ca1 pl1 he1 st1 := by
  obtain ⟨⟨s1, s2, s3, s4, s5⟩, m0, ⟨t0, t1⟩, ⟨n0, n1⟩, -, hk⟩ := id hS
  obtain ⟨⟨f1, f2, f3⟩, ⟨sp1, sp2, sp3⟩, -⟩ := id hG
  obtain ⟨T, hT⟩ : ∃ T : Nat, tu = (T : Int) := ⟨tu.toNat, by omega⟩
  subst hT
  obtain ⟨go1, ca1, pl1, he1, sd1, row1, q1, q2, q3, q4, q5⟩ := rs_mid hG hW hS hmi
  obtain ⟨⟨z1, z2, z3, z4, z5⟩, -, -, -, -, zk⟩ := id q4
  obtain ⟨w1, w2⟩ := rs_tail hG q4 hmi
  have es : fl_iadd sn 1 = sn + 1 := rp_iadd (by omega) (by omega) (by omega) (by omega) (by omega) (by omega)
  have em : fl_iadd mi 1 = mi + 1 := rp_iadd (by omega) (by omega) (by omega) (by omega) (by omega) (by omega)
  have eT : ((T : Int)).toNat = T := Int.toNat_natCast T
  have hm : Ff_X8_minuteOn sd st r t f = ((T : Int), (if Ff_X7_hasBit go1 (T : Int) = 1 then -1 else pl1 ((T : Int)).toNat), Ff_X0_partSaid (T : Int) (fl_iadd sn 1) kd me, rs_tm (T : Int) r row1) := by
    rw [rs_passm, q3, ← s2]
    simp only
    rw [← z4, eT, ← (zk T t1).1, q5]
  have hc := rs_passc fg sp sa ti pu mi (T : Int) sn go ca c po kd me pl wf wt he
  rw [q1] at hc
  simp only at hc
  rw [q2, es, em] at hc
  by_cases h : sn + 1 < sp
  · rw [if_pos h] at hc
    exact ⟨_, _, _, _, _, _, _, hc, hm, w1 h⟩
  · rw [if_neg h] at hc
    exact ⟨_, _, _, _, _, _, _, hc, hm, w2 h⟩
end RSC
end P092249602_rs3
section P092249603_rs4
section RSD
theorem rs_cp0 (m t s g c : Int) (pl he a b : Nat → Int) : Sf_X5_copyFrom_42_1 m t s g c pl he 0 a b = .inl (1, fl_up a 0 (pl 0), fl_up b 0 (he 0)) := rfl
theorem rs_cp1 (m t s g c : Int) (pl he a b : Nat → Int) : Sf_X5_copyFrom_42_1 m t s g c pl he 1 a b = .inl (2, fl_up a 1 (pl 1), fl_up b 1 (he 1)) := rfl
theorem rs_cp2 (m t s g c : Int) (pl he a b : Nat → Int) : Sf_X5_copyFrom_42_1 m t s g c pl he 2 a b = .inl (3, fl_up a 2 (pl 2), fl_up b 2 (he 2)) := rfl
theorem rs_cp3 (m t s g c : Int) (pl he a b : Nat → Int) : Sf_X5_copyFrom_42_1 m t s g c pl he 3 a b = .inl (4, fl_up a 3 (pl 3), fl_up b 3 (he 3)) := rfl
theorem rs_cp4 (m t s g c : Int) (pl he a b : Nat → Int) : Sf_X5_copyFrom_42_1 m t s g c pl he 4 a b = .inl (5, fl_up a 4 (pl 4), fl_up b 4 (he 4)) := rfl
theorem rs_cp5 (m t s g c : Int) (pl he a b : Nat → Int) : Sf_X5_copyFrom_42_1 m t s g c pl he 5 a b = .inl (6, fl_up a 5 (pl 5), fl_up b 5 (he 5)) := rfl
theorem rs_cp6 (m t s g c : Int) (pl he a b : Nat → Int) : Sf_X5_copyFrom_42_1 m t s g c pl he 6 a b = .inl (7, fl_up a 6 (pl 6), fl_up b 6 (he 6)) := rfl
theorem rs_cp7 (m t s g c : Int) (pl he a b : Nat → Int) : Sf_X5_copyFrom_42_1 m t s g c pl he 7 a b = .inl (8, fl_up a 7 (pl 7), fl_up b 7 (he 7)) := rfl
theorem rs_cp8 (m t s g c : Int) (pl he a b : Nat → Int) : Sf_X5_copyFrom_42_1 m t s g c pl he 8 a b = .inl (9, fl_up a 8 (pl 8), fl_up b 8 (he 8)) := rfl
theorem rs_cp (m t s g c : Int) (pl a he b : Nat → Int) : ∃ pl1 he1, Ff_X5_copyFrom m t s g c pl a he b = (m, t, s, g, c, pl1, he1) ∧ ∀ k : Nat, k < 9 → pl1 k = pl k ∧ he1 k = he k := by
  refine ⟨(fl_up (fl_up (fl_up (fl_up (fl_up (fl_up (fl_up (fl_up (fl_up a 0 (pl 0)) 1 (pl 1)) 2 (pl 2)) 3 (pl 3)) 4 (pl 4)) 5 (pl 5)) 6 (pl 6)) 7 (pl 7)) 8 (pl 8)), (fl_up (fl_up (fl_up (fl_up (fl_up (fl_up (fl_up (fl_up (fl_up b 0 (he 0)) 1 (he 1)) 2 (he 2)) 3 (he 3)) 4 (he 4)) 5 (he 5)) 6 (he 6)) 7 (he 7)) 8 (he 8)), ?_, ?_⟩
  · unfold Ff_X5_copyFrom
    rw [fl_wh_l (step := (fun t9 : Int × (Nat → Int) × (Nat → Int) => Sf_X5_copyFrom_42_1 m t s g c pl he t9.1 t9.2.1 t9.2.2)) (rs_cp0 m t s g c pl he _ _)]
    rw [fl_wh_l (step := (fun t9 : Int × (Nat → Int) × (Nat → Int) => Sf_X5_copyFrom_42_1 m t s g c pl he t9.1 t9.2.1 t9.2.2)) (rs_cp1 m t s g c pl he _ _)]
    rw [fl_wh_l (step := (fun t9 : Int × (Nat → Int) × (Nat → Int) => Sf_X5_copyFrom_42_1 m t s g c pl he t9.1 t9.2.1 t9.2.2)) (rs_cp2 m t s g c pl he _ _)]
    rw [fl_wh_l (step := (fun t9 : Int × (Nat → Int) × (Nat → Int) => Sf_X5_copyFrom_42_1 m t s g c pl he t9.1 t9.2.1 t9.2.2)) (rs_cp3 m t s g c pl he _ _)]
    rw [fl_wh_l (step := (fun t9 : Int × (Nat → Int) × (Nat → Int) => Sf_X5_copyFrom_42_1 m t s g c pl he t9.1 t9.2.1 t9.2.2)) (rs_cp4 m t s g c pl he _ _)]
    rw [fl_wh_l (step := (fun t9 : Int × (Nat → Int) × (Nat → Int) => Sf_X5_copyFrom_42_1 m t s g c pl he t9.1 t9.2.1 t9.2.2)) (rs_cp5 m t s g c pl he _ _)]
    rw [fl_wh_l (step := (fun t9 : Int × (Nat → Int) × (Nat → Int) => Sf_X5_copyFrom_42_1 m t s g c pl he t9.1 t9.2.1 t9.2.2)) (rs_cp6 m t s g c pl he _ _)]
    rw [fl_wh_l (step := (fun t9 : Int × (Nat → Int) × (Nat → Int) => Sf_X5_copyFrom_42_1 m t s g c pl he t9.1 t9.2.1 t9.2.2)) (rs_cp7 m t s g c pl he _ _)]
    rw [fl_wh_l (step := (fun t9 : Int × (Nat → Int) × (Nat → Int) => Sf_X5_copyFrom_42_1 m t s g c pl he t9.1 t9.2.1 t9.2.2)) (rs_cp8 m t s g c pl he _ _)]
    exact fl_wh_r (step := (fun t9 : Int × (Nat → Int) × (Nat → Int) => Sf_X5_copyFrom_42_1 m t s g c pl he t9.1 t9.2.1 t9.2.2)) (s := (9, (fl_up (fl_up (fl_up (fl_up (fl_up (fl_up (fl_up (fl_up (fl_up a 0 (pl 0)) 1 (pl 1)) 2 (pl 2)) 3 (pl 3)) 4 (pl 4)) 5 (pl 5)) 6 (pl 6)) 7 (pl 7)) 8 (pl 8)), (fl_up (fl_up (fl_up (fl_up (fl_up (fl_up (fl_up (fl_up (fl_up b 0 (he 0)) 1 (he 1)) 2 (he 2)) 3 (he 3)) 4 (he 4)) 5 (he 5)) 6 (he 6)) 7 (he 7)) 8 (he 8)))) rfl
  · intro k hk
    have h : k = 0 ∨ k = 1 ∨ k = 2 ∨ k = 3 ∨ k = 4 ∨ k = 5 ∨ k = 6 ∨ k = 7 ∨ k = 8 := by omega
    rcases h with h | h | h | h | h | h | h | h | h <;> (subst h; exact ⟨rfl, rfl⟩)
/-- a kept scene in its place is this one -/
def rs_P (gI : Nat → Int) (gF : Nat → Nat → Int) (j : Nat) (m t s g c : Int) (pl he : Nat → Int) : Prop := gI (5 * j) = m ∧ gI (5 * j + 1) = t ∧ gI (5 * j + 2) = s ∧ gI (5 * j + 3) = g ∧ gI (5 * j + 4) = c ∧ ∀ k : Nat, k < 9 → gF (2 * j) k = pl k ∧ gF (2 * j + 1) k = he k
theorem rs_kp0 {U L : Int} (h : (L + 1) % 16 = 0) (m t s g c : Int) (pl he : Nat → Int) (gI : Nat → Int) (gF : Nat → Nat → Int) : ∃ pl1 he1, Ff_X1_keep U L gI m t s g c pl gF he = (fl_min (U + 1) 16, 0, fl_nI [m, t, s, g, c, gI 5, gI 6, gI 7, gI 8, gI 9, gI 10, gI 11, gI 12, gI 13, gI 14, gI 15, gI 16, gI 17, gI 18, gI 19, gI 20, gI 21, gI 22, gI 23, gI 24, gI 25, gI 26, gI 27, gI 28, gI 29, gI 30, gI 31, gI 32, gI 33, gI 34, gI 35, gI 36, gI 37, gI 38, gI 39, gI 40, gI 41, gI 42, gI 43, gI 44, gI 45, gI 46, gI 47, gI 48, gI 49, gI 50, gI 51, gI 52, gI 53, gI 54, gI 55, gI 56, gI 57, gI 58, gI 59, gI 60, gI 61, gI 62, gI 63, gI 64, gI 65, gI 66, gI 67, gI 68, gI 69, gI 70, gI 71, gI 72, gI 73, gI 74, gI 75, gI 76, gI 77, gI 78, gI 79], fl_nF [pl1, he1, gF 2, gF 3, gF 4, gF 5, gF 6, gF 7, gF 8, gF 9, gF 10, gF 11, gF 12, gF 13, gF 14, gF 15, gF 16, gF 17, gF 18, gF 19, gF 20, gF 21, gF 22, gF 23, gF 24, gF 25, gF 26, gF 27, gF 28, gF 29, gF 30, gF 31]) ∧ ∀ k : Nat, k < 9 → pl1 k = pl k ∧ he1 k = he k := by
  obtain ⟨pl1, he1, e, q⟩ := rs_cp m t s g c pl (gF 0) he (gF 1)
  refine ⟨pl1, he1, ?_, q⟩
  unfold Ff_X1_keep
  rw [fl_lt_eq rfl, fl_lt_eq h.symm]
  rw [if_pos rfl]
  rw [e, fl_c7_eq rfl]
  rfl
theorem rs_ks0 (m t s g c : Int) (pl he : Nat → Int) (gI : Nat → Int) (gF : Nat → Nat → Int) (pl1 he1 : Nat → Int) (hq : ∀ k : Nat, k < 9 → pl1 k = pl k ∧ he1 k = he k) : rs_P (fl_nI [m, t, s, g, c, gI 5, gI 6, gI 7, gI 8, gI 9, gI 10, gI 11, gI 12, gI 13, gI 14, gI 15, gI 16, gI 17, gI 18, gI 19, gI 20, gI 21, gI 22, gI 23, gI 24, gI 25, gI 26, gI 27, gI 28, gI 29, gI 30, gI 31, gI 32, gI 33, gI 34, gI 35, gI 36, gI 37, gI 38, gI 39, gI 40, gI 41, gI 42, gI 43, gI 44, gI 45, gI 46, gI 47, gI 48, gI 49, gI 50, gI 51, gI 52, gI 53, gI 54, gI 55, gI 56, gI 57, gI 58, gI 59, gI 60, gI 61, gI 62, gI 63, gI 64, gI 65, gI 66, gI 67, gI 68, gI 69, gI 70, gI 71, gI 72, gI 73, gI 74, gI 75, gI 76, gI 77, gI 78, gI 79]) (fl_nF [pl1, he1, gF 2, gF 3, gF 4, gF 5, gF 6, gF 7, gF 8, gF 9, gF 10, gF 11, gF 12, gF 13, gF 14, gF 15, gF 16, gF 17, gF 18, gF 19, gF 20, gF 21, gF 22, gF 23, gF 24, gF 25, gF 26, gF 27, gF 28, gF 29, gF 30, gF 31]) 0 m t s g c pl he ∧ ∀ j : Nat, j < 16 → j ≠ 0 → (∀ x : Nat, x < 5 → (fl_nI [m, t, s, g, c, gI 5, gI 6, gI 7, gI 8, gI 9, gI 10, gI 11, gI 12, gI 13, gI 14, gI 15, gI 16, gI 17, gI 18, gI 19, gI 20, gI 21, gI 22, gI 23, gI 24, gI 25, gI 26, gI 27, gI 28, gI 29, gI 30, gI 31, gI 32, gI 33, gI 34, gI 35, gI 36, gI 37, gI 38, gI 39, gI 40, gI 41, gI 42, gI 43, gI 44, gI 45, gI 46, gI 47, gI 48, gI 49, gI 50, gI 51, gI 52, gI 53, gI 54, gI 55, gI 56, gI 57, gI 58, gI 59, gI 60, gI 61, gI 62, gI 63, gI 64, gI 65, gI 66, gI 67, gI 68, gI 69, gI 70, gI 71, gI 72, gI 73, gI 74, gI 75, gI 76, gI 77, gI 78, gI 79]) (5 * j + x) = gI (5 * j + x)) ∧ (fl_nF [pl1, he1, gF 2, gF 3, gF 4, gF 5, gF 6, gF 7, gF 8, gF 9, gF 10, gF 11, gF 12, gF 13, gF 14, gF 15, gF 16, gF 17, gF 18, gF 19, gF 20, gF 21, gF 22, gF 23, gF 24, gF 25, gF 26, gF 27, gF 28, gF 29, gF 30, gF 31]) (2 * j) = gF (2 * j) ∧ (fl_nF [pl1, he1, gF 2, gF 3, gF 4, gF 5, gF 6, gF 7, gF 8, gF 9, gF 10, gF 11, gF 12, gF 13, gF 14, gF 15, gF 16, gF 17, gF 18, gF 19, gF 20, gF 21, gF 22, gF 23, gF 24, gF 25, gF 26, gF 27, gF 28, gF 29, gF 30, gF 31]) (2 * j + 1) = gF (2 * j + 1) := by
  refine ⟨⟨rfl, rfl, rfl, rfl, rfl, hq⟩, fun j hj hn => ?_⟩
  rcases (show j = 0 ∨ j = 1 ∨ j = 2 ∨ j = 3 ∨ j = 4 ∨ j = 5 ∨ j = 6 ∨ j = 7 ∨ j = 8 ∨ j = 9 ∨ j = 10 ∨ j = 11 ∨ j = 12 ∨ j = 13 ∨ j = 14 ∨ j = 15 by omega) with h | h | h | h | h | h | h | h | h | h | h | h | h | h | h | h
  · exact absurd h hn
  · subst h
    refine ⟨fun x hx => ?_, rfl, rfl⟩
    rcases (show x = 0 ∨ x = 1 ∨ x = 2 ∨ x = 3 ∨ x = 4 by omega) with h | h | h | h | h <;> (subst h; rfl)
  · subst h
    refine ⟨fun x hx => ?_, rfl, rfl⟩
    rcases (show x = 0 ∨ x = 1 ∨ x = 2 ∨ x = 3 ∨ x = 4 by omega) with h | h | h | h | h <;> (subst h; rfl)
  · subst h
    refine ⟨fun x hx => ?_, rfl, rfl⟩
    rcases (show x = 0 ∨ x = 1 ∨ x = 2 ∨ x = 3 ∨ x = 4 by omega) with h | h | h | h | h <;> (subst h; rfl)
  · subst h
    refine ⟨fun x hx => ?_, rfl, rfl⟩
    rcases (show x = 0 ∨ x = 1 ∨ x = 2 ∨ x = 3 ∨ x = 4 by omega) with h | h | h | h | h <;> (subst h; rfl)
  · subst h
    refine ⟨fun x hx => ?_, rfl, rfl⟩
    rcases (show x = 0 ∨ x = 1 ∨ x = 2 ∨ x = 3 ∨ x = 4 by omega) with h | h | h | h | h <;> (subst h; rfl)
  · subst h
    refine ⟨fun x hx => ?_, rfl, rfl⟩
    rcases (show x = 0 ∨ x = 1 ∨ x = 2 ∨ x = 3 ∨ x = 4 by omega) with h | h | h | h | h <;> (subst h; rfl)
  · subst h
    refine ⟨fun x hx => ?_, rfl, rfl⟩
    rcases (show x = 0 ∨ x = 1 ∨ x = 2 ∨ x = 3 ∨ x = 4 by omega) with h | h | h | h | h <;> (subst h; rfl)
  · subst h
    refine ⟨fun x hx => ?_, rfl, rfl⟩
    rcases (show x = 0 ∨ x = 1 ∨ x = 2 ∨ x = 3 ∨ x = 4 by omega) with h | h | h | h | h <;> (subst h; rfl)
  · subst h
    refine ⟨fun x hx => ?_, rfl, rfl⟩
    rcases (show x = 0 ∨ x = 1 ∨ x = 2 ∨ x = 3 ∨ x = 4 by omega) with h | h | h | h | h <;> (subst h; rfl)
  · subst h
    refine ⟨fun x hx => ?_, rfl, rfl⟩
    rcases (show x = 0 ∨ x = 1 ∨ x = 2 ∨ x = 3 ∨ x = 4 by omega) with h | h | h | h | h <;> (subst h; rfl)
  · subst h
    refine ⟨fun x hx => ?_, rfl, rfl⟩
    rcases (show x = 0 ∨ x = 1 ∨ x = 2 ∨ x = 3 ∨ x = 4 by omega) with h | h | h | h | h <;> (subst h; rfl)
  · subst h
    refine ⟨fun x hx => ?_, rfl, rfl⟩
    rcases (show x = 0 ∨ x = 1 ∨ x = 2 ∨ x = 3 ∨ x = 4 by omega) with h | h | h | h | h <;> (subst h; rfl)
  · subst h
    refine ⟨fun x hx => ?_, rfl, rfl⟩
    rcases (show x = 0 ∨ x = 1 ∨ x = 2 ∨ x = 3 ∨ x = 4 by omega) with h | h | h | h | h <;> (subst h; rfl)
  · subst h
    refine ⟨fun x hx => ?_, rfl, rfl⟩
    rcases (show x = 0 ∨ x = 1 ∨ x = 2 ∨ x = 3 ∨ x = 4 by omega) with h | h | h | h | h <;> (subst h; rfl)
  · subst h
    refine ⟨fun x hx => ?_, rfl, rfl⟩
    rcases (show x = 0 ∨ x = 1 ∨ x = 2 ∨ x = 3 ∨ x = 4 by omega) with h | h | h | h | h <;> (subst h; rfl)
theorem rs_kp1 {U L : Int} (h : (L + 1) % 16 = 1) (m t s g c : Int) (pl he : Nat → Int) (gI : Nat → Int) (gF : Nat → Nat → Int) : ∃ pl1 he1, Ff_X1_keep U L gI m t s g c pl gF he = (fl_min (U + 1) 16, 1, fl_nI [gI 0, gI 1, gI 2, gI 3, gI 4, m, t, s, g, c, gI 10, gI 11, gI 12, gI 13, gI 14, gI 15, gI 16, gI 17, gI 18, gI 19, gI 20, gI 21, gI 22, gI 23, gI 24, gI 25, gI 26, gI 27, gI 28, gI 29, gI 30, gI 31, gI 32, gI 33, gI 34, gI 35, gI 36, gI 37, gI 38, gI 39, gI 40, gI 41, gI 42, gI 43, gI 44, gI 45, gI 46, gI 47, gI 48, gI 49, gI 50, gI 51, gI 52, gI 53, gI 54, gI 55, gI 56, gI 57, gI 58, gI 59, gI 60, gI 61, gI 62, gI 63, gI 64, gI 65, gI 66, gI 67, gI 68, gI 69, gI 70, gI 71, gI 72, gI 73, gI 74, gI 75, gI 76, gI 77, gI 78, gI 79], fl_nF [gF 0, gF 1, pl1, he1, gF 4, gF 5, gF 6, gF 7, gF 8, gF 9, gF 10, gF 11, gF 12, gF 13, gF 14, gF 15, gF 16, gF 17, gF 18, gF 19, gF 20, gF 21, gF 22, gF 23, gF 24, gF 25, gF 26, gF 27, gF 28, gF 29, gF 30, gF 31]) ∧ ∀ k : Nat, k < 9 → pl1 k = pl k ∧ he1 k = he k := by
  obtain ⟨pl1, he1, e, q⟩ := rs_cp m t s g c pl (gF 2) he (gF 3)
  refine ⟨pl1, he1, ?_, q⟩
  unfold Ff_X1_keep
  rw [fl_lt_eq rfl, fl_lt_eq h.symm]
  rw [if_neg (by decide)]
  rw [if_pos rfl]
  rw [e, fl_c7_eq rfl]
  rfl
theorem rs_ks1 (m t s g c : Int) (pl he : Nat → Int) (gI : Nat → Int) (gF : Nat → Nat → Int) (pl1 he1 : Nat → Int) (hq : ∀ k : Nat, k < 9 → pl1 k = pl k ∧ he1 k = he k) : rs_P (fl_nI [gI 0, gI 1, gI 2, gI 3, gI 4, m, t, s, g, c, gI 10, gI 11, gI 12, gI 13, gI 14, gI 15, gI 16, gI 17, gI 18, gI 19, gI 20, gI 21, gI 22, gI 23, gI 24, gI 25, gI 26, gI 27, gI 28, gI 29, gI 30, gI 31, gI 32, gI 33, gI 34, gI 35, gI 36, gI 37, gI 38, gI 39, gI 40, gI 41, gI 42, gI 43, gI 44, gI 45, gI 46, gI 47, gI 48, gI 49, gI 50, gI 51, gI 52, gI 53, gI 54, gI 55, gI 56, gI 57, gI 58, gI 59, gI 60, gI 61, gI 62, gI 63, gI 64, gI 65, gI 66, gI 67, gI 68, gI 69, gI 70, gI 71, gI 72, gI 73, gI 74, gI 75, gI 76, gI 77, gI 78, gI 79]) (fl_nF [gF 0, gF 1, pl1, he1, gF 4, gF 5, gF 6, gF 7, gF 8, gF 9, gF 10, gF 11, gF 12, gF 13, gF 14, gF 15, gF 16, gF 17, gF 18, gF 19, gF 20, gF 21, gF 22, gF 23, gF 24, gF 25, gF 26, gF 27, gF 28, gF 29, gF 30, gF 31]) 1 m t s g c pl he ∧ ∀ j : Nat, j < 16 → j ≠ 1 → (∀ x : Nat, x < 5 → (fl_nI [gI 0, gI 1, gI 2, gI 3, gI 4, m, t, s, g, c, gI 10, gI 11, gI 12, gI 13, gI 14, gI 15, gI 16, gI 17, gI 18, gI 19, gI 20, gI 21, gI 22, gI 23, gI 24, gI 25, gI 26, gI 27, gI 28, gI 29, gI 30, gI 31, gI 32, gI 33, gI 34, gI 35, gI 36, gI 37, gI 38, gI 39, gI 40, gI 41, gI 42, gI 43, gI 44, gI 45, gI 46, gI 47, gI 48, gI 49, gI 50, gI 51, gI 52, gI 53, gI 54, gI 55, gI 56, gI 57, gI 58, gI 59, gI 60, gI 61, gI 62, gI 63, gI 64, gI 65, gI 66, gI 67, gI 68, gI 69, gI 70, gI 71, gI 72, gI 73, gI 74, gI 75, gI 76, gI 77, gI 78, gI 79]) (5 * j + x) = gI (5 * j + x)) ∧ (fl_nF [gF 0, gF 1, pl1, he1, gF 4, gF 5, gF 6, gF 7, gF 8, gF 9, gF 10, gF 11, gF 12, gF 13, gF 14, gF 15, gF 16, gF 17, gF 18, gF 19, gF 20, gF 21, gF 22, gF 23, gF 24, gF 25, gF 26, gF 27, gF 28, gF 29, gF 30, gF 31]) (2 * j) = gF (2 * j) ∧ (fl_nF [gF 0, gF 1, pl1, he1, gF 4, gF 5, gF 6, gF 7, gF 8, gF 9, gF 10, gF 11, gF 12, gF 13, gF 14, gF 15, gF 16, gF 17, gF 18, gF 19, gF 20, gF 21, gF 22, gF 23, gF 24, gF 25, gF 26, gF 27, gF 28, gF 29, gF 30, gF 31]) (2 * j + 1) = gF (2 * j + 1) := by
  refine ⟨⟨rfl, rfl, rfl, rfl, rfl, hq⟩, fun j hj hn => ?_⟩
  rcases (show j = 0 ∨ j = 1 ∨ j = 2 ∨ j = 3 ∨ j = 4 ∨ j = 5 ∨ j = 6 ∨ j = 7 ∨ j = 8 ∨ j = 9 ∨ j = 10 ∨ j = 11 ∨ j = 12 ∨ j = 13 ∨ j = 14 ∨ j = 15 by omega) with h | h | h | h | h | h | h | h | h | h | h | h | h | h | h | h
  · subst h
    refine ⟨fun x hx => ?_, rfl, rfl⟩
    rcases (show x = 0 ∨ x = 1 ∨ x = 2 ∨ x = 3 ∨ x = 4 by omega) with h | h | h | h | h <;> (subst h; rfl)
  · exact absurd h hn
  · subst h
    refine ⟨fun x hx => ?_, rfl, rfl⟩
    rcases (show x = 0 ∨ x = 1 ∨ x = 2 ∨ x = 3 ∨ x = 4 by omega) with h | h | h | h | h <;> (subst h; rfl)
  · subst h
    refine ⟨fun x hx => ?_, rfl, rfl⟩
    rcases (show x = 0 ∨ x = 1 ∨ x = 2 ∨ x = 3 ∨ x = 4 by omega) with h | h | h | h | h <;> (subst h; rfl)
  · subst h
    refine ⟨fun x hx => ?_, rfl, rfl⟩
    rcases (show x = 0 ∨ x = 1 ∨ x = 2 ∨ x = 3 ∨ x = 4 by omega) with h | h | h | h | h <;> (subst h; rfl)
  · subst h
    refine ⟨fun x hx => ?_, rfl, rfl⟩
    rcases (show x = 0 ∨ x = 1 ∨ x = 2 ∨ x = 3 ∨ x = 4 by omega) with h | h | h | h | h <;> (subst h; rfl)
  · subst h
    refine ⟨fun x hx => ?_, rfl, rfl⟩
    rcases (show x = 0 ∨ x = 1 ∨ x = 2 ∨ x = 3 ∨ x = 4 by omega) with h | h | h | h | h <;> (subst h; rfl)
  · subst h
    refine ⟨fun x hx => ?_, rfl, rfl⟩
    rcases (show x = 0 ∨ x = 1 ∨ x = 2 ∨ x = 3 ∨ x = 4 by omega) with h | h | h | h | h <;> (subst h; rfl)
  · subst h
    refine ⟨fun x hx => ?_, rfl, rfl⟩
    rcases (show x = 0 ∨ x = 1 ∨ x = 2 ∨ x = 3 ∨ x = 4 by omega) with h | h | h | h | h <;> (subst h; rfl)
  · subst h
    refine ⟨fun x hx => ?_, rfl, rfl⟩
    rcases (show x = 0 ∨ x = 1 ∨ x = 2 ∨ x = 3 ∨ x = 4 by omega) with h | h | h | h | h <;> (subst h; rfl)
  · subst h
    refine ⟨fun x hx => ?_, rfl, rfl⟩
    rcases (show x = 0 ∨ x = 1 ∨ x = 2 ∨ x = 3 ∨ x = 4 by omega) with h | h | h | h | h <;> (subst h; rfl)
  · subst h
    refine ⟨fun x hx => ?_, rfl, rfl⟩
    rcases (show x = 0 ∨ x = 1 ∨ x = 2 ∨ x = 3 ∨ x = 4 by omega) with h | h | h | h | h <;> (subst h; rfl)
  · subst h
    refine ⟨fun x hx => ?_, rfl, rfl⟩
    rcases (show x = 0 ∨ x = 1 ∨ x = 2 ∨ x = 3 ∨ x = 4 by omega) with h | h | h | h | h <;> (subst h; rfl)
  · subst h
    refine ⟨fun x hx => ?_, rfl, rfl⟩
    rcases (show x = 0 ∨ x = 1 ∨ x = 2 ∨ x = 3 ∨ x = 4 by omega) with h | h | h | h | h <;> (subst h; rfl)
  · subst h
    refine ⟨fun x hx => ?_, rfl, rfl⟩
    rcases (show x = 0 ∨ x = 1 ∨ x = 2 ∨ x = 3 ∨ x = 4 by omega) with h | h | h | h | h <;> (subst h; rfl)
  · subst h
    refine ⟨fun x hx => ?_, rfl, rfl⟩
    rcases (show x = 0 ∨ x = 1 ∨ x = 2 ∨ x = 3 ∨ x = 4 by omega) with h | h | h | h | h <;> (subst h; rfl)
theorem rs_kp2 {U L : Int} (h : (L + 1) % 16 = 2) (m t s g c : Int) (pl he : Nat → Int) (gI : Nat → Int) (gF : Nat → Nat → Int) : ∃ pl1 he1, Ff_X1_keep U L gI m t s g c pl gF he = (fl_min (U + 1) 16, 2, fl_nI [gI 0, gI 1, gI 2, gI 3, gI 4, gI 5, gI 6, gI 7, gI 8, gI 9, m, t, s, g, c, gI 15, gI 16, gI 17, gI 18, gI 19, gI 20, gI 21, gI 22, gI 23, gI 24, gI 25, gI 26, gI 27, gI 28, gI 29, gI 30, gI 31, gI 32, gI 33, gI 34, gI 35, gI 36, gI 37, gI 38, gI 39, gI 40, gI 41, gI 42, gI 43, gI 44, gI 45, gI 46, gI 47, gI 48, gI 49, gI 50, gI 51, gI 52, gI 53, gI 54, gI 55, gI 56, gI 57, gI 58, gI 59, gI 60, gI 61, gI 62, gI 63, gI 64, gI 65, gI 66, gI 67, gI 68, gI 69, gI 70, gI 71, gI 72, gI 73, gI 74, gI 75, gI 76, gI 77, gI 78, gI 79], fl_nF [gF 0, gF 1, gF 2, gF 3, pl1, he1, gF 6, gF 7, gF 8, gF 9, gF 10, gF 11, gF 12, gF 13, gF 14, gF 15, gF 16, gF 17, gF 18, gF 19, gF 20, gF 21, gF 22, gF 23, gF 24, gF 25, gF 26, gF 27, gF 28, gF 29, gF 30, gF 31]) ∧ ∀ k : Nat, k < 9 → pl1 k = pl k ∧ he1 k = he k := by
  obtain ⟨pl1, he1, e, q⟩ := rs_cp m t s g c pl (gF 4) he (gF 5)
  refine ⟨pl1, he1, ?_, q⟩
  unfold Ff_X1_keep
  rw [fl_lt_eq rfl, fl_lt_eq h.symm]
  rw [if_neg (by decide)]
  rw [if_neg (by decide)]
  rw [if_pos rfl]
  rw [e, fl_c7_eq rfl]
  rfl
theorem rs_ks2 (m t s g c : Int) (pl he : Nat → Int) (gI : Nat → Int) (gF : Nat → Nat → Int) (pl1 he1 : Nat → Int) (hq : ∀ k : Nat, k < 9 → pl1 k = pl k ∧ he1 k = he k) : rs_P (fl_nI [gI 0, gI 1, gI 2, gI 3, gI 4, gI 5, gI 6, gI 7, gI 8, gI 9, m, t, s, g, c, gI 15, gI 16, gI 17, gI 18, gI 19, gI 20, gI 21, gI 22, gI 23, gI 24, gI 25, gI 26, gI 27, gI 28, gI 29, gI 30, gI 31, gI 32, gI 33, gI 34, gI 35, gI 36, gI 37, gI 38, gI 39, gI 40, gI 41, gI 42, gI 43, gI 44, gI 45, gI 46, gI 47, gI 48, gI 49, gI 50, gI 51, gI 52, gI 53, gI 54, gI 55, gI 56, gI 57, gI 58, gI 59, gI 60, gI 61, gI 62, gI 63, gI 64, gI 65, gI 66, gI 67, gI 68, gI 69, gI 70, gI 71, gI 72, gI 73, gI 74, gI 75, gI 76, gI 77, gI 78, gI 79]) (fl_nF [gF 0, gF 1, gF 2, gF 3, pl1, he1, gF 6, gF 7, gF 8, gF 9, gF 10, gF 11, gF 12, gF 13, gF 14, gF 15, gF 16, gF 17, gF 18, gF 19, gF 20, gF 21, gF 22, gF 23, gF 24, gF 25, gF 26, gF 27, gF 28, gF 29, gF 30, gF 31]) 2 m t s g c pl he ∧ ∀ j : Nat, j < 16 → j ≠ 2 → (∀ x : Nat, x < 5 → (fl_nI [gI 0, gI 1, gI 2, gI 3, gI 4, gI 5, gI 6, gI 7, gI 8, gI 9, m, t, s, g, c, gI 15, gI 16, gI 17, gI 18, gI 19, gI 20, gI 21, gI 22, gI 23, gI 24, gI 25, gI 26, gI 27, gI 28, gI 29, gI 30, gI 31, gI 32, gI 33, gI 34, gI 35, gI 36, gI 37, gI 38, gI 39, gI 40, gI 41, gI 42, gI 43, gI 44, gI 45, gI 46, gI 47, gI 48, gI 49, gI 50, gI 51, gI 52, gI 53, gI 54, gI 55, gI 56, gI 57, gI 58, gI 59, gI 60, gI 61, gI 62, gI 63, gI 64, gI 65, gI 66, gI 67, gI 68, gI 69, gI 70, gI 71, gI 72, gI 73, gI 74, gI 75, gI 76, gI 77, gI 78, gI 79]) (5 * j + x) = gI (5 * j + x)) ∧ (fl_nF [gF 0, gF 1, gF 2, gF 3, pl1, he1, gF 6, gF 7, gF 8, gF 9, gF 10, gF 11, gF 12, gF 13, gF 14, gF 15, gF 16, gF 17, gF 18, gF 19, gF 20, gF 21, gF 22, gF 23, gF 24, gF 25, gF 26, gF 27, gF 28, gF 29, gF 30, gF 31]) (2 * j) = gF (2 * j) ∧ (fl_nF [gF 0, gF 1, gF 2, gF 3, pl1, he1, gF 6, gF 7, gF 8, gF 9, gF 10, gF 11, gF 12, gF 13, gF 14, gF 15, gF 16, gF 17, gF 18, gF 19, gF 20, gF 21, gF 22, gF 23, gF 24, gF 25, gF 26, gF 27, gF 28, gF 29, gF 30, gF 31]) (2 * j + 1) = gF (2 * j + 1) := by
  refine ⟨⟨rfl, rfl, rfl, rfl, rfl, hq⟩, fun j hj hn => ?_⟩
  rcases (show j = 0 ∨ j = 1 ∨ j = 2 ∨ j = 3 ∨ j = 4 ∨ j = 5 ∨ j = 6 ∨ j = 7 ∨ j = 8 ∨ j = 9 ∨ j = 10 ∨ j = 11 ∨ j = 12 ∨ j = 13 ∨ j = 14 ∨ j = 15 by omega) with h | h | h | h | h | h | h | h | h | h | h | h | h | h | h | h
  · subst h
    refine ⟨fun x hx => ?_, rfl, rfl⟩
    rcases (show x = 0 ∨ x = 1 ∨ x = 2 ∨ x = 3 ∨ x = 4 by omega) with h | h | h | h | h <;> (subst h; rfl)
  · subst h
    refine ⟨fun x hx => ?_, rfl, rfl⟩
    rcases (show x = 0 ∨ x = 1 ∨ x = 2 ∨ x = 3 ∨ x = 4 by omega) with h | h | h | h | h <;> (subst h; rfl)
  · exact absurd h hn
  · subst h
    refine ⟨fun x hx => ?_, rfl, rfl⟩
    rcases (show x = 0 ∨ x = 1 ∨ x = 2 ∨ x = 3 ∨ x = 4 by omega) with h | h | h | h | h <;> (subst h; rfl)
  · subst h
    refine ⟨fun x hx => ?_, rfl, rfl⟩
    rcases (show x = 0 ∨ x = 1 ∨ x = 2 ∨ x = 3 ∨ x = 4 by omega) with h | h | h | h | h <;> (subst h; rfl)
  · subst h
    refine ⟨fun x hx => ?_, rfl, rfl⟩
    rcases (show x = 0 ∨ x = 1 ∨ x = 2 ∨ x = 3 ∨ x = 4 by omega) with h | h | h | h | h <;> (subst h; rfl)
  · subst h
    refine ⟨fun x hx => ?_, rfl, rfl⟩
    rcases (show x = 0 ∨ x = 1 ∨ x = 2 ∨ x = 3 ∨ x = 4 by omega) with h | h | h | h | h <;> (subst h; rfl)
  · subst h
    refine ⟨fun x hx => ?_, rfl, rfl⟩
    rcases (show x = 0 ∨ x = 1 ∨ x = 2 ∨ x = 3 ∨ x = 4 by omega) with h | h | h | h | h <;> (subst h; rfl)
  · subst h
    refine ⟨fun x hx => ?_, rfl, rfl⟩
    rcases (show x = 0 ∨ x = 1 ∨ x = 2 ∨ x = 3 ∨ x = 4 by omega) with h | h | h | h | h <;> (subst h; rfl)
  · subst h
    refine ⟨fun x hx => ?_, rfl, rfl⟩
    rcases (show x = 0 ∨ x = 1 ∨ x = 2 ∨ x = 3 ∨ x = 4 by omega) with h | h | h | h | h <;> (subst h; rfl)
  · subst h
    refine ⟨fun x hx => ?_, rfl, rfl⟩
    rcases (show x = 0 ∨ x = 1 ∨ x = 2 ∨ x = 3 ∨ x = 4 by omega) with h | h | h | h | h <;> (subst h; rfl)
  · subst h
    refine ⟨fun x hx => ?_, rfl, rfl⟩
    rcases (show x = 0 ∨ x = 1 ∨ x = 2 ∨ x = 3 ∨ x = 4 by omega) with h | h | h | h | h <;> (subst h; rfl)
  · subst h
    refine ⟨fun x hx => ?_, rfl, rfl⟩
    rcases (show x = 0 ∨ x = 1 ∨ x = 2 ∨ x = 3 ∨ x = 4 by omega) with h | h | h | h | h <;> (subst h; rfl)
  · subst h
    refine ⟨fun x hx => ?_, rfl, rfl⟩
    rcases (show x = 0 ∨ x = 1 ∨ x = 2 ∨ x = 3 ∨ x = 4 by omega) with h | h | h | h | h <;> (subst h; rfl)
  · subst h
    refine ⟨fun x hx => ?_, rfl, rfl⟩
    rcases (show x = 0 ∨ x = 1 ∨ x = 2 ∨ x = 3 ∨ x = 4 by omega) with h | h | h | h | h <;> (subst h; rfl)
  · subst h
    refine ⟨fun x hx => ?_, rfl, rfl⟩
    rcases (show x = 0 ∨ x = 1 ∨ x = 2 ∨ x = 3 ∨ x = 4 by omega) with h | h | h | h | h <;> (subst h; rfl)
theorem rs_kp3 {U L : Int} (h : (L + 1) % 16 = 3) (m t s g c : Int) (pl he : Nat → Int) (gI : Nat → Int) (gF : Nat → Nat → Int) : ∃ pl1 he1, Ff_X1_keep U L gI m t s g c pl gF he = (fl_min (U + 1) 16, 3, fl_nI [gI 0, gI 1, gI 2, gI 3, gI 4, gI 5, gI 6, gI 7, gI 8, gI 9, gI 10, gI 11, gI 12, gI 13, gI 14, m, t, s, g, c, gI 20, gI 21, gI 22, gI 23, gI 24, gI 25, gI 26, gI 27, gI 28, gI 29, gI 30, gI 31, gI 32, gI 33, gI 34, gI 35, gI 36, gI 37, gI 38, gI 39, gI 40, gI 41, gI 42, gI 43, gI 44, gI 45, gI 46, gI 47, gI 48, gI 49, gI 50, gI 51, gI 52, gI 53, gI 54, gI 55, gI 56, gI 57, gI 58, gI 59, gI 60, gI 61, gI 62, gI 63, gI 64, gI 65, gI 66, gI 67, gI 68, gI 69, gI 70, gI 71, gI 72, gI 73, gI 74, gI 75, gI 76, gI 77, gI 78, gI 79], fl_nF [gF 0, gF 1, gF 2, gF 3, gF 4, gF 5, pl1, he1, gF 8, gF 9, gF 10, gF 11, gF 12, gF 13, gF 14, gF 15, gF 16, gF 17, gF 18, gF 19, gF 20, gF 21, gF 22, gF 23, gF 24, gF 25, gF 26, gF 27, gF 28, gF 29, gF 30, gF 31]) ∧ ∀ k : Nat, k < 9 → pl1 k = pl k ∧ he1 k = he k := by
  obtain ⟨pl1, he1, e, q⟩ := rs_cp m t s g c pl (gF 6) he (gF 7)
  refine ⟨pl1, he1, ?_, q⟩
  unfold Ff_X1_keep
  rw [fl_lt_eq rfl, fl_lt_eq h.symm]
  rw [if_neg (by decide)]
  rw [if_neg (by decide)]
  rw [if_neg (by decide)]
  rw [if_pos rfl]
  rw [e, fl_c7_eq rfl]
  rfl
theorem rs_ks3 (m t s g c : Int) (pl he : Nat → Int) (gI : Nat → Int) (gF : Nat → Nat → Int) (pl1 he1 : Nat → Int) (hq : ∀ k : Nat, k < 9 → pl1 k = pl k ∧ he1 k = he k) : rs_P (fl_nI [gI 0, gI 1, gI 2, gI 3, gI 4, gI 5, gI 6, gI 7, gI 8, gI 9, gI 10, gI 11, gI 12, gI 13, gI 14, m, t, s, g, c, gI 20, gI 21, gI 22, gI 23, gI 24, gI 25, gI 26, gI 27, gI 28, gI 29, gI 30, gI 31, gI 32, gI 33, gI 34, gI 35, gI 36, gI 37, gI 38, gI 39, gI 40, gI 41, gI 42, gI 43, gI 44, gI 45, gI 46, gI 47, gI 48, gI 49, gI 50, gI 51, gI 52, gI 53, gI 54, gI 55, gI 56, gI 57, gI 58, gI 59, gI 60, gI 61, gI 62, gI 63, gI 64, gI 65, gI 66, gI 67, gI 68, gI 69, gI 70, gI 71, gI 72, gI 73, gI 74, gI 75, gI 76, gI 77, gI 78, gI 79]) (fl_nF [gF 0, gF 1, gF 2, gF 3, gF 4, gF 5, pl1, he1, gF 8, gF 9, gF 10, gF 11, gF 12, gF 13, gF 14, gF 15, gF 16, gF 17, gF 18, gF 19, gF 20, gF 21, gF 22, gF 23, gF 24, gF 25, gF 26, gF 27, gF 28, gF 29, gF 30, gF 31]) 3 m t s g c pl he ∧ ∀ j : Nat, j < 16 → j ≠ 3 → (∀ x : Nat, x < 5 → (fl_nI [gI 0, gI 1, gI 2, gI 3, gI 4, gI 5, gI 6, gI 7, gI 8, gI 9, gI 10, gI 11, gI 12, gI 13, gI 14, m, t, s, g, c, gI 20, gI 21, gI 22, gI 23, gI 24, gI 25, gI 26, gI 27, gI 28, gI 29, gI 30, gI 31, gI 32, gI 33, gI 34, gI 35, gI 36, gI 37, gI 38, gI 39, gI 40, gI 41, gI 42, gI 43, gI 44, gI 45, gI 46, gI 47, gI 48, gI 49, gI 50, gI 51, gI 52, gI 53, gI 54, gI 55, gI 56, gI 57, gI 58, gI 59, gI 60, gI 61, gI 62, gI 63, gI 64, gI 65, gI 66, gI 67, gI 68, gI 69, gI 70, gI 71, gI 72, gI 73, gI 74, gI 75, gI 76, gI 77, gI 78, gI 79]) (5 * j + x) = gI (5 * j + x)) ∧ (fl_nF [gF 0, gF 1, gF 2, gF 3, gF 4, gF 5, pl1, he1, gF 8, gF 9, gF 10, gF 11, gF 12, gF 13, gF 14, gF 15, gF 16, gF 17, gF 18, gF 19, gF 20, gF 21, gF 22, gF 23, gF 24, gF 25, gF 26, gF 27, gF 28, gF 29, gF 30, gF 31]) (2 * j) = gF (2 * j) ∧ (fl_nF [gF 0, gF 1, gF 2, gF 3, gF 4, gF 5, pl1, he1, gF 8, gF 9, gF 10, gF 11, gF 12, gF 13, gF 14, gF 15, gF 16, gF 17, gF 18, gF 19, gF 20, gF 21, gF 22, gF 23, gF 24, gF 25, gF 26, gF 27, gF 28, gF 29, gF 30, gF 31]) (2 * j + 1) = gF (2 * j + 1) := by
  refine ⟨⟨rfl, rfl, rfl, rfl, rfl, hq⟩, fun j hj hn => ?_⟩
  rcases (show j = 0 ∨ j = 1 ∨ j = 2 ∨ j = 3 ∨ j = 4 ∨ j = 5 ∨ j = 6 ∨ j = 7 ∨ j = 8 ∨ j = 9 ∨ j = 10 ∨ j = 11 ∨ j = 12 ∨ j = 13 ∨ j = 14 ∨ j = 15 by omega) with h | h | h | h | h | h | h | h | h | h | h | h | h | h | h | h
  · subst h
    refine ⟨fun x hx => ?_, rfl, rfl⟩
    rcases (show x = 0 ∨ x = 1 ∨ x = 2 ∨ x = 3 ∨ x = 4 by omega) with h | h | h | h | h <;> (subst h; rfl)
  · subst h
    refine ⟨fun x hx => ?_, rfl, rfl⟩
    rcases (show x = 0 ∨ x = 1 ∨ x = 2 ∨ x = 3 ∨ x = 4 by omega) with h | h | h | h | h <;> (subst h; rfl)
  · subst h
    refine ⟨fun x hx => ?_, rfl, rfl⟩
    rcases (show x = 0 ∨ x = 1 ∨ x = 2 ∨ x = 3 ∨ x = 4 by omega) with h | h | h | h | h <;> (subst h; rfl)
  · exact absurd h hn
  · subst h
    refine ⟨fun x hx => ?_, rfl, rfl⟩
    rcases (show x = 0 ∨ x = 1 ∨ x = 2 ∨ x = 3 ∨ x = 4 by omega) with h | h | h | h | h <;> (subst h; rfl)
  · subst h
    refine ⟨fun x hx => ?_, rfl, rfl⟩
    rcases (show x = 0 ∨ x = 1 ∨ x = 2 ∨ x = 3 ∨ x = 4 by omega) with h | h | h | h | h <;> (subst h; rfl)
  · subst h
    refine ⟨fun x hx => ?_, rfl, rfl⟩
    rcases (show x = 0 ∨ x = 1 ∨ x = 2 ∨ x = 3 ∨ x = 4 by omega) with h | h | h | h | h <;> (subst h; rfl)
  · subst h
    refine ⟨fun x hx => ?_, rfl, rfl⟩
    rcases (show x = 0 ∨ x = 1 ∨ x = 2 ∨ x = 3 ∨ x = 4 by omega) with h | h | h | h | h <;> (subst h; rfl)
  · subst h
    refine ⟨fun x hx => ?_, rfl, rfl⟩
    rcases (show x = 0 ∨ x = 1 ∨ x = 2 ∨ x = 3 ∨ x = 4 by omega) with h | h | h | h | h <;> (subst h; rfl)
  · subst h
    refine ⟨fun x hx => ?_, rfl, rfl⟩
    rcases (show x = 0 ∨ x = 1 ∨ x = 2 ∨ x = 3 ∨ x = 4 by omega) with h | h | h | h | h <;> (subst h; rfl)
  · subst h
    refine ⟨fun x hx => ?_, rfl, rfl⟩
    rcases (show x = 0 ∨ x = 1 ∨ x = 2 ∨ x = 3 ∨ x = 4 by omega) with h | h | h | h | h <;> (subst h; rfl)
  · subst h
    refine ⟨fun x hx => ?_, rfl, rfl⟩
    rcases (show x = 0 ∨ x = 1 ∨ x = 2 ∨ x = 3 ∨ x = 4 by omega) with h | h | h | h | h <;> (subst h; rfl)
  · subst h
    refine ⟨fun x hx => ?_, rfl, rfl⟩
    rcases (show x = 0 ∨ x = 1 ∨ x = 2 ∨ x = 3 ∨ x = 4 by omega) with h | h | h | h | h <;> (subst h; rfl)
  · subst h
    refine ⟨fun x hx => ?_, rfl, rfl⟩
    rcases (show x = 0 ∨ x = 1 ∨ x = 2 ∨ x = 3 ∨ x = 4 by omega) with h | h | h | h | h <;> (subst h; rfl)
  · subst h
    refine ⟨fun x hx => ?_, rfl, rfl⟩
    rcases (show x = 0 ∨ x = 1 ∨ x = 2 ∨ x = 3 ∨ x = 4 by omega) with h | h | h | h | h <;> (subst h; rfl)
  · subst h
    refine ⟨fun x hx => ?_, rfl, rfl⟩
    rcases (show x = 0 ∨ x = 1 ∨ x = 2 ∨ x = 3 ∨ x = 4 by omega) with h | h | h | h | h <;> (subst h; rfl)
theorem rs_kp4 {U L : Int} (h : (L + 1) % 16 = 4) (m t s g c : Int) (pl he : Nat → Int) (gI : Nat → Int) (gF : Nat → Nat → Int) : ∃ pl1 he1, Ff_X1_keep U L gI m t s g c pl gF he = (fl_min (U + 1) 16, 4, fl_nI [gI 0, gI 1, gI 2, gI 3, gI 4, gI 5, gI 6, gI 7, gI 8, gI 9, gI 10, gI 11, gI 12, gI 13, gI 14, gI 15, gI 16, gI 17, gI 18, gI 19, m, t, s, g, c, gI 25, gI 26, gI 27, gI 28, gI 29, gI 30, gI 31, gI 32, gI 33, gI 34, gI 35, gI 36, gI 37, gI 38, gI 39, gI 40, gI 41, gI 42, gI 43, gI 44, gI 45, gI 46, gI 47, gI 48, gI 49, gI 50, gI 51, gI 52, gI 53, gI 54, gI 55, gI 56, gI 57, gI 58, gI 59, gI 60, gI 61, gI 62, gI 63, gI 64, gI 65, gI 66, gI 67, gI 68, gI 69, gI 70, gI 71, gI 72, gI 73, gI 74, gI 75, gI 76, gI 77, gI 78, gI 79], fl_nF [gF 0, gF 1, gF 2, gF 3, gF 4, gF 5, gF 6, gF 7, pl1, he1, gF 10, gF 11, gF 12, gF 13, gF 14, gF 15, gF 16, gF 17, gF 18, gF 19, gF 20, gF 21, gF 22, gF 23, gF 24, gF 25, gF 26, gF 27, gF 28, gF 29, gF 30, gF 31]) ∧ ∀ k : Nat, k < 9 → pl1 k = pl k ∧ he1 k = he k := by
  obtain ⟨pl1, he1, e, q⟩ := rs_cp m t s g c pl (gF 8) he (gF 9)
  refine ⟨pl1, he1, ?_, q⟩
  unfold Ff_X1_keep
  rw [fl_lt_eq rfl, fl_lt_eq h.symm]
  rw [if_neg (by decide)]
  rw [if_neg (by decide)]
  rw [if_neg (by decide)]
  rw [if_neg (by decide)]
  rw [if_pos rfl]
  rw [e, fl_c7_eq rfl]
  rfl
theorem rs_ks4 (m t s g c : Int) (pl he : Nat → Int) (gI : Nat → Int) (gF : Nat → Nat → Int) (pl1 he1 : Nat → Int) (hq : ∀ k : Nat, k < 9 → pl1 k = pl k ∧ he1 k = he k) : rs_P (fl_nI [gI 0, gI 1, gI 2, gI 3, gI 4, gI 5, gI 6, gI 7, gI 8, gI 9, gI 10, gI 11, gI 12, gI 13, gI 14, gI 15, gI 16, gI 17, gI 18, gI 19, m, t, s, g, c, gI 25, gI 26, gI 27, gI 28, gI 29, gI 30, gI 31, gI 32, gI 33, gI 34, gI 35, gI 36, gI 37, gI 38, gI 39, gI 40, gI 41, gI 42, gI 43, gI 44, gI 45, gI 46, gI 47, gI 48, gI 49, gI 50, gI 51, gI 52, gI 53, gI 54, gI 55, gI 56, gI 57, gI 58, gI 59, gI 60, gI 61, gI 62, gI 63, gI 64, gI 65, gI 66, gI 67, gI 68, gI 69, gI 70, gI 71, gI 72, gI 73, gI 74, gI 75, gI 76, gI 77, gI 78, gI 79]) (fl_nF [gF 0, gF 1, gF 2, gF 3, gF 4, gF 5, gF 6, gF 7, pl1, he1, gF 10, gF 11, gF 12, gF 13, gF 14, gF 15, gF 16, gF 17, gF 18, gF 19, gF 20, gF 21, gF 22, gF 23, gF 24, gF 25, gF 26, gF 27, gF 28, gF 29, gF 30, gF 31]) 4 m t s g c pl he ∧ ∀ j : Nat, j < 16 → j ≠ 4 → (∀ x : Nat, x < 5 → (fl_nI [gI 0, gI 1, gI 2, gI 3, gI 4, gI 5, gI 6, gI 7, gI 8, gI 9, gI 10, gI 11, gI 12, gI 13, gI 14, gI 15, gI 16, gI 17, gI 18, gI 19, m, t, s, g, c, gI 25, gI 26, gI 27, gI 28, gI 29, gI 30, gI 31, gI 32, gI 33, gI 34, gI 35, gI 36, gI 37, gI 38, gI 39, gI 40, gI 41, gI 42, gI 43, gI 44, gI 45, gI 46, gI 47, gI 48, gI 49, gI 50, gI 51, gI 52, gI 53, gI 54, gI 55, gI 56, gI 57, gI 58, gI 59, gI 60, gI 61, gI 62, gI 63, gI 64, gI 65, gI 66, gI 67, gI 68, gI 69, gI 70, gI 71, gI 72, gI 73, gI 74, gI 75, gI 76, gI 77, gI 78, gI 79]) (5 * j + x) = gI (5 * j + x)) ∧ (fl_nF [gF 0, gF 1, gF 2, gF 3, gF 4, gF 5, gF 6, gF 7, pl1, he1, gF 10, gF 11, gF 12, gF 13, gF 14, gF 15, gF 16, gF 17, gF 18, gF 19, gF 20, gF 21, gF 22, gF 23, gF 24, gF 25, gF 26, gF 27, gF 28, gF 29, gF 30, gF 31]) (2 * j) = gF (2 * j) ∧ (fl_nF [gF 0, gF 1, gF 2, gF 3, gF 4, gF 5, gF 6, gF 7, pl1, he1, gF 10, gF 11, gF 12, gF 13, gF 14, gF 15, gF 16, gF 17, gF 18, gF 19, gF 20, gF 21, gF 22, gF 23, gF 24, gF 25, gF 26, gF 27, gF 28, gF 29, gF 30, gF 31]) (2 * j + 1) = gF (2 * j + 1) := by
  refine ⟨⟨rfl, rfl, rfl, rfl, rfl, hq⟩, fun j hj hn => ?_⟩
  rcases (show j = 0 ∨ j = 1 ∨ j = 2 ∨ j = 3 ∨ j = 4 ∨ j = 5 ∨ j = 6 ∨ j = 7 ∨ j = 8 ∨ j = 9 ∨ j = 10 ∨ j = 11 ∨ j = 12 ∨ j = 13 ∨ j = 14 ∨ j = 15 by omega) with h | h | h | h | h | h | h | h | h | h | h | h | h | h | h | h
  · subst h
    refine ⟨fun x hx => ?_, rfl, rfl⟩
    rcases (show x = 0 ∨ x = 1 ∨ x = 2 ∨ x = 3 ∨ x = 4 by omega) with h | h | h | h | h <;> (subst h; rfl)
  · subst h
    refine ⟨fun x hx => ?_, rfl, rfl⟩
    rcases (show x = 0 ∨ x = 1 ∨ x = 2 ∨ x = 3 ∨ x = 4 by omega) with h | h | h | h | h <;> (subst h; rfl)
  · subst h
    refine ⟨fun x hx => ?_, rfl, rfl⟩
    rcases (show x = 0 ∨ x = 1 ∨ x = 2 ∨ x = 3 ∨ x = 4 by omega) with h | h | h | h | h <;> (subst h; rfl)
  · subst h
    refine ⟨fun x hx => ?_, rfl, rfl⟩
    rcases (show x = 0 ∨ x = 1 ∨ x = 2 ∨ x = 3 ∨ x = 4 by omega) with h | h | h | h | h <;> (subst h; rfl)
  · exact absurd h hn
  · subst h
    refine ⟨fun x hx => ?_, rfl, rfl⟩
    rcases (show x = 0 ∨ x = 1 ∨ x = 2 ∨ x = 3 ∨ x = 4 by omega) with h | h | h | h | h <;> (subst h; rfl)
  · subst h
    refine ⟨fun x hx => ?_, rfl, rfl⟩
    rcases (show x = 0 ∨ x = 1 ∨ x = 2 ∨ x = 3 ∨ x = 4 by omega) with h | h | h | h | h <;> (subst h; rfl)
  · subst h
    refine ⟨fun x hx => ?_, rfl, rfl⟩
    rcases (show x = 0 ∨ x = 1 ∨ x = 2 ∨ x = 3 ∨ x = 4 by omega) with h | h | h | h | h <;> (subst h; rfl)
  · subst h
    refine ⟨fun x hx => ?_, rfl, rfl⟩
    rcases (show x = 0 ∨ x = 1 ∨ x = 2 ∨ x = 3 ∨ x = 4 by omega) with h | h | h | h | h <;> (subst h; rfl)
  · subst h
    refine ⟨fun x hx => ?_, rfl, rfl⟩
    rcases (show x = 0 ∨ x = 1 ∨ x = 2 ∨ x = 3 ∨ x = 4 by omega) with h | h | h | h | h <;> (subst h; rfl)
  · subst h
    refine ⟨fun x hx => ?_, rfl, rfl⟩
    rcases (show x = 0 ∨ x = 1 ∨ x = 2 ∨ x = 3 ∨ x = 4 by omega) with h | h | h | h | h <;> (subst h; rfl)
  · subst h
    refine ⟨fun x hx => ?_, rfl, rfl⟩
    rcases (show x = 0 ∨ x = 1 ∨ x = 2 ∨ x = 3 ∨ x = 4 by omega) with h | h | h | h | h <;> (subst h; rfl)
  · subst h
    refine ⟨fun x hx => ?_, rfl, rfl⟩
    rcases (show x = 0 ∨ x = 1 ∨ x = 2 ∨ x = 3 ∨ x = 4 by omega) with h | h | h | h | h <;> (subst h; rfl)
  · subst h
    refine ⟨fun x hx => ?_, rfl, rfl⟩
    rcases (show x = 0 ∨ x = 1 ∨ x = 2 ∨ x = 3 ∨ x = 4 by omega) with h | h | h | h | h <;> (subst h; rfl)
  · subst h
    refine ⟨fun x hx => ?_, rfl, rfl⟩
    rcases (show x = 0 ∨ x = 1 ∨ x = 2 ∨ x = 3 ∨ x = 4 by omega) with h | h | h | h | h <;> (subst h; rfl)
  · subst h
    refine ⟨fun x hx => ?_, rfl, rfl⟩
    rcases (show x = 0 ∨ x = 1 ∨ x = 2 ∨ x = 3 ∨ x = 4 by omega) with h | h | h | h | h <;> (subst h; rfl)
theorem rs_kp5 {U L : Int} (h : (L + 1) % 16 = 5) (m t s g c : Int) (pl he : Nat → Int) (gI : Nat → Int) (gF : Nat → Nat → Int) : ∃ pl1 he1, Ff_X1_keep U L gI m t s g c pl gF he = (fl_min (U + 1) 16, 5, fl_nI [gI 0, gI 1, gI 2, gI 3, gI 4, gI 5, gI 6, gI 7, gI 8, gI 9, gI 10, gI 11, gI 12, gI 13, gI 14, gI 15, gI 16, gI 17, gI 18, gI 19, gI 20, gI 21, gI 22, gI 23, gI 24, m, t, s, g, c, gI 30, gI 31, gI 32, gI 33, gI 34, gI 35, gI 36, gI 37, gI 38, gI 39, gI 40, gI 41, gI 42, gI 43, gI 44, gI 45, gI 46, gI 47, gI 48, gI 49, gI 50, gI 51, gI 52, gI 53, gI 54, gI 55, gI 56, gI 57, gI 58, gI 59, gI 60, gI 61, gI 62, gI 63, gI 64, gI 65, gI 66, gI 67, gI 68, gI 69, gI 70, gI 71, gI 72, gI 73, gI 74, gI 75, gI 76, gI 77, gI 78, gI 79], fl_nF [gF 0, gF 1, gF 2, gF 3, gF 4, gF 5, gF 6, gF 7, gF 8, gF 9, pl1, he1, gF 12, gF 13, gF 14, gF 15, gF 16, gF 17, gF 18, gF 19, gF 20, gF 21, gF 22, gF 23, gF 24, gF 25, gF 26, gF 27, gF 28, gF 29, gF 30, gF 31]) ∧ ∀ k : Nat, k < 9 → pl1 k = pl k ∧ he1 k = he k := by
  obtain ⟨pl1, he1, e, q⟩ := rs_cp m t s g c pl (gF 10) he (gF 11)
  refine ⟨pl1, he1, ?_, q⟩
  unfold Ff_X1_keep
  rw [fl_lt_eq rfl, fl_lt_eq h.symm]
  rw [if_neg (by decide)]
  rw [if_neg (by decide)]
  rw [if_neg (by decide)]
  rw [if_neg (by decide)]
  rw [if_neg (by decide)]
  rw [if_pos rfl]
  rw [e, fl_c7_eq rfl]
  rfl
theorem rs_ks5 (m t s g c : Int) (pl he : Nat → Int) (gI : Nat → Int) (gF : Nat → Nat → Int) (pl1 he1 : Nat → Int) (hq : ∀ k : Nat, k < 9 → pl1 k = pl k ∧ he1 k = he k) : rs_P (fl_nI [gI 0, gI 1, gI 2, gI 3, gI 4, gI 5, gI 6, gI 7, gI 8, gI 9, gI 10, gI 11, gI 12, gI 13, gI 14, gI 15, gI 16, gI 17, gI 18, gI 19, gI 20, gI 21, gI 22, gI 23, gI 24, m, t, s, g, c, gI 30, gI 31, gI 32, gI 33, gI 34, gI 35, gI 36, gI 37, gI 38, gI 39, gI 40, gI 41, gI 42, gI 43, gI 44, gI 45, gI 46, gI 47, gI 48, gI 49, gI 50, gI 51, gI 52, gI 53, gI 54, gI 55, gI 56, gI 57, gI 58, gI 59, gI 60, gI 61, gI 62, gI 63, gI 64, gI 65, gI 66, gI 67, gI 68, gI 69, gI 70, gI 71, gI 72, gI 73, gI 74, gI 75, gI 76, gI 77, gI 78, gI 79]) (fl_nF [gF 0, gF 1, gF 2, gF 3, gF 4, gF 5, gF 6, gF 7, gF 8, gF 9, pl1, he1, gF 12, gF 13, gF 14, gF 15, gF 16, gF 17, gF 18, gF 19, gF 20, gF 21, gF 22, gF 23, gF 24, gF 25, gF 26, gF 27, gF 28, gF 29, gF 30, gF 31]) 5 m t s g c pl he ∧ ∀ j : Nat, j < 16 → j ≠ 5 → (∀ x : Nat, x < 5 → (fl_nI [gI 0, gI 1, gI 2, gI 3, gI 4, gI 5, gI 6, gI 7, gI 8, gI 9, gI 10, gI 11, gI 12, gI 13, gI 14, gI 15, gI 16, gI 17, gI 18, gI 19, gI 20, gI 21, gI 22, gI 23, gI 24, m, t, s, g, c, gI 30, gI 31, gI 32, gI 33, gI 34, gI 35, gI 36, gI 37, gI 38, gI 39, gI 40, gI 41, gI 42, gI 43, gI 44, gI 45, gI 46, gI 47, gI 48, gI 49, gI 50, gI 51, gI 52, gI 53, gI 54, gI 55, gI 56, gI 57, gI 58, gI 59, gI 60, gI 61, gI 62, gI 63, gI 64, gI 65, gI 66, gI 67, gI 68, gI 69, gI 70, gI 71, gI 72, gI 73, gI 74, gI 75, gI 76, gI 77, gI 78, gI 79]) (5 * j + x) = gI (5 * j + x)) ∧ (fl_nF [gF 0, gF 1, gF 2, gF 3, gF 4, gF 5, gF 6, gF 7, gF 8, gF 9, pl1, he1, gF 12, gF 13, gF 14, gF 15, gF 16, gF 17, gF 18, gF 19, gF 20, gF 21, gF 22, gF 23, gF 24, gF 25, gF 26, gF 27, gF 28, gF 29, gF 30, gF 31]) (2 * j) = gF (2 * j) ∧ (fl_nF [gF 0, gF 1, gF 2, gF 3, gF 4, gF 5, gF 6, gF 7, gF 8, gF 9, pl1, he1, gF 12, gF 13, gF 14, gF 15, gF 16, gF 17, gF 18, gF 19, gF 20, gF 21, gF 22, gF 23, gF 24, gF 25, gF 26, gF 27, gF 28, gF 29, gF 30, gF 31]) (2 * j + 1) = gF (2 * j + 1) := by
  refine ⟨⟨rfl, rfl, rfl, rfl, rfl, hq⟩, fun j hj hn => ?_⟩
  rcases (show j = 0 ∨ j = 1 ∨ j = 2 ∨ j = 3 ∨ j = 4 ∨ j = 5 ∨ j = 6 ∨ j = 7 ∨ j = 8 ∨ j = 9 ∨ j = 10 ∨ j = 11 ∨ j = 12 ∨ j = 13 ∨ j = 14 ∨ j = 15 by omega) with h | h | h | h | h | h | h | h | h | h | h | h | h | h | h | h
  · subst h
    refine ⟨fun x hx => ?_, rfl, rfl⟩
    rcases (show x = 0 ∨ x = 1 ∨ x = 2 ∨ x = 3 ∨ x = 4 by omega) with h | h | h | h | h <;> (subst h; rfl)
  · subst h
    refine ⟨fun x hx => ?_, rfl, rfl⟩
    rcases (show x = 0 ∨ x = 1 ∨ x = 2 ∨ x = 3 ∨ x = 4 by omega) with h | h | h | h | h <;> (subst h; rfl)
  · subst h
    refine ⟨fun x hx => ?_, rfl, rfl⟩
    rcases (show x = 0 ∨ x = 1 ∨ x = 2 ∨ x = 3 ∨ x = 4 by omega) with h | h | h | h | h <;> (subst h; rfl)
  · subst h
    refine ⟨fun x hx => ?_, rfl, rfl⟩
    rcases (show x = 0 ∨ x = 1 ∨ x = 2 ∨ x = 3 ∨ x = 4 by omega) with h | h | h | h | h <;> (subst h; rfl)
  · subst h
    refine ⟨fun x hx => ?_, rfl, rfl⟩
    rcases (show x = 0 ∨ x = 1 ∨ x = 2 ∨ x = 3 ∨ x = 4 by omega) with h | h | h | h | h <;> (subst h; rfl)
  · exact absurd h hn
  · subst h
    refine ⟨fun x hx => ?_, rfl, rfl⟩
    rcases (show x = 0 ∨ x = 1 ∨ x = 2 ∨ x = 3 ∨ x = 4 by omega) with h | h | h | h | h <;> (subst h; rfl)
  · subst h
    refine ⟨fun x hx => ?_, rfl, rfl⟩
    rcases (show x = 0 ∨ x = 1 ∨ x = 2 ∨ x = 3 ∨ x = 4 by omega) with h | h | h | h | h <;> (subst h; rfl)
  · subst h
    refine ⟨fun x hx => ?_, rfl, rfl⟩
    rcases (show x = 0 ∨ x = 1 ∨ x = 2 ∨ x = 3 ∨ x = 4 by omega) with h | h | h | h | h <;> (subst h; rfl)
  · subst h
    refine ⟨fun x hx => ?_, rfl, rfl⟩
    rcases (show x = 0 ∨ x = 1 ∨ x = 2 ∨ x = 3 ∨ x = 4 by omega) with h | h | h | h | h <;> (subst h; rfl)
  · subst h
    refine ⟨fun x hx => ?_, rfl, rfl⟩
    rcases (show x = 0 ∨ x = 1 ∨ x = 2 ∨ x = 3 ∨ x = 4 by omega) with h | h | h | h | h <;> (subst h; rfl)
  · subst h
    refine ⟨fun x hx => ?_, rfl, rfl⟩
    rcases (show x = 0 ∨ x = 1 ∨ x = 2 ∨ x = 3 ∨ x = 4 by omega) with h | h | h | h | h <;> (subst h; rfl)
  · subst h
    refine ⟨fun x hx => ?_, rfl, rfl⟩
    rcases (show x = 0 ∨ x = 1 ∨ x = 2 ∨ x = 3 ∨ x = 4 by omega) with h | h | h | h | h <;> (subst h; rfl)
  · subst h
    refine ⟨fun x hx => ?_, rfl, rfl⟩
    rcases (show x = 0 ∨ x = 1 ∨ x = 2 ∨ x = 3 ∨ x = 4 by omega) with h | h | h | h | h <;> (subst h; rfl)
  · subst h
    refine ⟨fun x hx => ?_, rfl, rfl⟩
    rcases (show x = 0 ∨ x = 1 ∨ x = 2 ∨ x = 3 ∨ x = 4 by omega) with h | h | h | h | h <;> (subst h; rfl)
  · subst h
    refine ⟨fun x hx => ?_, rfl, rfl⟩
    rcases (show x = 0 ∨ x = 1 ∨ x = 2 ∨ x = 3 ∨ x = 4 by omega) with h | h | h | h | h <;> (subst h; rfl)
theorem rs_kp6 {U L : Int} (h : (L + 1) % 16 = 6) (m t s g c : Int) (pl he : Nat → Int) (gI : Nat → Int) (gF : Nat → Nat → Int) : ∃ pl1 he1, Ff_X1_keep U L gI m t s g c pl gF he = (fl_min (U + 1) 16, 6, fl_nI [gI 0, gI 1, gI 2, gI 3, gI 4, gI 5, gI 6, gI 7, gI 8, gI 9, gI 10, gI 11, gI 12, gI 13, gI 14, gI 15, gI 16, gI 17, gI 18, gI 19, gI 20, gI 21, gI 22, gI 23, gI 24, gI 25, gI 26, gI 27, gI 28, gI 29, m, t, s, g, c, gI 35, gI 36, gI 37, gI 38, gI 39, gI 40, gI 41, gI 42, gI 43, gI 44, gI 45, gI 46, gI 47, gI 48, gI 49, gI 50, gI 51, gI 52, gI 53, gI 54, gI 55, gI 56, gI 57, gI 58, gI 59, gI 60, gI 61, gI 62, gI 63, gI 64, gI 65, gI 66, gI 67, gI 68, gI 69, gI 70, gI 71, gI 72, gI 73, gI 74, gI 75, gI 76, gI 77, gI 78, gI 79], fl_nF [gF 0, gF 1, gF 2, gF 3, gF 4, gF 5, gF 6, gF 7, gF 8, gF 9, gF 10, gF 11, pl1, he1, gF 14, gF 15, gF 16, gF 17, gF 18, gF 19, gF 20, gF 21, gF 22, gF 23, gF 24, gF 25, gF 26, gF 27, gF 28, gF 29, gF 30, gF 31]) ∧ ∀ k : Nat, k < 9 → pl1 k = pl k ∧ he1 k = he k := by
  obtain ⟨pl1, he1, e, q⟩ := rs_cp m t s g c pl (gF 12) he (gF 13)
  refine ⟨pl1, he1, ?_, q⟩
  unfold Ff_X1_keep
  rw [fl_lt_eq rfl, fl_lt_eq h.symm]
  rw [if_neg (by decide)]
  rw [if_neg (by decide)]
  rw [if_neg (by decide)]
  rw [if_neg (by decide)]
  rw [if_neg (by decide)]
  rw [if_neg (by decide)]
  rw [if_pos rfl]
  rw [e, fl_c7_eq rfl]
  rfl
theorem rs_ks6 (m t s g c : Int) (pl he : Nat → Int) (gI : Nat → Int) (gF : Nat → Nat → Int) (pl1 he1 : Nat → Int) (hq : ∀ k : Nat, k < 9 → pl1 k = pl k ∧ he1 k = he k) : rs_P (fl_nI [gI 0, gI 1, gI 2, gI 3, gI 4, gI 5, gI 6, gI 7, gI 8, gI 9, gI 10, gI 11, gI 12, gI 13, gI 14, gI 15, gI 16, gI 17, gI 18, gI 19, gI 20, gI 21, gI 22, gI 23, gI 24, gI 25, gI 26, gI 27, gI 28, gI 29, m, t, s, g, c, gI 35, gI 36, gI 37, gI 38, gI 39, gI 40, gI 41, gI 42, gI 43, gI 44, gI 45, gI 46, gI 47, gI 48, gI 49, gI 50, gI 51, gI 52, gI 53, gI 54, gI 55, gI 56, gI 57, gI 58, gI 59, gI 60, gI 61, gI 62, gI 63, gI 64, gI 65, gI 66, gI 67, gI 68, gI 69, gI 70, gI 71, gI 72, gI 73, gI 74, gI 75, gI 76, gI 77, gI 78, gI 79]) (fl_nF [gF 0, gF 1, gF 2, gF 3, gF 4, gF 5, gF 6, gF 7, gF 8, gF 9, gF 10, gF 11, pl1, he1, gF 14, gF 15, gF 16, gF 17, gF 18, gF 19, gF 20, gF 21, gF 22, gF 23, gF 24, gF 25, gF 26, gF 27, gF 28, gF 29, gF 30, gF 31]) 6 m t s g c pl he ∧ ∀ j : Nat, j < 16 → j ≠ 6 → (∀ x : Nat, x < 5 → (fl_nI [gI 0, gI 1, gI 2, gI 3, gI 4, gI 5, gI 6, gI 7, gI 8, gI 9, gI 10, gI 11, gI 12, gI 13, gI 14, gI 15, gI 16, gI 17, gI 18, gI 19, gI 20, gI 21, gI 22, gI 23, gI 24, gI 25, gI 26, gI 27, gI 28, gI 29, m, t, s, g, c, gI 35, gI 36, gI 37, gI 38, gI 39, gI 40, gI 41, gI 42, gI 43, gI 44, gI 45, gI 46, gI 47, gI 48, gI 49, gI 50, gI 51, gI 52, gI 53, gI 54, gI 55, gI 56, gI 57, gI 58, gI 59, gI 60, gI 61, gI 62, gI 63, gI 64, gI 65, gI 66, gI 67, gI 68, gI 69, gI 70, gI 71, gI 72, gI 73, gI 74, gI 75, gI 76, gI 77, gI 78, gI 79]) (5 * j + x) = gI (5 * j + x)) ∧ (fl_nF [gF 0, gF 1, gF 2, gF 3, gF 4, gF 5, gF 6, gF 7, gF 8, gF 9, gF 10, gF 11, pl1, he1, gF 14, gF 15, gF 16, gF 17, gF 18, gF 19, gF 20, gF 21, gF 22, gF 23, gF 24, gF 25, gF 26, gF 27, gF 28, gF 29, gF 30, gF 31]) (2 * j) = gF (2 * j) ∧ (fl_nF [gF 0, gF 1, gF 2, gF 3, gF 4, gF 5, gF 6, gF 7, gF 8, gF 9, gF 10, gF 11, pl1, he1, gF 14, gF 15, gF 16, gF 17, gF 18, gF 19, gF 20, gF 21, gF 22, gF 23, gF 24, gF 25, gF 26, gF 27, gF 28, gF 29, gF 30, gF 31]) (2 * j + 1) = gF (2 * j + 1) := by
  refine ⟨⟨rfl, rfl, rfl, rfl, rfl, hq⟩, fun j hj hn => ?_⟩
  rcases (show j = 0 ∨ j = 1 ∨ j = 2 ∨ j = 3 ∨ j = 4 ∨ j = 5 ∨ j = 6 ∨ j = 7 ∨ j = 8 ∨ j = 9 ∨ j = 10 ∨ j = 11 ∨ j = 12 ∨ j = 13 ∨ j = 14 ∨ j = 15 by omega) with h | h | h | h | h | h | h | h | h | h | h | h | h | h | h | h
  · subst h
    refine ⟨fun x hx => ?_, rfl, rfl⟩
    rcases (show x = 0 ∨ x = 1 ∨ x = 2 ∨ x = 3 ∨ x = 4 by omega) with h | h | h | h | h <;> (subst h; rfl)
  · subst h
    refine ⟨fun x hx => ?_, rfl, rfl⟩
    rcases (show x = 0 ∨ x = 1 ∨ x = 2 ∨ x = 3 ∨ x = 4 by omega) with h | h | h | h | h <;> (subst h; rfl)
  · subst h
    refine ⟨fun x hx => ?_, rfl, rfl⟩
    rcases (show x = 0 ∨ x = 1 ∨ x = 2 ∨ x = 3 ∨ x = 4 by omega) with h | h | h | h | h <;> (subst h; rfl)
  · subst h
    refine ⟨fun x hx => ?_, rfl, rfl⟩
    rcases (show x = 0 ∨ x = 1 ∨ x = 2 ∨ x = 3 ∨ x = 4 by omega) with h | h | h | h | h <;> (subst h; rfl)
  · subst h
    refine ⟨fun x hx => ?_, rfl, rfl⟩
    rcases (show x = 0 ∨ x = 1 ∨ x = 2 ∨ x = 3 ∨ x = 4 by omega) with h | h | h | h | h <;> (subst h; rfl)
  · subst h
    refine ⟨fun x hx => ?_, rfl, rfl⟩
    rcases (show x = 0 ∨ x = 1 ∨ x = 2 ∨ x = 3 ∨ x = 4 by omega) with h | h | h | h | h <;> (subst h; rfl)
  · exact absurd h hn
  · subst h
    refine ⟨fun x hx => ?_, rfl, rfl⟩
    rcases (show x = 0 ∨ x = 1 ∨ x = 2 ∨ x = 3 ∨ x = 4 by omega) with h | h | h | h | h <;> (subst h; rfl)
  · subst h
    refine ⟨fun x hx => ?_, rfl, rfl⟩
    rcases (show x = 0 ∨ x = 1 ∨ x = 2 ∨ x = 3 ∨ x = 4 by omega) with h | h | h | h | h <;> (subst h; rfl)
  · subst h
    refine ⟨fun x hx => ?_, rfl, rfl⟩
    rcases (show x = 0 ∨ x = 1 ∨ x = 2 ∨ x = 3 ∨ x = 4 by omega) with h | h | h | h | h <;> (subst h; rfl)
  · subst h
    refine ⟨fun x hx => ?_, rfl, rfl⟩
    rcases (show x = 0 ∨ x = 1 ∨ x = 2 ∨ x = 3 ∨ x = 4 by omega) with h | h | h | h | h <;> (subst h; rfl)
  · subst h
    refine ⟨fun x hx => ?_, rfl, rfl⟩
    rcases (show x = 0 ∨ x = 1 ∨ x = 2 ∨ x = 3 ∨ x = 4 by omega) with h | h | h | h | h <;> (subst h; rfl)
  · subst h
    refine ⟨fun x hx => ?_, rfl, rfl⟩
    rcases (show x = 0 ∨ x = 1 ∨ x = 2 ∨ x = 3 ∨ x = 4 by omega) with h | h | h | h | h <;> (subst h; rfl)
  · subst h
    refine ⟨fun x hx => ?_, rfl, rfl⟩
    rcases (show x = 0 ∨ x = 1 ∨ x = 2 ∨ x = 3 ∨ x = 4 by omega) with h | h | h | h | h <;> (subst h; rfl)
  · subst h
    refine ⟨fun x hx => ?_, rfl, rfl⟩
    rcases (show x = 0 ∨ x = 1 ∨ x = 2 ∨ x = 3 ∨ x = 4 by omega) with h | h | h | h | h <;> (subst h; rfl)
  · subst h
    refine ⟨fun x hx => ?_, rfl, rfl⟩
    rcases (show x = 0 ∨ x = 1 ∨ x = 2 ∨ x = 3 ∨ x = 4 by omega) with h | h | h | h | h <;> (subst h; rfl)
theorem rs_kp7 {U L : Int} (h : (L + 1) % 16 = 7) (m t s g c : Int) (pl he : Nat → Int) (gI : Nat → Int) (gF : Nat → Nat → Int) : ∃ pl1 he1, Ff_X1_keep U L gI m t s g c pl gF he = (fl_min (U + 1) 16, 7, fl_nI [gI 0, gI 1, gI 2, gI 3, gI 4, gI 5, gI 6, gI 7, gI 8, gI 9, gI 10, gI 11, gI 12, gI 13, gI 14, gI 15, gI 16, gI 17, gI 18, gI 19, gI 20, gI 21, gI 22, gI 23, gI 24, gI 25, gI 26, gI 27, gI 28, gI 29, gI 30, gI 31, gI 32, gI 33, gI 34, m, t, s, g, c, gI 40, gI 41, gI 42, gI 43, gI 44, gI 45, gI 46, gI 47, gI 48, gI 49, gI 50, gI 51, gI 52, gI 53, gI 54, gI 55, gI 56, gI 57, gI 58, gI 59, gI 60, gI 61, gI 62, gI 63, gI 64, gI 65, gI 66, gI 67, gI 68, gI 69, gI 70, gI 71, gI 72, gI 73, gI 74, gI 75, gI 76, gI 77, gI 78, gI 79], fl_nF [gF 0, gF 1, gF 2, gF 3, gF 4, gF 5, gF 6, gF 7, gF 8, gF 9, gF 10, gF 11, gF 12, gF 13, pl1, he1, gF 16, gF 17, gF 18, gF 19, gF 20, gF 21, gF 22, gF 23, gF 24, gF 25, gF 26, gF 27, gF 28, gF 29, gF 30, gF 31]) ∧ ∀ k : Nat, k < 9 → pl1 k = pl k ∧ he1 k = he k := by
  obtain ⟨pl1, he1, e, q⟩ := rs_cp m t s g c pl (gF 14) he (gF 15)
  refine ⟨pl1, he1, ?_, q⟩
  unfold Ff_X1_keep
  rw [fl_lt_eq rfl, fl_lt_eq h.symm]
  rw [if_neg (by decide)]
  rw [if_neg (by decide)]
  rw [if_neg (by decide)]
  rw [if_neg (by decide)]
  rw [if_neg (by decide)]
  rw [if_neg (by decide)]
  rw [if_neg (by decide)]
  rw [if_pos rfl]
  rw [e, fl_c7_eq rfl]
  rfl
theorem rs_ks7 (m t s g c : Int) (pl he : Nat → Int) (gI : Nat → Int) (gF : Nat → Nat → Int) (pl1 he1 : Nat → Int) (hq : ∀ k : Nat, k < 9 → pl1 k = pl k ∧ he1 k = he k) : rs_P (fl_nI [gI 0, gI 1, gI 2, gI 3, gI 4, gI 5, gI 6, gI 7, gI 8, gI 9, gI 10, gI 11, gI 12, gI 13, gI 14, gI 15, gI 16, gI 17, gI 18, gI 19, gI 20, gI 21, gI 22, gI 23, gI 24, gI 25, gI 26, gI 27, gI 28, gI 29, gI 30, gI 31, gI 32, gI 33, gI 34, m, t, s, g, c, gI 40, gI 41, gI 42, gI 43, gI 44, gI 45, gI 46, gI 47, gI 48, gI 49, gI 50, gI 51, gI 52, gI 53, gI 54, gI 55, gI 56, gI 57, gI 58, gI 59, gI 60, gI 61, gI 62, gI 63, gI 64, gI 65, gI 66, gI 67, gI 68, gI 69, gI 70, gI 71, gI 72, gI 73, gI 74, gI 75, gI 76, gI 77, gI 78, gI 79]) (fl_nF [gF 0, gF 1, gF 2, gF 3, gF 4, gF 5, gF 6, gF 7, gF 8, gF 9, gF 10, gF 11, gF 12, gF 13, pl1, he1, gF 16, gF 17, gF 18, gF 19, gF 20, gF 21, gF 22, gF 23, gF 24, gF 25, gF 26, gF 27, gF 28, gF 29, gF 30, gF 31]) 7 m t s g c pl he ∧ ∀ j : Nat, j < 16 → j ≠ 7 → (∀ x : Nat, x < 5 → (fl_nI [gI 0, gI 1, gI 2, gI 3, gI 4, gI 5, gI 6, gI 7, gI 8, gI 9, gI 10, gI 11, gI 12, gI 13, gI 14, gI 15, gI 16, gI 17, gI 18, gI 19, gI 20, gI 21, gI 22, gI 23, gI 24, gI 25, gI 26, gI 27, gI 28, gI 29, gI 30, gI 31, gI 32, gI 33, gI 34, m, t, s, g, c, gI 40, gI 41, gI 42, gI 43, gI 44, gI 45, gI 46, gI 47, gI 48, gI 49, gI 50, gI 51, gI 52, gI 53, gI 54, gI 55, gI 56, gI 57, gI 58, gI 59, gI 60, gI 61, gI 62, gI 63, gI 64, gI 65, gI 66, gI 67, gI 68, gI 69, gI 70, gI 71, gI 72, gI 73, gI 74, gI 75, gI 76, gI 77, gI 78, gI 79]) (5 * j + x) = gI (5 * j + x)) ∧ (fl_nF [gF 0, gF 1, gF 2, gF 3, gF 4, gF 5, gF 6, gF 7, gF 8, gF 9, gF 10, gF 11, gF 12, gF 13, pl1, he1, gF 16, gF 17, gF 18, gF 19, gF 20, gF 21, gF 22, gF 23, gF 24, gF 25, gF 26, gF 27, gF 28, gF 29, gF 30, gF 31]) (2 * j) = gF (2 * j) ∧ (fl_nF [gF 0, gF 1, gF 2, gF 3, gF 4, gF 5, gF 6, gF 7, gF 8, gF 9, gF 10, gF 11, gF 12, gF 13, pl1, he1, gF 16, gF 17, gF 18, gF 19, gF 20, gF 21, gF 22, gF 23, gF 24, gF 25, gF 26, gF 27, gF 28, gF 29, gF 30, gF 31]) (2 * j + 1) = gF (2 * j + 1) := by
  refine ⟨⟨rfl, rfl, rfl, rfl, rfl, hq⟩, fun j hj hn => ?_⟩
  rcases (show j = 0 ∨ j = 1 ∨ j = 2 ∨ j = 3 ∨ j = 4 ∨ j = 5 ∨ j = 6 ∨ j = 7 ∨ j = 8 ∨ j = 9 ∨ j = 10 ∨ j = 11 ∨ j = 12 ∨ j = 13 ∨ j = 14 ∨ j = 15 by omega) with h | h | h | h | h | h | h | h | h | h | h | h | h | h | h | h
  · subst h
    refine ⟨fun x hx => ?_, rfl, rfl⟩
    rcases (show x = 0 ∨ x = 1 ∨ x = 2 ∨ x = 3 ∨ x = 4 by omega) with h | h | h | h | h <;> (subst h; rfl)
  · subst h
    refine ⟨fun x hx => ?_, rfl, rfl⟩
    rcases (show x = 0 ∨ x = 1 ∨ x = 2 ∨ x = 3 ∨ x = 4 by omega) with h | h | h | h | h <;> (subst h; rfl)
  · subst h
    refine ⟨fun x hx => ?_, rfl, rfl⟩
    rcases (show x = 0 ∨ x = 1 ∨ x = 2 ∨ x = 3 ∨ x = 4 by omega) with h | h | h | h | h <;> (subst h; rfl)
  · subst h
    refine ⟨fun x hx => ?_, rfl, rfl⟩
    rcases (show x = 0 ∨ x = 1 ∨ x = 2 ∨ x = 3 ∨ x = 4 by omega) with h | h | h | h | h <;> (subst h; rfl)
  · subst h
    refine ⟨fun x hx => ?_, rfl, rfl⟩
    rcases (show x = 0 ∨ x = 1 ∨ x = 2 ∨ x = 3 ∨ x = 4 by omega) with h | h | h | h | h <;> (subst h; rfl)
  · subst h
    refine ⟨fun x hx => ?_, rfl, rfl⟩
    rcases (show x = 0 ∨ x = 1 ∨ x = 2 ∨ x = 3 ∨ x = 4 by omega) with h | h | h | h | h <;> (subst h; rfl)
  · subst h
    refine ⟨fun x hx => ?_, rfl, rfl⟩
    rcases (show x = 0 ∨ x = 1 ∨ x = 2 ∨ x = 3 ∨ x = 4 by omega) with h | h | h | h | h <;> (subst h; rfl)
  · exact absurd h hn
  · subst h
    refine ⟨fun x hx => ?_, rfl, rfl⟩
    rcases (show x = 0 ∨ x = 1 ∨ x = 2 ∨ x = 3 ∨ x = 4 by omega) with h | h | h | h | h <;> (subst h; rfl)
  · subst h
    refine ⟨fun x hx => ?_, rfl, rfl⟩
    rcases (show x = 0 ∨ x = 1 ∨ x = 2 ∨ x = 3 ∨ x = 4 by omega) with h | h | h | h | h <;> (subst h; rfl)
  · subst h
    refine ⟨fun x hx => ?_, rfl, rfl⟩
    rcases (show x = 0 ∨ x = 1 ∨ x = 2 ∨ x = 3 ∨ x = 4 by omega) with h | h | h | h | h <;> (subst h; rfl)
  · subst h
    refine ⟨fun x hx => ?_, rfl, rfl⟩
    rcases (show x = 0 ∨ x = 1 ∨ x = 2 ∨ x = 3 ∨ x = 4 by omega) with h | h | h | h | h <;> (subst h; rfl)
  · subst h
    refine ⟨fun x hx => ?_, rfl, rfl⟩
    rcases (show x = 0 ∨ x = 1 ∨ x = 2 ∨ x = 3 ∨ x = 4 by omega) with h | h | h | h | h <;> (subst h; rfl)
  · subst h
    refine ⟨fun x hx => ?_, rfl, rfl⟩
    rcases (show x = 0 ∨ x = 1 ∨ x = 2 ∨ x = 3 ∨ x = 4 by omega) with h | h | h | h | h <;> (subst h; rfl)
  · subst h
    refine ⟨fun x hx => ?_, rfl, rfl⟩
    rcases (show x = 0 ∨ x = 1 ∨ x = 2 ∨ x = 3 ∨ x = 4 by omega) with h | h | h | h | h <;> (subst h; rfl)
  · subst h
    refine ⟨fun x hx => ?_, rfl, rfl⟩
    rcases (show x = 0 ∨ x = 1 ∨ x = 2 ∨ x = 3 ∨ x = 4 by omega) with h | h | h | h | h <;> (subst h; rfl)
theorem rs_kp8 {U L : Int} (h : (L + 1) % 16 = 8) (m t s g c : Int) (pl he : Nat → Int) (gI : Nat → Int) (gF : Nat → Nat → Int) : ∃ pl1 he1, Ff_X1_keep U L gI m t s g c pl gF he = (fl_min (U + 1) 16, 8, fl_nI [gI 0, gI 1, gI 2, gI 3, gI 4, gI 5, gI 6, gI 7, gI 8, gI 9, gI 10, gI 11, gI 12, gI 13, gI 14, gI 15, gI 16, gI 17, gI 18, gI 19, gI 20, gI 21, gI 22, gI 23, gI 24, gI 25, gI 26, gI 27, gI 28, gI 29, gI 30, gI 31, gI 32, gI 33, gI 34, gI 35, gI 36, gI 37, gI 38, gI 39, m, t, s, g, c, gI 45, gI 46, gI 47, gI 48, gI 49, gI 50, gI 51, gI 52, gI 53, gI 54, gI 55, gI 56, gI 57, gI 58, gI 59, gI 60, gI 61, gI 62, gI 63, gI 64, gI 65, gI 66, gI 67, gI 68, gI 69, gI 70, gI 71, gI 72, gI 73, gI 74, gI 75, gI 76, gI 77, gI 78, gI 79], fl_nF [gF 0, gF 1, gF 2, gF 3, gF 4, gF 5, gF 6, gF 7, gF 8, gF 9, gF 10, gF 11, gF 12, gF 13, gF 14, gF 15, pl1, he1, gF 18, gF 19, gF 20, gF 21, gF 22, gF 23, gF 24, gF 25, gF 26, gF 27, gF 28, gF 29, gF 30, gF 31]) ∧ ∀ k : Nat, k < 9 → pl1 k = pl k ∧ he1 k = he k := by
  obtain ⟨pl1, he1, e, q⟩ := rs_cp m t s g c pl (gF 16) he (gF 17)
  refine ⟨pl1, he1, ?_, q⟩
  unfold Ff_X1_keep
  rw [fl_lt_eq rfl, fl_lt_eq h.symm]
  rw [if_neg (by decide)]
  rw [if_neg (by decide)]
  rw [if_neg (by decide)]
  rw [if_neg (by decide)]
  rw [if_neg (by decide)]
  rw [if_neg (by decide)]
  rw [if_neg (by decide)]
  rw [if_neg (by decide)]
  rw [if_pos rfl]
  rw [e, fl_c7_eq rfl]
  rfl
theorem rs_ks8 (m t s g c : Int) (pl he : Nat → Int) (gI : Nat → Int) (gF : Nat → Nat → Int) (pl1 he1 : Nat → Int) (hq : ∀ k : Nat, k < 9 → pl1 k = pl k ∧ he1 k = he k) : rs_P (fl_nI [gI 0, gI 1, gI 2, gI 3, gI 4, gI 5, gI 6, gI 7, gI 8, gI 9, gI 10, gI 11, gI 12, gI 13, gI 14, gI 15, gI 16, gI 17, gI 18, gI 19, gI 20, gI 21, gI 22, gI 23, gI 24, gI 25, gI 26, gI 27, gI 28, gI 29, gI 30, gI 31, gI 32, gI 33, gI 34, gI 35, gI 36, gI 37, gI 38, gI 39, m, t, s, g, c, gI 45, gI 46, gI 47, gI 48, gI 49, gI 50, gI 51, gI 52, gI 53, gI 54, gI 55, gI 56, gI 57, gI 58, gI 59, gI 60, gI 61, gI 62, gI 63, gI 64, gI 65, gI 66, gI 67, gI 68, gI 69, gI 70, gI 71, gI 72, gI 73, gI 74, gI 75, gI 76, gI 77, gI 78, gI 79]) (fl_nF [gF 0, gF 1, gF 2, gF 3, gF 4, gF 5, gF 6, gF 7, gF 8, gF 9, gF 10, gF 11, gF 12, gF 13, gF 14, gF 15, pl1, he1, gF 18, gF 19, gF 20, gF 21, gF 22, gF 23, gF 24, gF 25, gF 26, gF 27, gF 28, gF 29, gF 30, gF 31]) 8 m t s g c pl he ∧ ∀ j : Nat, j < 16 → j ≠ 8 → (∀ x : Nat, x < 5 → (fl_nI [gI 0, gI 1, gI 2, gI 3, gI 4, gI 5, gI 6, gI 7, gI 8, gI 9, gI 10, gI 11, gI 12, gI 13, gI 14, gI 15, gI 16, gI 17, gI 18, gI 19, gI 20, gI 21, gI 22, gI 23, gI 24, gI 25, gI 26, gI 27, gI 28, gI 29, gI 30, gI 31, gI 32, gI 33, gI 34, gI 35, gI 36, gI 37, gI 38, gI 39, m, t, s, g, c, gI 45, gI 46, gI 47, gI 48, gI 49, gI 50, gI 51, gI 52, gI 53, gI 54, gI 55, gI 56, gI 57, gI 58, gI 59, gI 60, gI 61, gI 62, gI 63, gI 64, gI 65, gI 66, gI 67, gI 68, gI 69, gI 70, gI 71, gI 72, gI 73, gI 74, gI 75, gI 76, gI 77, gI 78, gI 79]) (5 * j + x) = gI (5 * j + x)) ∧ (fl_nF [gF 0, gF 1, gF 2, gF 3, gF 4, gF 5, gF 6, gF 7, gF 8, gF 9, gF 10, gF 11, gF 12, gF 13, gF 14, gF 15, pl1, he1, gF 18, gF 19, gF 20, gF 21, gF 22, gF 23, gF 24, gF 25, gF 26, gF 27, gF 28, gF 29, gF 30, gF 31]) (2 * j) = gF (2 * j) ∧ (fl_nF [gF 0, gF 1, gF 2, gF 3, gF 4, gF 5, gF 6, gF 7, gF 8, gF 9, gF 10, gF 11, gF 12, gF 13, gF 14, gF 15, pl1, he1, gF 18, gF 19, gF 20, gF 21, gF 22, gF 23, gF 24, gF 25, gF 26, gF 27, gF 28, gF 29, gF 30, gF 31]) (2 * j + 1) = gF (2 * j + 1) := by
  refine ⟨⟨rfl, rfl, rfl, rfl, rfl, hq⟩, fun j hj hn => ?_⟩
  rcases (show j = 0 ∨ j = 1 ∨ j = 2 ∨ j = 3 ∨ j = 4 ∨ j = 5 ∨ j = 6 ∨ j = 7 ∨ j = 8 ∨ j = 9 ∨ j = 10 ∨ j = 11 ∨ j = 12 ∨ j = 13 ∨ j = 14 ∨ j = 15 by omega) with h | h | h | h | h | h | h | h | h | h | h | h | h | h | h | h
  · subst h
    refine ⟨fun x hx => ?_, rfl, rfl⟩
    rcases (show x = 0 ∨ x = 1 ∨ x = 2 ∨ x = 3 ∨ x = 4 by omega) with h | h | h | h | h <;> (subst h; rfl)
  · subst h
    refine ⟨fun x hx => ?_, rfl, rfl⟩
    rcases (show x = 0 ∨ x = 1 ∨ x = 2 ∨ x = 3 ∨ x = 4 by omega) with h | h | h | h | h <;> (subst h; rfl)
  · subst h
    refine ⟨fun x hx => ?_, rfl, rfl⟩
    rcases (show x = 0 ∨ x = 1 ∨ x = 2 ∨ x = 3 ∨ x = 4 by omega) with h | h | h | h | h <;> (subst h; rfl)
  · subst h
    refine ⟨fun x hx => ?_, rfl, rfl⟩
    rcases (show x = 0 ∨ x = 1 ∨ x = 2 ∨ x = 3 ∨ x = 4 by omega) with h | h | h | h | h <;> (subst h; rfl)
  · subst h
    refine ⟨fun x hx => ?_, rfl, rfl⟩
    rcases (show x = 0 ∨ x = 1 ∨ x = 2 ∨ x = 3 ∨ x = 4 by omega) with h | h | h | h | h <;> (subst h; rfl)
  · subst h
    refine ⟨fun x hx => ?_, rfl, rfl⟩
    rcases (show x = 0 ∨ x = 1 ∨ x = 2 ∨ x = 3 ∨ x = 4 by omega) with h | h | h | h | h <;> (subst h; rfl)
  · subst h
    refine ⟨fun x hx => ?_, rfl, rfl⟩
    rcases (show x = 0 ∨ x = 1 ∨ x = 2 ∨ x = 3 ∨ x = 4 by omega) with h | h | h | h | h <;> (subst h; rfl)
  · subst h
    refine ⟨fun x hx => ?_, rfl, rfl⟩
    rcases (show x = 0 ∨ x = 1 ∨ x = 2 ∨ x = 3 ∨ x = 4 by omega) with h | h | h | h | h <;> (subst h; rfl)
  · exact absurd h hn
  · subst h
    refine ⟨fun x hx => ?_, rfl, rfl⟩
    rcases (show x = 0 ∨ x = 1 ∨ x = 2 ∨ x = 3 ∨ x = 4 by omega) with h | h | h | h | h <;> (subst h; rfl)
  · subst h
    refine ⟨fun x hx => ?_, rfl, rfl⟩
    rcases (show x = 0 ∨ x = 1 ∨ x = 2 ∨ x = 3 ∨ x = 4 by omega) with h | h | h | h | h <;> (subst h; rfl)
  · subst h
    refine ⟨fun x hx => ?_, rfl, rfl⟩
    rcases (show x = 0 ∨ x = 1 ∨ x = 2 ∨ x = 3 ∨ x = 4 by omega) with h | h | h | h | h <;> (subst h; rfl)
  · subst h
    refine ⟨fun x hx => ?_, rfl, rfl⟩
    rcases (show x = 0 ∨ x = 1 ∨ x = 2 ∨ x = 3 ∨ x = 4 by omega) with h | h | h | h | h <;> (subst h; rfl)
  · subst h
    refine ⟨fun x hx => ?_, rfl, rfl⟩
    rcases (show x = 0 ∨ x = 1 ∨ x = 2 ∨ x = 3 ∨ x = 4 by omega) with h | h | h | h | h <;> (subst h; rfl)
  · subst h
    refine ⟨fun x hx => ?_, rfl, rfl⟩
    rcases (show x = 0 ∨ x = 1 ∨ x = 2 ∨ x = 3 ∨ x = 4 by omega) with h | h | h | h | h <;> (subst h; rfl)
  · subst h
    refine ⟨fun x hx => ?_, rfl, rfl⟩
    rcases (show x = 0 ∨ x = 1 ∨ x = 2 ∨ x = 3 ∨ x = 4 by omega) with h | h | h | h | h <;> (subst h; rfl)
theorem rs_kp9 {U L : Int} (h : (L + 1) % 16 = 9) (m t s g c : Int) (pl he : Nat → Int) (gI : Nat → Int) (gF : Nat → Nat → Int) : ∃ pl1 he1, Ff_X1_keep U L gI m t s g c pl gF he = (fl_min (U + 1) 16, 9, fl_nI [gI 0, gI 1, gI 2, gI 3, gI 4, gI 5, gI 6, gI 7, gI 8, gI 9, gI 10, gI 11, gI 12, gI 13, gI 14, gI 15, gI 16, gI 17, gI 18, gI 19, gI 20, gI 21, gI 22, gI 23, gI 24, gI 25, gI 26, gI 27, gI 28, gI 29, gI 30, gI 31, gI 32, gI 33, gI 34, gI 35, gI 36, gI 37, gI 38, gI 39, gI 40, gI 41, gI 42, gI 43, gI 44, m, t, s, g, c, gI 50, gI 51, gI 52, gI 53, gI 54, gI 55, gI 56, gI 57, gI 58, gI 59, gI 60, gI 61, gI 62, gI 63, gI 64, gI 65, gI 66, gI 67, gI 68, gI 69, gI 70, gI 71, gI 72, gI 73, gI 74, gI 75, gI 76, gI 77, gI 78, gI 79], fl_nF [gF 0, gF 1, gF 2, gF 3, gF 4, gF 5, gF 6, gF 7, gF 8, gF 9, gF 10, gF 11, gF 12, gF 13, gF 14, gF 15, gF 16, gF 17, pl1, he1, gF 20, gF 21, gF 22, gF 23, gF 24, gF 25, gF 26, gF 27, gF 28, gF 29, gF 30, gF 31]) ∧ ∀ k : Nat, k < 9 → pl1 k = pl k ∧ he1 k = he k := by
  obtain ⟨pl1, he1, e, q⟩ := rs_cp m t s g c pl (gF 18) he (gF 19)
  refine ⟨pl1, he1, ?_, q⟩
  unfold Ff_X1_keep
  rw [fl_lt_eq rfl, fl_lt_eq h.symm]
  rw [if_neg (by decide)]
  rw [if_neg (by decide)]
  rw [if_neg (by decide)]
  rw [if_neg (by decide)]
  rw [if_neg (by decide)]
  rw [if_neg (by decide)]
  rw [if_neg (by decide)]
  rw [if_neg (by decide)]
  rw [if_neg (by decide)]
  rw [if_pos rfl]
  rw [e, fl_c7_eq rfl]
  rfl
theorem rs_ks9 (m t s g c : Int) (pl he : Nat → Int) (gI : Nat → Int) (gF : Nat → Nat → Int) (pl1 he1 : Nat → Int) (hq : ∀ k : Nat, k < 9 → pl1 k = pl k ∧ he1 k = he k) : rs_P (fl_nI [gI 0, gI 1, gI 2, gI 3, gI 4, gI 5, gI 6, gI 7, gI 8, gI 9, gI 10, gI 11, gI 12, gI 13, gI 14, gI 15, gI 16, gI 17, gI 18, gI 19, gI 20, gI 21, gI 22, gI 23, gI 24, gI 25, gI 26, gI 27, gI 28, gI 29, gI 30, gI 31, gI 32, gI 33, gI 34, gI 35, gI 36, gI 37, gI 38, gI 39, gI 40, gI 41, gI 42, gI 43, gI 44, m, t, s, g, c, gI 50, gI 51, gI 52, gI 53, gI 54, gI 55, gI 56, gI 57, gI 58, gI 59, gI 60, gI 61, gI 62, gI 63, gI 64, gI 65, gI 66, gI 67, gI 68, gI 69, gI 70, gI 71, gI 72, gI 73, gI 74, gI 75, gI 76, gI 77, gI 78, gI 79]) (fl_nF [gF 0, gF 1, gF 2, gF 3, gF 4, gF 5, gF 6, gF 7, gF 8, gF 9, gF 10, gF 11, gF 12, gF 13, gF 14, gF 15, gF 16, gF 17, pl1, he1, gF 20, gF 21, gF 22, gF 23, gF 24, gF 25, gF 26, gF 27, gF 28, gF 29, gF 30, gF 31]) 9 m t s g c pl he ∧ ∀ j : Nat, j < 16 → j ≠ 9 → (∀ x : Nat, x < 5 → (fl_nI [gI 0, gI 1, gI 2, gI 3, gI 4, gI 5, gI 6, gI 7, gI 8, gI 9, gI 10, gI 11, gI 12, gI 13, gI 14, gI 15, gI 16, gI 17, gI 18, gI 19, gI 20, gI 21, gI 22, gI 23, gI 24, gI 25, gI 26, gI 27, gI 28, gI 29, gI 30, gI 31, gI 32, gI 33, gI 34, gI 35, gI 36, gI 37, gI 38, gI 39, gI 40, gI 41, gI 42, gI 43, gI 44, m, t, s, g, c, gI 50, gI 51, gI 52, gI 53, gI 54, gI 55, gI 56, gI 57, gI 58, gI 59, gI 60, gI 61, gI 62, gI 63, gI 64, gI 65, gI 66, gI 67, gI 68, gI 69, gI 70, gI 71, gI 72, gI 73, gI 74, gI 75, gI 76, gI 77, gI 78, gI 79]) (5 * j + x) = gI (5 * j + x)) ∧ (fl_nF [gF 0, gF 1, gF 2, gF 3, gF 4, gF 5, gF 6, gF 7, gF 8, gF 9, gF 10, gF 11, gF 12, gF 13, gF 14, gF 15, gF 16, gF 17, pl1, he1, gF 20, gF 21, gF 22, gF 23, gF 24, gF 25, gF 26, gF 27, gF 28, gF 29, gF 30, gF 31]) (2 * j) = gF (2 * j) ∧ (fl_nF [gF 0, gF 1, gF 2, gF 3, gF 4, gF 5, gF 6, gF 7, gF 8, gF 9, gF 10, gF 11, gF 12, gF 13, gF 14, gF 15, gF 16, gF 17, pl1, he1, gF 20, gF 21, gF 22, gF 23, gF 24, gF 25, gF 26, gF 27, gF 28, gF 29, gF 30, gF 31]) (2 * j + 1) = gF (2 * j + 1) := by
  refine ⟨⟨rfl, rfl, rfl, rfl, rfl, hq⟩, fun j hj hn => ?_⟩
  rcases (show j = 0 ∨ j = 1 ∨ j = 2 ∨ j = 3 ∨ j = 4 ∨ j = 5 ∨ j = 6 ∨ j = 7 ∨ j = 8 ∨ j = 9 ∨ j = 10 ∨ j = 11 ∨ j = 12 ∨ j = 13 ∨ j = 14 ∨ j = 15 by omega) with h | h | h | h | h | h | h | h | h | h | h | h | h | h | h | h
  · subst h
    refine ⟨fun x hx => ?_, rfl, rfl⟩
    rcases (show x = 0 ∨ x = 1 ∨ x = 2 ∨ x = 3 ∨ x = 4 by omega) with h | h | h | h | h <;> (subst h; rfl)
  · subst h
    refine ⟨fun x hx => ?_, rfl, rfl⟩
    rcases (show x = 0 ∨ x = 1 ∨ x = 2 ∨ x = 3 ∨ x = 4 by omega) with h | h | h | h | h <;> (subst h; rfl)
  · subst h
    refine ⟨fun x hx => ?_, rfl, rfl⟩
    rcases (show x = 0 ∨ x = 1 ∨ x = 2 ∨ x = 3 ∨ x = 4 by omega) with h | h | h | h | h <;> (subst h; rfl)
  · subst h
    refine ⟨fun x hx => ?_, rfl, rfl⟩
    rcases (show x = 0 ∨ x = 1 ∨ x = 2 ∨ x = 3 ∨ x = 4 by omega) with h | h | h | h | h <;> (subst h; rfl)
  · subst h
    refine ⟨fun x hx => ?_, rfl, rfl⟩
    rcases (show x = 0 ∨ x = 1 ∨ x = 2 ∨ x = 3 ∨ x = 4 by omega) with h | h | h | h | h <;> (subst h; rfl)
  · subst h
    refine ⟨fun x hx => ?_, rfl, rfl⟩
    rcases (show x = 0 ∨ x = 1 ∨ x = 2 ∨ x = 3 ∨ x = 4 by omega) with h | h | h | h | h <;> (subst h; rfl)
  · subst h
    refine ⟨fun x hx => ?_, rfl, rfl⟩
    rcases (show x = 0 ∨ x = 1 ∨ x = 2 ∨ x = 3 ∨ x = 4 by omega) with h | h | h | h | h <;> (subst h; rfl)
  · subst h
    refine ⟨fun x hx => ?_, rfl, rfl⟩
    rcases (show x = 0 ∨ x = 1 ∨ x = 2 ∨ x = 3 ∨ x = 4 by omega) with h | h | h | h | h <;> (subst h; rfl)
  · subst h
    refine ⟨fun x hx => ?_, rfl, rfl⟩
    rcases (show x = 0 ∨ x = 1 ∨ x = 2 ∨ x = 3 ∨ x = 4 by omega) with h | h | h | h | h <;> (subst h; rfl)
  · exact absurd h hn
  · subst h
    refine ⟨fun x hx => ?_, rfl, rfl⟩
    rcases (show x = 0 ∨ x = 1 ∨ x = 2 ∨ x = 3 ∨ x = 4 by omega) with h | h | h | h | h <;> (subst h; rfl)
  · subst h
    refine ⟨fun x hx => ?_, rfl, rfl⟩
    rcases (show x = 0 ∨ x = 1 ∨ x = 2 ∨ x = 3 ∨ x = 4 by omega) with h | h | h | h | h <;> (subst h; rfl)
  · subst h
    refine ⟨fun x hx => ?_, rfl, rfl⟩
    rcases (show x = 0 ∨ x = 1 ∨ x = 2 ∨ x = 3 ∨ x = 4 by omega) with h | h | h | h | h <;> (subst h; rfl)
  · subst h
    refine ⟨fun x hx => ?_, rfl, rfl⟩
    rcases (show x = 0 ∨ x = 1 ∨ x = 2 ∨ x = 3 ∨ x = 4 by omega) with h | h | h | h | h <;> (subst h; rfl)
  · subst h
    refine ⟨fun x hx => ?_, rfl, rfl⟩
    rcases (show x = 0 ∨ x = 1 ∨ x = 2 ∨ x = 3 ∨ x = 4 by omega) with h | h | h | h | h <;> (subst h; rfl)
  · subst h
    refine ⟨fun x hx => ?_, rfl, rfl⟩
    rcases (show x = 0 ∨ x = 1 ∨ x = 2 ∨ x = 3 ∨ x = 4 by omega) with h | h | h | h | h <;> (subst h; rfl)
theorem rs_kp10 {U L : Int} (h : (L + 1) % 16 = 10) (m t s g c : Int) (pl he : Nat → Int) (gI : Nat → Int) (gF : Nat → Nat → Int) : ∃ pl1 he1, Ff_X1_keep U L gI m t s g c pl gF he = (fl_min (U + 1) 16, 10, fl_nI [gI 0, gI 1, gI 2, gI 3, gI 4, gI 5, gI 6, gI 7, gI 8, gI 9, gI 10, gI 11, gI 12, gI 13, gI 14, gI 15, gI 16, gI 17, gI 18, gI 19, gI 20, gI 21, gI 22, gI 23, gI 24, gI 25, gI 26, gI 27, gI 28, gI 29, gI 30, gI 31, gI 32, gI 33, gI 34, gI 35, gI 36, gI 37, gI 38, gI 39, gI 40, gI 41, gI 42, gI 43, gI 44, gI 45, gI 46, gI 47, gI 48, gI 49, m, t, s, g, c, gI 55, gI 56, gI 57, gI 58, gI 59, gI 60, gI 61, gI 62, gI 63, gI 64, gI 65, gI 66, gI 67, gI 68, gI 69, gI 70, gI 71, gI 72, gI 73, gI 74, gI 75, gI 76, gI 77, gI 78, gI 79], fl_nF [gF 0, gF 1, gF 2, gF 3, gF 4, gF 5, gF 6, gF 7, gF 8, gF 9, gF 10, gF 11, gF 12, gF 13, gF 14, gF 15, gF 16, gF 17, gF 18, gF 19, pl1, he1, gF 22, gF 23, gF 24, gF 25, gF 26, gF 27, gF 28, gF 29, gF 30, gF 31]) ∧ ∀ k : Nat, k < 9 → pl1 k = pl k ∧ he1 k = he k := by
  obtain ⟨pl1, he1, e, q⟩ := rs_cp m t s g c pl (gF 20) he (gF 21)
  refine ⟨pl1, he1, ?_, q⟩
  unfold Ff_X1_keep
  rw [fl_lt_eq rfl, fl_lt_eq h.symm]
  rw [if_neg (by decide)]
  rw [if_neg (by decide)]
  rw [if_neg (by decide)]
  rw [if_neg (by decide)]
  rw [if_neg (by decide)]
  rw [if_neg (by decide)]
  rw [if_neg (by decide)]
  rw [if_neg (by decide)]
  rw [if_neg (by decide)]
  rw [if_neg (by decide)]
  rw [if_pos rfl]
  rw [e, fl_c7_eq rfl]
  rfl
theorem rs_ks10 (m t s g c : Int) (pl he : Nat → Int) (gI : Nat → Int) (gF : Nat → Nat → Int) (pl1 he1 : Nat → Int) (hq : ∀ k : Nat, k < 9 → pl1 k = pl k ∧ he1 k = he k) : rs_P (fl_nI [gI 0, gI 1, gI 2, gI 3, gI 4, gI 5, gI 6, gI 7, gI 8, gI 9, gI 10, gI 11, gI 12, gI 13, gI 14, gI 15, gI 16, gI 17, gI 18, gI 19, gI 20, gI 21, gI 22, gI 23, gI 24, gI 25, gI 26, gI 27, gI 28, gI 29, gI 30, gI 31, gI 32, gI 33, gI 34, gI 35, gI 36, gI 37, gI 38, gI 39, gI 40, gI 41, gI 42, gI 43, gI 44, gI 45, gI 46, gI 47, gI 48, gI 49, m, t, s, g, c, gI 55, gI 56, gI 57, gI 58, gI 59, gI 60, gI 61, gI 62, gI 63, gI 64, gI 65, gI 66, gI 67, gI 68, gI 69, gI 70, gI 71, gI 72, gI 73, gI 74, gI 75, gI 76, gI 77, gI 78, gI 79]) (fl_nF [gF 0, gF 1, gF 2, gF 3, gF 4, gF 5, gF 6, gF 7, gF 8, gF 9, gF 10, gF 11, gF 12, gF 13, gF 14, gF 15, gF 16, gF 17, gF 18, gF 19, pl1, he1, gF 22, gF 23, gF 24, gF 25, gF 26, gF 27, gF 28, gF 29, gF 30, gF 31]) 10 m t s g c pl he ∧ ∀ j : Nat, j < 16 → j ≠ 10 → (∀ x : Nat, x < 5 → (fl_nI [gI 0, gI 1, gI 2, gI 3, gI 4, gI 5, gI 6, gI 7, gI 8, gI 9, gI 10, gI 11, gI 12, gI 13, gI 14, gI 15, gI 16, gI 17, gI 18, gI 19, gI 20, gI 21, gI 22, gI 23, gI 24, gI 25, gI 26, gI 27, gI 28, gI 29, gI 30, gI 31, gI 32, gI 33, gI 34, gI 35, gI 36, gI 37, gI 38, gI 39, gI 40, gI 41, gI 42, gI 43, gI 44, gI 45, gI 46, gI 47, gI 48, gI 49, m, t, s, g, c, gI 55, gI 56, gI 57, gI 58, gI 59, gI 60, gI 61, gI 62, gI 63, gI 64, gI 65, gI 66, gI 67, gI 68, gI 69, gI 70, gI 71, gI 72, gI 73, gI 74, gI 75, gI 76, gI 77, gI 78, gI 79]) (5 * j + x) = gI (5 * j + x)) ∧ (fl_nF [gF 0, gF 1, gF 2, gF 3, gF 4, gF 5, gF 6, gF 7, gF 8, gF 9, gF 10, gF 11, gF 12, gF 13, gF 14, gF 15, gF 16, gF 17, gF 18, gF 19, pl1, he1, gF 22, gF 23, gF 24, gF 25, gF 26, gF 27, gF 28, gF 29, gF 30, gF 31]) (2 * j) = gF (2 * j) ∧ (fl_nF [gF 0, gF 1, gF 2, gF 3, gF 4, gF 5, gF 6, gF 7, gF 8, gF 9, gF 10, gF 11, gF 12, gF 13, gF 14, gF 15, gF 16, gF 17, gF 18, gF 19, pl1, he1, gF 22, gF 23, gF 24, gF 25, gF 26, gF 27, gF 28, gF 29, gF 30, gF 31]) (2 * j + 1) = gF (2 * j + 1) := by
  refine ⟨⟨rfl, rfl, rfl, rfl, rfl, hq⟩, fun j hj hn => ?_⟩
  rcases (show j = 0 ∨ j = 1 ∨ j = 2 ∨ j = 3 ∨ j = 4 ∨ j = 5 ∨ j = 6 ∨ j = 7 ∨ j = 8 ∨ j = 9 ∨ j = 10 ∨ j = 11 ∨ j = 12 ∨ j = 13 ∨ j = 14 ∨ j = 15 by omega) with h | h | h | h | h | h | h | h | h | h | h | h | h | h | h | h
  · subst h
    refine ⟨fun x hx => ?_, rfl, rfl⟩
    rcases (show x = 0 ∨ x = 1 ∨ x = 2 ∨ x = 3 ∨ x = 4 by omega) with h | h | h | h | h <;> (subst h; rfl)
  · subst h
    refine ⟨fun x hx => ?_, rfl, rfl⟩
    rcases (show x = 0 ∨ x = 1 ∨ x = 2 ∨ x = 3 ∨ x = 4 by omega) with h | h | h | h | h <;> (subst h; rfl)
  · subst h
    refine ⟨fun x hx => ?_, rfl, rfl⟩
    rcases (show x = 0 ∨ x = 1 ∨ x = 2 ∨ x = 3 ∨ x = 4 by omega) with h | h | h | h | h <;> (subst h; rfl)
  · subst h
    refine ⟨fun x hx => ?_, rfl, rfl⟩
    rcases (show x = 0 ∨ x = 1 ∨ x = 2 ∨ x = 3 ∨ x = 4 by omega) with h | h | h | h | h <;> (subst h; rfl)
  · subst h
    refine ⟨fun x hx => ?_, rfl, rfl⟩
    rcases (show x = 0 ∨ x = 1 ∨ x = 2 ∨ x = 3 ∨ x = 4 by omega) with h | h | h | h | h <;> (subst h; rfl)
  · subst h
    refine ⟨fun x hx => ?_, rfl, rfl⟩
    rcases (show x = 0 ∨ x = 1 ∨ x = 2 ∨ x = 3 ∨ x = 4 by omega) with h | h | h | h | h <;> (subst h; rfl)
  · subst h
    refine ⟨fun x hx => ?_, rfl, rfl⟩
    rcases (show x = 0 ∨ x = 1 ∨ x = 2 ∨ x = 3 ∨ x = 4 by omega) with h | h | h | h | h <;> (subst h; rfl)
  · subst h
    refine ⟨fun x hx => ?_, rfl, rfl⟩
    rcases (show x = 0 ∨ x = 1 ∨ x = 2 ∨ x = 3 ∨ x = 4 by omega) with h | h | h | h | h <;> (subst h; rfl)
  · subst h
    refine ⟨fun x hx => ?_, rfl, rfl⟩
    rcases (show x = 0 ∨ x = 1 ∨ x = 2 ∨ x = 3 ∨ x = 4 by omega) with h | h | h | h | h <;> (subst h; rfl)
  · subst h
    refine ⟨fun x hx => ?_, rfl, rfl⟩
    rcases (show x = 0 ∨ x = 1 ∨ x = 2 ∨ x = 3 ∨ x = 4 by omega) with h | h | h | h | h <;> (subst h; rfl)
  · exact absurd h hn
  · subst h
    refine ⟨fun x hx => ?_, rfl, rfl⟩
    rcases (show x = 0 ∨ x = 1 ∨ x = 2 ∨ x = 3 ∨ x = 4 by omega) with h | h | h | h | h <;> (subst h; rfl)
  · subst h
    refine ⟨fun x hx => ?_, rfl, rfl⟩
    rcases (show x = 0 ∨ x = 1 ∨ x = 2 ∨ x = 3 ∨ x = 4 by omega) with h | h | h | h | h <;> (subst h; rfl)
  · subst h
    refine ⟨fun x hx => ?_, rfl, rfl⟩
    rcases (show x = 0 ∨ x = 1 ∨ x = 2 ∨ x = 3 ∨ x = 4 by omega) with h | h | h | h | h <;> (subst h; rfl)
  · subst h
    refine ⟨fun x hx => ?_, rfl, rfl⟩
    rcases (show x = 0 ∨ x = 1 ∨ x = 2 ∨ x = 3 ∨ x = 4 by omega) with h | h | h | h | h <;> (subst h; rfl)
  · subst h
    refine ⟨fun x hx => ?_, rfl, rfl⟩
    rcases (show x = 0 ∨ x = 1 ∨ x = 2 ∨ x = 3 ∨ x = 4 by omega) with h | h | h | h | h <;> (subst h; rfl)
theorem rs_kp11 {U L : Int} (h : (L + 1) % 16 = 11) (m t s g c : Int) (pl he : Nat → Int) (gI : Nat → Int) (gF : Nat → Nat → Int) : ∃ pl1 he1, Ff_X1_keep U L gI m t s g c pl gF he = (fl_min (U + 1) 16, 11, fl_nI [gI 0, gI 1, gI 2, gI 3, gI 4, gI 5, gI 6, gI 7, gI 8, gI 9, gI 10, gI 11, gI 12, gI 13, gI 14, gI 15, gI 16, gI 17, gI 18, gI 19, gI 20, gI 21, gI 22, gI 23, gI 24, gI 25, gI 26, gI 27, gI 28, gI 29, gI 30, gI 31, gI 32, gI 33, gI 34, gI 35, gI 36, gI 37, gI 38, gI 39, gI 40, gI 41, gI 42, gI 43, gI 44, gI 45, gI 46, gI 47, gI 48, gI 49, gI 50, gI 51, gI 52, gI 53, gI 54, m, t, s, g, c, gI 60, gI 61, gI 62, gI 63, gI 64, gI 65, gI 66, gI 67, gI 68, gI 69, gI 70, gI 71, gI 72, gI 73, gI 74, gI 75, gI 76, gI 77, gI 78, gI 79], fl_nF [gF 0, gF 1, gF 2, gF 3, gF 4, gF 5, gF 6, gF 7, gF 8, gF 9, gF 10, gF 11, gF 12, gF 13, gF 14, gF 15, gF 16, gF 17, gF 18, gF 19, gF 20, gF 21, pl1, he1, gF 24, gF 25, gF 26, gF 27, gF 28, gF 29, gF 30, gF 31]) ∧ ∀ k : Nat, k < 9 → pl1 k = pl k ∧ he1 k = he k := by
  obtain ⟨pl1, he1, e, q⟩ := rs_cp m t s g c pl (gF 22) he (gF 23)
  refine ⟨pl1, he1, ?_, q⟩
  unfold Ff_X1_keep
  rw [fl_lt_eq rfl, fl_lt_eq h.symm]
  rw [if_neg (by decide)]
  rw [if_neg (by decide)]
  rw [if_neg (by decide)]
  rw [if_neg (by decide)]
  rw [if_neg (by decide)]
  rw [if_neg (by decide)]
  rw [if_neg (by decide)]
  rw [if_neg (by decide)]
  rw [if_neg (by decide)]
  rw [if_neg (by decide)]
  rw [if_neg (by decide)]
  rw [if_pos rfl]
  rw [e, fl_c7_eq rfl]
  rfl
theorem rs_ks11 (m t s g c : Int) (pl he : Nat → Int) (gI : Nat → Int) (gF : Nat → Nat → Int) (pl1 he1 : Nat → Int) (hq : ∀ k : Nat, k < 9 → pl1 k = pl k ∧ he1 k = he k) : rs_P (fl_nI [gI 0, gI 1, gI 2, gI 3, gI 4, gI 5, gI 6, gI 7, gI 8, gI 9, gI 10, gI 11, gI 12, gI 13, gI 14, gI 15, gI 16, gI 17, gI 18, gI 19, gI 20, gI 21, gI 22, gI 23, gI 24, gI 25, gI 26, gI 27, gI 28, gI 29, gI 30, gI 31, gI 32, gI 33, gI 34, gI 35, gI 36, gI 37, gI 38, gI 39, gI 40, gI 41, gI 42, gI 43, gI 44, gI 45, gI 46, gI 47, gI 48, gI 49, gI 50, gI 51, gI 52, gI 53, gI 54, m, t, s, g, c, gI 60, gI 61, gI 62, gI 63, gI 64, gI 65, gI 66, gI 67, gI 68, gI 69, gI 70, gI 71, gI 72, gI 73, gI 74, gI 75, gI 76, gI 77, gI 78, gI 79]) (fl_nF [gF 0, gF 1, gF 2, gF 3, gF 4, gF 5, gF 6, gF 7, gF 8, gF 9, gF 10, gF 11, gF 12, gF 13, gF 14, gF 15, gF 16, gF 17, gF 18, gF 19, gF 20, gF 21, pl1, he1, gF 24, gF 25, gF 26, gF 27, gF 28, gF 29, gF 30, gF 31]) 11 m t s g c pl he ∧ ∀ j : Nat, j < 16 → j ≠ 11 → (∀ x : Nat, x < 5 → (fl_nI [gI 0, gI 1, gI 2, gI 3, gI 4, gI 5, gI 6, gI 7, gI 8, gI 9, gI 10, gI 11, gI 12, gI 13, gI 14, gI 15, gI 16, gI 17, gI 18, gI 19, gI 20, gI 21, gI 22, gI 23, gI 24, gI 25, gI 26, gI 27, gI 28, gI 29, gI 30, gI 31, gI 32, gI 33, gI 34, gI 35, gI 36, gI 37, gI 38, gI 39, gI 40, gI 41, gI 42, gI 43, gI 44, gI 45, gI 46, gI 47, gI 48, gI 49, gI 50, gI 51, gI 52, gI 53, gI 54, m, t, s, g, c, gI 60, gI 61, gI 62, gI 63, gI 64, gI 65, gI 66, gI 67, gI 68, gI 69, gI 70, gI 71, gI 72, gI 73, gI 74, gI 75, gI 76, gI 77, gI 78, gI 79]) (5 * j + x) = gI (5 * j + x)) ∧ (fl_nF [gF 0, gF 1, gF 2, gF 3, gF 4, gF 5, gF 6, gF 7, gF 8, gF 9, gF 10, gF 11, gF 12, gF 13, gF 14, gF 15, gF 16, gF 17, gF 18, gF 19, gF 20, gF 21, pl1, he1, gF 24, gF 25, gF 26, gF 27, gF 28, gF 29, gF 30, gF 31]) (2 * j) = gF (2 * j) ∧ (fl_nF [gF 0, gF 1, gF 2, gF 3, gF 4, gF 5, gF 6, gF 7, gF 8, gF 9, gF 10, gF 11, gF 12, gF 13, gF 14, gF 15, gF 16, gF 17, gF 18, gF 19, gF 20, gF 21, pl1, he1, gF 24, gF 25, gF 26, gF 27, gF 28, gF 29, gF 30, gF 31]) (2 * j + 1) = gF (2 * j + 1) := by
  refine ⟨⟨rfl, rfl, rfl, rfl, rfl, hq⟩, fun j hj hn => ?_⟩
  rcases (show j = 0 ∨ j = 1 ∨ j = 2 ∨ j = 3 ∨ j = 4 ∨ j = 5 ∨ j = 6 ∨ j = 7 ∨ j = 8 ∨ j = 9 ∨ j = 10 ∨ j = 11 ∨ j = 12 ∨ j = 13 ∨ j = 14 ∨ j = 15 by omega) with h | h | h | h | h | h | h | h | h | h | h | h | h | h | h | h
  · subst h
    refine ⟨fun x hx => ?_, rfl, rfl⟩
    rcases (show x = 0 ∨ x = 1 ∨ x = 2 ∨ x = 3 ∨ x = 4 by omega) with h | h | h | h | h <;> (subst h; rfl)
  · subst h
    refine ⟨fun x hx => ?_, rfl, rfl⟩
    rcases (show x = 0 ∨ x = 1 ∨ x = 2 ∨ x = 3 ∨ x = 4 by omega) with h | h | h | h | h <;> (subst h; rfl)
  · subst h
    refine ⟨fun x hx => ?_, rfl, rfl⟩
    rcases (show x = 0 ∨ x = 1 ∨ x = 2 ∨ x = 3 ∨ x = 4 by omega) with h | h | h | h | h <;> (subst h; rfl)
  · subst h
    refine ⟨fun x hx => ?_, rfl, rfl⟩
    rcases (show x = 0 ∨ x = 1 ∨ x = 2 ∨ x = 3 ∨ x = 4 by omega) with h | h | h | h | h <;> (subst h; rfl)
  · subst h
    refine ⟨fun x hx => ?_, rfl, rfl⟩
    rcases (show x = 0 ∨ x = 1 ∨ x = 2 ∨ x = 3 ∨ x = 4 by omega) with h | h | h | h | h <;> (subst h; rfl)
  · subst h
    refine ⟨fun x hx => ?_, rfl, rfl⟩
    rcases (show x = 0 ∨ x = 1 ∨ x = 2 ∨ x = 3 ∨ x = 4 by omega) with h | h | h | h | h <;> (subst h; rfl)
  · subst h
    refine ⟨fun x hx => ?_, rfl, rfl⟩
    rcases (show x = 0 ∨ x = 1 ∨ x = 2 ∨ x = 3 ∨ x = 4 by omega) with h | h | h | h | h <;> (subst h; rfl)
  · subst h
    refine ⟨fun x hx => ?_, rfl, rfl⟩
    rcases (show x = 0 ∨ x = 1 ∨ x = 2 ∨ x = 3 ∨ x = 4 by omega) with h | h | h | h | h <;> (subst h; rfl)
  · subst h
    refine ⟨fun x hx => ?_, rfl, rfl⟩
    rcases (show x = 0 ∨ x = 1 ∨ x = 2 ∨ x = 3 ∨ x = 4 by omega) with h | h | h | h | h <;> (subst h; rfl)
  · subst h
    refine ⟨fun x hx => ?_, rfl, rfl⟩
    rcases (show x = 0 ∨ x = 1 ∨ x = 2 ∨ x = 3 ∨ x = 4 by omega) with h | h | h | h | h <;> (subst h; rfl)
  · subst h
    refine ⟨fun x hx => ?_, rfl, rfl⟩
    rcases (show x = 0 ∨ x = 1 ∨ x = 2 ∨ x = 3 ∨ x = 4 by omega) with h | h | h | h | h <;> (subst h; rfl)
  · exact absurd h hn
  · subst h
    refine ⟨fun x hx => ?_, rfl, rfl⟩
    rcases (show x = 0 ∨ x = 1 ∨ x = 2 ∨ x = 3 ∨ x = 4 by omega) with h | h | h | h | h <;> (subst h; rfl)
  · subst h
    refine ⟨fun x hx => ?_, rfl, rfl⟩
    rcases (show x = 0 ∨ x = 1 ∨ x = 2 ∨ x = 3 ∨ x = 4 by omega) with h | h | h | h | h <;> (subst h; rfl)
  · subst h
    refine ⟨fun x hx => ?_, rfl, rfl⟩
    rcases (show x = 0 ∨ x = 1 ∨ x = 2 ∨ x = 3 ∨ x = 4 by omega) with h | h | h | h | h <;> (subst h; rfl)
  · subst h
    refine ⟨fun x hx => ?_, rfl, rfl⟩
    rcases (show x = 0 ∨ x = 1 ∨ x = 2 ∨ x = 3 ∨ x = 4 by omega) with h | h | h | h | h <;> (subst h; rfl)
theorem rs_kp12 {U L : Int} (h : (L + 1) % 16 = 12) (m t s g c : Int) (pl he : Nat → Int) (gI : Nat → Int) (gF : Nat → Nat → Int) : ∃ pl1 he1, Ff_X1_keep U L gI m t s g c pl gF he = (fl_min (U + 1) 16, 12, fl_nI [gI 0, gI 1, gI 2, gI 3, gI 4, gI 5, gI 6, gI 7, gI 8, gI 9, gI 10, gI 11, gI 12, gI 13, gI 14, gI 15, gI 16, gI 17, gI 18, gI 19, gI 20, gI 21, gI 22, gI 23, gI 24, gI 25, gI 26, gI 27, gI 28, gI 29, gI 30, gI 31, gI 32, gI 33, gI 34, gI 35, gI 36, gI 37, gI 38, gI 39, gI 40, gI 41, gI 42, gI 43, gI 44, gI 45, gI 46, gI 47, gI 48, gI 49, gI 50, gI 51, gI 52, gI 53, gI 54, gI 55, gI 56, gI 57, gI 58, gI 59, m, t, s, g, c, gI 65, gI 66, gI 67, gI 68, gI 69, gI 70, gI 71, gI 72, gI 73, gI 74, gI 75, gI 76, gI 77, gI 78, gI 79], fl_nF [gF 0, gF 1, gF 2, gF 3, gF 4, gF 5, gF 6, gF 7, gF 8, gF 9, gF 10, gF 11, gF 12, gF 13, gF 14, gF 15, gF 16, gF 17, gF 18, gF 19, gF 20, gF 21, gF 22, gF 23, pl1, he1, gF 26, gF 27, gF 28, gF 29, gF 30, gF 31]) ∧ ∀ k : Nat, k < 9 → pl1 k = pl k ∧ he1 k = he k := by
  obtain ⟨pl1, he1, e, q⟩ := rs_cp m t s g c pl (gF 24) he (gF 25)
  refine ⟨pl1, he1, ?_, q⟩
  unfold Ff_X1_keep
  rw [fl_lt_eq rfl, fl_lt_eq h.symm]
  rw [if_neg (by decide)]
  rw [if_neg (by decide)]
  rw [if_neg (by decide)]
  rw [if_neg (by decide)]
  rw [if_neg (by decide)]
  rw [if_neg (by decide)]
  rw [if_neg (by decide)]
  rw [if_neg (by decide)]
  rw [if_neg (by decide)]
  rw [if_neg (by decide)]
  rw [if_neg (by decide)]
  rw [if_neg (by decide)]
  rw [if_pos rfl]
  rw [e, fl_c7_eq rfl]
  rfl
theorem rs_ks12 (m t s g c : Int) (pl he : Nat → Int) (gI : Nat → Int) (gF : Nat → Nat → Int) (pl1 he1 : Nat → Int) (hq : ∀ k : Nat, k < 9 → pl1 k = pl k ∧ he1 k = he k) : rs_P (fl_nI [gI 0, gI 1, gI 2, gI 3, gI 4, gI 5, gI 6, gI 7, gI 8, gI 9, gI 10, gI 11, gI 12, gI 13, gI 14, gI 15, gI 16, gI 17, gI 18, gI 19, gI 20, gI 21, gI 22, gI 23, gI 24, gI 25, gI 26, gI 27, gI 28, gI 29, gI 30, gI 31, gI 32, gI 33, gI 34, gI 35, gI 36, gI 37, gI 38, gI 39, gI 40, gI 41, gI 42, gI 43, gI 44, gI 45, gI 46, gI 47, gI 48, gI 49, gI 50, gI 51, gI 52, gI 53, gI 54, gI 55, gI 56, gI 57, gI 58, gI 59, m, t, s, g, c, gI 65, gI 66, gI 67, gI 68, gI 69, gI 70, gI 71, gI 72, gI 73, gI 74, gI 75, gI 76, gI 77, gI 78, gI 79]) (fl_nF [gF 0, gF 1, gF 2, gF 3, gF 4, gF 5, gF 6, gF 7, gF 8, gF 9, gF 10, gF 11, gF 12, gF 13, gF 14, gF 15, gF 16, gF 17, gF 18, gF 19, gF 20, gF 21, gF 22, gF 23, pl1, he1, gF 26, gF 27, gF 28, gF 29, gF 30, gF 31]) 12 m t s g c pl he ∧ ∀ j : Nat, j < 16 → j ≠ 12 → (∀ x : Nat, x < 5 → (fl_nI [gI 0, gI 1, gI 2, gI 3, gI 4, gI 5, gI 6, gI 7, gI 8, gI 9, gI 10, gI 11, gI 12, gI 13, gI 14, gI 15, gI 16, gI 17, gI 18, gI 19, gI 20, gI 21, gI 22, gI 23, gI 24, gI 25, gI 26, gI 27, gI 28, gI 29, gI 30, gI 31, gI 32, gI 33, gI 34, gI 35, gI 36, gI 37, gI 38, gI 39, gI 40, gI 41, gI 42, gI 43, gI 44, gI 45, gI 46, gI 47, gI 48, gI 49, gI 50, gI 51, gI 52, gI 53, gI 54, gI 55, gI 56, gI 57, gI 58, gI 59, m, t, s, g, c, gI 65, gI 66, gI 67, gI 68, gI 69, gI 70, gI 71, gI 72, gI 73, gI 74, gI 75, gI 76, gI 77, gI 78, gI 79]) (5 * j + x) = gI (5 * j + x)) ∧ (fl_nF [gF 0, gF 1, gF 2, gF 3, gF 4, gF 5, gF 6, gF 7, gF 8, gF 9, gF 10, gF 11, gF 12, gF 13, gF 14, gF 15, gF 16, gF 17, gF 18, gF 19, gF 20, gF 21, gF 22, gF 23, pl1, he1, gF 26, gF 27, gF 28, gF 29, gF 30, gF 31]) (2 * j) = gF (2 * j) ∧ (fl_nF [gF 0, gF 1, gF 2, gF 3, gF 4, gF 5, gF 6, gF 7, gF 8, gF 9, gF 10, gF 11, gF 12, gF 13, gF 14, gF 15, gF 16, gF 17, gF 18, gF 19, gF 20, gF 21, gF 22, gF 23, pl1, he1, gF 26, gF 27, gF 28, gF 29, gF 30, gF 31]) (2 * j + 1) = gF (2 * j + 1) := by
  refine ⟨⟨rfl, rfl, rfl, rfl, rfl, hq⟩, fun j hj hn => ?_⟩
  rcases (show j = 0 ∨ j = 1 ∨ j = 2 ∨ j = 3 ∨ j = 4 ∨ j = 5 ∨ j = 6 ∨ j = 7 ∨ j = 8 ∨ j = 9 ∨ j = 10 ∨ j = 11 ∨ j = 12 ∨ j = 13 ∨ j = 14 ∨ j = 15 by omega) with h | h | h | h | h | h | h | h | h | h | h | h | h | h | h | h
  · subst h
    refine ⟨fun x hx => ?_, rfl, rfl⟩
    rcases (show x = 0 ∨ x = 1 ∨ x = 2 ∨ x = 3 ∨ x = 4 by omega) with h | h | h | h | h <;> (subst h; rfl)
  · subst h
    refine ⟨fun x hx => ?_, rfl, rfl⟩
    rcases (show x = 0 ∨ x = 1 ∨ x = 2 ∨ x = 3 ∨ x = 4 by omega) with h | h | h | h | h <;> (subst h; rfl)
  · subst h
    refine ⟨fun x hx => ?_, rfl, rfl⟩
    rcases (show x = 0 ∨ x = 1 ∨ x = 2 ∨ x = 3 ∨ x = 4 by omega) with h | h | h | h | h <;> (subst h; rfl)
  · subst h
    refine ⟨fun x hx => ?_, rfl, rfl⟩
    rcases (show x = 0 ∨ x = 1 ∨ x = 2 ∨ x = 3 ∨ x = 4 by omega) with h | h | h | h | h <;> (subst h; rfl)
  · subst h
    refine ⟨fun x hx => ?_, rfl, rfl⟩
    rcases (show x = 0 ∨ x = 1 ∨ x = 2 ∨ x = 3 ∨ x = 4 by omega) with h | h | h | h | h <;> (subst h; rfl)
  · subst h
    refine ⟨fun x hx => ?_, rfl, rfl⟩
    rcases (show x = 0 ∨ x = 1 ∨ x = 2 ∨ x = 3 ∨ x = 4 by omega) with h | h | h | h | h <;> (subst h; rfl)
  · subst h
    refine ⟨fun x hx => ?_, rfl, rfl⟩
    rcases (show x = 0 ∨ x = 1 ∨ x = 2 ∨ x = 3 ∨ x = 4 by omega) with h | h | h | h | h <;> (subst h; rfl)
  · subst h
    refine ⟨fun x hx => ?_, rfl, rfl⟩
    rcases (show x = 0 ∨ x = 1 ∨ x = 2 ∨ x = 3 ∨ x = 4 by omega) with h | h | h | h | h <;> (subst h; rfl)
  · subst h
    refine ⟨fun x hx => ?_, rfl, rfl⟩
    rcases (show x = 0 ∨ x = 1 ∨ x = 2 ∨ x = 3 ∨ x = 4 by omega) with h | h | h | h | h <;> (subst h; rfl)
  · subst h
    refine ⟨fun x hx => ?_, rfl, rfl⟩
    rcases (show x = 0 ∨ x = 1 ∨ x = 2 ∨ x = 3 ∨ x = 4 by omega) with h | h | h | h | h <;> (subst h; rfl)
  · subst h
    refine ⟨fun x hx => ?_, rfl, rfl⟩
    rcases (show x = 0 ∨ x = 1 ∨ x = 2 ∨ x = 3 ∨ x = 4 by omega) with h | h | h | h | h <;> (subst h; rfl)
  · subst h
    refine ⟨fun x hx => ?_, rfl, rfl⟩
    rcases (show x = 0 ∨ x = 1 ∨ x = 2 ∨ x = 3 ∨ x = 4 by omega) with h | h | h | h | h <;> (subst h; rfl)
  · exact absurd h hn
  · subst h
    refine ⟨fun x hx => ?_, rfl, rfl⟩
    rcases (show x = 0 ∨ x = 1 ∨ x = 2 ∨ x = 3 ∨ x = 4 by omega) with h | h | h | h | h <;> (subst h; rfl)
  · subst h
    refine ⟨fun x hx => ?_, rfl, rfl⟩
    rcases (show x = 0 ∨ x = 1 ∨ x = 2 ∨ x = 3 ∨ x = 4 by omega) with h | h | h | h | h <;> (subst h; rfl)
  · subst h
    refine ⟨fun x hx => ?_, rfl, rfl⟩
    rcases (show x = 0 ∨ x = 1 ∨ x = 2 ∨ x = 3 ∨ x = 4 by omega) with h | h | h | h | h <;> (subst h; rfl)
theorem rs_kp13 {U L : Int} (h : (L + 1) % 16 = 13) (m t s g c : Int) (pl he : Nat → Int) (gI : Nat → Int) (gF : Nat → Nat → Int) : ∃ pl1 he1, Ff_X1_keep U L gI m t s g c pl gF he = (fl_min (U + 1) 16, 13, fl_nI [gI 0, gI 1, gI 2, gI 3, gI 4, gI 5, gI 6, gI 7, gI 8, gI 9, gI 10, gI 11, gI 12, gI 13, gI 14, gI 15, gI 16, gI 17, gI 18, gI 19, gI 20, gI 21, gI 22, gI 23, gI 24, gI 25, gI 26, gI 27, gI 28, gI 29, gI 30, gI 31, gI 32, gI 33, gI 34, gI 35, gI 36, gI 37, gI 38, gI 39, gI 40, gI 41, gI 42, gI 43, gI 44, gI 45, gI 46, gI 47, gI 48, gI 49, gI 50, gI 51, gI 52, gI 53, gI 54, gI 55, gI 56, gI 57, gI 58, gI 59, gI 60, gI 61, gI 62, gI 63, gI 64, m, t, s, g, c, gI 70, gI 71, gI 72, gI 73, gI 74, gI 75, gI 76, gI 77, gI 78, gI 79], fl_nF [gF 0, gF 1, gF 2, gF 3, gF 4, gF 5, gF 6, gF 7, gF 8, gF 9, gF 10, gF 11, gF 12, gF 13, gF 14, gF 15, gF 16, gF 17, gF 18, gF 19, gF 20, gF 21, gF 22, gF 23, gF 24, gF 25, pl1, he1, gF 28, gF 29, gF 30, gF 31]) ∧ ∀ k : Nat, k < 9 → pl1 k = pl k ∧ he1 k = he k := by
  obtain ⟨pl1, he1, e, q⟩ := rs_cp m t s g c pl (gF 26) he (gF 27)
  refine ⟨pl1, he1, ?_, q⟩
  unfold Ff_X1_keep
  rw [fl_lt_eq rfl, fl_lt_eq h.symm]
  rw [if_neg (by decide)]
  rw [if_neg (by decide)]
  rw [if_neg (by decide)]
  rw [if_neg (by decide)]
  rw [if_neg (by decide)]
  rw [if_neg (by decide)]
  rw [if_neg (by decide)]
  rw [if_neg (by decide)]
  rw [if_neg (by decide)]
  rw [if_neg (by decide)]
  rw [if_neg (by decide)]
  rw [if_neg (by decide)]
  rw [if_neg (by decide)]
  rw [if_pos rfl]
  rw [e, fl_c7_eq rfl]
  rfl
theorem rs_ks13 (m t s g c : Int) (pl he : Nat → Int) (gI : Nat → Int) (gF : Nat → Nat → Int) (pl1 he1 : Nat → Int) (hq : ∀ k : Nat, k < 9 → pl1 k = pl k ∧ he1 k = he k) : rs_P (fl_nI [gI 0, gI 1, gI 2, gI 3, gI 4, gI 5, gI 6, gI 7, gI 8, gI 9, gI 10, gI 11, gI 12, gI 13, gI 14, gI 15, gI 16, gI 17, gI 18, gI 19, gI 20, gI 21, gI 22, gI 23, gI 24, gI 25, gI 26, gI 27, gI 28, gI 29, gI 30, gI 31, gI 32, gI 33, gI 34, gI 35, gI 36, gI 37, gI 38, gI 39, gI 40, gI 41, gI 42, gI 43, gI 44, gI 45, gI 46, gI 47, gI 48, gI 49, gI 50, gI 51, gI 52, gI 53, gI 54, gI 55, gI 56, gI 57, gI 58, gI 59, gI 60, gI 61, gI 62, gI 63, gI 64, m, t, s, g, c, gI 70, gI 71, gI 72, gI 73, gI 74, gI 75, gI 76, gI 77, gI 78, gI 79]) (fl_nF [gF 0, gF 1, gF 2, gF 3, gF 4, gF 5, gF 6, gF 7, gF 8, gF 9, gF 10, gF 11, gF 12, gF 13, gF 14, gF 15, gF 16, gF 17, gF 18, gF 19, gF 20, gF 21, gF 22, gF 23, gF 24, gF 25, pl1, he1, gF 28, gF 29, gF 30, gF 31]) 13 m t s g c pl he ∧ ∀ j : Nat, j < 16 → j ≠ 13 → (∀ x : Nat, x < 5 → (fl_nI [gI 0, gI 1, gI 2, gI 3, gI 4, gI 5, gI 6, gI 7, gI 8, gI 9, gI 10, gI 11, gI 12, gI 13, gI 14, gI 15, gI 16, gI 17, gI 18, gI 19, gI 20, gI 21, gI 22, gI 23, gI 24, gI 25, gI 26, gI 27, gI 28, gI 29, gI 30, gI 31, gI 32, gI 33, gI 34, gI 35, gI 36, gI 37, gI 38, gI 39, gI 40, gI 41, gI 42, gI 43, gI 44, gI 45, gI 46, gI 47, gI 48, gI 49, gI 50, gI 51, gI 52, gI 53, gI 54, gI 55, gI 56, gI 57, gI 58, gI 59, gI 60, gI 61, gI 62, gI 63, gI 64, m, t, s, g, c, gI 70, gI 71, gI 72, gI 73, gI 74, gI 75, gI 76, gI 77, gI 78, gI 79]) (5 * j + x) = gI (5 * j + x)) ∧ (fl_nF [gF 0, gF 1, gF 2, gF 3, gF 4, gF 5, gF 6, gF 7, gF 8, gF 9, gF 10, gF 11, gF 12, gF 13, gF 14, gF 15, gF 16, gF 17, gF 18, gF 19, gF 20, gF 21, gF 22, gF 23, gF 24, gF 25, pl1, he1, gF 28, gF 29, gF 30, gF 31]) (2 * j) = gF (2 * j) ∧ (fl_nF [gF 0, gF 1, gF 2, gF 3, gF 4, gF 5, gF 6, gF 7, gF 8, gF 9, gF 10, gF 11, gF 12, gF 13, gF 14, gF 15, gF 16, gF 17, gF 18, gF 19, gF 20, gF 21, gF 22, gF 23, gF 24, gF 25, pl1, he1, gF 28, gF 29, gF 30, gF 31]) (2 * j + 1) = gF (2 * j + 1) := by
  refine ⟨⟨rfl, rfl, rfl, rfl, rfl, hq⟩, fun j hj hn => ?_⟩
  rcases (show j = 0 ∨ j = 1 ∨ j = 2 ∨ j = 3 ∨ j = 4 ∨ j = 5 ∨ j = 6 ∨ j = 7 ∨ j = 8 ∨ j = 9 ∨ j = 10 ∨ j = 11 ∨ j = 12 ∨ j = 13 ∨ j = 14 ∨ j = 15 by omega) with h | h | h | h | h | h | h | h | h | h | h | h | h | h | h | h
  · subst h
    refine ⟨fun x hx => ?_, rfl, rfl⟩
    rcases (show x = 0 ∨ x = 1 ∨ x = 2 ∨ x = 3 ∨ x = 4 by omega) with h | h | h | h | h <;> (subst h; rfl)
  · subst h
    refine ⟨fun x hx => ?_, rfl, rfl⟩
    rcases (show x = 0 ∨ x = 1 ∨ x = 2 ∨ x = 3 ∨ x = 4 by omega) with h | h | h | h | h <;> (subst h; rfl)
  · subst h
    refine ⟨fun x hx => ?_, rfl, rfl⟩
    rcases (show x = 0 ∨ x = 1 ∨ x = 2 ∨ x = 3 ∨ x = 4 by omega) with h | h | h | h | h <;> (subst h; rfl)
  · subst h
    refine ⟨fun x hx => ?_, rfl, rfl⟩
    rcases (show x = 0 ∨ x = 1 ∨ x = 2 ∨ x = 3 ∨ x = 4 by omega) with h | h | h | h | h <;> (subst h; rfl)
  · subst h
    refine ⟨fun x hx => ?_, rfl, rfl⟩
    rcases (show x = 0 ∨ x = 1 ∨ x = 2 ∨ x = 3 ∨ x = 4 by omega) with h | h | h | h | h <;> (subst h; rfl)
  · subst h
    refine ⟨fun x hx => ?_, rfl, rfl⟩
    rcases (show x = 0 ∨ x = 1 ∨ x = 2 ∨ x = 3 ∨ x = 4 by omega) with h | h | h | h | h <;> (subst h; rfl)
  · subst h
    refine ⟨fun x hx => ?_, rfl, rfl⟩
    rcases (show x = 0 ∨ x = 1 ∨ x = 2 ∨ x = 3 ∨ x = 4 by omega) with h | h | h | h | h <;> (subst h; rfl)
  · subst h
    refine ⟨fun x hx => ?_, rfl, rfl⟩
    rcases (show x = 0 ∨ x = 1 ∨ x = 2 ∨ x = 3 ∨ x = 4 by omega) with h | h | h | h | h <;> (subst h; rfl)
  · subst h
    refine ⟨fun x hx => ?_, rfl, rfl⟩
    rcases (show x = 0 ∨ x = 1 ∨ x = 2 ∨ x = 3 ∨ x = 4 by omega) with h | h | h | h | h <;> (subst h; rfl)
  · subst h
    refine ⟨fun x hx => ?_, rfl, rfl⟩
    rcases (show x = 0 ∨ x = 1 ∨ x = 2 ∨ x = 3 ∨ x = 4 by omega) with h | h | h | h | h <;> (subst h; rfl)
  · subst h
    refine ⟨fun x hx => ?_, rfl, rfl⟩
    rcases (show x = 0 ∨ x = 1 ∨ x = 2 ∨ x = 3 ∨ x = 4 by omega) with h | h | h | h | h <;> (subst h; rfl)
  · subst h
    refine ⟨fun x hx => ?_, rfl, rfl⟩
    rcases (show x = 0 ∨ x = 1 ∨ x = 2 ∨ x = 3 ∨ x = 4 by omega) with h | h | h | h | h <;> (subst h; rfl)
  · subst h
    refine ⟨fun x hx => ?_, rfl, rfl⟩
    rcases (show x = 0 ∨ x = 1 ∨ x = 2 ∨ x = 3 ∨ x = 4 by omega) with h | h | h | h | h <;> (subst h; rfl)
  · exact absurd h hn
  · subst h
    refine ⟨fun x hx => ?_, rfl, rfl⟩
    rcases (show x = 0 ∨ x = 1 ∨ x = 2 ∨ x = 3 ∨ x = 4 by omega) with h | h | h | h | h <;> (subst h; rfl)
  · subst h
    refine ⟨fun x hx => ?_, rfl, rfl⟩
    rcases (show x = 0 ∨ x = 1 ∨ x = 2 ∨ x = 3 ∨ x = 4 by omega) with h | h | h | h | h <;> (subst h; rfl)
theorem rs_kp14 {U L : Int} (h : (L + 1) % 16 = 14) (m t s g c : Int) (pl he : Nat → Int) (gI : Nat → Int) (gF : Nat → Nat → Int) : ∃ pl1 he1, Ff_X1_keep U L gI m t s g c pl gF he = (fl_min (U + 1) 16, 14, fl_nI [gI 0, gI 1, gI 2, gI 3, gI 4, gI 5, gI 6, gI 7, gI 8, gI 9, gI 10, gI 11, gI 12, gI 13, gI 14, gI 15, gI 16, gI 17, gI 18, gI 19, gI 20, gI 21, gI 22, gI 23, gI 24, gI 25, gI 26, gI 27, gI 28, gI 29, gI 30, gI 31, gI 32, gI 33, gI 34, gI 35, gI 36, gI 37, gI 38, gI 39, gI 40, gI 41, gI 42, gI 43, gI 44, gI 45, gI 46, gI 47, gI 48, gI 49, gI 50, gI 51, gI 52, gI 53, gI 54, gI 55, gI 56, gI 57, gI 58, gI 59, gI 60, gI 61, gI 62, gI 63, gI 64, gI 65, gI 66, gI 67, gI 68, gI 69, m, t, s, g, c, gI 75, gI 76, gI 77, gI 78, gI 79], fl_nF [gF 0, gF 1, gF 2, gF 3, gF 4, gF 5, gF 6, gF 7, gF 8, gF 9, gF 10, gF 11, gF 12, gF 13, gF 14, gF 15, gF 16, gF 17, gF 18, gF 19, gF 20, gF 21, gF 22, gF 23, gF 24, gF 25, gF 26, gF 27, pl1, he1, gF 30, gF 31]) ∧ ∀ k : Nat, k < 9 → pl1 k = pl k ∧ he1 k = he k := by
  obtain ⟨pl1, he1, e, q⟩ := rs_cp m t s g c pl (gF 28) he (gF 29)
  refine ⟨pl1, he1, ?_, q⟩
  unfold Ff_X1_keep
  rw [fl_lt_eq rfl, fl_lt_eq h.symm]
  rw [if_neg (by decide)]
  rw [if_neg (by decide)]
  rw [if_neg (by decide)]
  rw [if_neg (by decide)]
  rw [if_neg (by decide)]
  rw [if_neg (by decide)]
  rw [if_neg (by decide)]
  rw [if_neg (by decide)]
  rw [if_neg (by decide)]
  rw [if_neg (by decide)]
  rw [if_neg (by decide)]
  rw [if_neg (by decide)]
  rw [if_neg (by decide)]
  rw [if_neg (by decide)]
  rw [if_pos rfl]
  rw [e, fl_c7_eq rfl]
  rfl
theorem rs_ks14 (m t s g c : Int) (pl he : Nat → Int) (gI : Nat → Int) (gF : Nat → Nat → Int) (pl1 he1 : Nat → Int) (hq : ∀ k : Nat, k < 9 → pl1 k = pl k ∧ he1 k = he k) : rs_P (fl_nI [gI 0, gI 1, gI 2, gI 3, gI 4, gI 5, gI 6, gI 7, gI 8, gI 9, gI 10, gI 11, gI 12, gI 13, gI 14, gI 15, gI 16, gI 17, gI 18, gI 19, gI 20, gI 21, gI 22, gI 23, gI 24, gI 25, gI 26, gI 27, gI 28, gI 29, gI 30, gI 31, gI 32, gI 33, gI 34, gI 35, gI 36, gI 37, gI 38, gI 39, gI 40, gI 41, gI 42, gI 43, gI 44, gI 45, gI 46, gI 47, gI 48, gI 49, gI 50, gI 51, gI 52, gI 53, gI 54, gI 55, gI 56, gI 57, gI 58, gI 59, gI 60, gI 61, gI 62, gI 63, gI 64, gI 65, gI 66, gI 67, gI 68, gI 69, m, t, s, g, c, gI 75, gI 76, gI 77, gI 78, gI 79]) (fl_nF [gF 0, gF 1, gF 2, gF 3, gF 4, gF 5, gF 6, gF 7, gF 8, gF 9, gF 10, gF 11, gF 12, gF 13, gF 14, gF 15, gF 16, gF 17, gF 18, gF 19, gF 20, gF 21, gF 22, gF 23, gF 24, gF 25, gF 26, gF 27, pl1, he1, gF 30, gF 31]) 14 m t s g c pl he ∧ ∀ j : Nat, j < 16 → j ≠ 14 → (∀ x : Nat, x < 5 → (fl_nI [gI 0, gI 1, gI 2, gI 3, gI 4, gI 5, gI 6, gI 7, gI 8, gI 9, gI 10, gI 11, gI 12, gI 13, gI 14, gI 15, gI 16, gI 17, gI 18, gI 19, gI 20, gI 21, gI 22, gI 23, gI 24, gI 25, gI 26, gI 27, gI 28, gI 29, gI 30, gI 31, gI 32, gI 33, gI 34, gI 35, gI 36, gI 37, gI 38, gI 39, gI 40, gI 41, gI 42, gI 43, gI 44, gI 45, gI 46, gI 47, gI 48, gI 49, gI 50, gI 51, gI 52, gI 53, gI 54, gI 55, gI 56, gI 57, gI 58, gI 59, gI 60, gI 61, gI 62, gI 63, gI 64, gI 65, gI 66, gI 67, gI 68, gI 69, m, t, s, g, c, gI 75, gI 76, gI 77, gI 78, gI 79]) (5 * j + x) = gI (5 * j + x)) ∧ (fl_nF [gF 0, gF 1, gF 2, gF 3, gF 4, gF 5, gF 6, gF 7, gF 8, gF 9, gF 10, gF 11, gF 12, gF 13, gF 14, gF 15, gF 16, gF 17, gF 18, gF 19, gF 20, gF 21, gF 22, gF 23, gF 24, gF 25, gF 26, gF 27, pl1, he1, gF 30, gF 31]) (2 * j) = gF (2 * j) ∧ (fl_nF [gF 0, gF 1, gF 2, gF 3, gF 4, gF 5, gF 6, gF 7, gF 8, gF 9, gF 10, gF 11, gF 12, gF 13, gF 14, gF 15, gF 16, gF 17, gF 18, gF 19, gF 20, gF 21, gF 22, gF 23, gF 24, gF 25, gF 26, gF 27, pl1, he1, gF 30, gF 31]) (2 * j + 1) = gF (2 * j + 1) := by
  refine ⟨⟨rfl, rfl, rfl, rfl, rfl, hq⟩, fun j hj hn => ?_⟩
  rcases (show j = 0 ∨ j = 1 ∨ j = 2 ∨ j = 3 ∨ j = 4 ∨ j = 5 ∨ j = 6 ∨ j = 7 ∨ j = 8 ∨ j = 9 ∨ j = 10 ∨ j = 11 ∨ j = 12 ∨ j = 13 ∨ j = 14 ∨ j = 15 by omega) with h | h | h | h | h | h | h | h | h | h | h | h | h | h | h | h
  · subst h
    refine ⟨fun x hx => ?_, rfl, rfl⟩
    rcases (show x = 0 ∨ x = 1 ∨ x = 2 ∨ x = 3 ∨ x = 4 by omega) with h | h | h | h | h <;> (subst h; rfl)
  · subst h
    refine ⟨fun x hx => ?_, rfl, rfl⟩
    rcases (show x = 0 ∨ x = 1 ∨ x = 2 ∨ x = 3 ∨ x = 4 by omega) with h | h | h | h | h <;> (subst h; rfl)
  · subst h
    refine ⟨fun x hx => ?_, rfl, rfl⟩
    rcases (show x = 0 ∨ x = 1 ∨ x = 2 ∨ x = 3 ∨ x = 4 by omega) with h | h | h | h | h <;> (subst h; rfl)
  · subst h
    refine ⟨fun x hx => ?_, rfl, rfl⟩
    rcases (show x = 0 ∨ x = 1 ∨ x = 2 ∨ x = 3 ∨ x = 4 by omega) with h | h | h | h | h <;> (subst h; rfl)
  · subst h
    refine ⟨fun x hx => ?_, rfl, rfl⟩
    rcases (show x = 0 ∨ x = 1 ∨ x = 2 ∨ x = 3 ∨ x = 4 by omega) with h | h | h | h | h <;> (subst h; rfl)
  · subst h
    refine ⟨fun x hx => ?_, rfl, rfl⟩
    rcases (show x = 0 ∨ x = 1 ∨ x = 2 ∨ x = 3 ∨ x = 4 by omega) with h | h | h | h | h <;> (subst h; rfl)
  · subst h
    refine ⟨fun x hx => ?_, rfl, rfl⟩
    rcases (show x = 0 ∨ x = 1 ∨ x = 2 ∨ x = 3 ∨ x = 4 by omega) with h | h | h | h | h <;> (subst h; rfl)
  · subst h
    refine ⟨fun x hx => ?_, rfl, rfl⟩
    rcases (show x = 0 ∨ x = 1 ∨ x = 2 ∨ x = 3 ∨ x = 4 by omega) with h | h | h | h | h <;> (subst h; rfl)
  · subst h
    refine ⟨fun x hx => ?_, rfl, rfl⟩
    rcases (show x = 0 ∨ x = 1 ∨ x = 2 ∨ x = 3 ∨ x = 4 by omega) with h | h | h | h | h <;> (subst h; rfl)
  · subst h
    refine ⟨fun x hx => ?_, rfl, rfl⟩
    rcases (show x = 0 ∨ x = 1 ∨ x = 2 ∨ x = 3 ∨ x = 4 by omega) with h | h | h | h | h <;> (subst h; rfl)
  · subst h
    refine ⟨fun x hx => ?_, rfl, rfl⟩
    rcases (show x = 0 ∨ x = 1 ∨ x = 2 ∨ x = 3 ∨ x = 4 by omega) with h | h | h | h | h <;> (subst h; rfl)
  · subst h
    refine ⟨fun x hx => ?_, rfl, rfl⟩
    rcases (show x = 0 ∨ x = 1 ∨ x = 2 ∨ x = 3 ∨ x = 4 by omega) with h | h | h | h | h <;> (subst h; rfl)
  · subst h
    refine ⟨fun x hx => ?_, rfl, rfl⟩
    rcases (show x = 0 ∨ x = 1 ∨ x = 2 ∨ x = 3 ∨ x = 4 by omega) with h | h | h | h | h <;> (subst h; rfl)
  · subst h
    refine ⟨fun x hx => ?_, rfl, rfl⟩
    rcases (show x = 0 ∨ x = 1 ∨ x = 2 ∨ x = 3 ∨ x = 4 by omega) with h | h | h | h | h <;> (subst h; rfl)
  · exact absurd h hn
  · subst h
    refine ⟨fun x hx => ?_, rfl, rfl⟩
    rcases (show x = 0 ∨ x = 1 ∨ x = 2 ∨ x = 3 ∨ x = 4 by omega) with h | h | h | h | h <;> (subst h; rfl)
theorem rs_kp15 {U L : Int} (h : (L + 1) % 16 = 15) (m t s g c : Int) (pl he : Nat → Int) (gI : Nat → Int) (gF : Nat → Nat → Int) : ∃ pl1 he1, Ff_X1_keep U L gI m t s g c pl gF he = (fl_min (U + 1) 16, 15, fl_nI [gI 0, gI 1, gI 2, gI 3, gI 4, gI 5, gI 6, gI 7, gI 8, gI 9, gI 10, gI 11, gI 12, gI 13, gI 14, gI 15, gI 16, gI 17, gI 18, gI 19, gI 20, gI 21, gI 22, gI 23, gI 24, gI 25, gI 26, gI 27, gI 28, gI 29, gI 30, gI 31, gI 32, gI 33, gI 34, gI 35, gI 36, gI 37, gI 38, gI 39, gI 40, gI 41, gI 42, gI 43, gI 44, gI 45, gI 46, gI 47, gI 48, gI 49, gI 50, gI 51, gI 52, gI 53, gI 54, gI 55, gI 56, gI 57, gI 58, gI 59, gI 60, gI 61, gI 62, gI 63, gI 64, gI 65, gI 66, gI 67, gI 68, gI 69, gI 70, gI 71, gI 72, gI 73, gI 74, m, t, s, g, c], fl_nF [gF 0, gF 1, gF 2, gF 3, gF 4, gF 5, gF 6, gF 7, gF 8, gF 9, gF 10, gF 11, gF 12, gF 13, gF 14, gF 15, gF 16, gF 17, gF 18, gF 19, gF 20, gF 21, gF 22, gF 23, gF 24, gF 25, gF 26, gF 27, gF 28, gF 29, pl1, he1]) ∧ ∀ k : Nat, k < 9 → pl1 k = pl k ∧ he1 k = he k := by
  obtain ⟨pl1, he1, e, q⟩ := rs_cp m t s g c pl (gF 30) he (gF 31)
  refine ⟨pl1, he1, ?_, q⟩
  unfold Ff_X1_keep
  rw [fl_lt_eq rfl, fl_lt_eq h.symm]
  rw [if_neg (by decide)]
  rw [if_neg (by decide)]
  rw [if_neg (by decide)]
  rw [if_neg (by decide)]
  rw [if_neg (by decide)]
  rw [if_neg (by decide)]
  rw [if_neg (by decide)]
  rw [if_neg (by decide)]
  rw [if_neg (by decide)]
  rw [if_neg (by decide)]
  rw [if_neg (by decide)]
  rw [if_neg (by decide)]
  rw [if_neg (by decide)]
  rw [if_neg (by decide)]
  rw [if_neg (by decide)]
  rw [e, fl_c7_eq rfl]
  rfl
theorem rs_ks15 (m t s g c : Int) (pl he : Nat → Int) (gI : Nat → Int) (gF : Nat → Nat → Int) (pl1 he1 : Nat → Int) (hq : ∀ k : Nat, k < 9 → pl1 k = pl k ∧ he1 k = he k) : rs_P (fl_nI [gI 0, gI 1, gI 2, gI 3, gI 4, gI 5, gI 6, gI 7, gI 8, gI 9, gI 10, gI 11, gI 12, gI 13, gI 14, gI 15, gI 16, gI 17, gI 18, gI 19, gI 20, gI 21, gI 22, gI 23, gI 24, gI 25, gI 26, gI 27, gI 28, gI 29, gI 30, gI 31, gI 32, gI 33, gI 34, gI 35, gI 36, gI 37, gI 38, gI 39, gI 40, gI 41, gI 42, gI 43, gI 44, gI 45, gI 46, gI 47, gI 48, gI 49, gI 50, gI 51, gI 52, gI 53, gI 54, gI 55, gI 56, gI 57, gI 58, gI 59, gI 60, gI 61, gI 62, gI 63, gI 64, gI 65, gI 66, gI 67, gI 68, gI 69, gI 70, gI 71, gI 72, gI 73, gI 74, m, t, s, g, c]) (fl_nF [gF 0, gF 1, gF 2, gF 3, gF 4, gF 5, gF 6, gF 7, gF 8, gF 9, gF 10, gF 11, gF 12, gF 13, gF 14, gF 15, gF 16, gF 17, gF 18, gF 19, gF 20, gF 21, gF 22, gF 23, gF 24, gF 25, gF 26, gF 27, gF 28, gF 29, pl1, he1]) 15 m t s g c pl he ∧ ∀ j : Nat, j < 16 → j ≠ 15 → (∀ x : Nat, x < 5 → (fl_nI [gI 0, gI 1, gI 2, gI 3, gI 4, gI 5, gI 6, gI 7, gI 8, gI 9, gI 10, gI 11, gI 12, gI 13, gI 14, gI 15, gI 16, gI 17, gI 18, gI 19, gI 20, gI 21, gI 22, gI 23, gI 24, gI 25, gI 26, gI 27, gI 28, gI 29, gI 30, gI 31, gI 32, gI 33, gI 34, gI 35, gI 36, gI 37, gI 38, gI 39, gI 40, gI 41, gI 42, gI 43, gI 44, gI 45, gI 46, gI 47, gI 48, gI 49, gI 50, gI 51, gI 52, gI 53, gI 54, gI 55, gI 56, gI 57, gI 58, gI 59, gI 60, gI 61, gI 62, gI 63, gI 64, gI 65, gI 66, gI 67, gI 68, gI 69, gI 70, gI 71, gI 72, gI 73, gI 74, m, t, s, g, c]) (5 * j + x) = gI (5 * j + x)) ∧ (fl_nF [gF 0, gF 1, gF 2, gF 3, gF 4, gF 5, gF 6, gF 7, gF 8, gF 9, gF 10, gF 11, gF 12, gF 13, gF 14, gF 15, gF 16, gF 17, gF 18, gF 19, gF 20, gF 21, gF 22, gF 23, gF 24, gF 25, gF 26, gF 27, gF 28, gF 29, pl1, he1]) (2 * j) = gF (2 * j) ∧ (fl_nF [gF 0, gF 1, gF 2, gF 3, gF 4, gF 5, gF 6, gF 7, gF 8, gF 9, gF 10, gF 11, gF 12, gF 13, gF 14, gF 15, gF 16, gF 17, gF 18, gF 19, gF 20, gF 21, gF 22, gF 23, gF 24, gF 25, gF 26, gF 27, gF 28, gF 29, pl1, he1]) (2 * j + 1) = gF (2 * j + 1) := by
  refine ⟨⟨rfl, rfl, rfl, rfl, rfl, hq⟩, fun j hj hn => ?_⟩
  rcases (show j = 0 ∨ j = 1 ∨ j = 2 ∨ j = 3 ∨ j = 4 ∨ j = 5 ∨ j = 6 ∨ j = 7 ∨ j = 8 ∨ j = 9 ∨ j = 10 ∨ j = 11 ∨ j = 12 ∨ j = 13 ∨ j = 14 ∨ j = 15 by omega) with h | h | h | h | h | h | h | h | h | h | h | h | h | h | h | h
  · subst h
    refine ⟨fun x hx => ?_, rfl, rfl⟩
    rcases (show x = 0 ∨ x = 1 ∨ x = 2 ∨ x = 3 ∨ x = 4 by omega) with h | h | h | h | h <;> (subst h; rfl)
  · subst h
    refine ⟨fun x hx => ?_, rfl, rfl⟩
    rcases (show x = 0 ∨ x = 1 ∨ x = 2 ∨ x = 3 ∨ x = 4 by omega) with h | h | h | h | h <;> (subst h; rfl)
  · subst h
    refine ⟨fun x hx => ?_, rfl, rfl⟩
    rcases (show x = 0 ∨ x = 1 ∨ x = 2 ∨ x = 3 ∨ x = 4 by omega) with h | h | h | h | h <;> (subst h; rfl)
  · subst h
    refine ⟨fun x hx => ?_, rfl, rfl⟩
    rcases (show x = 0 ∨ x = 1 ∨ x = 2 ∨ x = 3 ∨ x = 4 by omega) with h | h | h | h | h <;> (subst h; rfl)
  · subst h
    refine ⟨fun x hx => ?_, rfl, rfl⟩
    rcases (show x = 0 ∨ x = 1 ∨ x = 2 ∨ x = 3 ∨ x = 4 by omega) with h | h | h | h | h <;> (subst h; rfl)
  · subst h
    refine ⟨fun x hx => ?_, rfl, rfl⟩
    rcases (show x = 0 ∨ x = 1 ∨ x = 2 ∨ x = 3 ∨ x = 4 by omega) with h | h | h | h | h <;> (subst h; rfl)
  · subst h
    refine ⟨fun x hx => ?_, rfl, rfl⟩
    rcases (show x = 0 ∨ x = 1 ∨ x = 2 ∨ x = 3 ∨ x = 4 by omega) with h | h | h | h | h <;> (subst h; rfl)
  · subst h
    refine ⟨fun x hx => ?_, rfl, rfl⟩
    rcases (show x = 0 ∨ x = 1 ∨ x = 2 ∨ x = 3 ∨ x = 4 by omega) with h | h | h | h | h <;> (subst h; rfl)
  · subst h
    refine ⟨fun x hx => ?_, rfl, rfl⟩
    rcases (show x = 0 ∨ x = 1 ∨ x = 2 ∨ x = 3 ∨ x = 4 by omega) with h | h | h | h | h <;> (subst h; rfl)
  · subst h
    refine ⟨fun x hx => ?_, rfl, rfl⟩
    rcases (show x = 0 ∨ x = 1 ∨ x = 2 ∨ x = 3 ∨ x = 4 by omega) with h | h | h | h | h <;> (subst h; rfl)
  · subst h
    refine ⟨fun x hx => ?_, rfl, rfl⟩
    rcases (show x = 0 ∨ x = 1 ∨ x = 2 ∨ x = 3 ∨ x = 4 by omega) with h | h | h | h | h <;> (subst h; rfl)
  · subst h
    refine ⟨fun x hx => ?_, rfl, rfl⟩
    rcases (show x = 0 ∨ x = 1 ∨ x = 2 ∨ x = 3 ∨ x = 4 by omega) with h | h | h | h | h <;> (subst h; rfl)
  · subst h
    refine ⟨fun x hx => ?_, rfl, rfl⟩
    rcases (show x = 0 ∨ x = 1 ∨ x = 2 ∨ x = 3 ∨ x = 4 by omega) with h | h | h | h | h <;> (subst h; rfl)
  · subst h
    refine ⟨fun x hx => ?_, rfl, rfl⟩
    rcases (show x = 0 ∨ x = 1 ∨ x = 2 ∨ x = 3 ∨ x = 4 by omega) with h | h | h | h | h <;> (subst h; rfl)
  · subst h
    refine ⟨fun x hx => ?_, rfl, rfl⟩
    rcases (show x = 0 ∨ x = 1 ∨ x = 2 ∨ x = 3 ∨ x = 4 by omega) with h | h | h | h | h <;> (subst h; rfl)
  · exact absurd h hn
/-- keep: here -/
theorem rs_kp {L : Int} (h0 : 0 ≤ L) (h1 : L ≤ 15) (U : Int) (m t s g c : Int) (pl he : Nat → Int) (gI : Nat → Int) (gF : Nat → Nat → Int) : ∃ gI1 gF1, Ff_X1_keep U L gI m t s g c pl gF he = (fl_min (U + 1) 16, (L + 1) % 16, gI1, gF1) ∧ rs_P gI1 gF1 ((L + 1) % 16).toNat m t s g c pl he ∧ ∀ j : Nat, j < 16 → j ≠ ((L + 1) % 16).toNat → (∀ x : Nat, x < 5 → gI1 (5 * j + x) = gI (5 * j + x)) ∧ gF1 (2 * j) = gF (2 * j) ∧ gF1 (2 * j + 1) = gF (2 * j + 1) := by
  rcases (show (L + 1) % 16 = 0 ∨ (L + 1) % 16 = 1 ∨ (L + 1) % 16 = 2 ∨ (L + 1) % 16 = 3 ∨ (L + 1) % 16 = 4 ∨ (L + 1) % 16 = 5 ∨ (L + 1) % 16 = 6 ∨ (L + 1) % 16 = 7 ∨ (L + 1) % 16 = 8 ∨ (L + 1) % 16 = 9 ∨ (L + 1) % 16 = 10 ∨ (L + 1) % 16 = 11 ∨ (L + 1) % 16 = 12 ∨ (L + 1) % 16 = 13 ∨ (L + 1) % 16 = 14 ∨ (L + 1) % 16 = 15 by omega) with h | h | h | h | h | h | h | h | h | h | h | h | h | h | h | h
  · obtain ⟨pl1, he1, e, q⟩ := rs_kp0 (U := U) h m t s g c pl he gI gF
    rw [h]
    exact ⟨_, _, e, rs_ks0 m t s g c pl he gI gF pl1 he1 q⟩
  · obtain ⟨pl1, he1, e, q⟩ := rs_kp1 (U := U) h m t s g c pl he gI gF
    rw [h]
    exact ⟨_, _, e, rs_ks1 m t s g c pl he gI gF pl1 he1 q⟩
  · obtain ⟨pl1, he1, e, q⟩ := rs_kp2 (U := U) h m t s g c pl he gI gF
    rw [h]
    exact ⟨_, _, e, rs_ks2 m t s g c pl he gI gF pl1 he1 q⟩
  · obtain ⟨pl1, he1, e, q⟩ := rs_kp3 (U := U) h m t s g c pl he gI gF
    rw [h]
    exact ⟨_, _, e, rs_ks3 m t s g c pl he gI gF pl1 he1 q⟩
  · obtain ⟨pl1, he1, e, q⟩ := rs_kp4 (U := U) h m t s g c pl he gI gF
    rw [h]
    exact ⟨_, _, e, rs_ks4 m t s g c pl he gI gF pl1 he1 q⟩
  · obtain ⟨pl1, he1, e, q⟩ := rs_kp5 (U := U) h m t s g c pl he gI gF
    rw [h]
    exact ⟨_, _, e, rs_ks5 m t s g c pl he gI gF pl1 he1 q⟩
  · obtain ⟨pl1, he1, e, q⟩ := rs_kp6 (U := U) h m t s g c pl he gI gF
    rw [h]
    exact ⟨_, _, e, rs_ks6 m t s g c pl he gI gF pl1 he1 q⟩
  · obtain ⟨pl1, he1, e, q⟩ := rs_kp7 (U := U) h m t s g c pl he gI gF
    rw [h]
    exact ⟨_, _, e, rs_ks7 m t s g c pl he gI gF pl1 he1 q⟩
  · obtain ⟨pl1, he1, e, q⟩ := rs_kp8 (U := U) h m t s g c pl he gI gF
    rw [h]
    exact ⟨_, _, e, rs_ks8 m t s g c pl he gI gF pl1 he1 q⟩
  · obtain ⟨pl1, he1, e, q⟩ := rs_kp9 (U := U) h m t s g c pl he gI gF
    rw [h]
    exact ⟨_, _, e, rs_ks9 m t s g c pl he gI gF pl1 he1 q⟩
  · obtain ⟨pl1, he1, e, q⟩ := rs_kp10 (U := U) h m t s g c pl he gI gF
    rw [h]
    exact ⟨_, _, e, rs_ks10 m t s g c pl he gI gF pl1 he1 q⟩
  · obtain ⟨pl1, he1, e, q⟩ := rs_kp11 (U := U) h m t s g c pl he gI gF
    rw [h]
    exact ⟨_, _, e, rs_ks11 m t s g c pl he gI gF pl1 he1 q⟩
  · obtain ⟨pl1, he1, e, q⟩ := rs_kp12 (U := U) h m t s g c pl he gI gF
    rw [h]
    exact ⟨_, _, e, rs_ks12 m t s g c pl he gI gF pl1 he1 q⟩
  · obtain ⟨pl1, he1, e, q⟩ := rs_kp13 (U := U) h m t s g c pl he gI gF
    rw [h]
    exact ⟨_, _, e, rs_ks13 m t s g c pl he gI gF pl1 he1 q⟩
  · obtain ⟨pl1, he1, e, q⟩ := rs_kp14 (U := U) h m t s g c pl he gI gF
    rw [h]
    exact ⟨_, _, e, rs_ks14 m t s g c pl he gI gF pl1 he1 q⟩
  · obtain ⟨pl1, he1, e, q⟩ := rs_kp15 (U := U) h m t s g c pl he gI gF
    rw [h]
    exact ⟨_, _, e, rs_ks15 m t s g c pl he gI gF pl1 he1 q⟩
theorem rs_tk0 {U : Int} (hU : ¬ U = 0) (m t s g c : Int) (pl he : Nat → Int) (gI : Nat → Int) (gF : Nat → Nat → Int) : ∃ pl1 he1, Ff_X1_takeLatest U 0 m t s g c gI gF pl he = (1, U - 1, 15, gI 0, gI 1, gI 2, gI 3, gI 4, pl1, he1) ∧ ∀ k : Nat, k < 9 → gF 0 k = pl1 k ∧ gF 1 k = he1 k := by
  obtain ⟨pl1, he1, e, q⟩ := rs_cp (gI 0) (gI 1) (gI 2) (gI 3) (gI 4) (gF 0) pl (gF 1) he
  refine ⟨pl1, he1, ?_, fun k hk => ⟨(q k hk).1.symm, (q k hk).2.symm⟩⟩
  unfold Ff_X1_takeLatest
  rw [if_neg hU]
  rw [if_pos rfl]
  rw [e, fl_c7_eq rfl]
  rfl
theorem rs_tk1 {U : Int} (hU : ¬ U = 0) (m t s g c : Int) (pl he : Nat → Int) (gI : Nat → Int) (gF : Nat → Nat → Int) : ∃ pl1 he1, Ff_X1_takeLatest U 1 m t s g c gI gF pl he = (1, U - 1, 0, gI 5, gI 6, gI 7, gI 8, gI 9, pl1, he1) ∧ ∀ k : Nat, k < 9 → gF 2 k = pl1 k ∧ gF 3 k = he1 k := by
  obtain ⟨pl1, he1, e, q⟩ := rs_cp (gI 5) (gI 6) (gI 7) (gI 8) (gI 9) (gF 2) pl (gF 3) he
  refine ⟨pl1, he1, ?_, fun k hk => ⟨(q k hk).1.symm, (q k hk).2.symm⟩⟩
  unfold Ff_X1_takeLatest
  rw [if_neg hU]
  rw [if_neg (by decide)]
  rw [if_pos rfl]
  rw [e, fl_c7_eq rfl]
  rfl
theorem rs_tk2 {U : Int} (hU : ¬ U = 0) (m t s g c : Int) (pl he : Nat → Int) (gI : Nat → Int) (gF : Nat → Nat → Int) : ∃ pl1 he1, Ff_X1_takeLatest U 2 m t s g c gI gF pl he = (1, U - 1, 1, gI 10, gI 11, gI 12, gI 13, gI 14, pl1, he1) ∧ ∀ k : Nat, k < 9 → gF 4 k = pl1 k ∧ gF 5 k = he1 k := by
  obtain ⟨pl1, he1, e, q⟩ := rs_cp (gI 10) (gI 11) (gI 12) (gI 13) (gI 14) (gF 4) pl (gF 5) he
  refine ⟨pl1, he1, ?_, fun k hk => ⟨(q k hk).1.symm, (q k hk).2.symm⟩⟩
  unfold Ff_X1_takeLatest
  rw [if_neg hU]
  rw [if_neg (by decide)]
  rw [if_neg (by decide)]
  rw [if_pos rfl]
  rw [e, fl_c7_eq rfl]
  rfl
theorem rs_tk3 {U : Int} (hU : ¬ U = 0) (m t s g c : Int) (pl he : Nat → Int) (gI : Nat → Int) (gF : Nat → Nat → Int) : ∃ pl1 he1, Ff_X1_takeLatest U 3 m t s g c gI gF pl he = (1, U - 1, 2, gI 15, gI 16, gI 17, gI 18, gI 19, pl1, he1) ∧ ∀ k : Nat, k < 9 → gF 6 k = pl1 k ∧ gF 7 k = he1 k := by
  obtain ⟨pl1, he1, e, q⟩ := rs_cp (gI 15) (gI 16) (gI 17) (gI 18) (gI 19) (gF 6) pl (gF 7) he
  refine ⟨pl1, he1, ?_, fun k hk => ⟨(q k hk).1.symm, (q k hk).2.symm⟩⟩
  unfold Ff_X1_takeLatest
  rw [if_neg hU]
  rw [if_neg (by decide)]
  rw [if_neg (by decide)]
  rw [if_neg (by decide)]
  rw [if_pos rfl]
  rw [e, fl_c7_eq rfl]
  rfl
theorem rs_tk4 {U : Int} (hU : ¬ U = 0) (m t s g c : Int) (pl he : Nat → Int) (gI : Nat → Int) (gF : Nat → Nat → Int) : ∃ pl1 he1, Ff_X1_takeLatest U 4 m t s g c gI gF pl he = (1, U - 1, 3, gI 20, gI 21, gI 22, gI 23, gI 24, pl1, he1) ∧ ∀ k : Nat, k < 9 → gF 8 k = pl1 k ∧ gF 9 k = he1 k := by
  obtain ⟨pl1, he1, e, q⟩ := rs_cp (gI 20) (gI 21) (gI 22) (gI 23) (gI 24) (gF 8) pl (gF 9) he
  refine ⟨pl1, he1, ?_, fun k hk => ⟨(q k hk).1.symm, (q k hk).2.symm⟩⟩
  unfold Ff_X1_takeLatest
  rw [if_neg hU]
  rw [if_neg (by decide)]
  rw [if_neg (by decide)]
  rw [if_neg (by decide)]
  rw [if_neg (by decide)]
  rw [if_pos rfl]
  rw [e, fl_c7_eq rfl]
  rfl
theorem rs_tk5 {U : Int} (hU : ¬ U = 0) (m t s g c : Int) (pl he : Nat → Int) (gI : Nat → Int) (gF : Nat → Nat → Int) : ∃ pl1 he1, Ff_X1_takeLatest U 5 m t s g c gI gF pl he = (1, U - 1, 4, gI 25, gI 26, gI 27, gI 28, gI 29, pl1, he1) ∧ ∀ k : Nat, k < 9 → gF 10 k = pl1 k ∧ gF 11 k = he1 k := by
  obtain ⟨pl1, he1, e, q⟩ := rs_cp (gI 25) (gI 26) (gI 27) (gI 28) (gI 29) (gF 10) pl (gF 11) he
  refine ⟨pl1, he1, ?_, fun k hk => ⟨(q k hk).1.symm, (q k hk).2.symm⟩⟩
  unfold Ff_X1_takeLatest
  rw [if_neg hU]
  rw [if_neg (by decide)]
  rw [if_neg (by decide)]
  rw [if_neg (by decide)]
  rw [if_neg (by decide)]
  rw [if_neg (by decide)]
  rw [if_pos rfl]
  rw [e, fl_c7_eq rfl]
  rfl
theorem rs_tk6 {U : Int} (hU : ¬ U = 0) (m t s g c : Int) (pl he : Nat → Int) (gI : Nat → Int) (gF : Nat → Nat → Int) : ∃ pl1 he1, Ff_X1_takeLatest U 6 m t s g c gI gF pl he = (1, U - 1, 5, gI 30, gI 31, gI 32, gI 33, gI 34, pl1, he1) ∧ ∀ k : Nat, k < 9 → gF 12 k = pl1 k ∧ gF 13 k = he1 k := by
  obtain ⟨pl1, he1, e, q⟩ := rs_cp (gI 30) (gI 31) (gI 32) (gI 33) (gI 34) (gF 12) pl (gF 13) he
  refine ⟨pl1, he1, ?_, fun k hk => ⟨(q k hk).1.symm, (q k hk).2.symm⟩⟩
  unfold Ff_X1_takeLatest
  rw [if_neg hU]
  rw [if_neg (by decide)]
  rw [if_neg (by decide)]
  rw [if_neg (by decide)]
  rw [if_neg (by decide)]
  rw [if_neg (by decide)]
  rw [if_neg (by decide)]
  rw [if_pos rfl]
  rw [e, fl_c7_eq rfl]
  rfl
theorem rs_tk7 {U : Int} (hU : ¬ U = 0) (m t s g c : Int) (pl he : Nat → Int) (gI : Nat → Int) (gF : Nat → Nat → Int) : ∃ pl1 he1, Ff_X1_takeLatest U 7 m t s g c gI gF pl he = (1, U - 1, 6, gI 35, gI 36, gI 37, gI 38, gI 39, pl1, he1) ∧ ∀ k : Nat, k < 9 → gF 14 k = pl1 k ∧ gF 15 k = he1 k := by
  obtain ⟨pl1, he1, e, q⟩ := rs_cp (gI 35) (gI 36) (gI 37) (gI 38) (gI 39) (gF 14) pl (gF 15) he
  refine ⟨pl1, he1, ?_, fun k hk => ⟨(q k hk).1.symm, (q k hk).2.symm⟩⟩
  unfold Ff_X1_takeLatest
  rw [if_neg hU]
  rw [if_neg (by decide)]
  rw [if_neg (by decide)]
  rw [if_neg (by decide)]
  rw [if_neg (by decide)]
  rw [if_neg (by decide)]
  rw [if_neg (by decide)]
  rw [if_neg (by decide)]
  rw [if_pos rfl]
  rw [e, fl_c7_eq rfl]
  rfl
theorem rs_tk8 {U : Int} (hU : ¬ U = 0) (m t s g c : Int) (pl he : Nat → Int) (gI : Nat → Int) (gF : Nat → Nat → Int) : ∃ pl1 he1, Ff_X1_takeLatest U 8 m t s g c gI gF pl he = (1, U - 1, 7, gI 40, gI 41, gI 42, gI 43, gI 44, pl1, he1) ∧ ∀ k : Nat, k < 9 → gF 16 k = pl1 k ∧ gF 17 k = he1 k := by
  obtain ⟨pl1, he1, e, q⟩ := rs_cp (gI 40) (gI 41) (gI 42) (gI 43) (gI 44) (gF 16) pl (gF 17) he
  refine ⟨pl1, he1, ?_, fun k hk => ⟨(q k hk).1.symm, (q k hk).2.symm⟩⟩
  unfold Ff_X1_takeLatest
  rw [if_neg hU]
  rw [if_neg (by decide)]
  rw [if_neg (by decide)]
  rw [if_neg (by decide)]
  rw [if_neg (by decide)]
  rw [if_neg (by decide)]
  rw [if_neg (by decide)]
  rw [if_neg (by decide)]
  rw [if_neg (by decide)]
  rw [if_pos rfl]
  rw [e, fl_c7_eq rfl]
  rfl
theorem rs_tk9 {U : Int} (hU : ¬ U = 0) (m t s g c : Int) (pl he : Nat → Int) (gI : Nat → Int) (gF : Nat → Nat → Int) : ∃ pl1 he1, Ff_X1_takeLatest U 9 m t s g c gI gF pl he = (1, U - 1, 8, gI 45, gI 46, gI 47, gI 48, gI 49, pl1, he1) ∧ ∀ k : Nat, k < 9 → gF 18 k = pl1 k ∧ gF 19 k = he1 k := by
  obtain ⟨pl1, he1, e, q⟩ := rs_cp (gI 45) (gI 46) (gI 47) (gI 48) (gI 49) (gF 18) pl (gF 19) he
  refine ⟨pl1, he1, ?_, fun k hk => ⟨(q k hk).1.symm, (q k hk).2.symm⟩⟩
  unfold Ff_X1_takeLatest
  rw [if_neg hU]
  rw [if_neg (by decide)]
  rw [if_neg (by decide)]
  rw [if_neg (by decide)]
  rw [if_neg (by decide)]
  rw [if_neg (by decide)]
  rw [if_neg (by decide)]
  rw [if_neg (by decide)]
  rw [if_neg (by decide)]
  rw [if_neg (by decide)]
  rw [if_pos rfl]
  rw [e, fl_c7_eq rfl]
  rfl
theorem rs_tk10 {U : Int} (hU : ¬ U = 0) (m t s g c : Int) (pl he : Nat → Int) (gI : Nat → Int) (gF : Nat → Nat → Int) : ∃ pl1 he1, Ff_X1_takeLatest U 10 m t s g c gI gF pl he = (1, U - 1, 9, gI 50, gI 51, gI 52, gI 53, gI 54, pl1, he1) ∧ ∀ k : Nat, k < 9 → gF 20 k = pl1 k ∧ gF 21 k = he1 k := by
  obtain ⟨pl1, he1, e, q⟩ := rs_cp (gI 50) (gI 51) (gI 52) (gI 53) (gI 54) (gF 20) pl (gF 21) he
  refine ⟨pl1, he1, ?_, fun k hk => ⟨(q k hk).1.symm, (q k hk).2.symm⟩⟩
  unfold Ff_X1_takeLatest
  rw [if_neg hU]
  rw [if_neg (by decide)]
  rw [if_neg (by decide)]
  rw [if_neg (by decide)]
  rw [if_neg (by decide)]
  rw [if_neg (by decide)]
  rw [if_neg (by decide)]
  rw [if_neg (by decide)]
  rw [if_neg (by decide)]
  rw [if_neg (by decide)]
  rw [if_neg (by decide)]
  rw [if_pos rfl]
  rw [e, fl_c7_eq rfl]
  rfl
theorem rs_tk11 {U : Int} (hU : ¬ U = 0) (m t s g c : Int) (pl he : Nat → Int) (gI : Nat → Int) (gF : Nat → Nat → Int) : ∃ pl1 he1, Ff_X1_takeLatest U 11 m t s g c gI gF pl he = (1, U - 1, 10, gI 55, gI 56, gI 57, gI 58, gI 59, pl1, he1) ∧ ∀ k : Nat, k < 9 → gF 22 k = pl1 k ∧ gF 23 k = he1 k := by
  obtain ⟨pl1, he1, e, q⟩ := rs_cp (gI 55) (gI 56) (gI 57) (gI 58) (gI 59) (gF 22) pl (gF 23) he
  refine ⟨pl1, he1, ?_, fun k hk => ⟨(q k hk).1.symm, (q k hk).2.symm⟩⟩
  unfold Ff_X1_takeLatest
  rw [if_neg hU]
  rw [if_neg (by decide)]
  rw [if_neg (by decide)]
  rw [if_neg (by decide)]
  rw [if_neg (by decide)]
  rw [if_neg (by decide)]
  rw [if_neg (by decide)]
  rw [if_neg (by decide)]
  rw [if_neg (by decide)]
  rw [if_neg (by decide)]
  rw [if_neg (by decide)]
  rw [if_neg (by decide)]
  rw [if_pos rfl]
  rw [e, fl_c7_eq rfl]
  rfl
theorem rs_tk12 {U : Int} (hU : ¬ U = 0) (m t s g c : Int) (pl he : Nat → Int) (gI : Nat → Int) (gF : Nat → Nat → Int) : ∃ pl1 he1, Ff_X1_takeLatest U 12 m t s g c gI gF pl he = (1, U - 1, 11, gI 60, gI 61, gI 62, gI 63, gI 64, pl1, he1) ∧ ∀ k : Nat, k < 9 → gF 24 k = pl1 k ∧ gF 25 k = he1 k := by
  obtain ⟨pl1, he1, e, q⟩ := rs_cp (gI 60) (gI 61) (gI 62) (gI 63) (gI 64) (gF 24) pl (gF 25) he
  refine ⟨pl1, he1, ?_, fun k hk => ⟨(q k hk).1.symm, (q k hk).2.symm⟩⟩
  unfold Ff_X1_takeLatest
  rw [if_neg hU]
  rw [if_neg (by decide)]
  rw [if_neg (by decide)]
  rw [if_neg (by decide)]
  rw [if_neg (by decide)]
  rw [if_neg (by decide)]
  rw [if_neg (by decide)]
  rw [if_neg (by decide)]
  rw [if_neg (by decide)]
  rw [if_neg (by decide)]
  rw [if_neg (by decide)]
  rw [if_neg (by decide)]
  rw [if_neg (by decide)]
  rw [if_pos rfl]
  rw [e, fl_c7_eq rfl]
  rfl
theorem rs_tk13 {U : Int} (hU : ¬ U = 0) (m t s g c : Int) (pl he : Nat → Int) (gI : Nat → Int) (gF : Nat → Nat → Int) : ∃ pl1 he1, Ff_X1_takeLatest U 13 m t s g c gI gF pl he = (1, U - 1, 12, gI 65, gI 66, gI 67, gI 68, gI 69, pl1, he1) ∧ ∀ k : Nat, k < 9 → gF 26 k = pl1 k ∧ gF 27 k = he1 k := by
  obtain ⟨pl1, he1, e, q⟩ := rs_cp (gI 65) (gI 66) (gI 67) (gI 68) (gI 69) (gF 26) pl (gF 27) he
  refine ⟨pl1, he1, ?_, fun k hk => ⟨(q k hk).1.symm, (q k hk).2.symm⟩⟩
  unfold Ff_X1_takeLatest
  rw [if_neg hU]
  rw [if_neg (by decide)]
  rw [if_neg (by decide)]
  rw [if_neg (by decide)]
  rw [if_neg (by decide)]
  rw [if_neg (by decide)]
  rw [if_neg (by decide)]
  rw [if_neg (by decide)]
  rw [if_neg (by decide)]
  rw [if_neg (by decide)]
  rw [if_neg (by decide)]
  rw [if_neg (by decide)]
  rw [if_neg (by decide)]
  rw [if_neg (by decide)]
  rw [if_pos rfl]
  rw [e, fl_c7_eq rfl]
  rfl
theorem rs_tk14 {U : Int} (hU : ¬ U = 0) (m t s g c : Int) (pl he : Nat → Int) (gI : Nat → Int) (gF : Nat → Nat → Int) : ∃ pl1 he1, Ff_X1_takeLatest U 14 m t s g c gI gF pl he = (1, U - 1, 13, gI 70, gI 71, gI 72, gI 73, gI 74, pl1, he1) ∧ ∀ k : Nat, k < 9 → gF 28 k = pl1 k ∧ gF 29 k = he1 k := by
  obtain ⟨pl1, he1, e, q⟩ := rs_cp (gI 70) (gI 71) (gI 72) (gI 73) (gI 74) (gF 28) pl (gF 29) he
  refine ⟨pl1, he1, ?_, fun k hk => ⟨(q k hk).1.symm, (q k hk).2.symm⟩⟩
  unfold Ff_X1_takeLatest
  rw [if_neg hU]
  rw [if_neg (by decide)]
  rw [if_neg (by decide)]
  rw [if_neg (by decide)]
  rw [if_neg (by decide)]
  rw [if_neg (by decide)]
  rw [if_neg (by decide)]
  rw [if_neg (by decide)]
  rw [if_neg (by decide)]
  rw [if_neg (by decide)]
  rw [if_neg (by decide)]
  rw [if_neg (by decide)]
  rw [if_neg (by decide)]
  rw [if_neg (by decide)]
  rw [if_neg (by decide)]
  rw [if_pos rfl]
  rw [e, fl_c7_eq rfl]
  rfl
theorem rs_tk15 {U : Int} (hU : ¬ U = 0) (m t s g c : Int) (pl he : Nat → Int) (gI : Nat → Int) (gF : Nat → Nat → Int) : ∃ pl1 he1, Ff_X1_takeLatest U 15 m t s g c gI gF pl he = (1, U - 1, 14, gI 75, gI 76, gI 77, gI 78, gI 79, pl1, he1) ∧ ∀ k : Nat, k < 9 → gF 30 k = pl1 k ∧ gF 31 k = he1 k := by
  obtain ⟨pl1, he1, e, q⟩ := rs_cp (gI 75) (gI 76) (gI 77) (gI 78) (gI 79) (gF 30) pl (gF 31) he
  refine ⟨pl1, he1, ?_, fun k hk => ⟨(q k hk).1.symm, (q k hk).2.symm⟩⟩
  unfold Ff_X1_takeLatest
  rw [if_neg hU]
  rw [if_neg (by decide)]
  rw [if_neg (by decide)]
  rw [if_neg (by decide)]
  rw [if_neg (by decide)]
  rw [if_neg (by decide)]
  rw [if_neg (by decide)]
  rw [if_neg (by decide)]
  rw [if_neg (by decide)]
  rw [if_neg (by decide)]
  rw [if_neg (by decide)]
  rw [if_neg (by decide)]
  rw [if_neg (by decide)]
  rw [if_neg (by decide)]
  rw [if_neg (by decide)]
  rw [if_neg (by decide)]
  rw [e, fl_c7_eq rfl]
  rfl
/-- the latest comes back: here -/
theorem rs_tk {U L : Int} (hU : ¬ U = 0) (h0 : 0 ≤ L) (h1 : L ≤ 15) (m t s g c : Int) (pl he : Nat → Int) (gI : Nat → Int) (gF : Nat → Nat → Int) : ∃ m1 t1 s1 g1 c1 pl1 he1, Ff_X1_takeLatest U L m t s g c gI gF pl he = (1, U - 1, (L + 15) % 16, m1, t1, s1, g1, c1, pl1, he1) ∧ rs_P gI gF L.toNat m1 t1 s1 g1 c1 pl1 he1 := by
  rcases (show L = 0 ∨ L = 1 ∨ L = 2 ∨ L = 3 ∨ L = 4 ∨ L = 5 ∨ L = 6 ∨ L = 7 ∨ L = 8 ∨ L = 9 ∨ L = 10 ∨ L = 11 ∨ L = 12 ∨ L = 13 ∨ L = 14 ∨ L = 15 by omega) with h | h | h | h | h | h | h | h | h | h | h | h | h | h | h | h
  · subst h
    obtain ⟨pl1, he1, e, q⟩ := rs_tk0 hU m t s g c pl he gI gF
    exact ⟨_, _, _, _, _, pl1, he1, e, rfl, rfl, rfl, rfl, rfl, q⟩
  · subst h
    obtain ⟨pl1, he1, e, q⟩ := rs_tk1 hU m t s g c pl he gI gF
    exact ⟨_, _, _, _, _, pl1, he1, e, rfl, rfl, rfl, rfl, rfl, q⟩
  · subst h
    obtain ⟨pl1, he1, e, q⟩ := rs_tk2 hU m t s g c pl he gI gF
    exact ⟨_, _, _, _, _, pl1, he1, e, rfl, rfl, rfl, rfl, rfl, q⟩
  · subst h
    obtain ⟨pl1, he1, e, q⟩ := rs_tk3 hU m t s g c pl he gI gF
    exact ⟨_, _, _, _, _, pl1, he1, e, rfl, rfl, rfl, rfl, rfl, q⟩
  · subst h
    obtain ⟨pl1, he1, e, q⟩ := rs_tk4 hU m t s g c pl he gI gF
    exact ⟨_, _, _, _, _, pl1, he1, e, rfl, rfl, rfl, rfl, rfl, q⟩
  · subst h
    obtain ⟨pl1, he1, e, q⟩ := rs_tk5 hU m t s g c pl he gI gF
    exact ⟨_, _, _, _, _, pl1, he1, e, rfl, rfl, rfl, rfl, rfl, q⟩
  · subst h
    obtain ⟨pl1, he1, e, q⟩ := rs_tk6 hU m t s g c pl he gI gF
    exact ⟨_, _, _, _, _, pl1, he1, e, rfl, rfl, rfl, rfl, rfl, q⟩
  · subst h
    obtain ⟨pl1, he1, e, q⟩ := rs_tk7 hU m t s g c pl he gI gF
    exact ⟨_, _, _, _, _, pl1, he1, e, rfl, rfl, rfl, rfl, rfl, q⟩
  · subst h
    obtain ⟨pl1, he1, e, q⟩ := rs_tk8 hU m t s g c pl he gI gF
    exact ⟨_, _, _, _, _, pl1, he1, e, rfl, rfl, rfl, rfl, rfl, q⟩
  · subst h
    obtain ⟨pl1, he1, e, q⟩ := rs_tk9 hU m t s g c pl he gI gF
    exact ⟨_, _, _, _, _, pl1, he1, e, rfl, rfl, rfl, rfl, rfl, q⟩
  · subst h
    obtain ⟨pl1, he1, e, q⟩ := rs_tk10 hU m t s g c pl he gI gF
    exact ⟨_, _, _, _, _, pl1, he1, e, rfl, rfl, rfl, rfl, rfl, q⟩
  · subst h
    obtain ⟨pl1, he1, e, q⟩ := rs_tk11 hU m t s g c pl he gI gF
    exact ⟨_, _, _, _, _, pl1, he1, e, rfl, rfl, rfl, rfl, rfl, q⟩
  · subst h
    obtain ⟨pl1, he1, e, q⟩ := rs_tk12 hU m t s g c pl he gI gF
    exact ⟨_, _, _, _, _, pl1, he1, e, rfl, rfl, rfl, rfl, rfl, q⟩
  · subst h
    obtain ⟨pl1, he1, e, q⟩ := rs_tk13 hU m t s g c pl he gI gF
    exact ⟨_, _, _, _, _, pl1, he1, e, rfl, rfl, rfl, rfl, rfl, q⟩
  · subst h
    obtain ⟨pl1, he1, e, q⟩ := rs_tk14 hU m t s g c pl he gI gF
    exact ⟨_, _, _, _, _, pl1, he1, e, rfl, rfl, rfl, rfl, rfl, q⟩
  · subst h
    obtain ⟨pl1, he1, e, q⟩ := rs_tk15 hU m t s g c pl he gI gF
    exact ⟨_, _, _, _, _, pl1, he1, e, rfl, rfl, rfl, rfl, rfl, q⟩
theorem rs_im0 (m t s g c : Int) (pl he : Nat → Int) (gI : Nat → Int) (gF : Nat → Nat → Int) : ∃ pl1 he1, Ff_X1_addImage 0 gI m t s g c pl gF he = (0, 1, fl_nI [m, t, s, g, c, gI 5, gI 6, gI 7, gI 8, gI 9, gI 10, gI 11, gI 12, gI 13, gI 14], fl_nF [pl1, he1, gF 2, gF 3, gF 4, gF 5]) ∧ ∀ k : Nat, k < 9 → pl1 k = pl k ∧ he1 k = he k := by
  obtain ⟨pl1, he1, e, q⟩ := rs_cp m t s g c pl (gF 0) he (gF 1)
  refine ⟨pl1, he1, ?_, q⟩
  unfold Ff_X1_addImage
  rw [if_pos (by decide)]
  rw [if_pos rfl]
  rw [e, fl_c7_eq rfl]
theorem rs_is0 (m t s g c : Int) (pl he : Nat → Int) (gI : Nat → Int) (gF : Nat → Nat → Int) (pl1 he1 : Nat → Int) (hq : ∀ k : Nat, k < 9 → pl1 k = pl k ∧ he1 k = he k) : rs_P (fl_nI [m, t, s, g, c, gI 5, gI 6, gI 7, gI 8, gI 9, gI 10, gI 11, gI 12, gI 13, gI 14]) (fl_nF [pl1, he1, gF 2, gF 3, gF 4, gF 5]) 0 m t s g c pl he ∧ ∀ j : Nat, j < 3 → j ≠ 0 → (∀ x : Nat, x < 5 → (fl_nI [m, t, s, g, c, gI 5, gI 6, gI 7, gI 8, gI 9, gI 10, gI 11, gI 12, gI 13, gI 14]) (5 * j + x) = gI (5 * j + x)) ∧ (fl_nF [pl1, he1, gF 2, gF 3, gF 4, gF 5]) (2 * j) = gF (2 * j) ∧ (fl_nF [pl1, he1, gF 2, gF 3, gF 4, gF 5]) (2 * j + 1) = gF (2 * j + 1) := by
  refine ⟨⟨rfl, rfl, rfl, rfl, rfl, hq⟩, fun j hj hn => ?_⟩
  rcases (show j = 0 ∨ j = 1 ∨ j = 2 by omega) with h | h | h
  · exact absurd h hn
  · subst h
    refine ⟨fun x hx => ?_, rfl, rfl⟩
    rcases (show x = 0 ∨ x = 1 ∨ x = 2 ∨ x = 3 ∨ x = 4 by omega) with h | h | h | h | h <;> (subst h; rfl)
  · subst h
    refine ⟨fun x hx => ?_, rfl, rfl⟩
    rcases (show x = 0 ∨ x = 1 ∨ x = 2 ∨ x = 3 ∨ x = 4 by omega) with h | h | h | h | h <;> (subst h; rfl)
theorem rs_im1 (m t s g c : Int) (pl he : Nat → Int) (gI : Nat → Int) (gF : Nat → Nat → Int) : ∃ pl1 he1, Ff_X1_addImage 1 gI m t s g c pl gF he = (1, 2, fl_nI [gI 0, gI 1, gI 2, gI 3, gI 4, m, t, s, g, c, gI 10, gI 11, gI 12, gI 13, gI 14], fl_nF [gF 0, gF 1, pl1, he1, gF 4, gF 5]) ∧ ∀ k : Nat, k < 9 → pl1 k = pl k ∧ he1 k = he k := by
  obtain ⟨pl1, he1, e, q⟩ := rs_cp m t s g c pl (gF 2) he (gF 3)
  refine ⟨pl1, he1, ?_, q⟩
  unfold Ff_X1_addImage
  rw [if_pos (by decide)]
  rw [if_neg (by decide)]
  rw [if_pos rfl]
  rw [e, fl_c7_eq rfl]
theorem rs_is1 (m t s g c : Int) (pl he : Nat → Int) (gI : Nat → Int) (gF : Nat → Nat → Int) (pl1 he1 : Nat → Int) (hq : ∀ k : Nat, k < 9 → pl1 k = pl k ∧ he1 k = he k) : rs_P (fl_nI [gI 0, gI 1, gI 2, gI 3, gI 4, m, t, s, g, c, gI 10, gI 11, gI 12, gI 13, gI 14]) (fl_nF [gF 0, gF 1, pl1, he1, gF 4, gF 5]) 1 m t s g c pl he ∧ ∀ j : Nat, j < 3 → j ≠ 1 → (∀ x : Nat, x < 5 → (fl_nI [gI 0, gI 1, gI 2, gI 3, gI 4, m, t, s, g, c, gI 10, gI 11, gI 12, gI 13, gI 14]) (5 * j + x) = gI (5 * j + x)) ∧ (fl_nF [gF 0, gF 1, pl1, he1, gF 4, gF 5]) (2 * j) = gF (2 * j) ∧ (fl_nF [gF 0, gF 1, pl1, he1, gF 4, gF 5]) (2 * j + 1) = gF (2 * j + 1) := by
  refine ⟨⟨rfl, rfl, rfl, rfl, rfl, hq⟩, fun j hj hn => ?_⟩
  rcases (show j = 0 ∨ j = 1 ∨ j = 2 by omega) with h | h | h
  · subst h
    refine ⟨fun x hx => ?_, rfl, rfl⟩
    rcases (show x = 0 ∨ x = 1 ∨ x = 2 ∨ x = 3 ∨ x = 4 by omega) with h | h | h | h | h <;> (subst h; rfl)
  · exact absurd h hn
  · subst h
    refine ⟨fun x hx => ?_, rfl, rfl⟩
    rcases (show x = 0 ∨ x = 1 ∨ x = 2 ∨ x = 3 ∨ x = 4 by omega) with h | h | h | h | h <;> (subst h; rfl)
theorem rs_im2 (m t s g c : Int) (pl he : Nat → Int) (gI : Nat → Int) (gF : Nat → Nat → Int) : ∃ pl1 he1, Ff_X1_addImage 2 gI m t s g c pl gF he = (2, 3, fl_nI [gI 0, gI 1, gI 2, gI 3, gI 4, gI 5, gI 6, gI 7, gI 8, gI 9, m, t, s, g, c], fl_nF [gF 0, gF 1, gF 2, gF 3, pl1, he1]) ∧ ∀ k : Nat, k < 9 → pl1 k = pl k ∧ he1 k = he k := by
  obtain ⟨pl1, he1, e, q⟩ := rs_cp m t s g c pl (gF 4) he (gF 5)
  refine ⟨pl1, he1, ?_, q⟩
  unfold Ff_X1_addImage
  rw [if_pos (by decide)]
  rw [if_neg (by decide)]
  rw [if_neg (by decide)]
  rw [e, fl_c7_eq rfl]
theorem rs_is2 (m t s g c : Int) (pl he : Nat → Int) (gI : Nat → Int) (gF : Nat → Nat → Int) (pl1 he1 : Nat → Int) (hq : ∀ k : Nat, k < 9 → pl1 k = pl k ∧ he1 k = he k) : rs_P (fl_nI [gI 0, gI 1, gI 2, gI 3, gI 4, gI 5, gI 6, gI 7, gI 8, gI 9, m, t, s, g, c]) (fl_nF [gF 0, gF 1, gF 2, gF 3, pl1, he1]) 2 m t s g c pl he ∧ ∀ j : Nat, j < 3 → j ≠ 2 → (∀ x : Nat, x < 5 → (fl_nI [gI 0, gI 1, gI 2, gI 3, gI 4, gI 5, gI 6, gI 7, gI 8, gI 9, m, t, s, g, c]) (5 * j + x) = gI (5 * j + x)) ∧ (fl_nF [gF 0, gF 1, gF 2, gF 3, pl1, he1]) (2 * j) = gF (2 * j) ∧ (fl_nF [gF 0, gF 1, gF 2, gF 3, pl1, he1]) (2 * j + 1) = gF (2 * j + 1) := by
  refine ⟨⟨rfl, rfl, rfl, rfl, rfl, hq⟩, fun j hj hn => ?_⟩
  rcases (show j = 0 ∨ j = 1 ∨ j = 2 by omega) with h | h | h
  · subst h
    refine ⟨fun x hx => ?_, rfl, rfl⟩
    rcases (show x = 0 ∨ x = 1 ∨ x = 2 ∨ x = 3 ∨ x = 4 by omega) with h | h | h | h | h <;> (subst h; rfl)
  · subst h
    refine ⟨fun x hx => ?_, rfl, rfl⟩
    rcases (show x = 0 ∨ x = 1 ∨ x = 2 ∨ x = 3 ∨ x = 4 by omega) with h | h | h | h | h <;> (subst h; rfl)
  · exact absurd h hn
/-- an image more: here -/
theorem rs_im {N : Int} (h0 : 0 ≤ N) (h1 : N ≤ 2) (m t s g c : Int) (pl he : Nat → Int) (gI : Nat → Int) (gF : Nat → Nat → Int) : ∃ gI1 gF1, Ff_X1_addImage N gI m t s g c pl gF he = (N, N + 1, gI1, gF1) ∧ rs_P gI1 gF1 N.toNat m t s g c pl he ∧ ∀ j : Nat, j < 3 → j ≠ N.toNat → (∀ x : Nat, x < 5 → gI1 (5 * j + x) = gI (5 * j + x)) ∧ gF1 (2 * j) = gF (2 * j) ∧ gF1 (2 * j + 1) = gF (2 * j + 1) := by
  rcases (show N = 0 ∨ N = 1 ∨ N = 2 by omega) with h | h | h
  · subst h
    obtain ⟨pl1, he1, e, q⟩ := rs_im0 m t s g c pl he gI gF
    exact ⟨_, _, e, rs_is0 m t s g c pl he gI gF pl1 he1 q⟩
  · subst h
    obtain ⟨pl1, he1, e, q⟩ := rs_im1 m t s g c pl he gI gF
    exact ⟨_, _, e, rs_is1 m t s g c pl he gI gF pl1 he1 q⟩
  · subst h
    obtain ⟨pl1, he1, e, q⟩ := rs_im2 m t s g c pl he gI gF
    exact ⟨_, _, e, rs_is2 m t s g c pl he gI gF pl1 he1 q⟩
theorem rs_bk0 {N : Int} (hN : 0 < N) (U m t s g c : Int) (pl he : Nat → Int) (gI : Nat → Int) (gF : Nat → Nat → Int) : ∃ pl1 he1, Ff_X1_goBack 0 U N m t s g c gI gF pl he = (1, 0, gI 0, gI 1, gI 2, gI 3, gI 4, pl1, he1) ∧ ∀ k : Nat, k < 9 → gF 0 k = pl1 k ∧ gF 1 k = he1 k := by
  obtain ⟨pl1, he1, e, q⟩ := rs_cp (gI 0) (gI 1) (gI 2) (gI 3) (gI 4) (gF 0) pl (gF 1) he
  refine ⟨pl1, he1, ?_, fun k hk => ⟨(q k hk).1.symm, (q k hk).2.symm⟩⟩
  unfold Ff_X1_goBack
  rw [fl_lt_eq rfl, fl_lt_eq ((rp_in 0 0 (N - 1)).trans (rp_in1 (by omega) (by omega))).symm, if_pos rfl]
  rw [if_pos rfl]
  rw [e, fl_c7_eq rfl]
theorem rs_bk1 {N : Int} (hN : 1 < N) (U m t s g c : Int) (pl he : Nat → Int) (gI : Nat → Int) (gF : Nat → Nat → Int) : ∃ pl1 he1, Ff_X1_goBack 1 U N m t s g c gI gF pl he = (1, 0, gI 5, gI 6, gI 7, gI 8, gI 9, pl1, he1) ∧ ∀ k : Nat, k < 9 → gF 2 k = pl1 k ∧ gF 3 k = he1 k := by
  obtain ⟨pl1, he1, e, q⟩ := rs_cp (gI 5) (gI 6) (gI 7) (gI 8) (gI 9) (gF 2) pl (gF 3) he
  refine ⟨pl1, he1, ?_, fun k hk => ⟨(q k hk).1.symm, (q k hk).2.symm⟩⟩
  unfold Ff_X1_goBack
  rw [fl_lt_eq rfl, fl_lt_eq ((rp_in 1 0 (N - 1)).trans (rp_in1 (by omega) (by omega))).symm, if_pos rfl]
  rw [if_neg (by decide)]
  rw [if_pos rfl]
  rw [e, fl_c7_eq rfl]
theorem rs_bk2 {N : Int} (hN : 2 < N) (U m t s g c : Int) (pl he : Nat → Int) (gI : Nat → Int) (gF : Nat → Nat → Int) : ∃ pl1 he1, Ff_X1_goBack 2 U N m t s g c gI gF pl he = (1, 0, gI 10, gI 11, gI 12, gI 13, gI 14, pl1, he1) ∧ ∀ k : Nat, k < 9 → gF 4 k = pl1 k ∧ gF 5 k = he1 k := by
  obtain ⟨pl1, he1, e, q⟩ := rs_cp (gI 10) (gI 11) (gI 12) (gI 13) (gI 14) (gF 4) pl (gF 5) he
  refine ⟨pl1, he1, ?_, fun k hk => ⟨(q k hk).1.symm, (q k hk).2.symm⟩⟩
  unfold Ff_X1_goBack
  rw [fl_lt_eq rfl, fl_lt_eq ((rp_in 2 0 (N - 1)).trans (rp_in1 (by omega) (by omega))).symm, if_pos rfl]
  rw [if_neg (by decide)]
  rw [if_neg (by decide)]
  rw [e, fl_c7_eq rfl]
/-- back to an image: here -/
theorem rs_bk {N a : Int} (h0 : 0 ≤ a) (h1 : a < N) (h2 : N ≤ 3) (U m t s g c : Int) (pl he : Nat → Int) (gI : Nat → Int) (gF : Nat → Nat → Int) : ∃ m1 t1 s1 g1 c1 pl1 he1, Ff_X1_goBack a U N m t s g c gI gF pl he = (1, 0, m1, t1, s1, g1, c1, pl1, he1) ∧ rs_P gI gF a.toNat m1 t1 s1 g1 c1 pl1 he1 := by
  rcases (show a = 0 ∨ a = 1 ∨ a = 2 by omega) with h | h | h
  · subst h
    obtain ⟨pl1, he1, e, q⟩ := rs_bk0 h1 U m t s g c pl he gI gF
    exact ⟨_, _, _, _, _, pl1, he1, e, rfl, rfl, rfl, rfl, rfl, q⟩
  · subst h
    obtain ⟨pl1, he1, e, q⟩ := rs_bk1 h1 U m t s g c pl he gI gF
    exact ⟨_, _, _, _, _, pl1, he1, e, rfl, rfl, rfl, rfl, rfl, q⟩
  · subst h
    obtain ⟨pl1, he1, e, q⟩ := rs_bk2 h1 U m t s g c pl he gI gF
    exact ⟨_, _, _, _, _, pl1, he1, e, rfl, rfl, rfl, rfl, rfl, q⟩
end RSD
end P092249603_rs4
section P092249604_rs5
section RSE
theorem rs_S_cg {fg sp mi tu sn go ca : Int} {kd pl he st pl1 he1 st1 : Nat → Int} (hf : fg ≤ 9) (hp : ∀ k : Nat, k < 9 → pl1 k = pl k ∧ he1 k = he k) (hs : ∀ k : Nat, k < 23 → st1 k = st k) (h : rs_S fg sp kd mi tu sn go ca pl he st) : rs_S fg sp kd mi tu sn go ca pl1 he1 st1 := by
  obtain ⟨⟨s1, s2, s3, s4, s5⟩, m0, a2, a3, a4, hk⟩ := h
  refine ⟨⟨?_, ?_, ?_, ?_, ?_⟩, m0, a2, a3, a4, fun k hk' => ?_⟩
  · rw [hs 21 (by decide)]; exact s1
  · rw [hs 19 (by decide)]; exact s2
  · rw [hs 20 (by decide)]; exact s3
  · rw [hs 18 (by decide)]; exact s4
  · rw [hs 22 (by decide)]; exact s5
  · have q := hp k (by omega)
    rw [q.1, q.2, hs k (by omega), hs (9 + k) (by omega)]
    exact hk k hk'
/-- a kept scene in its place, and its row there -/
def rs_L (fg sp : Int) (kd : Nat → Int) (gI : Nat → Int) (gF : Nat → Nat → Int) (j : Nat) (row : Nat → Int) : Prop := rs_S fg sp kd (gI (5 * j)) (gI (5 * j + 1)) (gI (5 * j + 2)) (gI (5 * j + 3)) (gI (5 * j + 4)) (gF (2 * j)) (gF (2 * j + 1)) row ∧ gI (5 * j) ≤ 9999
theorem rs_L_of {fg sp m t s g c : Int} {kd gI pl he row row1 : Nat → Int} {gF : Nat → Nat → Int} {j : Nat} (hf : fg ≤ 9) (hP : rs_P gI gF j m t s g c pl he) (hS : rs_S fg sp kd m t s g c pl he row) (hm : m ≤ 9999) (hr : ∀ k : Nat, k < 23 → row1 k = row k) : rs_L fg sp kd gI gF j row1 := by
  obtain ⟨p1, p2, p3, p4, p5, p6⟩ := hP
  unfold rs_L
  rw [p1, p2, p3, p4, p5]
  exact ⟨rs_S_cg hf p6 hr hS, hm⟩
theorem rs_L_to {fg sp m t s g c : Int} {kd gI pl he row row1 : Nat → Int} {gF : Nat → Nat → Int} {j : Nat} (hf : fg ≤ 9) (hP : rs_P gI gF j m t s g c pl he) (h : rs_L fg sp kd gI gF j row) (hr : ∀ k : Nat, k < 23 → row1 k = row k) : rs_S fg sp kd m t s g c pl he row1 ∧ m ≤ 9999 := by
  obtain ⟨p1, p2, p3, p4, p5, p6⟩ := hP
  unfold rs_L at h
  rw [p1, p2, p3, p4, p5] at h
  exact ⟨rs_S_cg hf (fun k hk => ⟨(p6 k hk).1.symm, (p6 k hk).2.symm⟩) hr h.1, h.2⟩
theorem rs_L_same {fg sp : Int} {kd gI gI1 row row1 : Nat → Int} {gF gF1 : Nat → Nat → Int} {j : Nat} (hf : fg ≤ 9) (hI : ∀ x : Nat, x < 5 → gI1 (5 * j + x) = gI (5 * j + x)) (h1 : gF1 (2 * j) = gF (2 * j)) (h2 : gF1 (2 * j + 1) = gF (2 * j + 1)) (h : rs_L fg sp kd gI gF j row) (hr : ∀ k : Nat, k < 23 → row1 k = row k) : rs_L fg sp kd gI1 gF1 j row1 := by
  unfold rs_L at h ⊢
  have e0 : gI1 (5 * j) = gI (5 * j) := hI 0 (by decide)
  rw [e0, hI 1 (by decide), hI 2 (by decide), hI 3 (by decide), hI 4 (by decide), h1, h2]
  exact ⟨rs_S_cg hf (fun _ _ => ⟨rfl, rfl⟩) hr h.1, h.2⟩
/-- what can be undone: here and there -/
def rs_H (fg sp : Int) (kd : Nat → Int) (U L : Int) (gI : Nat → Int) (gF : Nat → Nat → Int) (und : Nat → Int) : Prop := (0 ≤ U ∧ U ≤ 16) ∧ (0 ≤ L ∧ L ≤ 15) ∧ ∀ i : Nat, (i : Int) < U → rs_L fg sp kd gI gF ((L.toNat + 16 - i) % 16) (fun k => und (23 * (U.toNat - 1 - i) + k))
/-- images: here and there -/
def rs_I (fg sp : Int) (kd : Nat → Int) (N : Int) (gI : Nat → Int) (gF : Nat → Nat → Int) (kp : Nat → Int) : Prop := (0 ≤ N ∧ N ≤ 3) ∧ ∀ i : Nat, (i : Int) < N → rs_L fg sp kd gI gF i (fun k => kp (23 * i + k))
theorem rs_cpi {f g : Nat → Int} {sp dp k : Nat} (hk : k < 23) : va_cpy f g sp dp 23 (dp + k) = f (sp + k) := by
  unfold va_cpy
  rw [if_pos (by omega), show dp + k - dp = k by omega]
theorem rs_cpo {f g : Nat → Int} {sp dp k : Nat} (hk : ¬ (dp ≤ k ∧ k < dp + 23)) : va_cpy f g sp dp 23 k = g k := by
  unfold va_cpy
  rw [if_neg hk]
/-- the oldest gives way: there -/
theorem rs_sh2 {U : Int} {st und : Nat → Int} : ∀ (m : Nat) (j : Nat) (u : Nat → Int), 346 ≤ m + j → j ≤ 345 → (∀ k : Nat, k < j → u k = und (k + 23)) → (∀ k : Nat, j ≤ k → u k = und k) →
    ∃ u1, fl_wh (fun t9 : Int × (Nat → Int) => Sf_X8_note_11_1 U st t9.1 t9.2) (0, (fun _ => 0)) m ((j : Int), u) = (U - 1 + 1, va_cpy st u1 0 (23 * (U - 1)).toNat 23) ∧ ∀ k : Nat, k < 345 → u1 k = und (k + 23) := by
  intro m
  induction m with
  | zero => intro j u h1 h2; omega
  | succ m ih =>
    intro j u h1 h2 h3 h4
    by_cases hj : 345 ≤ j
    · refine ⟨u, fl_wh_r (step := fun t9 : Int × (Nat → Int) => Sf_X8_note_11_1 U st t9.1 t9.2) (s := ((j : Int), u)) ?_, fun k hk => h3 k (by omega)⟩
      show Sf_X8_note_11_1 U st (j : Int) u = _
      unfold Sf_X8_note_11_1
      rw [if_pos (by omega)]
      rfl
    · have st1 : Sf_X8_note_11_1 U st (j : Int) u = .inl (((j + 1 : Nat) : Int), fl_up u j (und (j + 23))) := by
        unfold Sf_X8_note_11_1
        rw [if_neg (by omega), fl_lt_eq rfl, fl_lt_eq rfl, fl_lt_eq rfl, fl_lt_eq rfl, show ((j : Int) + 23).toNat = j + 23 by omega, h4 (j + 23) (by omega), Int.toNat_natCast]
        rfl
      obtain ⟨u1, e1, e2⟩ := ih (j + 1) (fl_up u j (und (j + 23))) (by omega) (by omega) (fun k hk => by
        by_cases q : k = j
        · rw [q, rp_up_eq]
        · rw [rp_up_ne _ _ q]; exact h3 k (by omega)) (fun k hk => by rw [rp_up_ne _ _ (by omega)]; exact h4 k (by omega))
      exact ⟨u1, (fl_wh_l (step := fun t9 : Int × (Nat → Int) => Sf_X8_note_11_1 U st t9.1 t9.2) (s := ((j : Int), u)) st1).trans e1, e2⟩
theorem rs_nt {U : Int} (h0 : 0 ≤ U) (h1 : U ≤ 16) (st und : Nat → Int) : ∃ und1, Ff_X8_note U st und = (fl_min (U + 1) 16, und1) ∧ (∀ k : Nat, k < 23 → und1 (23 * ((fl_min (U + 1) 16).toNat - 1) + k) = st k) ∧ ∀ i : Nat, 1 ≤ i → (i : Int) < fl_min (U + 1) 16 → ∀ k : Nat, k < 23 → und1 (23 * ((fl_min (U + 1) 16).toNat - 1 - i) + k) = und (23 * (U.toNat - 1 - (i - 1)) + k) := by
  by_cases hU : U = 16
  · subst hU
    have em : fl_min (16 + 1) 16 = 16 := by decide
    rw [em]
    obtain ⟨u1, e1, e2⟩ := rs_sh2 (U := 16) (st := st) (und := und) 346 0 und (by omega) (by omega) (fun k hk => by omega) (fun k hk => rfl)
    refine ⟨va_cpy st u1 0 (23 * ((16 : Int) - 1)).toNat 23, ?_, ?_, ?_⟩
    · unfold Ff_X8_note
      rw [if_pos rfl]
      exact e1
    · intro k hk
      have := rs_cpi (f := st) (g := u1) (sp := 0) (dp := 345) hk
      rw [Nat.zero_add] at this
      exact this
    · intro i i1 i2 k hk
      have q : 23 * ((16 : Int).toNat - 1 - i) + k = 23 * (15 - i) + k := rfl
      rw [q]
      have c : va_cpy st u1 0 (23 * ((16 : Int) - 1)).toNat 23 (23 * (15 - i) + k) = u1 (23 * (15 - i) + k) := rs_cpo (f := st) (g := u1) (sp := 0) (dp := 345) (by omega)
      rw [c, e2 _ (by omega)]
      have z : 23 * (15 - i) + k + 23 = 23 * ((16 : Int).toNat - 1 - (i - 1)) + k := by
        show 23 * (15 - i) + k + 23 = 23 * (15 - (i - 1)) + k
        omega
      rw [z]
  · have em : fl_min (U + 1) 16 = U + 1 := by unfold fl_min; rw [if_neg (by omega)]
    rw [em]
    refine ⟨va_cpy st und 0 (23 * U).toNat 23, ?_, ?_, ?_⟩
    · unfold Ff_X8_note
      rw [if_neg hU]
      rfl
    · intro k hk
      have := rs_cpi (f := st) (g := und) (sp := 0) (dp := (23 * U).toNat) hk
      rw [Nat.zero_add] at this
      rw [show 23 * ((U + 1).toNat - 1) + k = (23 * U).toNat + k by omega]
      exact this
    · intro i i1 i2 k hk
      rw [rs_cpo (by omega), show 23 * ((U + 1).toNat - 1 - i) + k = 23 * (U.toNat - 1 - (i - 1)) + k by omega]
/-- an act comes: how it is now is kept, here and there -/
theorem rs_H_keep {fg sp m t s g c U L : Int} {kd pl he st und gI : Nat → Int} {gF : Nat → Nat → Int} (hf : fg ≤ 9) (hH : rs_H fg sp kd U L gI gF und) (hS : rs_S fg sp kd m t s g c pl he st) (hm : m ≤ 9999) :
    ∃ U1 L1 gI1 gF1 und1, Ff_X1_keep U L gI m t s g c pl gF he = (U1, L1, gI1, gF1) ∧ Ff_X8_note U st und = (U1, und1) ∧ rs_H fg sp kd U1 L1 gI1 gF1 und1 := by
  obtain ⟨⟨u0, u1⟩, ⟨l0, l1⟩, hk⟩ := hH
  obtain ⟨gI1, gF1, e1, e2, e3⟩ := rs_kp l0 l1 U m t s g c pl he gI gF
  obtain ⟨und1, d1, d2, d3⟩ := rs_nt u0 u1 st und
  have mU : 1 ≤ fl_min (U + 1) 16 ∧ fl_min (U + 1) 16 ≤ 16 ∧ fl_min (U + 1) 16 ≤ U + 1 := by
    unfold fl_min
    split <;> omega
  refine ⟨_, _, gI1, gF1, und1, e1, d1, ⟨by omega, mU.2.1⟩, ⟨by omega, by omega⟩, fun i hi => ?_⟩
  by_cases i0 : i = 0
  · subst i0
    have eL : (((L + 1) % 16).toNat + 16 - 0) % 16 = ((L + 1) % 16).toNat := by omega
    rw [eL]
    exact rs_L_of hf e2 hS hm (fun k hk' => d2 k hk')
  · have hi1 : ((i - 1 : Nat) : Int) < U := by omega
    have eL : (((L + 1) % 16).toNat + 16 - i) % 16 = (L.toNat + 16 - (i - 1)) % 16 := by omega
    have hne : (L.toNat + 16 - (i - 1)) % 16 ≠ ((L + 1) % 16).toNat := by omega
    rw [eL]
    obtain ⟨q1, q2, q3⟩ := e3 _ (by omega) hne
    exact rs_L_same hf q1 q2 q3 (hk (i - 1) hi1) (fun k hk' => d3 i (by omega) hi k hk')
/-- one is undone, here and there -/
theorem rs_H_undo {fg sp U L : Int} {kd und gI st : Nat → Int} {gF : Nat → Nat → Int} (hf : fg ≤ 9) (hH : rs_H fg sp kd U L gI gF und) (hU : ¬ U = 0) (m t s g c : Int) (pl he : Nat → Int) :
    ∃ m1 t1 s1 g1 c1 pl1 he1, Ff_X1_takeLatest U L m t s g c gI gF pl he = (1, U - 1, (L + 15) % 16, m1, t1, s1, g1, c1, pl1, he1) ∧ rs_S fg sp kd m1 t1 s1 g1 c1 pl1 he1 (va_cpy und st (23 * (U - 1)).toNat 0 23) ∧ m1 ≤ 9999 ∧ rs_H fg sp kd (U - 1) ((L + 15) % 16) gI gF und := by
  obtain ⟨⟨u0, u1⟩, ⟨l0, l1⟩, hk⟩ := hH
  obtain ⟨m1, t1, s1, g1, c1, pl1, he1, e1, e2⟩ := rs_tk hU l0 l1 m t s g c pl he gI gF
  have h0 := hk 0 (by omega)
  have eL : (L.toNat + 16 - 0) % 16 = L.toNat := by omega
  rw [eL] at h0
  obtain ⟨q1, q2⟩ := rs_L_to (row1 := va_cpy und st (23 * (U - 1)).toNat 0 23) hf e2 h0 (fun k hk' => by
    have := rs_cpi (f := und) (g := st) (sp := (23 * (U - 1)).toNat) (dp := 0) hk'
    rw [Nat.zero_add] at this
    rw [this]
    show und ((23 * (U - 1)).toNat + k) = und (23 * (U.toNat - 1 - 0) + k)
    rw [show (23 * (U - 1)).toNat + k = 23 * (U.toNat - 1 - 0) + k by omega])
  refine ⟨m1, t1, s1, g1, c1, pl1, he1, e1, q1, q2, ⟨by omega, by omega⟩, ⟨by omega, by omega⟩, fun i hi => ?_⟩
  have := hk (i + 1) (by omega)
  rw [show (L.toNat + 16 - (i + 1)) % 16 = (((L + 15) % 16).toNat + 16 - i) % 16 by omega, show U.toNat - 1 - (i + 1) = (U - 1).toNat - 1 - i by omega] at this
  exact this
/-- an image more, here and there -/
theorem rs_I_add {fg sp m t s g c N : Int} {kd pl he st kp gI : Nat → Int} {gF : Nat → Nat → Int} (hf : fg ≤ 9) (hI : rs_I fg sp kd N gI gF kp) (hN : N ≤ 2) (hS : rs_S fg sp kd m t s g c pl he st) (hm : m ≤ 9999) :
    ∃ gI1 gF1, Ff_X1_addImage N gI m t s g c pl gF he = (N, N + 1, gI1, gF1) ∧ rs_I fg sp kd (N + 1) gI1 gF1 (va_cpy st kp 0 (23 * N).toNat 23) := by
  obtain ⟨⟨n0, n1⟩, hk⟩ := hI
  obtain ⟨gI1, gF1, e1, e2, e3⟩ := rs_im n0 hN m t s g c pl he gI gF
  refine ⟨gI1, gF1, e1, ⟨by omega, by omega⟩, fun i hi => ?_⟩
  by_cases q : i = N.toNat
  · rw [← q] at e2
    refine rs_L_of hf e2 hS hm (fun k hk' => ?_)
    have := rs_cpi (f := st) (g := kp) (sp := 0) (dp := (23 * N).toNat) hk'
    rw [Nat.zero_add] at this
    show va_cpy st kp 0 (23 * N).toNat 23 (23 * i + k) = st k
    rw [show 23 * i + k = (23 * N).toNat + k by omega]
    exact this
  · obtain ⟨q1, q2, q3⟩ := e3 i (by omega) q
    exact rs_L_same hf q1 q2 q3 (hk i (by omega)) (fun k hk' => rs_cpo (by omega))
/-- back to an image, here and there -/
theorem rs_I_back {fg sp N a : Int} {kd kp gI st : Nat → Int} {gF : Nat → Nat → Int} (hf : fg ≤ 9) (hI : rs_I fg sp kd N gI gF kp) (h0 : 0 ≤ a) (h1 : a < N) (U m t s g c : Int) (pl he : Nat → Int) :
    ∃ m1 t1 s1 g1 c1 pl1 he1, Ff_X1_goBack a U N m t s g c gI gF pl he = (1, 0, m1, t1, s1, g1, c1, pl1, he1) ∧ rs_S fg sp kd m1 t1 s1 g1 c1 pl1 he1 (va_cpy kp st (23 * a).toNat 0 23) ∧ m1 ≤ 9999 := by
  obtain ⟨⟨n0, n1⟩, hk⟩ := hI
  obtain ⟨m1, t1, s1, g1, c1, pl1, he1, e1, e2⟩ := rs_bk h0 h1 n1 U m t s g c pl he gI gF
  obtain ⟨q1, q2⟩ := rs_L_to (row1 := va_cpy kp st (23 * a).toNat 0 23) hf e2 (hk a.toNat (by omega)) (fun k hk' => by
    have := rs_cpi (f := kp) (g := st) (sp := (23 * a).toNat) (dp := 0) hk'
    rw [Nat.zero_add] at this
    rw [this]
    show kp ((23 * a).toNat + k) = kp (23 * a.toNat + k)
    rw [show (23 * a).toNat + k = 23 * a.toNat + k by omega])
  exact ⟨m1, t1, s1, g1, c1, pl1, he1, e1, q1, q2⟩
end RSE
end P092249604_rs5
section P092249605_rs6
section RSF
theorem rs_tn (a lo hi fg : Int) : Ff_X7_troubleOfNumber a lo hi fg = if fg ≤ 0 then 1 else if lo ≤ a ∧ a ≤ hi then 0 else 2 := by
  unfold Ff_X7_troubleOfNumber Ff_X7_hasGallery
  by_cases h1 : fg ≤ 0
  · rw [if_pos h1, if_pos h1]; rfl
  · rw [if_neg h1, if_neg h1, fl_lt_eq rfl, if_pos rfl, rp_in]
    by_cases h2 : lo ≤ a ∧ a ≤ hi
    · rw [if_pos h2, rp_in1 h2.1 h2.2]; rfl
    · rw [if_neg h2, rp_in0 h2]; rfl
theorem rs_isf (a fg : Int) : Ff_X7_isFigure a fg = if 0 ≤ a ∧ a ≤ fg - 1 then 1 else 0 := by
  unfold Ff_X7_isFigure
  rw [fl_lt_eq rfl, rp_in]
  by_cases h2 : 0 ≤ a ∧ a ≤ fg - 1
  · rw [if_pos h2, rp_in1 h2.1 h2.2]; rfl
  · rw [if_neg h2, rp_in0 h2]; rfl
theorem rs_isfm (a : Int) (r : Nat → Int) : Ff_X8_isFigure a 1 r = if 0 ≤ a ∧ a ≤ r 0 - 1 then 1 else 0 := by
  unfold Ff_X8_isFigure
  rw [if_neg (by decide), fl_lt_eq rfl, fl_lt_eq rfl]
  by_cases h2 : 0 ≤ a ∧ a ≤ r 0 - 1
  · rw [if_pos h2, rp_in1 h2.1 h2.2]; rfl
  · rw [if_neg h2, rp_in0 h2]; rfl
/-- the watchers as told: there -/
theorem rs_wt {r : Nat → Int} (h0 : 0 ≤ r 5) (h3 : r 5 ≤ 3) : ∀ (m : Nat) (j : Nat) (f t : Nat → Int), r 5 + 1 - (j : Int) ≤ (m : Int) → (j : Int) ≤ r 5 → (∀ w : Nat, w < j → f w = r (30 + 2 * w) ∧ t w = r (31 + 2 * w)) →
    ∃ f1 t1, fl_wh (fun t9 : Int × (Nat → Int) × (Nat → Int) => Sf_X8_watchAsTold_2_1 r t9.1 t9.2.1 t9.2.2) (0, (fun _ => 0), (fun _ => 0)) m ((j : Int), f, t) = (0, f1, t1) ∧ ∀ w : Nat, (w : Int) < r 5 → f1 w = r (30 + 2 * w) ∧ t1 w = r (31 + 2 * w) := by
  intro m
  induction m with
  | zero => intro j f t h1 h2; omega
  | succ m ih =>
    intro j f t h1 h2 hw
    by_cases hj : r 5 ≤ (j : Int)
    · refine ⟨f, t, fl_wh_r (step := fun t9 : Int × (Nat → Int) × (Nat → Int) => Sf_X8_watchAsTold_2_1 r t9.1 t9.2.1 t9.2.2) (s := ((j : Int), f, t)) ?_, fun w hw' => hw w (by omega)⟩
      show Sf_X8_watchAsTold_2_1 r (j : Int) f t = _
      unfold Sf_X8_watchAsTold_2_1
      rw [fl_lt_eq rfl, if_pos hj]
    · have st1 : Sf_X8_watchAsTold_2_1 r (j : Int) f t = .inl (((j + 1 : Nat) : Int), fl_up f j (r (30 + 2 * j)), fl_up t j (r (31 + 2 * j))) := by
        unfold Sf_X8_watchAsTold_2_1
        rw [fl_lt_eq rfl, if_neg hj]
        simp only [fl_lt]
        rw [Int.toNat_natCast, show (30 + 2 * (j : Int)).toNat = 30 + 2 * j by omega, show (30 + 2 * (j : Int) + 1).toNat = 31 + 2 * j by omega]
        rfl
      obtain ⟨f1, t1, e1, e2⟩ := ih (j + 1) (fl_up f j (r (30 + 2 * j))) (fl_up t j (r (31 + 2 * j))) (by omega) (by omega) (fun w hw' => by
        by_cases q : w = j
        · rw [q, rp_up_eq, rp_up_eq]; exact ⟨rfl, rfl⟩
        · rw [rp_up_ne _ _ q, rp_up_ne _ _ q]; exact hw w (by omega))
      exact ⟨f1, t1, (fl_wh_l (step := fun t9 : Int × (Nat → Int) × (Nat → Int) => Sf_X8_watchAsTold_2_1 r t9.1 t9.2.1 t9.2.2) (s := ((j : Int), f, t)) st1).trans e1, e2⟩
/-- the watchers told, here and there -/
def rs_D (wc po : Int) (wf wt r : Nat → Int) : Prop := wc = r 5 ∧ 0 ≤ wc ∧ wc ≤ 3 ∧ po = 0 ∧ ∀ w : Nat, (w : Int) < wc → wf w = r (30 + 2 * w) ∧ wt w = r (31 + 2 * w) ∧ (0 ≤ r (30 + 2 * w) ∧ r (30 + 2 * w) ≤ 8) ∧ (0 ≤ r (31 + 2 * w) ∧ r (31 + 2 * w) ≤ 8)
theorem rs_told {wc po : Int} {wf wt r : Nat → Int} (h : rs_D wc po wf wt r) (f0 t0 : Nat → Int) : ∃ f1 t1, Ff_X8_watchAsTold r f0 t0 = (0, f1, t1) ∧ rs_W wc po wf wt 0 r f1 t1 := by
  obtain ⟨h1, h2, h3, h4, h5⟩ := h
  obtain ⟨f1, t1, e1, e2⟩ := rs_wt (r := r) (by omega) (by omega) 4 0 f0 t0 (by omega) (by omega) (fun w hw => by omega)
  refine ⟨f1, t1, e1, h1, h2, h3, h4, by omega, by omega, fun w hw => ?_⟩
  obtain ⟨q1, q2, q3, q4⟩ := h5 w hw
  obtain ⟨p1, p2⟩ := e2 w (by omega)
  rw [p1, p2]
  exact ⟨q1, q2, q3, q4⟩
/-- minutes of go: here and there -/
theorem rs_gol {n fg sp sa ti pu g0 wc po U1 L1 v0 v11 sd : Int} {kd me wf wt r f1 t1 gI1 und1 : Nat → Int} {gF1 : Nat → Nat → Int} (hG : rs_G fg sp sa ti pu kd me r) (hW : rs_W wc po wf wt sd r f1 t1) :
    ∀ (d : Nat) (m1 m2 : Nat) (j mi tu sn go ca y1 y2 y3 : Int) (pl he st : Nat → Int), n - j = (d : Int) → d + 1 ≤ m1 → d + 1 ≤ m2 → rs_S fg sp kd mi tu sn go ca pl he st → mi + (d : Int) ≤ 9999 →
    ∃ mi1 tu1 sn1 go1 ca1 z1 z2 z3 pl1 he1 st1, fl_wh (fun t9 : Int × Int × Int × Int × Int × Int × (Nat → Int) × (Nat → Int) => Sf_X7_go_62_1 n fg sp sa ti pu g0 kd me wc po wt wf U1 L1 gI1 gF1 t9.1 t9.2.1 t9.2.2.1 t9.2.2.2.1 t9.2.2.2.2.1 t9.2.2.2.2.2.1 t9.2.2.2.2.2.2.1 t9.2.2.2.2.2.2.2) (0, 0, 0, 0, 0, 0, 0, 0, 0, (fun _ => 0), (fun _ => 0), (fun _ _ => 0), (fun _ => 0)) m1 (j, mi, tu, sn, go, ca, pl, he) = (fl_and go1 (fl_xor g0 (-1)), 0, mi1, tu1, sn1, go1, ca1, U1, L1, gI1, pl1, gF1, he1) ∧
      fl_wh (fun t9 : Int × Int × Int × Int × (Nat → Int) => Sf_X8_go_70_1 n r v0 v11 U1 und1 sd f1 t1 g0 t9.1 t9.2.1 t9.2.2.1 t9.2.2.2.1 t9.2.2.2.2) (0, 0, 0, 0, 0, 0, 0, 0, (fun _ => 0), (fun _ => 0), (fun _ => 0), (fun _ => 0)) m2 (j, y1, y2, y3, st) = (fl_and go1 (fl_xor g0 (-1)), v0, v11, U1, sd, z1, z2, z3, st1, und1, f1, t1) ∧ rs_S fg sp kd mi1 tu1 sn1 go1 ca1 pl1 he1 st1 ∧ mi1 ≤ 9999 := by
  intro d
  induction d with
  | zero =>
    intro m1 m2 j mi tu sn go ca y1 y2 y3 pl he st hd h1 h2 hS hm
    obtain ⟨m1, rfl⟩ : ∃ q, m1 = q + 1 := ⟨m1 - 1, by omega⟩
    obtain ⟨m2, rfl⟩ : ∃ q, m2 = q + 1 := ⟨m2 - 1, by omega⟩
    obtain ⟨⟨s1, s2, s3, s4, s5⟩, -⟩ := id hS
    refine ⟨mi, tu, sn, go, ca, y1, y2, y3, pl, he, st, fl_wh_r (step := fun t9 : Int × Int × Int × Int × Int × Int × (Nat → Int) × (Nat → Int) => Sf_X7_go_62_1 n fg sp sa ti pu g0 kd me wc po wt wf U1 L1 gI1 gF1 t9.1 t9.2.1 t9.2.2.1 t9.2.2.2.1 t9.2.2.2.2.1 t9.2.2.2.2.2.1 t9.2.2.2.2.2.2.1 t9.2.2.2.2.2.2.2) (s := (j, mi, tu, sn, go, ca, pl, he)) ?_, fl_wh_r (step := fun t9 : Int × Int × Int × Int × (Nat → Int) => Sf_X8_go_70_1 n r v0 v11 U1 und1 sd f1 t1 g0 t9.1 t9.2.1 t9.2.2.1 t9.2.2.2.1 t9.2.2.2.2) (s := (j, y1, y2, y3, st)) ?_, hS, by omega⟩
    · show Sf_X7_go_62_1 n fg sp sa ti pu g0 kd me wc po wt wf U1 L1 gI1 gF1 j mi tu sn go ca pl he = _
      unfold Sf_X7_go_62_1
      rw [if_pos (by omega)]
      rfl
    · show Sf_X8_go_70_1 n r v0 v11 U1 und1 sd f1 t1 g0 j y1 y2 y3 st = _
      unfold Sf_X8_go_70_1
      rw [if_pos (by omega), ← s4]
      rfl
  | succ d ih =>
    intro m1 m2 j mi tu sn go ca y1 y2 y3 pl he st hd h1 h2 hS hm
    obtain ⟨m1, rfl⟩ : ∃ q, m1 = q + 1 := ⟨m1 - 1, by omega⟩
    obtain ⟨m2, rfl⟩ : ∃ q, m2 = q + 1 := ⟨m2 - 1, by omega⟩
    obtain ⟨tu1, sn1, go1, ca1, pl1, he1, st1, e1, e2, e3⟩ := rs_pass hG hW hS (by omega)
    obtain ⟨mi2, tu2, sn2, go2, ca2, z1, z2, z3, pl2, he2, st2, q1, q2, q3, q4⟩ := ih m1 m2 (j + 1) (mi + 1) tu1 sn1 go1 ca1 tu _ _ pl1 he1 st1 (by omega) (by omega) (by omega) e3 (by omega)
    refine ⟨mi2, tu2, sn2, go2, ca2, z1, z2, z3, pl2, he2, st2, (fl_wh_l (step := fun t9 : Int × Int × Int × Int × Int × Int × (Nat → Int) × (Nat → Int) => Sf_X7_go_62_1 n fg sp sa ti pu g0 kd me wc po wt wf U1 L1 gI1 gF1 t9.1 t9.2.1 t9.2.2.1 t9.2.2.2.1 t9.2.2.2.2.1 t9.2.2.2.2.2.1 t9.2.2.2.2.2.2.1 t9.2.2.2.2.2.2.2) (s := (j, mi, tu, sn, go, ca, pl, he)) ?_).trans q1, (fl_wh_l (step := fun t9 : Int × Int × Int × Int × (Nat → Int) => Sf_X8_go_70_1 n r v0 v11 U1 und1 sd f1 t1 g0 t9.1 t9.2.1 t9.2.2.1 t9.2.2.2.1 t9.2.2.2.2) (s := (j, y1, y2, y3, st)) ?_).trans q2, q3, q4⟩
    · show Sf_X7_go_62_1 n fg sp sa ti pu g0 kd me wc po wt wf U1 L1 gI1 gF1 j mi tu sn go ca pl he = _
      unfold Sf_X7_go_62_1
      rw [if_neg (by omega), e1, fl_c7_eq rfl]
      rfl
    · show Sf_X8_go_70_1 n r v0 v11 U1 und1 sd f1 t1 g0 j y1 y2 y3 st = _
      unfold Sf_X8_go_70_1
      rw [if_neg (by omega), e2, fl_c4_eq rfl]
      rfl
/-- go: here and there -/
theorem rs_go {fg sp sa ti pu wc po mi tu sn go ca U L : Int} {kd me wf wt r pl he st und gI : Nat → Int} {gF : Nat → Nat → Int} (hG : rs_G fg sp sa ti pu kd me r) (hD : rs_D wc po wf wt r) (hS : rs_S fg sp kd mi tu sn go ca pl he st) (hm : mi ≤ 9999) (hH : rs_H fg sp kd U L gI gF und) (n x5 x6 x7 x8 : Int) (f0 t0 : Nat → Int) :
    ∃ R tr mi1 tu1 sn1 go1 ca1 U1 L1 z5 z6 z7 z8 gI1 pl1 gF1 he1 st1 und1 f1 t1, Ff_X7_go n fg sp sa ti pu mi tu sn go ca U L gI pl gF he kd me wc po wt wf = (R, tr, mi1, tu1, sn1, go1, ca1, U1, L1, gI1, pl1, gF1, he1) ∧ Ff_X8_go n 1 U x5 x6 x7 x8 st und r f0 t0 = (R, 0, tr, U1, z5, z6, z7, z8, st1, und1, f1, t1) ∧ rs_S fg sp kd mi1 tu1 sn1 go1 ca1 pl1 he1 st1 ∧ mi1 ≤ 9999 ∧ rs_H fg sp kd U1 L1 gI1 gF1 und1 := by
  obtain ⟨⟨f1, f2, f3⟩, -⟩ := id hG
  obtain ⟨⟨s1, s2, s3, s4, s5⟩, m0, -⟩ := id hS
  have hg : ¬ fg ≤ 0 := by omega
  by_cases hn : 1 ≤ n ∧ n ≤ 60
  · have et : Ff_X7_troubleOfNumber n 1 60 fg = 0 := by rw [rs_tn, if_neg hg, if_pos hn]
    have ei : Ff_X8_in n 1 60 = 1 := rp_in1 hn.1 hn.2
    have ea : fl_iadd mi n = mi + n := rp_iadd (by omega) (by omega) (by omega) (by omega) (by omega) (by omega)
    by_cases hr : mi + n ≤ 9999
    · obtain ⟨U1, L1, gI1, gF1, und1, k1, k2, k3⟩ := rs_H_keep f3 hH hS hm
      obtain ⟨f1', t1', w1, w2⟩ := rs_told hD f0 t0
      obtain ⟨mi1, tu1, sn1, go1, ca1, z1, z2, z3, pl1, he1, st1, q1, q2, q3, q4⟩ := rs_gol (n := n) (g0 := go) (U1 := U1) (L1 := L1) (v0 := 0) (v11 := 0) (gI1 := gI1) (und1 := und1) (gF1 := gF1) hG w2 n.toNat 61 2147483648 0 mi tu sn go ca x6 x7 x8 pl he st (by omega) (by omega) (by omega) hS (by omega)
      refine ⟨fl_and go1 (fl_xor go (-1)), 0, mi1, tu1, sn1, go1, ca1, U1, L1, 0, z1, z2, z3, gI1, pl1, gF1, he1, st1, und1, f1', t1', ?_, ?_, q3, q4, k3⟩
      · unfold Ff_X7_go
        rw [et, fl_lt_eq rfl, if_pos rfl, ea, fl_lt_eq rfl, if_pos hr, k1, fl_c4_eq rfl]
        exact q1
      · unfold Ff_X8_go Ff_X8_good
        rw [fl_c2_eq rfl, ei, fl_lt_eq rfl, if_pos rfl, show Ff_X8_why 1 1 = 0 from rfl, fl_lt_eq rfl, if_neg (by decide), if_neg (by decide), fl_lt_eq rfl, ← s1, ea, fl_lt_eq rfl, if_pos hr]
        unfold Gf_X8_go_41_1
        rw [if_pos rfl, k2, fl_c2_eq rfl, w1, fl_c3_eq rfl, fl_lt_eq rfl, ← s4]
        exact q2
    · refine ⟨-1, 3, mi, tu, sn, go, ca, U, L, x5, x6, x7, x8, gI, pl, gF, he, st, und, f0, t0, ?_, ?_, hS, hm, hH⟩
      · unfold Ff_X7_go
        rw [et, fl_lt_eq rfl, if_pos rfl, ea, fl_lt_eq rfl, if_neg hr]
        rfl
      · unfold Ff_X8_go Ff_X8_good
        rw [fl_c2_eq rfl, ei, fl_lt_eq rfl, if_pos rfl, show Ff_X8_why 1 1 = 0 from rfl, fl_lt_eq rfl, if_neg (by decide), if_neg (by decide), fl_lt_eq rfl, ← s1, ea, fl_lt_eq rfl, if_neg hr]
        unfold Gf_X8_go_41_1
        rw [if_neg (by decide)]
        rfl
  · have et : Ff_X7_troubleOfNumber n 1 60 fg = 2 := by rw [rs_tn, if_neg hg, if_neg hn]
    have ei : Ff_X8_in n 1 60 = 0 := rp_in0 hn
    refine ⟨-1, 2, mi, tu, sn, go, ca, U, L, x5, x6, x7, x8, gI, pl, gF, he, st, und, f0, t0, ?_, ?_, hS, hm, hH⟩
    · unfold Ff_X7_go
      rw [et, fl_lt_eq rfl, if_neg (by decide), if_neg (by decide)]
      rfl
    · unfold Ff_X8_go Ff_X8_good
      rw [fl_c2_eq rfl, ei, fl_lt_eq rfl, if_neg (by decide), show Ff_X8_why 1 0 = 2 from rfl, fl_lt_eq rfl, if_pos rfl]
      unfold Gf_X8_go_41_2
      rw [if_neg (by decide)]
      rfl
/-- put: here and there -/
theorem rs_put {fg sp sa ti pu mi tu sn go ca U L : Int} {kd me r pl he st und gI : Nat → Int} {gF : Nat → Nat → Int} (hG : rs_G fg sp sa ti pu kd me r) (hS : rs_S fg sp kd mi tu sn go ca pl he st) (hm : mi ≤ 9999) (hH : rs_H fg sp kd U L gI gF und) (a : Int) :
    ∃ R tr U1 L1 gI1 pl1 gF1 st1 und1, Ff_X7_put a fg mi tu sn go ca pl U L gI gF he = (R, tr, pl1, U1, L1, gI1, gF1) ∧ Ff_X8_put a 1 U r st und = (R, 0, tr, U1, st1, und1) ∧ rs_S fg sp kd mi tu sn go ca pl1 he st1 ∧ rs_H fg sp kd U1 L1 gI1 gF1 und1 := by
  obtain ⟨⟨f1, f2, f3⟩, -⟩ := id hG
  obtain ⟨⟨s1, s2, s3, s4, s5⟩, m0, -, -, -, hk⟩ := id hS
  by_cases h : 0 ≤ a ∧ a ≤ fg - 1
  · have e1 : Ff_X7_isFigure a fg = 1 := by rw [rs_isf, if_pos h]
    have e2 : Ff_X8_isFigure a 1 r = 1 := by rw [rs_isfm, if_pos (by omega)]
    obtain ⟨k1, k2, k3, k4⟩ := hk a.toNat (by omega)
    by_cases hb : Ff_X7_hasBit go a = 1
    · refine ⟨-1, 5, U, L, gI, pl, gF, st, und, ?_, ?_, hS, hH⟩
      · unfold Ff_X7_put Ff_X5_isGone
        rw [e1, fl_lt_eq rfl, if_pos rfl, hb]
        rfl
      · unfold Ff_X8_put Ff_X8_good
        rw [fl_c2_eq rfl, e2, fl_lt_eq rfl, if_pos rfl, fl_lt_eq rfl, ← s4, rs_hb, hb]
        rfl
    · have hb0 : Ff_X7_hasBit go a = 0 := (rs_hb01 go a).resolve_right hb
      by_cases hp : pl a.toNat = a
      · refine ⟨-1, 5, U, L, gI, pl, gF, st, und, ?_, ?_, hS, hH⟩
        · unfold Ff_X7_put Ff_X5_isGone
          rw [e1, fl_lt_eq rfl, if_pos rfl, hb0, fl_lt_eq rfl, fl_lt_eq rfl, if_neg (by decide), fl_lt_eq rfl, if_pos hp]
          rfl
        · unfold Ff_X8_put Ff_X8_good
          rw [fl_c2_eq rfl, e2, fl_lt_eq rfl, if_pos rfl, fl_lt_eq rfl, ← s4, rs_hb, hb0, fl_lt_eq rfl, if_neg (by decide), fl_lt_eq rfl, ← k1, if_pos hp]
          rfl
      · obtain ⟨U1, L1, gI1, gF1, und1, q1, q2, q3⟩ := rs_H_keep f3 hH hS hm
        refine ⟨pl a.toNat, 0, U1, L1, gI1, fl_up pl a.toNat a, gF1, fl_up st a.toNat a, und1, ?_, ?_, rs_S_pl hS (by omega) (by omega) (by omega), q3⟩
        · unfold Ff_X7_put Ff_X5_isGone
          rw [e1, fl_lt_eq rfl, if_pos rfl, hb0, fl_lt_eq rfl, fl_lt_eq rfl, if_neg (by decide), fl_lt_eq rfl, if_neg hp, q1, fl_c4_eq rfl]
          rfl
        · unfold Ff_X8_put Ff_X8_good
          rw [fl_c2_eq rfl, e2, fl_lt_eq rfl, if_pos rfl, fl_lt_eq rfl, ← s4, rs_hb, hb0, fl_lt_eq rfl, if_neg (by decide), fl_lt_eq rfl, ← k1, if_neg hp, q2, fl_c2_eq rfl]
          rfl
  · have e1 : Ff_X7_isFigure a fg = 0 := by rw [rs_isf, if_neg h]
    have e2 : Ff_X8_isFigure a 1 r = 0 := by rw [rs_isfm, if_neg (by omega)]
    refine ⟨-1, 1, U, L, gI, pl, gF, st, und, ?_, ?_, hS, hH⟩
    · unfold Ff_X7_put
      rw [e1]
      rfl
    · unfold Ff_X8_put Ff_X8_good
      rw [fl_c2_eq rfl, e2]
      rfl
theorem rs_S_tu {fg sp mi tu sn go ca : Int} {kd pl he st : Nat → Int} (hf : fg ≤ 9) (hs : 1 ≤ sp) (h : rs_S fg sp kd mi tu sn go ca pl he st) {a : Int} (a0 : 0 ≤ a) (a1 : a < fg) : rs_S fg sp kd mi a 0 go ca pl he (fl_up (fl_up st 19 a) 20 0) := by
  obtain ⟨⟨s1, s2, s3, s4, s5⟩, m0, a2, a3, a4, hk⟩ := h
  refine ⟨⟨?_, ?_, (rp_up_eq _ _ _).symm, ?_, ?_⟩, m0, ⟨a0, a1⟩, by omega, a4, fun k hk' => ?_⟩
  · rw [rp_up_ne _ _ (by omega), rp_up_ne _ _ (by omega)]; exact s1
  · rw [rp_up_ne _ _ (by omega), rp_up_eq]
  · rw [rp_up_ne _ _ (by omega), rp_up_ne _ _ (by omega)]; exact s4
  · rw [rp_up_ne _ _ (by omega), rp_up_ne _ _ (by omega)]; exact s5
  · rw [rp_up_ne _ _ (by omega), rp_up_ne _ _ (by omega), rp_up_ne _ _ (by omega), rp_up_ne _ _ (by omega)]; exact hk k hk'
/-- wind: here and there -/
theorem rs_wind {fg sp sa ti pu mi tu sn go ca U L : Int} {kd me r pl he st und gI : Nat → Int} {gF : Nat → Nat → Int} (hG : rs_G fg sp sa ti pu kd me r) (hS : rs_S fg sp kd mi tu sn go ca pl he st) (hm : mi ≤ 9999) (hH : rs_H fg sp kd U L gI gF und) (a : Int) :
    ∃ R tr tu1 sn1 U1 L1 gI1 gF1 st1 und1, Ff_X7_wind a fg mi tu sn go ca U L gI pl gF he = (R, tr, tu1, sn1, U1, L1, gI1, gF1) ∧ Ff_X8_wind a 1 U r st und = (R, 0, tr, U1, st1, und1) ∧ rs_S fg sp kd mi tu1 sn1 go ca pl he st1 ∧ rs_H fg sp kd U1 L1 gI1 gF1 und1 := by
  obtain ⟨⟨f1, f2, f3⟩, ⟨sp1, sp2, sp3⟩, -⟩ := id hG
  obtain ⟨⟨s1, s2, s3, s4, s5⟩, -⟩ := id hS
  by_cases h : 0 ≤ a ∧ a ≤ fg - 1
  · have e1 : Ff_X7_isFigure a fg = 1 := by rw [rs_isf, if_pos h]
    have e2 : Ff_X8_isFigure a 1 r = 1 := by rw [rs_isfm, if_pos (by omega)]
    by_cases hb : tu = a ∧ sn = 0
    · refine ⟨-1, 5, tu, sn, U, L, gI, gF, st, und, ?_, ?_, hS, hH⟩
      · unfold Ff_X7_wind
        rw [e1, fl_lt_eq rfl, if_pos rfl, if_pos hb.1, if_pos hb.2]
        rfl
      · unfold Ff_X8_wind Ff_X8_good
        rw [fl_c2_eq rfl, e2, fl_lt_eq rfl, if_pos rfl, fl_lt_eq rfl, ← s2, if_pos hb.1, fl_lt_eq rfl, ← s3, if_pos hb.2]
        rfl
    · obtain ⟨U1, L1, gI1, gF1, und1, q1, q2, q3⟩ := rs_H_keep f3 hH hS hm
      refine ⟨tu, 0, a, 0, U1, L1, gI1, gF1, fl_up (fl_up st 19 a) 20 0, und1, ?_, ?_, rs_S_tu f3 sp2 hS h.1 (by omega), q3⟩
      · unfold Ff_X7_wind
        rw [e1, fl_lt_eq rfl, if_pos rfl]
        by_cases ht : tu = a
        · rw [if_pos ht, if_neg (fun z => hb ⟨ht, z⟩), q1, fl_c4_eq rfl]; rfl
        · rw [if_neg ht, q1, fl_c4_eq rfl]; rfl
      · unfold Ff_X8_wind Ff_X8_good
        rw [fl_c2_eq rfl, e2, fl_lt_eq rfl, if_pos rfl, fl_lt_eq rfl, ← s2]
        by_cases ht : tu = a
        · rw [if_pos ht, fl_lt_eq rfl, ← s3, if_neg (fun z => hb ⟨ht, z⟩), q2, fl_c2_eq rfl]; rfl
        · rw [if_neg ht, q2, fl_c2_eq rfl]; rfl
  · have e1 : Ff_X7_isFigure a fg = 0 := by rw [rs_isf, if_neg h]
    have e2 : Ff_X8_isFigure a 1 r = 0 := by rw [rs_isfm, if_neg (by omega)]
    refine ⟨-1, 1, tu, sn, U, L, gI, gF, st, und, ?_, ?_, hS, hH⟩
    · unfold Ff_X7_wind
      rw [e1]
      rfl
    · unfold Ff_X8_wind Ff_X8_good
      rw [fl_c2_eq rfl, e2]
      rfl
/-- undo: here and there -/
theorem rs_undo {fg sp mi tu sn go ca U L : Int} {kd pl he st und gI : Nat → Int} {gF : Nat → Nat → Int} (hf : fg ≤ 9) (hS : rs_S fg sp kd mi tu sn go ca pl he st) (hm : mi ≤ 9999) (hH : rs_H fg sp kd U L gI gF und) :
    ∃ R tr U1 L1 mi1 tu1 sn1 go1 ca1 pl1 he1 st1, Ff_X7_undo U L mi tu sn go ca gI gF pl he = (R, tr, U1, L1, mi1, tu1, sn1, go1, ca1, pl1, he1) ∧ Ff_X8_undo U und st = (R, 0, tr, U1, st1) ∧ rs_S fg sp kd mi1 tu1 sn1 go1 ca1 pl1 he1 st1 ∧ mi1 ≤ 9999 ∧ rs_H fg sp kd U1 L1 gI gF und := by
  by_cases h : U = 0
  · refine ⟨0, 6, U, L, mi, tu, sn, go, ca, pl, he, st, ?_, ?_, hS, hm, hH⟩
    · unfold Ff_X7_undo Ff_X1_takeLatest
      rw [if_pos h, fl_c10_eq rfl]
      rfl
    · unfold Ff_X8_undo Ff_X8_good
      rw [fl_c2_eq rfl, if_pos h]
      rfl
  · obtain ⟨m1, t1, s1, g1, c1, pl1, he1, e1, e2, e3, e4⟩ := rs_H_undo (st := st) hf hH h mi tu sn go ca pl he
    refine ⟨1, 0, U - 1, (L + 15) % 16, m1, t1, s1, g1, c1, pl1, he1, _, ?_, ?_, e2, e3, e4⟩
    · unfold Ff_X7_undo
      rw [e1, fl_c10_eq rfl]
      rfl
    · unfold Ff_X8_undo Ff_X8_good
      rw [fl_c2_eq rfl, if_neg h]
      rfl
/-- image: here and there -/
theorem rs_image {fg sp mi tu sn go ca N : Int} {kd pl he st kp gI : Nat → Int} {gF : Nat → Nat → Int} (hf : fg ≤ 9) (hg : ¬ fg ≤ 0) (hS : rs_S fg sp kd mi tu sn go ca pl he st) (hm : mi ≤ 9999) (hI : rs_I fg sp kd N gI gF kp) :
    ∃ R tr N1 gI1 gF1 kp1, Ff_X7_image fg N gI mi tu sn go ca pl gF he = (R, tr, N1, gI1, gF1) ∧ Ff_X8_image 1 N st kp = (R, 0, tr, N1, kp1) ∧ rs_I fg sp kd N1 gI1 gF1 kp1 := by
  have e1 : Ff_X7_hasGallery fg = 1 := by unfold Ff_X7_hasGallery; rw [if_neg hg]
  obtain ⟨⟨n0, n1⟩, -⟩ := id hI
  by_cases h : N = 3
  · refine ⟨-1, 3, N, gI, gF, kp, ?_, ?_, hI⟩
    · unfold Ff_X7_image
      rw [e1, fl_lt_eq rfl, if_pos rfl, if_neg (by omega)]
      rfl
    · unfold Ff_X8_image Ff_X8_good
      rw [fl_c2_eq rfl, if_neg (by decide), if_pos h]
      rfl
  · obtain ⟨gI1, gF1, q1, q2⟩ := rs_I_add hf hI (by omega) hS hm
    refine ⟨N, 0, N + 1, gI1, gF1, _, ?_, ?_, q2⟩
    · unfold Ff_X7_image
      rw [e1, fl_lt_eq rfl, if_pos rfl, if_pos (by omega), q1, fl_c4_eq rfl]
      rcases (show N = 0 ∨ N = 1 ∨ N = 2 by omega) with z | z | z <;> (subst z; rfl)
    · unfold Ff_X8_image Ff_X8_good
      rw [fl_c2_eq rfl, if_neg (by decide), if_neg h]
      simp only [fl_lt]
      rw [show N + 1 - 1 = N by omega]
/-- back: here and there -/
theorem rs_back {fg sp mi tu sn go ca U L N : Int} {kd pl he st und kp gI gJ : Nat → Int} {gF gG : Nat → Nat → Int} (hf : fg ≤ 9) (hS : rs_S fg sp kd mi tu sn go ca pl he st) (hm : mi ≤ 9999) (hH : rs_H fg sp kd U L gJ gG und) (hI : rs_I fg sp kd N gI gF kp) (a : Int) :
    ∃ R tr U1 mi1 tu1 sn1 go1 ca1 pl1 he1 st1, Ff_X7_back a U N mi tu sn go ca gI gF pl he = (R, tr, U1, mi1, tu1, sn1, go1, ca1, pl1, he1) ∧ Ff_X8_back a U N kp st = (R, 0, tr, U1, st1) ∧ rs_S fg sp kd mi1 tu1 sn1 go1 ca1 pl1 he1 st1 ∧ mi1 ≤ 9999 ∧ rs_H fg sp kd U1 L gJ gG und := by
  obtain ⟨⟨n0, n1⟩, -⟩ := id hI
  by_cases h : 0 ≤ a ∧ a ≤ N - 1
  · obtain ⟨m1, t1, s1, g1, c1, pl1, he1, e1, e2, e3⟩ := rs_I_back (st := st) hf hI h.1 (by omega) U mi tu sn go ca pl he
    obtain ⟨hU, hL, -⟩ := hH
    refine ⟨1, 0, 0, m1, t1, s1, g1, c1, pl1, he1, _, ?_, ?_, e2, e3, ⟨by omega, by omega⟩, hL, fun i hi => by omega⟩
    · unfold Ff_X7_back
      rw [e1, fl_c9_eq rfl]
      rfl
    · unfold Ff_X8_back Ff_X8_good
      rw [fl_c2_eq rfl, fl_lt_eq rfl, rp_in1 h.1 h.2]
      rfl
  · refine ⟨0, 1, U, mi, tu, sn, go, ca, pl, he, st, ?_, ?_, hS, hm, hH⟩
    · unfold Ff_X7_back Ff_X1_goBack
      rw [fl_lt_eq rfl, rp_in, rp_in0 h, fl_lt_eq rfl, if_neg (by decide), fl_c9_eq rfl]
      rfl
    · unfold Ff_X8_back Ff_X8_good
      rw [fl_c2_eq rfl, fl_lt_eq rfl, rp_in0 h]
      rfl
end RSF
end P092249605_rs6
section P092249606_rs7
section RSG
theorem rs_L_cg {fg sp : Int} {kd gI gI1 row : Nat → Int} {gF gF1 : Nat → Nat → Int} {j n : Nat} (hj : j < n) (hI : ∀ k : Nat, k < 5 * n → gI1 k = gI k) (hF : ∀ k : Nat, k < 2 * n → gF1 k = gF k) (h : rs_L fg sp kd gI gF j row) : rs_L fg sp kd gI1 gF1 j row := by
  unfold rs_L at h ⊢
  rw [hI (5 * j) (by omega), hI (5 * j + 1) (by omega), hI (5 * j + 2) (by omega), hI (5 * j + 3) (by omega), hI (5 * j + 4) (by omega), hF (2 * j) (by omega), hF (2 * j + 1) (by omega)]
  exact h
theorem rs_H_cg {fg sp U L : Int} {kd gI gI1 und : Nat → Int} {gF gF1 : Nat → Nat → Int} (hI : ∀ k : Nat, k < 80 → gI1 k = gI k) (hF : ∀ k : Nat, k < 32 → gF1 k = gF k) (h : rs_H fg sp kd U L gI gF und) : rs_H fg sp kd U L gI1 gF1 und := by
  obtain ⟨a, b, c⟩ := h
  exact ⟨a, b, fun i hi => rs_L_cg (n := 16) (Nat.mod_lt _ (by decide)) hI hF (c i hi)⟩
theorem rs_I_cg {fg sp N : Int} {kd gI gI1 kp : Nat → Int} {gF gF1 : Nat → Nat → Int} (hI : ∀ k : Nat, k < 15 → gI1 k = gI k) (hF : ∀ k : Nat, k < 6 → gF1 k = gF k) (h : rs_I fg sp kd N gI gF kp) : rs_I fg sp kd N gI1 gF1 kp := by
  obtain ⟨a, c⟩ := h
  exact ⟨a, fun i hi => rs_L_cg (n := 3) (by omega) hI hF (c i hi)⟩
theorem fl_nI_r (f : Nat → Int) {n k : Nat} (h : k < n) : fl_nI ((List.range n).map f) k = f k := by
  unfold fl_nI
  rw [List.getD_eq_getElem?_getD, List.getElem?_map, List.getElem?_range h]
  rfl
theorem fl_nF_r (f : Nat → Nat → Int) {n k : Nat} (h : k < n) : fl_nF ((List.range n).map f) k = f k := by
  unfold fl_nF
  rw [List.getD_eq_getElem?_getD, List.getElem?_map, List.getElem?_range h]
  rfl
theorem kp_out {l : List Nat} {a b k : Nat} (h : l.all (fun x => decide (x < a) || decide (b ≤ x)) = true) (h1 : a ≤ k) (h2 : k < b) : k ∉ l := by
  intro hm
  have h3 := List.all_eq_true.mp h k hm
  rw [Bool.or_eq_true, decide_eq_true_eq, decide_eq_true_eq] at h3
  omega
/-- the kept scenes and images as the object has them -/
def lr_g3 (vi : Nat → Int32) : Nat → Int := fun k => (vi (57 + k)).toInt
def lr_f3 (vf : Nat → Nat → Int32) : Nat → Nat → Int := fun k => fl_A (vf (23 + k))
def lr_g4 (vi : Nat → Int32) : Nat → Int := fun k => (vi (137 + k)).toInt
def lr_f4 (vf : Nat → Nat → Int32) : Nat → Nat → Int := fun k => fl_A (vf (55 + k))
set_option maxRecDepth 100000 in
theorem lr_g3e (vi : Nat → Int32) {k : Nat} (h : k < 80) : (fl_nI [(vi 57).toInt, (vi 58).toInt, (vi 59).toInt, (vi 60).toInt, (vi 61).toInt, (vi 62).toInt, (vi 63).toInt, (vi 64).toInt, (vi 65).toInt, (vi 66).toInt, (vi 67).toInt, (vi 68).toInt, (vi 69).toInt, (vi 70).toInt, (vi 71).toInt, (vi 72).toInt, (vi 73).toInt, (vi 74).toInt, (vi 75).toInt, (vi 76).toInt, (vi 77).toInt, (vi 78).toInt, (vi 79).toInt, (vi 80).toInt, (vi 81).toInt, (vi 82).toInt, (vi 83).toInt, (vi 84).toInt, (vi 85).toInt, (vi 86).toInt, (vi 87).toInt, (vi 88).toInt, (vi 89).toInt, (vi 90).toInt, (vi 91).toInt, (vi 92).toInt, (vi 93).toInt, (vi 94).toInt, (vi 95).toInt, (vi 96).toInt, (vi 97).toInt, (vi 98).toInt, (vi 99).toInt, (vi 100).toInt, (vi 101).toInt, (vi 102).toInt, (vi 103).toInt, (vi 104).toInt, (vi 105).toInt, (vi 106).toInt, (vi 107).toInt, (vi 108).toInt, (vi 109).toInt, (vi 110).toInt, (vi 111).toInt, (vi 112).toInt, (vi 113).toInt, (vi 114).toInt, (vi 115).toInt, (vi 116).toInt, (vi 117).toInt, (vi 118).toInt, (vi 119).toInt, (vi 120).toInt, (vi 121).toInt, (vi 122).toInt, (vi 123).toInt, (vi 124).toInt, (vi 125).toInt, (vi 126).toInt, (vi 127).toInt, (vi 128).toInt, (vi 129).toInt, (vi 130).toInt, (vi 131).toInt, (vi 132).toInt, (vi 133).toInt, (vi 134).toInt, (vi 135).toInt, (vi 136).toInt]) k = lr_g3 vi k := (congrFun (show (fl_nI [(vi 57).toInt, (vi 58).toInt, (vi 59).toInt, (vi 60).toInt, (vi 61).toInt, (vi 62).toInt, (vi 63).toInt, (vi 64).toInt, (vi 65).toInt, (vi 66).toInt, (vi 67).toInt, (vi 68).toInt, (vi 69).toInt, (vi 70).toInt, (vi 71).toInt, (vi 72).toInt, (vi 73).toInt, (vi 74).toInt, (vi 75).toInt, (vi 76).toInt, (vi 77).toInt, (vi 78).toInt, (vi 79).toInt, (vi 80).toInt, (vi 81).toInt, (vi 82).toInt, (vi 83).toInt, (vi 84).toInt, (vi 85).toInt, (vi 86).toInt, (vi 87).toInt, (vi 88).toInt, (vi 89).toInt, (vi 90).toInt, (vi 91).toInt, (vi 92).toInt, (vi 93).toInt, (vi 94).toInt, (vi 95).toInt, (vi 96).toInt, (vi 97).toInt, (vi 98).toInt, (vi 99).toInt, (vi 100).toInt, (vi 101).toInt, (vi 102).toInt, (vi 103).toInt, (vi 104).toInt, (vi 105).toInt, (vi 106).toInt, (vi 107).toInt, (vi 108).toInt, (vi 109).toInt, (vi 110).toInt, (vi 111).toInt, (vi 112).toInt, (vi 113).toInt, (vi 114).toInt, (vi 115).toInt, (vi 116).toInt, (vi 117).toInt, (vi 118).toInt, (vi 119).toInt, (vi 120).toInt, (vi 121).toInt, (vi 122).toInt, (vi 123).toInt, (vi 124).toInt, (vi 125).toInt, (vi 126).toInt, (vi 127).toInt, (vi 128).toInt, (vi 129).toInt, (vi 130).toInt, (vi 131).toInt, (vi 132).toInt, (vi 133).toInt, (vi 134).toInt, (vi 135).toInt, (vi 136).toInt]) = fl_nI ((List.range 80).map (fun k => (vi (57 + k)).toInt)) from rfl) k).trans (fl_nI_r _ h)
set_option maxRecDepth 100000 in
theorem lr_f3e (vi : Nat → Nat → Int32) {k : Nat} (h : k < 32) : (fl_nF [(fl_A (vi 23)), (fl_A (vi 24)), (fl_A (vi 25)), (fl_A (vi 26)), (fl_A (vi 27)), (fl_A (vi 28)), (fl_A (vi 29)), (fl_A (vi 30)), (fl_A (vi 31)), (fl_A (vi 32)), (fl_A (vi 33)), (fl_A (vi 34)), (fl_A (vi 35)), (fl_A (vi 36)), (fl_A (vi 37)), (fl_A (vi 38)), (fl_A (vi 39)), (fl_A (vi 40)), (fl_A (vi 41)), (fl_A (vi 42)), (fl_A (vi 43)), (fl_A (vi 44)), (fl_A (vi 45)), (fl_A (vi 46)), (fl_A (vi 47)), (fl_A (vi 48)), (fl_A (vi 49)), (fl_A (vi 50)), (fl_A (vi 51)), (fl_A (vi 52)), (fl_A (vi 53)), (fl_A (vi 54))]) k = lr_f3 vi k := (congrFun (show (fl_nF [(fl_A (vi 23)), (fl_A (vi 24)), (fl_A (vi 25)), (fl_A (vi 26)), (fl_A (vi 27)), (fl_A (vi 28)), (fl_A (vi 29)), (fl_A (vi 30)), (fl_A (vi 31)), (fl_A (vi 32)), (fl_A (vi 33)), (fl_A (vi 34)), (fl_A (vi 35)), (fl_A (vi 36)), (fl_A (vi 37)), (fl_A (vi 38)), (fl_A (vi 39)), (fl_A (vi 40)), (fl_A (vi 41)), (fl_A (vi 42)), (fl_A (vi 43)), (fl_A (vi 44)), (fl_A (vi 45)), (fl_A (vi 46)), (fl_A (vi 47)), (fl_A (vi 48)), (fl_A (vi 49)), (fl_A (vi 50)), (fl_A (vi 51)), (fl_A (vi 52)), (fl_A (vi 53)), (fl_A (vi 54))]) = fl_nF ((List.range 32).map (fun k => fl_A (vi (23 + k)))) from rfl) k).trans (fl_nF_r _ h)
set_option maxRecDepth 100000 in
theorem lr_g4e (vi : Nat → Int32) {k : Nat} (h : k < 15) : (fl_nI [(vi 137).toInt, (vi 138).toInt, (vi 139).toInt, (vi 140).toInt, (vi 141).toInt, (vi 142).toInt, (vi 143).toInt, (vi 144).toInt, (vi 145).toInt, (vi 146).toInt, (vi 147).toInt, (vi 148).toInt, (vi 149).toInt, (vi 150).toInt, (vi 151).toInt]) k = lr_g4 vi k := (congrFun (show (fl_nI [(vi 137).toInt, (vi 138).toInt, (vi 139).toInt, (vi 140).toInt, (vi 141).toInt, (vi 142).toInt, (vi 143).toInt, (vi 144).toInt, (vi 145).toInt, (vi 146).toInt, (vi 147).toInt, (vi 148).toInt, (vi 149).toInt, (vi 150).toInt, (vi 151).toInt]) = fl_nI ((List.range 15).map (fun k => (vi (137 + k)).toInt)) from rfl) k).trans (fl_nI_r _ h)
set_option maxRecDepth 100000 in
theorem lr_f4e (vi : Nat → Nat → Int32) {k : Nat} (h : k < 6) : (fl_nF [(fl_A (vi 55)), (fl_A (vi 56)), (fl_A (vi 57)), (fl_A (vi 58)), (fl_A (vi 59)), (fl_A (vi 60))]) k = lr_f4 vi k := (congrFun (show (fl_nF [(fl_A (vi 55)), (fl_A (vi 56)), (fl_A (vi 57)), (fl_A (vi 58)), (fl_A (vi 59)), (fl_A (vi 60))]) = fl_nF ((List.range 6).map (fun k => fl_A (vi (55 + k)))) from rfl) k).trans (fl_nF_r _ h)
end RSG
end P092249606_rs7
section P09403_rel
section REL
/-- the halls alike: none, here and there, or what was told, here and there -/
def lr_H (vi : Nat → Int32) (vf : Nat → Nat → Int32) (vm : Nat → Int32) (vn : Nat → Nat → Int32) : Prop := (vm 11 = 0 ∧ vi 33 = 0 ∧ vi 34 = 0 ∧ vi 35 = 0 ∧ vi 36 = 0 ∧ vi 38 = 0 ∧ vi 39 = 0 ∧ vi 40 = 0 ∧ vi 41 = 0 ∧ vi 42 = 0 ∧ vi 53 = 0) ∨ (vm 11 = 1 ∧ (2 ≤ (vi 33).toInt ∧ (vi 33).toInt ≤ 9 ∧ (vi 37).toInt = 1) ∧ rp_Dh (vi 33).toInt (vi 34).toInt (vi 35).toInt (vi 36).toInt (vi 37).toInt (vi 38).toInt (vi 39).toInt (vi 40).toInt (fl_A (vn 2)) ∧ rp_Df (vi 41).toInt (fl_A (vf 11)) (fl_A (vf 12)) (fl_A (vn 2)) ∧ rp_Dw (vi 53).toInt (fl_A (vf 19)) (fl_A (vf 20)) (fl_A (vn 2)) ∧ rp_Ds (vi 42).toInt (fl_A (vf 13)) (fl_A (vf 14)) (fl_A (vn 2)))
/-- scenes alike: now, what can be undone, images -/
def lr_V (vi : Nat → Int32) (vf : Nat → Nat → Int32) (vm : Nat → Int32) (vn : Nat → Nat → Int32) : Prop := (vi 54 = 0 ∧ vi 56 = 0) ∧ ((vm 11 = 0 ∧ vi 12 = 0 ∧ vi 24 = 0 ∧ vi 25 = 0 ∧ vm 12 = 0 ∧ vm 13 = 0) ∨ (vm 11 = 1 ∧ rs_S (vi 33).toInt (vi 34).toInt (fl_A (vf 11)) (vi 12).toInt (vi 13).toInt (vi 14).toInt (vi 15).toInt (vi 16).toInt (fl_A (vf 1)) (fl_A (vf 2)) (fl_A (vn 4)) ∧ (vi 12).toInt ≤ 9999 ∧ (vi 24).toInt = (vm 12).toInt ∧ (vi 25).toInt = (vm 13).toInt ∧ rs_H (vi 33).toInt (vi 34).toInt (fl_A (vf 11)) (vi 24).toInt (vi 26).toInt (lr_g3 vi) (lr_f3 vf) (fl_A (vn 6)) ∧ rs_I (vi 33).toInt (vi 34).toInt (fl_A (vf 11)) (vi 25).toInt (lr_g4 vi) (lr_f4 vf) (fl_A (vn 7))))
/-- all but the tapes -/
def lr_Q (vi : Nat → Int32) (vf : Nat → Nat → Int32) (vm : Nat → Int32) (vn : Nat → Nat → Int32) : Prop := (vi 1).toInt = (vm 7).toInt ∧ lr_H vi vf vm vn ∧ lr_V vi vf vm vn
def lr_R (tp : Int32) (vi : Nat → Int32) (vf : Nat → Nat → Int32) (vm : Nat → Int32) (vn : Nat → Nat → Int32) : Prop := rp_T (fl_A (vf 0)) (fl_A (vn 0)) tp.toInt ∧ lr_Q vi vf vm vn
theorem rs_b0 : ∀ k : Fin 9, Ff_X7_hasBit 0 (k.val : Int) = 0 := by decide +kernel
theorem lr_H_keep {vi vi1 vm vm1 : Nat → Int32} {vf vf1 vn vn1 : Nat → Nat → Int32} (i33 : vi1 33 = vi 33) (i34 : vi1 34 = vi 34) (i35 : vi1 35 = vi 35) (i36 : vi1 36 = vi 36) (i37 : vi1 37 = vi 37) (i38 : vi1 38 = vi 38) (i39 : vi1 39 = vi 39) (i40 : vi1 40 = vi 40) (i41 : vi1 41 = vi 41) (i42 : vi1 42 = vi 42) (i53 : vi1 53 = vi 53) (f11 : vf1 11 = vf 11) (f12 : vf1 12 = vf 12) (f13 : vf1 13 = vf 13) (f14 : vf1 14 = vf 14) (f19 : vf1 19 = vf 19) (f20 : vf1 20 = vf 20) (m11 : vm1 11 = vm 11) (n2 : fl_A (vn1 2) = fl_A (vn 2)) (h : lr_H vi vf vm vn) : lr_H vi1 vf1 vm1 vn1 := by
  unfold lr_H at h ⊢
  rw [i33, i34, i35, i36, i37, i38, i39, i40, i41, i42, i53, f11, f12, f13, f14, f19, f20, m11, n2]
  exact h
theorem lr_keep {vi vi1 vm vm1 : Nat → Int32} {vf vf1 vn vn1 : Nat → Nat → Int32} (ki : ∀ k : Nat, k ∈ ([1, 33, 34, 35, 36, 37, 38, 39, 40, 41, 42, 53, 12, 13, 14, 15, 16, 24, 25, 26, 54, 56] : List Nat) → vi1 k = vi k) (kj : ∀ k : Nat, 57 ≤ k → k < 152 → vi1 k = vi k) (kf : ∀ k : Nat, k ∈ ([11, 12, 13, 14, 19, 20, 1, 2] : List Nat) → vf1 k = vf k) (kg : ∀ k : Nat, 23 ≤ k → k < 61 → vf1 k = vf k) (km : ∀ k : Nat, k ∈ ([7, 11, 12, 13] : List Nat) → vm1 k = vm k) (kn : ∀ k : Nat, k ∈ ([2, 4, 6, 7] : List Nat) → vn1 k = vn k) (h : lr_Q vi vf vm vn) : lr_Q vi1 vf1 vm1 vn1 := by
  obtain ⟨h1, h2, h3, h4⟩ := h
  refine ⟨by rw [ki 1 (by decide), km 7 (by decide)]; exact h1, lr_H_keep (ki 33 (by decide)) (ki 34 (by decide)) (ki 35 (by decide)) (ki 36 (by decide)) (ki 37 (by decide)) (ki 38 (by decide)) (ki 39 (by decide)) (ki 40 (by decide)) (ki 41 (by decide)) (ki 42 (by decide)) (ki 53 (by decide)) (kf 11 (by decide)) (kf 12 (by decide)) (kf 13 (by decide)) (kf 14 (by decide)) (kf 19 (by decide)) (kf 20 (by decide)) (km 11 (by decide)) (by rw [kn 2 (by decide)]) h2, ⟨by rw [ki 54 (by decide)]; exact h3.1, by rw [ki 56 (by decide)]; exact h3.2⟩, ?_⟩
  rw [km 11 (by decide), km 12 (by decide), km 13 (by decide), ki 12 (by decide), ki 13 (by decide), ki 14 (by decide), ki 15 (by decide), ki 16 (by decide), ki 24 (by decide), ki 25 (by decide), ki 26 (by decide), ki 33 (by decide), ki 34 (by decide), kf 1 (by decide), kf 2 (by decide), kf 11 (by decide), kn 4 (by decide), kn 6 (by decide), kn 7 (by decide)]
  rcases h4 with h4 | ⟨a, b, c, d, e, f, g⟩
  · exact Or.inl h4
  · exact Or.inr ⟨a, b, c, d, e, rs_H_cg (fun k h9 => by show (vi1 (57 + k)).toInt = (vi (57 + k)).toInt; rw [kj (57 + k) (by omega) (by omega)]) (fun k h9 => by show fl_A (vf1 (23 + k)) = fl_A (vf (23 + k)); rw [kg (23 + k) (by omega) (by omega)]) f, rs_I_cg (fun k h9 => by show (vi1 (137 + k)).toInt = (vi (137 + k)).toInt; rw [kj (137 + k) (by omega) (by omega)]) (fun k h9 => by show fl_A (vf1 (55 + k)) = fl_A (vf (55 + k)); rw [kg (55 + k) (by omega) (by omega)]) g⟩
theorem lr_D_cg {fg sp sa sh lw ti pu fi tb sc wc : Int} {kd me sf sm wf wt fr fr' : Nat → Int} (q : ∀ i : Nat, i < 156 → fr' i = fr i) (h : rp_Dh fg sp sa sh lw ti pu fi fr ∧ rp_Df tb kd me fr ∧ rp_Dw wc wf wt fr ∧ rp_Ds sc sf sm fr) : rp_Dh fg sp sa sh lw ti pu fi fr' ∧ rp_Df tb kd me fr' ∧ rp_Dw wc wf wt fr' ∧ rp_Ds sc sf sm fr' := by
  obtain ⟨h1, h2, h3, h4⟩ := h
  refine ⟨?_, rp_Df_cg h2 (fun i hi => q i (by omega)), rp_Dw_cg h3 (fun i hi => q i (by omega)), rp_Ds_cg h4 (fun i hi => q i (by omega))⟩
  unfold rp_Dh at h1 ⊢
  rw [q 0 (by decide), q 1 (by decide), q 2 (by decide), q 3 (by decide), q 4 (by decide), q 5 (by decide), q 6 (by decide), q 7 (by decide), q 8 (by decide), q 9 (by decide), q 10 (by decide), q 11 (by decide)]
  exact h1
theorem lr_cpy {f g : Nat → Int} (i : Nat) (h : i < 156) : va_cpy f g 0 0 156 i = f i := by
  unfold va_cpy
  rw [if_pos (by omega)]
  congr 1
  omega
theorem lr_init : lr_R 0 (ux (fun _ => 0) [(2, -1)]) (fun _ _ => 0) (ux (fun _ => 0) [(8, -1)]) (fun _ _ => 0) := by
  refine ⟨fun i9 h9 => absurd h9 (by have h8 : (0 : Int32).toInt = 0 := (by decide); omega), rfl, Or.inl ⟨rfl, rfl, rfl, rfl, rfl, rfl, rfl, rfl, rfl, rfl, rfl⟩, ⟨rfl, rfl⟩, Or.inl ⟨rfl, rfl, rfl, rfl, rfl, rfl⟩⟩
theorem rp_bg0 (f : Int) (a b : Nat → Int) : Sf_X5_begin_17_1 f 0 a b = .inl (1, fl_up a 0 0, fl_up b 0 0) := rfl
theorem rp_bg1 (f : Int) (a b : Nat → Int) : Sf_X5_begin_17_1 f 1 a b = .inl (2, fl_up a 1 1, fl_up b 1 0) := rfl
theorem rp_bg2 (f : Int) (a b : Nat → Int) : Sf_X5_begin_17_1 f 2 a b = .inl (3, fl_up a 2 2, fl_up b 2 0) := rfl
theorem rp_bg3 (f : Int) (a b : Nat → Int) : Sf_X5_begin_17_1 f 3 a b = .inl (4, fl_up a 3 3, fl_up b 3 0) := rfl
theorem rp_bg4 (f : Int) (a b : Nat → Int) : Sf_X5_begin_17_1 f 4 a b = .inl (5, fl_up a 4 4, fl_up b 4 0) := rfl
theorem rp_bg5 (f : Int) (a b : Nat → Int) : Sf_X5_begin_17_1 f 5 a b = .inl (6, fl_up a 5 5, fl_up b 5 0) := rfl
theorem rp_bg6 (f : Int) (a b : Nat → Int) : Sf_X5_begin_17_1 f 6 a b = .inl (7, fl_up a 6 6, fl_up b 6 0) := rfl
theorem rp_bg7 (f : Int) (a b : Nat → Int) : Sf_X5_begin_17_1 f 7 a b = .inl (8, fl_up a 7 7, fl_up b 7 0) := rfl
theorem rp_bg8 (f : Int) (a b : Nat → Int) : Sf_X5_begin_17_1 f 8 a b = .inl (9, fl_up a 8 8, fl_up b 8 0) := rfl
theorem rp_begin (f : Int) (a b : Nat → Int) : ∃ pl he, Ff_X5_begin f a b = (0, f, 0, 0, 0, pl, he) ∧ ∀ k : Nat, k < 9 → pl k = (k : Int) ∧ he k = 0 := by
  refine ⟨(fl_up (fl_up (fl_up (fl_up (fl_up (fl_up (fl_up (fl_up (fl_up a 0 0) 1 1) 2 2) 3 3) 4 4) 5 5) 6 6) 7 7) 8 8), (fl_up (fl_up (fl_up (fl_up (fl_up (fl_up (fl_up (fl_up (fl_up b 0 0) 1 0) 2 0) 3 0) 4 0) 5 0) 6 0) 7 0) 8 0), ?_, ?_⟩
  · unfold Ff_X5_begin
    rw [fl_wh_l (step := (fun t9 : Int × (Nat → Int) × (Nat → Int) => Sf_X5_begin_17_1 f t9.1 t9.2.1 t9.2.2)) (rp_bg0 f _ _)]
    rw [fl_wh_l (step := (fun t9 : Int × (Nat → Int) × (Nat → Int) => Sf_X5_begin_17_1 f t9.1 t9.2.1 t9.2.2)) (rp_bg1 f _ _)]
    rw [fl_wh_l (step := (fun t9 : Int × (Nat → Int) × (Nat → Int) => Sf_X5_begin_17_1 f t9.1 t9.2.1 t9.2.2)) (rp_bg2 f _ _)]
    rw [fl_wh_l (step := (fun t9 : Int × (Nat → Int) × (Nat → Int) => Sf_X5_begin_17_1 f t9.1 t9.2.1 t9.2.2)) (rp_bg3 f _ _)]
    rw [fl_wh_l (step := (fun t9 : Int × (Nat → Int) × (Nat → Int) => Sf_X5_begin_17_1 f t9.1 t9.2.1 t9.2.2)) (rp_bg4 f _ _)]
    rw [fl_wh_l (step := (fun t9 : Int × (Nat → Int) × (Nat → Int) => Sf_X5_begin_17_1 f t9.1 t9.2.1 t9.2.2)) (rp_bg5 f _ _)]
    rw [fl_wh_l (step := (fun t9 : Int × (Nat → Int) × (Nat → Int) => Sf_X5_begin_17_1 f t9.1 t9.2.1 t9.2.2)) (rp_bg6 f _ _)]
    rw [fl_wh_l (step := (fun t9 : Int × (Nat → Int) × (Nat → Int) => Sf_X5_begin_17_1 f t9.1 t9.2.1 t9.2.2)) (rp_bg7 f _ _)]
    rw [fl_wh_l (step := (fun t9 : Int × (Nat → Int) × (Nat → Int) => Sf_X5_begin_17_1 f t9.1 t9.2.1 t9.2.2)) (rp_bg8 f _ _)]
    exact fl_wh_r (step := (fun t9 : Int × (Nat → Int) × (Nat → Int) => Sf_X5_begin_17_1 f t9.1 t9.2.1 t9.2.2)) (s := (9, (fl_up (fl_up (fl_up (fl_up (fl_up (fl_up (fl_up (fl_up (fl_up a 0 0) 1 1) 2 2) 3 3) 4 4) 5 5) 6 6) 7 7) 8 8), (fl_up (fl_up (fl_up (fl_up (fl_up (fl_up (fl_up (fl_up (fl_up b 0 0) 1 0) 2 0) 3 0) 4 0) 5 0) 6 0) 7 0) 8 0))) rfl
  · intro k hk
    have h : k = 0 ∨ k = 1 ∨ k = 2 ∨ k = 3 ∨ k = 4 ∨ k = 5 ∨ k = 6 ∨ k = 7 ∨ k = 8 := by omega
    rcases h with h | h | h | h | h | h | h | h | h <;> (subst h; exact ⟨rfl, rfl⟩)
/-- the halls as minutes want them -/
theorem lr_G {vi vm : Nat → Int32} {vf vn : Nat → Nat → Int32} (hH : lr_H vi vf vm vn) (h1 : vm 11 = 1) (hr : ((∀ k : Nat, 0 ≤ k → k ≤ 0 → (2 : Int) ≤ ((vn 2) k).toInt ∧ ((vn 2) k).toInt ≤ 9) ∧ (∀ k : Nat, 1 ≤ k → k ≤ 1 → (1 : Int) ≤ ((vn 2) k).toInt ∧ ((vn 2) k).toInt ≤ 20) ∧ (∀ k : Nat, 2 ≤ k → k ≤ 2 → (0 : Int) ≤ ((vn 2) k).toInt ∧ ((vn 2) k).toInt ≤ 8) ∧ (∀ k : Nat, 3 ≤ k → k ≤ 3 → (0 : Int) ≤ ((vn 2) k).toInt ∧ ((vn 2) k).toInt ≤ 100) ∧ (∀ k : Nat, 4 ≤ k → k ≤ 4 → (0 : Int) ≤ ((vn 2) k).toInt ∧ ((vn 2) k).toInt ≤ 9) ∧ (∀ k : Nat, 5 ≤ k → k ≤ 5 → (0 : Int) ≤ ((vn 2) k).toInt ∧ ((vn 2) k).toInt ≤ 3) ∧ (∀ k : Nat, 6 ≤ k → k ≤ 6 → (0 : Int) ≤ ((vn 2) k).toInt ∧ ((vn 2) k).toInt ≤ 6) ∧ (∀ k : Nat, 7 ≤ k → k ≤ 9 → (0 : Int) ≤ ((vn 2) k).toInt ∧ ((vn 2) k).toInt ≤ 8) ∧ (∀ k : Nat, 12 ≤ k → k ≤ 29 → (0 : Int) ≤ ((vn 2) k).toInt ∧ ((vn 2) k).toInt ≤ 20) ∧ (∀ k : Nat, 30 ≤ k → k ≤ 35 → (0 : Int) ≤ ((vn 2) k).toInt ∧ ((vn 2) k).toInt ≤ 8) ∧ (∀ k : Nat, 36 ≤ k → k ≤ 47 → (0 : Int) ≤ ((vn 2) k).toInt ∧ ((vn 2) k).toInt ≤ 999))) (hk : ((∀ (j i0 i : Int32), (0 : Int) ≤ j.toInt → j.toInt ≤ 8 → i0.toInt = 12 + 2 * j.toInt → i.toInt = 13 + 2 * j.toInt → ((vn 2) i0.toNatClampNeg).toInt = (1 : Int32).toInt → (1 : Int) ≤ ((vn 2) i.toNatClampNeg).toInt))) : rs_G (vi 33).toInt (vi 34).toInt (vi 35).toInt (vi 38).toInt (vi 39).toInt (fl_A (vf 11)) (fl_A (vf 12)) (fl_A (vn 2)) ∧ (vi 54 = 0 → rs_D (vi 53).toInt (vi 54).toInt (fl_A (vf 19)) (fl_A (vf 20)) (fl_A (vn 2))) ∧ (0 ≤ (vi 40).toInt ∧ (vi 40).toInt < (vi 33).toInt) := by
  rcases hH with ⟨z, -⟩ | ⟨-, ⟨f2, f9, f37⟩, ⟨⟨d1, d2, d3, d4⟩, d5, d6, d7⟩, ⟨e1, e2, e3, -⟩, ⟨w1, w2, w3, w4⟩, -⟩
  · rw [z] at h1; exact absurd h1 (by decide)
  obtain ⟨g7, g8, g9, g10⟩ := d7 f37
  have d11 : fl_A (vn 2) 11 = 1 := by
    rcases d2 with q | q
    · have := d3 q; omega
    · exact q
  obtain ⟨-, -, s1, s2, s3⟩ := d4 d11
  obtain ⟨r0, r1, r2, r3, r4, r5, r6, r7, r12, r30, r36⟩ := hr
  have rng : ∀ k : Nat, k < 9 → 0 ≤ fl_A (vn 2) (13 + 2 * k) ∧ fl_A (vn 2) (13 + 2 * k) ≤ 20 := fun k hk' => r12 (13 + 2 * k) (by omega) (by omega)
  have hkd : ∀ k : Nat, k < 9 → fl_A (vn 2) (12 + 2 * k) = 1 → 1 ≤ fl_A (vn 2) (13 + 2 * k) := by
    intro k hk' h9
    have a1 : (Int32.ofNat k).toInt = (k : Int) := by rw [Int32.toInt_ofNat_of_lt (by omega)]
    have a2 : (Int32.ofNat (12 + 2 * k)).toInt = 12 + 2 * (k : Int) := by rw [Int32.toInt_ofNat_of_lt (by omega)]; omega
    have a3 : (Int32.ofNat (13 + 2 * k)).toInt = 13 + 2 * (k : Int) := by rw [Int32.toInt_ofNat_of_lt (by omega)]; omega
    have b2 : (Int32.ofNat (12 + 2 * k)).toNatClampNeg = 12 + 2 * k := by show (Int32.ofNat (12 + 2 * k)).toInt.toNat = _; rw [a2]; omega
    have b3 : (Int32.ofNat (13 + 2 * k)).toNatClampNeg = 13 + 2 * k := by show (Int32.ofNat (13 + 2 * k)).toInt.toNat = _; rw [a3]; omega
    have q := hk (Int32.ofNat k) (Int32.ofNat (12 + 2 * k)) (Int32.ofNat (13 + 2 * k)) (by omega) (by omega) (by omega) (by omega) (by rw [b2]; exact h9.trans (by decide))
    rw [b3] at q
    exact q
  refine ⟨⟨⟨d1, f2, f9⟩, ⟨s1, ?_, ?_⟩, ⟨s2, ?_, ?_⟩, ⟨g7, ?_, ?_⟩, ⟨g8, ?_, ?_⟩, fun k hk' => ?_⟩, fun hp => ⟨w1, w2, w3, by rw [hp]; decide, fun w hw => ?_⟩, g10.1, by omega⟩
  · rw [s1]; exact (r1 1 (by decide) (by decide)).1
  · rw [s1]; exact (r1 1 (by decide) (by decide)).2
  · rw [s2]; exact (r2 2 (by decide) (by decide)).1
  · rw [s2]; exact (r2 2 (by decide) (by decide)).2
  · rw [g7]; exact (r7 7 (by decide) (by decide)).1
  · rw [g7]; exact (r7 7 (by decide) (by decide)).2
  · rw [g8]; exact (r7 8 (by decide) (by decide)).1
  · rw [g8]; exact (r7 8 (by decide) (by decide)).2
  · obtain ⟨q1, q2, -⟩ := e3 k hk'
    rw [q1, q2]
    exact ⟨rfl, rfl, (rng k hk').1, (rng k hk').2, hkd k hk'⟩
  · obtain ⟨q1, q2⟩ := w4 w hw
    exact ⟨q1, q2, r30 (30 + 2 * w) (by omega) (by omega), r30 (31 + 2 * w) (by omega) (by omega)⟩
end REL
end P09403_rel
section P094031_rel
section RELG
theorem lr_gal {tp tp9 tpm : Int32} {vi vi1 vm vm1 : Nat → Int32} {vf vf1 vn vn1 : Nat → Nat → Int32} (hR : lr_R tp vi vf vm vn) (h0 : 0 ≤ tp.toInt) (h9 : tp.toInt ≤ 900) (n : Int32) (kx1 : (∀ k9 : Nat, k9 ∉ ([0, 1, 2, 3, 4, 5, 6, 7, 8, 9, 10, 11, 12, 13, 14, 15, 16, 24, 25, 30, 31, 33, 34, 35, 36, 37, 38, 39, 40, 41, 42, 43, 44, 45, 46, 47, 48, 49, 50, 51, 52, 53, 54, 55, 56] : List Nat) → vi1 k9 = vi k9)) (kx2 : (∀ k9 : Nat, k9 ∉ ([1, 2, 11, 12, 13, 14, 15, 16, 17, 18, 19, 20, 21, 22] : List Nat) → vf1 k9 = vf k9)) (km1 : (∀ k9 : Nat, k9 ∉ ([0, 1, 2, 3, 4, 5, 6, 7, 8, 9, 10, 11, 12, 13] : List Nat) → vm1 k9 = vm k9)) (km2 : (∀ k9 : Nat, k9 ∉ ([1, 2, 3, 4] : List Nat) → vn1 k9 = vn k9)) (hM : vm1 11 = 0 ∨ (vm1 11 = 1 ∧ ((∀ k : Nat, 0 ≤ k → k ≤ 0 → (2 : Int) ≤ ((vn1 2) k).toInt ∧ ((vn1 2) k).toInt ≤ 9) ∧ (∀ k : Nat, 1 ≤ k → k ≤ 1 → (1 : Int) ≤ ((vn1 2) k).toInt ∧ ((vn1 2) k).toInt ≤ 20) ∧ (∀ k : Nat, 2 ≤ k → k ≤ 2 → (0 : Int) ≤ ((vn1 2) k).toInt ∧ ((vn1 2) k).toInt ≤ 8) ∧ (∀ k : Nat, 3 ≤ k → k ≤ 3 → (0 : Int) ≤ ((vn1 2) k).toInt ∧ ((vn1 2) k).toInt ≤ 100) ∧ (∀ k : Nat, 4 ≤ k → k ≤ 4 → (0 : Int) ≤ ((vn1 2) k).toInt ∧ ((vn1 2) k).toInt ≤ 9) ∧ (∀ k : Nat, 5 ≤ k → k ≤ 5 → (0 : Int) ≤ ((vn1 2) k).toInt ∧ ((vn1 2) k).toInt ≤ 3) ∧ (∀ k : Nat, 6 ≤ k → k ≤ 6 → (0 : Int) ≤ ((vn1 2) k).toInt ∧ ((vn1 2) k).toInt ≤ 6) ∧ (∀ k : Nat, 7 ≤ k → k ≤ 9 → (0 : Int) ≤ ((vn1 2) k).toInt ∧ ((vn1 2) k).toInt ≤ 8) ∧ (∀ k : Nat, 12 ≤ k → k ≤ 29 → (0 : Int) ≤ ((vn1 2) k).toInt ∧ ((vn1 2) k).toInt ≤ 20) ∧ (∀ k : Nat, 30 ≤ k → k ≤ 35 → (0 : Int) ≤ ((vn1 2) k).toInt ∧ ((vn1 2) k).toInt ≤ 8) ∧ (∀ k : Nat, 36 ≤ k → k ≤ 47 → (0 : Int) ≤ ((vn1 2) k).toInt ∧ ((vn1 2) k).toInt ≤ 999)) ∧ ((∀ (j i0 i : Int32), (0 : Int) ≤ j.toInt → j.toInt ≤ 8 → i0.toInt = 12 + 2 * j.toInt → i.toInt = 13 + 2 * j.toInt → ((vn1 2) i0.toNatClampNeg).toInt = (1 : Int32).toInt → (1 : Int) ≤ ((vn1 2) i.toNatClampNeg).toInt)))) (hL : 0 ≤ (vi1 26).toInt ∧ (vi1 26).toInt ≤ 15) (gx : (∃ (vl : Int64) (fl : Nat → Int64) (vl9 : Int64) (fl9 : Nat → Int64), ((Ff_X7_gallery n.toInt (vi 1).toInt (vi 2).toInt tp.toInt (vi 3).toInt (vi 4).toInt (vi 5).toInt (vi 6).toInt (vi 7).toInt (vi 8).toInt (vi 9).toInt vl.toInt (vi 10).toInt (vi 11).toInt (vi 43).toInt (vi 44).toInt (vi 45).toInt (vi 46).toInt (vi 47).toInt (vi 48).toInt (vi 49).toInt (vi 50).toInt (vi 51).toInt (vi 52).toInt (vi 55).toInt (fl_A (vf 15)) (fl_A (vf 16)) (fl_A (vf 0)) (fl_L fl) (fl_A (vf 21)) (fl_A (vf 22)) (fl_A (vf 18)) (fl_A (vf 17)) (vi 12).toInt (vi 13).toInt (vi 14).toInt (vi 15).toInt (vi 16).toInt (fl_A (vf 1)) (fl_A (vf 2)) (vi 24).toInt (vi 25).toInt (vi 30).toInt (vi 31).toInt).2 = ((vi1 0).toInt, (vi1 1).toInt, (vi1 2).toInt, tp9.toInt, (vi1 3).toInt, (vi1 4).toInt, (vi1 5).toInt, (vi1 6).toInt, (vi1 7).toInt, (vi1 8).toInt, (vi1 9).toInt, vl9.toInt, (vi1 10).toInt, (vi1 11).toInt, (vi1 33).toInt, (vi1 34).toInt, (vi1 35).toInt, (vi1 36).toInt, (vi1 37).toInt, (vi1 38).toInt, (vi1 39).toInt, (vi1 40).toInt, (vi1 41).toInt, (vi1 42).toInt, (vi1 53).toInt, fl_A (vf1 11), fl_A (vf1 12), fl_L fl9, fl_A (vf1 19), fl_A (vf1 20), fl_A (vf1 14), fl_A (vf1 13), (vi1 12).toInt, (vi1 13).toInt, (vi1 14).toInt, (vi1 15).toInt, (vi1 16).toInt, fl_A (vf1 1), fl_A (vf1 2), (vi1 24).toInt, (vi1 25).toInt, (vi1 30).toInt, (vi1 31).toInt, 0) ∧ vi1 54 = vi 56 ∧ vi1 56 = vi 54) ∨ ((Ff_X7_gallery n.toInt (vi 1).toInt (vi 2).toInt tp.toInt (vi 3).toInt (vi 4).toInt (vi 5).toInt (vi 6).toInt (vi 7).toInt (vi 8).toInt (vi 9).toInt vl.toInt (vi 10).toInt (vi 11).toInt (vi 43).toInt (vi 44).toInt (vi 45).toInt (vi 46).toInt (vi 47).toInt (vi 48).toInt (vi 49).toInt (vi 50).toInt (vi 51).toInt (vi 52).toInt (vi 55).toInt (fl_A (vf 15)) (fl_A (vf 16)) (fl_A (vf 0)) (fl_L fl) (fl_A (vf 21)) (fl_A (vf 22)) (fl_A (vf 18)) (fl_A (vf 17)) (vi 12).toInt (vi 13).toInt (vi 14).toInt (vi 15).toInt (vi 16).toInt (fl_A (vf 1)) (fl_A (vf 2)) (vi 24).toInt (vi 25).toInt (vi 30).toInt (vi 31).toInt).2 = ((vi1 0).toInt, (vi1 1).toInt, (vi1 2).toInt, tp9.toInt, (vi1 3).toInt, (vi1 4).toInt, (vi1 5).toInt, (vi1 6).toInt, (vi1 7).toInt, (vi1 8).toInt, (vi1 9).toInt, vl9.toInt, (vi1 10).toInt, (vi1 11).toInt, (vi1 43).toInt, (vi1 44).toInt, (vi1 45).toInt, (vi1 46).toInt, (vi1 47).toInt, (vi1 48).toInt, (vi1 49).toInt, (vi1 50).toInt, (vi1 51).toInt, (vi1 52).toInt, (vi1 55).toInt, fl_A (vf1 15), fl_A (vf1 16), fl_L fl9, fl_A (vf1 21), fl_A (vf1 22), fl_A (vf1 18), fl_A (vf1 17), (vi1 12).toInt, (vi1 13).toInt, (vi1 14).toInt, (vi1 15).toInt, (vi1 16).toInt, fl_A (vf1 1), fl_A (vf1 2), (vi1 24).toInt, (vi1 25).toInt, (vi1 30).toInt, (vi1 31).toInt, 1) ∧ (∀ k9 : Nat, k9 ∈ ([33, 34, 35, 36, 37, 38, 39, 40, 41, 42, 53, 54] : List Nat) → vi1 k9 = vi k9) ∧ (∀ k9 : Nat, k9 ∈ ([11, 12, 13, 14, 19, 20] : List Nat) → vf1 k9 = vf k9) ∧ vi1 56 = vi 56))) (gm : ((Ff_X8_gallery n.toInt tp.toInt (vm 1).toInt (vm 2).toInt (vm 3).toInt (vm 4).toInt (vm 5).toInt (vm 6).toInt (vm 7).toInt (vm 8).toInt (vm 10).toInt (vm 11).toInt (vm 12).toInt (vm 13).toInt (fl_A (vn 3)) (fl_A (vn 0)) (fl_A (vn 1)) (fl_A (vn 2)) (fl_A (vn 4))).2 = ((vm1 0).toInt, tpm.toInt, (vm1 1).toInt, (vm1 2).toInt, (vm1 3).toInt, (vm1 4).toInt, (vm1 5).toInt, (vm1 6).toInt, (vm1 7).toInt, (vm1 8).toInt, (vm1 9).toInt, (vm1 10).toInt, (vm1 11).toInt, (vm1 12).toInt, (vm1 13).toInt, fl_A (vn1 3), fl_A (vn1 1), fl_A (vn1 2), fl_A (vn1 4)))) : lr_Q vi1 vf1 vm1 vn1 := by
  obtain ⟨hT, hF, hH, hV⟩ := hR
  obtain ⟨vl, fl, vl9, fl9, gx⟩ := gx
  have n01 : ¬ (0 : Int) = 1 := by decide
  by_cases h : 0 ≤ n.toInt ∧ n.toInt ≤ tp.toInt
  · rcases rp_gal h.1 h.2 h9 (tp := fl_A (vf 0)) (tm := fl_A (vn 0)) (fun i hi => hT i (by omega)) vl.toInt (vi 10).toInt (vi 11).toInt (vi 44).toInt (vi 45).toInt (vi 46).toInt (vi 48).toInt (vi 49).toInt (vi 50).toInt (fl_A (vf 15)) (fl_A (vf 16)) (fl_L fl) (fl_A (vf 21)) (fl_A (vf 22)) (fl_A (vf 18)) (fl_A (vf 17)) (vm 1).toInt (vm 2).toInt (vm 3).toInt (vm 4).toInt (vm 5).toInt (vm 6).toInt (vm 7).toInt (vm 8).toInt (vm 10).toInt (vm 11).toInt (vm 12).toInt (vm 13).toInt (fl_A (vn 3)) (fl_A (vn 1)) (fl_A (vn 2)) (fl_A (vn 4)) with ⟨q_c, q_st, q_be, q_tk, q_wd, q_wh, q_ta, q_fg, q_sp, q_sa, q_sh, q_lw, q_ti, q_pu, q_fi, q_tb, q_sc, q_wc, q_kd, q_me, q_nm, q_wf, q_wt, q_sm, q_sf, fr3, lt3, at3, en3, tk6, wm3, ns3, s1, b1, b2, b3, b4, b5, b6, b7⟩ | ⟨q, p, b1, y1, y2, y3, y4, y5, y6, y7, b2⟩
    · obtain ⟨b_pl, b_he, hbg, hbk⟩ := rp_begin q_fi (fl_A (vf 1)) (fl_A (vf 2))
      have ex : Ff_X7_gallery n.toInt (vi 1).toInt (vi 2).toInt tp.toInt (vi 3).toInt (vi 4).toInt (vi 5).toInt (vi 6).toInt (vi 7).toInt (vi 8).toInt (vi 9).toInt vl.toInt (vi 10).toInt (vi 11).toInt (vi 43).toInt (vi 44).toInt (vi 45).toInt (vi 46).toInt (vi 47).toInt (vi 48).toInt (vi 49).toInt (vi 50).toInt (vi 51).toInt (vi 52).toInt (vi 55).toInt (fl_A (vf 15)) (fl_A (vf 16)) (fl_A (vf 0)) (fl_L fl) (fl_A (vf 21)) (fl_A (vf 22)) (fl_A (vf 18)) (fl_A (vf 17)) (vi 12).toInt (vi 13).toInt (vi 14).toInt (vi 15).toInt (vi 16).toInt (fl_A (vf 1)) (fl_A (vf 2)) (vi 24).toInt (vi 25).toInt (vi 30).toInt (vi 31).toInt = (q_fg, 0, 0, (-1), 0, 0, (-1), q_c, n.toInt, q_st, q_be, q_tk, q_wd, q_wh, q_ta, q_fg, q_sp, q_sa, q_sh, q_lw, q_ti, q_pu, q_fi, q_tb, q_sc, q_wc, q_kd, q_me, q_nm, q_wf, q_wt, q_sm, q_sf, 0, q_fi, 0, 0, 0, b_pl, b_he, 0, 0, 0, 0, 0) := by
        unfold Ff_X7_gallery
        rw [fl_lt_eq ((rp_in n.toInt 0 tp.toInt).trans (rp_in1 h.1 h.2)).symm, if_pos rfl, b1, fl_c29_eq rfl, if_pos rfl, hbg, fl_c7_eq rfl]; rfl
      rw [ex] at gx
      rcases gx with ⟨g1, g2, g3⟩ | ⟨g1, g2, g3, g4⟩
      · clear ex hbg b1
        have e0 : q_fg = (vi1 33).toInt := congrArg (fun z9 => z9.2.2.2.2.2.2.2.2.2.2.2.2.2.2.1) g1
        have e1 : q_sp = (vi1 34).toInt := congrArg (fun z9 => z9.2.2.2.2.2.2.2.2.2.2.2.2.2.2.2.1) g1
        have e2 : q_sa = (vi1 35).toInt := congrArg (fun z9 => z9.2.2.2.2.2.2.2.2.2.2.2.2.2.2.2.2.1) g1
        have e3 : q_sh = (vi1 36).toInt := congrArg (fun z9 => z9.2.2.2.2.2.2.2.2.2.2.2.2.2.2.2.2.2.1) g1
        have e4 : q_lw = (vi1 37).toInt := congrArg (fun z9 => z9.2.2.2.2.2.2.2.2.2.2.2.2.2.2.2.2.2.2.1) g1
        have e5 : q_ti = (vi1 38).toInt := congrArg (fun z9 => z9.2.2.2.2.2.2.2.2.2.2.2.2.2.2.2.2.2.2.2.1) g1
        have e6 : q_pu = (vi1 39).toInt := congrArg (fun z9 => z9.2.2.2.2.2.2.2.2.2.2.2.2.2.2.2.2.2.2.2.2.1) g1
        have e7 : q_fi = (vi1 40).toInt := congrArg (fun z9 => z9.2.2.2.2.2.2.2.2.2.2.2.2.2.2.2.2.2.2.2.2.2.1) g1
        have e8 : q_tb = (vi1 41).toInt := congrArg (fun z9 => z9.2.2.2.2.2.2.2.2.2.2.2.2.2.2.2.2.2.2.2.2.2.2.1) g1
        have e9 : q_sc = (vi1 42).toInt := congrArg (fun z9 => z9.2.2.2.2.2.2.2.2.2.2.2.2.2.2.2.2.2.2.2.2.2.2.2.1) g1
        have e10 : q_wc = (vi1 53).toInt := congrArg (fun z9 => z9.2.2.2.2.2.2.2.2.2.2.2.2.2.2.2.2.2.2.2.2.2.2.2.2.1) g1
        have e11 : q_kd = fl_A (vf1 11) := congrArg (fun z9 => z9.2.2.2.2.2.2.2.2.2.2.2.2.2.2.2.2.2.2.2.2.2.2.2.2.2.1) g1
        have e12 : q_me = fl_A (vf1 12) := congrArg (fun z9 => z9.2.2.2.2.2.2.2.2.2.2.2.2.2.2.2.2.2.2.2.2.2.2.2.2.2.2.1) g1
        have e13 : q_sf = fl_A (vf1 13) := congrArg (fun z9 => z9.2.2.2.2.2.2.2.2.2.2.2.2.2.2.2.2.2.2.2.2.2.2.2.2.2.2.2.2.2.2.2.1) g1
        have e14 : q_sm = fl_A (vf1 14) := congrArg (fun z9 => z9.2.2.2.2.2.2.2.2.2.2.2.2.2.2.2.2.2.2.2.2.2.2.2.2.2.2.2.2.2.2.1) g1
        have e15 : q_wf = fl_A (vf1 19) := congrArg (fun z9 => z9.2.2.2.2.2.2.2.2.2.2.2.2.2.2.2.2.2.2.2.2.2.2.2.2.2.2.2.2.1) g1
        have e16 : q_wt = fl_A (vf1 20) := congrArg (fun z9 => z9.2.2.2.2.2.2.2.2.2.2.2.2.2.2.2.2.2.2.2.2.2.2.2.2.2.2.2.2.2.1) g1
        have ef : (0 : Int) = (vi1 1).toInt := congrArg (fun z9 => z9.2.1) g1
        have p_mi : (0 : Int) = (vi1 12).toInt := congrArg (fun z9 => z9.2.2.2.2.2.2.2.2.2.2.2.2.2.2.2.2.2.2.2.2.2.2.2.2.2.2.2.2.2.2.2.2.1) g1
        have p_tu : (q_fi : Int) = (vi1 13).toInt := congrArg (fun z9 => z9.2.2.2.2.2.2.2.2.2.2.2.2.2.2.2.2.2.2.2.2.2.2.2.2.2.2.2.2.2.2.2.2.2.1) g1
        have p_sn : (0 : Int) = (vi1 14).toInt := congrArg (fun z9 => z9.2.2.2.2.2.2.2.2.2.2.2.2.2.2.2.2.2.2.2.2.2.2.2.2.2.2.2.2.2.2.2.2.2.2.1) g1
        have p_go : (0 : Int) = (vi1 15).toInt := congrArg (fun z9 => z9.2.2.2.2.2.2.2.2.2.2.2.2.2.2.2.2.2.2.2.2.2.2.2.2.2.2.2.2.2.2.2.2.2.2.2.1) g1
        have p_ca : (0 : Int) = (vi1 16).toInt := congrArg (fun z9 => z9.2.2.2.2.2.2.2.2.2.2.2.2.2.2.2.2.2.2.2.2.2.2.2.2.2.2.2.2.2.2.2.2.2.2.2.2.1) g1
        have p_pl : (b_pl : Nat → Int) = fl_A (vf1 1) := congrArg (fun z9 => z9.2.2.2.2.2.2.2.2.2.2.2.2.2.2.2.2.2.2.2.2.2.2.2.2.2.2.2.2.2.2.2.2.2.2.2.2.2.1) g1
        have p_he : (b_he : Nat → Int) = fl_A (vf1 2) := congrArg (fun z9 => z9.2.2.2.2.2.2.2.2.2.2.2.2.2.2.2.2.2.2.2.2.2.2.2.2.2.2.2.2.2.2.2.2.2.2.2.2.2.2.1) g1
        have p_U : (0 : Int) = (vi1 24).toInt := congrArg (fun z9 => z9.2.2.2.2.2.2.2.2.2.2.2.2.2.2.2.2.2.2.2.2.2.2.2.2.2.2.2.2.2.2.2.2.2.2.2.2.2.2.2.1) g1
        have p_N : (0 : Int) = (vi1 25).toInt := congrArg (fun z9 => z9.2.2.2.2.2.2.2.2.2.2.2.2.2.2.2.2.2.2.2.2.2.2.2.2.2.2.2.2.2.2.2.2.2.2.2.2.2.2.2.2.1) g1
        rw [b2] at gm
        have mf : (0 : Int) = (vm1 7).toInt := congrArg (fun z9 => z9.2.2.2.2.2.2.2.2.1) gm
        have mh : (1 : Int) = (vm1 11).toInt := congrArg (fun z9 => z9.2.2.2.2.2.2.2.2.2.2.2.2.1) gm
        have mr : va_cpy fr3 (fl_A (vn 2)) 0 0 156 = fl_A (vn1 2) := congrArg (fun z9 => z9.2.2.2.2.2.2.2.2.2.2.2.2.2.2.2.2.2.1) gm
        have r_st : s1 = fl_A (vn1 4) := congrArg (fun z9 => z9.2.2.2.2.2.2.2.2.2.2.2.2.2.2.2.2.2.2) gm
        have r_U : (0 : Int) = (vm1 12).toInt := congrArg (fun z9 => z9.2.2.2.2.2.2.2.2.2.2.2.2.2.1) gm
        have r_N : (0 : Int) = (vm1 13).toInt := congrArg (fun z9 => z9.2.2.2.2.2.2.2.2.2.2.2.2.2.2.1) gm
        clear g1 gm
        subst e0
        subst e1
        subst e2
        subst e3
        subst e4
        subst e5
        subst e6
        subst e7
        subst e8
        subst e9
        subst e10
        subst e11
        subst e12
        subst e13
        subst e14
        subst e15
        subst e16
        have m11 : vm1 11 = 1 := Int32.toInt_inj.mp mh.symm
        have hHn : lr_H vi1 vf1 vm1 vn1 := by
          refine Or.inr ⟨m11, ⟨b4, b5, b3⟩, ?_⟩
          rw [← mr]
          exact lr_D_cg (fun i hi => lr_cpy i hi) ⟨b6.1, b6.2.1, b6.2.2.1, b6.2.2.2.1⟩
        rcases hM with z9 | ⟨-, hrs, hkm⟩
        · rw [m11] at z9; exact absurd z9 (by decide)
        obtain ⟨hG, -, hfi⟩ := lr_G hHn m11 hrs hkm
        obtain ⟨⟨-, h2, h9'⟩, ⟨-, hsp, -⟩, -⟩ := id hG
        have e0 : (vi1 33).toInt = fr3 0 := b6.1.1.1
        have e9 : (vi1 40).toInt = fr3 9 := (b6.1.2.2.2 b3).2.2.1
        have k21 : s1 21 = 0 := by rw [b7 21 (by decide), if_neg (by decide), if_neg (by omega)]
        have k20 : s1 20 = 0 := by rw [b7 20 (by decide), if_neg (by decide), if_neg (by omega)]
        have k18 : s1 18 = 0 := by rw [b7 18 (by decide), if_neg (by decide), if_neg (by omega)]
        have k22 : s1 22 = 0 := by rw [b7 22 (by decide), if_neg (by decide), if_neg (by omega)]
        have k19 : s1 19 = fr3 9 := by rw [b7 19 (by decide), if_pos rfl]
        have hSn : rs_S (vi1 33).toInt (vi1 34).toInt (fl_A (vf1 11)) 0 (vi1 40).toInt 0 0 0 b_pl b_he s1 := by
          refine ⟨⟨k21.symm, e9.trans k19.symm, k20.symm, k18.symm, k22.symm⟩, by omega, hfi, ⟨by omega, by omega⟩, ⟨by omega, by omega⟩, fun k hk' => ?_⟩
          obtain ⟨c1, c2⟩ := hbk k (by omega)
          have d1 : s1 k = (k : Int) := by rw [b7 k (by omega), if_neg (by omega), if_pos (by omega)]
          have d2 : s1 (9 + k) = 0 := by rw [b7 (9 + k) (by omega), if_neg (by omega), if_neg (by omega)]
          refine ⟨by rw [c1, d1], by rw [c2, d2], by rw [c1]; omega, fun h9 => ?_⟩
          have b0 := rs_b0 ⟨k, by omega⟩
          simp only at b0
          omega
        refine ⟨ef.symm.trans mf, hHn, ⟨by rw [g2]; exact hV.1.2, by rw [g3]; exact hV.1.1⟩, Or.inr ⟨m11, ?_, ?_, ?_, ?_, ?_, ?_⟩⟩
        · rw [← p_mi, ← p_tu, ← p_sn, ← p_go, ← p_ca, ← p_pl, ← p_he, ← r_st]
          exact hSn
        · rw [← p_mi]; omega
        · rw [← p_U, ← r_U]
        · rw [← p_N, ← r_N]
        · rw [← p_U]
          exact ⟨⟨by omega, by omega⟩, hL, fun i hi => by omega⟩
        · rw [← p_N]
          exact ⟨⟨by omega, by omega⟩, fun i hi => by omega⟩
      · exact absurd (congrArg (fun z9 => z9.2.2.2.2.2.2.2.2.2.2.2.2.2.2.2.2.2.2.2.2.2.2.2.2.2.2.2.2.2.2.2.2.2.2.2.2.2.2.2.2.2.2.2) g1 : (0 : Int) = 1) n01
    · generalize hG : Ff_X3_read n.toInt tp.toInt vl.toInt (vi 10).toInt (vi 11).toInt (vi 44).toInt (vi 45).toInt (vi 46).toInt (vi 48).toInt (vi 49).toInt (vi 50).toInt (fl_A (vf 15)) (fl_A (vf 16)) (fl_A (vf 0)) (fl_L fl) (fl_A (vf 21)) (fl_A (vf 22)) (fl_A (vf 18)) (fl_A (vf 17)) = G at b1
      obtain ⟨g1_, g2_, g3_, g4_, g5_, g6_, g7_, g8_, g9_, g10_, g11_, g12_, g13_, g14_, g15_, g16_, g17_, g18_, g19_, g20_, g21_, g22_, g23_, g24_, g25_, g26_, g27_, g28_, g29_⟩ := G
      have e1 : g1_ = 0 := b1.1
      subst e1
      have ex : Ff_X7_gallery n.toInt (vi 1).toInt (vi 2).toInt tp.toInt (vi 3).toInt (vi 4).toInt (vi 5).toInt (vi 6).toInt (vi 7).toInt (vi 8).toInt (vi 9).toInt vl.toInt (vi 10).toInt (vi 11).toInt (vi 43).toInt (vi 44).toInt (vi 45).toInt (vi 46).toInt (vi 47).toInt (vi 48).toInt (vi 49).toInt (vi 50).toInt (vi 51).toInt (vi 52).toInt (vi 55).toInt (fl_A (vf 15)) (fl_A (vf 16)) (fl_A (vf 0)) (fl_L fl) (fl_A (vf 21)) (fl_A (vf 22)) (fl_A (vf 18)) (fl_A (vf 17)) (vi 12).toInt (vi 13).toInt (vi 14).toInt (vi 15).toInt (vi 16).toInt (fl_A (vf 1)) (fl_A (vf 2)) (vi 24).toInt (vi 25).toInt (vi 30).toInt (vi 31).toInt = ((-1), 4, g2_, g3_, 0, g2_, g3_, g4_, g5_, g6_, g7_, g8_, g9_, g10_, g11_, g12_, g13_, g14_, g15_, g16_, g17_, g18_, g19_, g20_, g21_, g22_, g23_, g24_, g25_, g26_, g27_, g28_, g29_, (vi 12).toInt, (vi 13).toInt, (vi 14).toInt, (vi 15).toInt, (vi 16).toInt, (fl_A (vf 1)), (fl_A (vf 2)), (vi 24).toInt, (vi 25).toInt, (vi 30).toInt, (vi 31).toInt, 1) := by
        unfold Ff_X7_gallery
        rw [fl_lt_eq ((rp_in n.toInt 0 tp.toInt).trans (rp_in1 h.1 h.2)).symm, if_pos rfl, hG, fl_c29_eq rfl, if_neg n01]; rfl
      rw [ex] at gx
      rcases gx with ⟨g1, g2, g3⟩ | ⟨g1, g2, g3, g4⟩
      · exact absurd (congrArg (fun z9 => z9.2.2.2.2.2.2.2.2.2.2.2.2.2.2.2.2.2.2.2.2.2.2.2.2.2.2.2.2.2.2.2.2.2.2.2.2.2.2.2.2.2.2.2) g1 : (1 : Int) = 0).symm n01
      · rw [b2] at gm
        have ef : g2_ = (vi1 1).toInt := congrArg (fun z9 => z9.2.1) g1
        have mf : q = (vm1 7).toInt := congrArg (fun z9 => z9.2.2.2.2.2.2.2.2.1) gm
        have e2 : g2_ = q := b1.2.1
        have mh : (vm 11).toInt = (vm1 11).toInt := congrArg (fun z9 => z9.2.2.2.2.2.2.2.2.2.2.2.2.1) gm
        have mr : (fl_A (vn 2)) = fl_A (vn1 2) := congrArg (fun z9 => z9.2.2.2.2.2.2.2.2.2.2.2.2.2.2.2.2.2.1) gm
        have p_mi : (vi 12).toInt = (vi1 12).toInt := congrArg (fun z9 => z9.2.2.2.2.2.2.2.2.2.2.2.2.2.2.2.2.2.2.2.2.2.2.2.2.2.2.2.2.2.2.2.2.1) g1
        have p_tu : (vi 13).toInt = (vi1 13).toInt := congrArg (fun z9 => z9.2.2.2.2.2.2.2.2.2.2.2.2.2.2.2.2.2.2.2.2.2.2.2.2.2.2.2.2.2.2.2.2.2.1) g1
        have p_sn : (vi 14).toInt = (vi1 14).toInt := congrArg (fun z9 => z9.2.2.2.2.2.2.2.2.2.2.2.2.2.2.2.2.2.2.2.2.2.2.2.2.2.2.2.2.2.2.2.2.2.2.1) g1
        have p_go : (vi 15).toInt = (vi1 15).toInt := congrArg (fun z9 => z9.2.2.2.2.2.2.2.2.2.2.2.2.2.2.2.2.2.2.2.2.2.2.2.2.2.2.2.2.2.2.2.2.2.2.2.1) g1
        have p_ca : (vi 16).toInt = (vi1 16).toInt := congrArg (fun z9 => z9.2.2.2.2.2.2.2.2.2.2.2.2.2.2.2.2.2.2.2.2.2.2.2.2.2.2.2.2.2.2.2.2.2.2.2.2.1) g1
        have p_pl : (fl_A (vf 1)) = fl_A (vf1 1) := congrArg (fun z9 => z9.2.2.2.2.2.2.2.2.2.2.2.2.2.2.2.2.2.2.2.2.2.2.2.2.2.2.2.2.2.2.2.2.2.2.2.2.2.1) g1
        have p_he : (fl_A (vf 2)) = fl_A (vf1 2) := congrArg (fun z9 => z9.2.2.2.2.2.2.2.2.2.2.2.2.2.2.2.2.2.2.2.2.2.2.2.2.2.2.2.2.2.2.2.2.2.2.2.2.2.2.1) g1
        have p_U : (vi 24).toInt = (vi1 24).toInt := congrArg (fun z9 => z9.2.2.2.2.2.2.2.2.2.2.2.2.2.2.2.2.2.2.2.2.2.2.2.2.2.2.2.2.2.2.2.2.2.2.2.2.2.2.2.1) g1
        have p_N : (vi 25).toInt = (vi1 25).toInt := congrArg (fun z9 => z9.2.2.2.2.2.2.2.2.2.2.2.2.2.2.2.2.2.2.2.2.2.2.2.2.2.2.2.2.2.2.2.2.2.2.2.2.2.2.2.2.1) g1
        have r_st : (fl_A (vn 4)) = fl_A (vn1 4) := congrArg (fun z9 => z9.2.2.2.2.2.2.2.2.2.2.2.2.2.2.2.2.2.2) gm
        have r_U : (vm 12).toInt = (vm1 12).toInt := congrArg (fun z9 => z9.2.2.2.2.2.2.2.2.2.2.2.2.2.1) gm
        have r_N : (vm 13).toInt = (vm1 13).toInt := congrArg (fun z9 => z9.2.2.2.2.2.2.2.2.2.2.2.2.2.2.1) gm
        have hVn : lr_V vi1 vf1 vm1 vn1 := by
          refine ⟨⟨by rw [g2 54 (by decide)]; exact hV.1.1, by rw [g4]; exact hV.1.2⟩, ?_⟩
          have m11 : vm1 11 = vm 11 := Int32.toInt_inj.mp mh.symm
          rw [m11, g2 33 (by decide), g2 34 (by decide), g3 11 (by decide), ← p_mi, ← p_tu, ← p_sn, ← p_go, ← p_ca, ← p_pl, ← p_he, ← p_U, ← p_N, ← r_st, ← r_U, ← r_N, kx1 26 (by decide), km2 6 (by decide), km2 7 (by decide)]
          have i12 : vi1 12 = vi 12 := Int32.toInt_inj.mp p_mi.symm
          have i24 : vi1 24 = vi 24 := Int32.toInt_inj.mp p_U.symm
          have i25 : vi1 25 = vi 25 := Int32.toInt_inj.mp p_N.symm
          have j12 : vm1 12 = vm 12 := Int32.toInt_inj.mp r_U.symm
          have j13 : vm1 13 = vm 13 := Int32.toInt_inj.mp r_N.symm
          rw [i12, i24, i25, j12, j13]
          rcases hV.2 with h4 | ⟨a, b, c, d, e, f, g⟩
          · exact Or.inl h4
          · exact Or.inr ⟨a, b, c, d, e, rs_H_cg (fun k h9 => by show (vi1 (57 + k)).toInt = (vi (57 + k)).toInt; rw [kx1 (57 + k) (kp_out (a := 57) (b := 137) (by decide) (by omega) (by omega))]) (fun k h9 => by show fl_A (vf1 (23 + k)) = fl_A (vf (23 + k)); rw [kx2 (23 + k) (kp_out (a := 23) (b := 55) (by decide) (by omega) (by omega))]) f, rs_I_cg (fun k h9 => by show (vi1 (137 + k)).toInt = (vi (137 + k)).toInt; rw [kx1 (137 + k) (kp_out (a := 137) (b := 152) (by decide) (by omega) (by omega))]) (fun k h9 => by show fl_A (vf1 (55 + k)) = fl_A (vf (55 + k)); rw [kx2 (55 + k) (kp_out (a := 55) (b := 61) (by decide) (by omega) (by omega))]) g⟩
        exact ⟨by rw [← ef, ← mf, e2], lr_H_keep (g2 33 (by decide)) (g2 34 (by decide)) (g2 35 (by decide)) (g2 36 (by decide)) (g2 37 (by decide)) (g2 38 (by decide)) (g2 39 (by decide)) (g2 40 (by decide)) (g2 41 (by decide)) (g2 42 (by decide)) (g2 53 (by decide)) (g3 11 (by decide)) (g3 12 (by decide)) (g3 13 (by decide)) (g3 14 (by decide)) (g3 19 (by decide)) (g3 20 (by decide)) (Int32.toInt_inj.mp mh.symm) mr.symm hH, hVn⟩
  · have ex : Ff_X7_gallery n.toInt (vi 1).toInt (vi 2).toInt tp.toInt (vi 3).toInt (vi 4).toInt (vi 5).toInt (vi 6).toInt (vi 7).toInt (vi 8).toInt (vi 9).toInt vl.toInt (vi 10).toInt (vi 11).toInt (vi 43).toInt (vi 44).toInt (vi 45).toInt (vi 46).toInt (vi 47).toInt (vi 48).toInt (vi 49).toInt (vi 50).toInt (vi 51).toInt (vi 52).toInt (vi 55).toInt (fl_A (vf 15)) (fl_A (vf 16)) (fl_A (vf 0)) (fl_L fl) (fl_A (vf 21)) (fl_A (vf 22)) (fl_A (vf 18)) (fl_A (vf 17)) (vi 12).toInt (vi 13).toInt (vi 14).toInt (vi 15).toInt (vi 16).toInt (fl_A (vf 1)) (fl_A (vf 2)) (vi 24).toInt (vi 25).toInt (vi 30).toInt (vi 31).toInt = ((-1), 2, (vi 1).toInt, (vi 2).toInt, tp.toInt, (vi 3).toInt, (vi 4).toInt, (vi 5).toInt, (vi 6).toInt, (vi 7).toInt, (vi 8).toInt, (vi 9).toInt, vl.toInt, (vi 10).toInt, (vi 11).toInt, (vi 43).toInt, (vi 44).toInt, (vi 45).toInt, (vi 46).toInt, (vi 47).toInt, (vi 48).toInt, (vi 49).toInt, (vi 50).toInt, (vi 51).toInt, (vi 52).toInt, (vi 55).toInt, (fl_A (vf 15)), (fl_A (vf 16)), (fl_L fl), (fl_A (vf 21)), (fl_A (vf 22)), (fl_A (vf 18)), (fl_A (vf 17)), (vi 12).toInt, (vi 13).toInt, (vi 14).toInt, (vi 15).toInt, (vi 16).toInt, (fl_A (vf 1)), (fl_A (vf 2)), (vi 24).toInt, (vi 25).toInt, (vi 30).toInt, (vi 31).toInt, 1) := by
      unfold Ff_X7_gallery
      rw [fl_lt_eq ((rp_in n.toInt 0 tp.toInt).trans (rp_in0 h)).symm, if_neg n01]; rfl
    have b2 : Ff_X8_gallery n.toInt tp.toInt (vm 1).toInt (vm 2).toInt (vm 3).toInt (vm 4).toInt (vm 5).toInt (vm 6).toInt (vm 7).toInt (vm 8).toInt (vm 10).toInt (vm 11).toInt (vm 12).toInt (vm 13).toInt (fl_A (vn 3)) (fl_A (vn 0)) (fl_A (vn 1)) (fl_A (vn 2)) (fl_A (vn 4)) = ((-1), 0, tp.toInt, (vm 1).toInt, (vm 2).toInt, (vm 3).toInt, (vm 4).toInt, (vm 5).toInt, (vm 6).toInt, (vm 7).toInt, (vm 8).toInt, 2, (vm 10).toInt, (vm 11).toInt, (vm 12).toInt, (vm 13).toInt, (fl_A (vn 3)), (fl_A (vn 1)), (fl_A (vn 2)), (fl_A (vn 4))) := by
      unfold Ff_X8_gallery Ff_X8_good
      rw [fl_c2_eq rfl, fl_lt_eq (rp_in0 h).symm, if_neg n01]; rfl
    rw [ex] at gx
    rcases gx with ⟨g1, g2, g3⟩ | ⟨g1, g2, g3, g4⟩
    · exact absurd (congrArg (fun z9 => z9.2.2.2.2.2.2.2.2.2.2.2.2.2.2.2.2.2.2.2.2.2.2.2.2.2.2.2.2.2.2.2.2.2.2.2.2.2.2.2.2.2.2.2) g1 : (1 : Int) = 0).symm n01
    · rw [b2] at gm
      have ef : (vi 1).toInt = (vi1 1).toInt := congrArg (fun z9 => z9.2.1) g1
      have mf : (vm 7).toInt = (vm1 7).toInt := congrArg (fun z9 => z9.2.2.2.2.2.2.2.2.1) gm
      have mh : (vm 11).toInt = (vm1 11).toInt := congrArg (fun z9 => z9.2.2.2.2.2.2.2.2.2.2.2.2.1) gm
      have mr : (fl_A (vn 2)) = fl_A (vn1 2) := congrArg (fun z9 => z9.2.2.2.2.2.2.2.2.2.2.2.2.2.2.2.2.2.1) gm
      have p_mi : (vi 12).toInt = (vi1 12).toInt := congrArg (fun z9 => z9.2.2.2.2.2.2.2.2.2.2.2.2.2.2.2.2.2.2.2.2.2.2.2.2.2.2.2.2.2.2.2.2.1) g1
      have p_tu : (vi 13).toInt = (vi1 13).toInt := congrArg (fun z9 => z9.2.2.2.2.2.2.2.2.2.2.2.2.2.2.2.2.2.2.2.2.2.2.2.2.2.2.2.2.2.2.2.2.2.1) g1
      have p_sn : (vi 14).toInt = (vi1 14).toInt := congrArg (fun z9 => z9.2.2.2.2.2.2.2.2.2.2.2.2.2.2.2.2.2.2.2.2.2.2.2.2.2.2.2.2.2.2.2.2.2.2.1) g1
      have p_go : (vi 15).toInt = (vi1 15).toInt := congrArg (fun z9 => z9.2.2.2.2.2.2.2.2.2.2.2.2.2.2.2.2.2.2.2.2.2.2.2.2.2.2.2.2.2.2.2.2.2.2.2.1) g1
      have p_ca : (vi 16).toInt = (vi1 16).toInt := congrArg (fun z9 => z9.2.2.2.2.2.2.2.2.2.2.2.2.2.2.2.2.2.2.2.2.2.2.2.2.2.2.2.2.2.2.2.2.2.2.2.2.1) g1
      have p_pl : (fl_A (vf 1)) = fl_A (vf1 1) := congrArg (fun z9 => z9.2.2.2.2.2.2.2.2.2.2.2.2.2.2.2.2.2.2.2.2.2.2.2.2.2.2.2.2.2.2.2.2.2.2.2.2.2.1) g1
      have p_he : (fl_A (vf 2)) = fl_A (vf1 2) := congrArg (fun z9 => z9.2.2.2.2.2.2.2.2.2.2.2.2.2.2.2.2.2.2.2.2.2.2.2.2.2.2.2.2.2.2.2.2.2.2.2.2.2.2.1) g1
      have p_U : (vi 24).toInt = (vi1 24).toInt := congrArg (fun z9 => z9.2.2.2.2.2.2.2.2.2.2.2.2.2.2.2.2.2.2.2.2.2.2.2.2.2.2.2.2.2.2.2.2.2.2.2.2.2.2.2.1) g1
      have p_N : (vi 25).toInt = (vi1 25).toInt := congrArg (fun z9 => z9.2.2.2.2.2.2.2.2.2.2.2.2.2.2.2.2.2.2.2.2.2.2.2.2.2.2.2.2.2.2.2.2.2.2.2.2.2.2.2.2.1) g1
      have r_st : (fl_A (vn 4)) = fl_A (vn1 4) := congrArg (fun z9 => z9.2.2.2.2.2.2.2.2.2.2.2.2.2.2.2.2.2.2) gm
      have r_U : (vm 12).toInt = (vm1 12).toInt := congrArg (fun z9 => z9.2.2.2.2.2.2.2.2.2.2.2.2.2.1) gm
      have r_N : (vm 13).toInt = (vm1 13).toInt := congrArg (fun z9 => z9.2.2.2.2.2.2.2.2.2.2.2.2.2.2.1) gm
      have hVn : lr_V vi1 vf1 vm1 vn1 := by
        refine ⟨⟨by rw [g2 54 (by decide)]; exact hV.1.1, by rw [g4]; exact hV.1.2⟩, ?_⟩
        have m11 : vm1 11 = vm 11 := Int32.toInt_inj.mp mh.symm
        rw [m11, g2 33 (by decide), g2 34 (by decide), g3 11 (by decide), ← p_mi, ← p_tu, ← p_sn, ← p_go, ← p_ca, ← p_pl, ← p_he, ← p_U, ← p_N, ← r_st, ← r_U, ← r_N, kx1 26 (by decide), km2 6 (by decide), km2 7 (by decide)]
        have i12 : vi1 12 = vi 12 := Int32.toInt_inj.mp p_mi.symm
        have i24 : vi1 24 = vi 24 := Int32.toInt_inj.mp p_U.symm
        have i25 : vi1 25 = vi 25 := Int32.toInt_inj.mp p_N.symm
        have j12 : vm1 12 = vm 12 := Int32.toInt_inj.mp r_U.symm
        have j13 : vm1 13 = vm 13 := Int32.toInt_inj.mp r_N.symm
        rw [i12, i24, i25, j12, j13]
        rcases hV.2 with h4 | ⟨a, b, c, d, e, f, g⟩
        · exact Or.inl h4
        · exact Or.inr ⟨a, b, c, d, e, rs_H_cg (fun k h9 => by show (vi1 (57 + k)).toInt = (vi (57 + k)).toInt; rw [kx1 (57 + k) (kp_out (a := 57) (b := 137) (by decide) (by omega) (by omega))]) (fun k h9 => by show fl_A (vf1 (23 + k)) = fl_A (vf (23 + k)); rw [kx2 (23 + k) (kp_out (a := 23) (b := 55) (by decide) (by omega) (by omega))]) f, rs_I_cg (fun k h9 => by show (vi1 (137 + k)).toInt = (vi (137 + k)).toInt; rw [kx1 (137 + k) (kp_out (a := 137) (b := 152) (by decide) (by omega) (by omega))]) (fun k h9 => by show fl_A (vf1 (55 + k)) = fl_A (vf (55 + k)); rw [kx2 (55 + k) (kp_out (a := 55) (b := 61) (by decide) (by omega) (by omega))]) g⟩
      exact ⟨by rw [← ef, ← mf]; exact hF, lr_H_keep (g2 33 (by decide)) (g2 34 (by decide)) (g2 35 (by decide)) (g2 36 (by decide)) (g2 37 (by decide)) (g2 38 (by decide)) (g2 39 (by decide)) (g2 40 (by decide)) (g2 41 (by decide)) (g2 42 (by decide)) (g2 53 (by decide)) (g3 11 (by decide)) (g3 12 (by decide)) (g3 13 (by decide)) (g3 14 (by decide)) (g3 19 (by decide)) (g3 20 (by decide)) (Int32.toInt_inj.mp mh.symm) mr.symm hH, hVn⟩
end RELG
end P094031_rel
section P094032_rel
section RELA
theorem lr_put {tp : Int32} {vi vi1 vm vm1 : Nat → Int32} {vf vf1 vn vn1 : Nat → Nat → Int32} (hR : lr_R tp vi vf vm vn) (hM : vm 11 = 0 ∨ (vm 11 = 1 ∧ ((∀ k : Nat, 0 ≤ k → k ≤ 0 → (2 : Int) ≤ ((vn 2) k).toInt ∧ ((vn 2) k).toInt ≤ 9) ∧ (∀ k : Nat, 1 ≤ k → k ≤ 1 → (1 : Int) ≤ ((vn 2) k).toInt ∧ ((vn 2) k).toInt ≤ 20) ∧ (∀ k : Nat, 2 ≤ k → k ≤ 2 → (0 : Int) ≤ ((vn 2) k).toInt ∧ ((vn 2) k).toInt ≤ 8) ∧ (∀ k : Nat, 3 ≤ k → k ≤ 3 → (0 : Int) ≤ ((vn 2) k).toInt ∧ ((vn 2) k).toInt ≤ 100) ∧ (∀ k : Nat, 4 ≤ k → k ≤ 4 → (0 : Int) ≤ ((vn 2) k).toInt ∧ ((vn 2) k).toInt ≤ 9) ∧ (∀ k : Nat, 5 ≤ k → k ≤ 5 → (0 : Int) ≤ ((vn 2) k).toInt ∧ ((vn 2) k).toInt ≤ 3) ∧ (∀ k : Nat, 6 ≤ k → k ≤ 6 → (0 : Int) ≤ ((vn 2) k).toInt ∧ ((vn 2) k).toInt ≤ 6) ∧ (∀ k : Nat, 7 ≤ k → k ≤ 9 → (0 : Int) ≤ ((vn 2) k).toInt ∧ ((vn 2) k).toInt ≤ 8) ∧ (∀ k : Nat, 12 ≤ k → k ≤ 29 → (0 : Int) ≤ ((vn 2) k).toInt ∧ ((vn 2) k).toInt ≤ 20) ∧ (∀ k : Nat, 30 ≤ k → k ≤ 35 → (0 : Int) ≤ ((vn 2) k).toInt ∧ ((vn 2) k).toInt ≤ 8) ∧ (∀ k : Nat, 36 ≤ k → k ≤ 47 → (0 : Int) ≤ ((vn 2) k).toInt ∧ ((vn 2) k).toInt ≤ 999)) ∧ ((∀ (j i0 i : Int32), (0 : Int) ≤ j.toInt → j.toInt ≤ 8 → i0.toInt = 12 + 2 * j.toInt → i.toInt = 13 + 2 * j.toInt → ((vn 2) i0.toNatClampNeg).toInt = (1 : Int32).toInt → (1 : Int) ≤ ((vn 2) i.toNatClampNeg).toInt)))) (a : Int32) (kx1 : (∀ k9 : Nat, k9 ∉ ([0, 24, 26, 57, 58, 59, 60, 61, 62, 63, 64, 65, 66, 67, 68, 69, 70, 71, 72, 73, 74, 75, 76, 77, 78, 79, 80, 81, 82, 83, 84, 85, 86, 87, 88, 89, 90, 91, 92, 93, 94, 95, 96, 97, 98, 99, 100, 101, 102, 103, 104, 105, 106, 107, 108, 109, 110, 111, 112, 113, 114, 115, 116, 117, 118, 119, 120, 121, 122, 123, 124, 125, 126, 127, 128, 129, 130, 131, 132, 133, 134, 135, 136] : List Nat) → vi1 k9 = vi k9)) (kx2 : (∀ k9 : Nat, k9 ∉ ([1, 23, 24, 25, 26, 27, 28, 29, 30, 31, 32, 33, 34, 35, 36, 37, 38, 39, 40, 41, 42, 43, 44, 45, 46, 47, 48, 49, 50, 51, 52, 53, 54] : List Nat) → vf1 k9 = vf k9)) (km1 : (∀ k9 : Nat, k9 ∉ ([0, 9, 12] : List Nat) → vm1 k9 = vm k9)) (km2 : (∀ k9 : Nat, k9 ∉ ([4, 6] : List Nat) → vn1 k9 = vn k9)) (gx : (Ff_X7_put a.toInt (vi 33).toInt (vi 12).toInt (vi 13).toInt (vi 14).toInt (vi 15).toInt (vi 16).toInt (fl_A (vf 1)) (vi 24).toInt (vi 26).toInt (fl_nI [(vi 57).toInt, (vi 58).toInt, (vi 59).toInt, (vi 60).toInt, (vi 61).toInt, (vi 62).toInt, (vi 63).toInt, (vi 64).toInt, (vi 65).toInt, (vi 66).toInt, (vi 67).toInt, (vi 68).toInt, (vi 69).toInt, (vi 70).toInt, (vi 71).toInt, (vi 72).toInt, (vi 73).toInt, (vi 74).toInt, (vi 75).toInt, (vi 76).toInt, (vi 77).toInt, (vi 78).toInt, (vi 79).toInt, (vi 80).toInt, (vi 81).toInt, (vi 82).toInt, (vi 83).toInt, (vi 84).toInt, (vi 85).toInt, (vi 86).toInt, (vi 87).toInt, (vi 88).toInt, (vi 89).toInt, (vi 90).toInt, (vi 91).toInt, (vi 92).toInt, (vi 93).toInt, (vi 94).toInt, (vi 95).toInt, (vi 96).toInt, (vi 97).toInt, (vi 98).toInt, (vi 99).toInt, (vi 100).toInt, (vi 101).toInt, (vi 102).toInt, (vi 103).toInt, (vi 104).toInt, (vi 105).toInt, (vi 106).toInt, (vi 107).toInt, (vi 108).toInt, (vi 109).toInt, (vi 110).toInt, (vi 111).toInt, (vi 112).toInt, (vi 113).toInt, (vi 114).toInt, (vi 115).toInt, (vi 116).toInt, (vi 117).toInt, (vi 118).toInt, (vi 119).toInt, (vi 120).toInt, (vi 121).toInt, (vi 122).toInt, (vi 123).toInt, (vi 124).toInt, (vi 125).toInt, (vi 126).toInt, (vi 127).toInt, (vi 128).toInt, (vi 129).toInt, (vi 130).toInt, (vi 131).toInt, (vi 132).toInt, (vi 133).toInt, (vi 134).toInt, (vi 135).toInt, (vi 136).toInt]) (fl_nF [(fl_A (vf 23)), (fl_A (vf 24)), (fl_A (vf 25)), (fl_A (vf 26)), (fl_A (vf 27)), (fl_A (vf 28)), (fl_A (vf 29)), (fl_A (vf 30)), (fl_A (vf 31)), (fl_A (vf 32)), (fl_A (vf 33)), (fl_A (vf 34)), (fl_A (vf 35)), (fl_A (vf 36)), (fl_A (vf 37)), (fl_A (vf 38)), (fl_A (vf 39)), (fl_A (vf 40)), (fl_A (vf 41)), (fl_A (vf 42)), (fl_A (vf 43)), (fl_A (vf 44)), (fl_A (vf 45)), (fl_A (vf 46)), (fl_A (vf 47)), (fl_A (vf 48)), (fl_A (vf 49)), (fl_A (vf 50)), (fl_A (vf 51)), (fl_A (vf 52)), (fl_A (vf 53)), (fl_A (vf 54))]) (fl_A (vf 2))).2 = ((vi1 0).toInt, (fl_A (vf1 1)), (vi1 24).toInt, (vi1 26).toInt, (fl_nI [(vi1 57).toInt, (vi1 58).toInt, (vi1 59).toInt, (vi1 60).toInt, (vi1 61).toInt, (vi1 62).toInt, (vi1 63).toInt, (vi1 64).toInt, (vi1 65).toInt, (vi1 66).toInt, (vi1 67).toInt, (vi1 68).toInt, (vi1 69).toInt, (vi1 70).toInt, (vi1 71).toInt, (vi1 72).toInt, (vi1 73).toInt, (vi1 74).toInt, (vi1 75).toInt, (vi1 76).toInt, (vi1 77).toInt, (vi1 78).toInt, (vi1 79).toInt, (vi1 80).toInt, (vi1 81).toInt, (vi1 82).toInt, (vi1 83).toInt, (vi1 84).toInt, (vi1 85).toInt, (vi1 86).toInt, (vi1 87).toInt, (vi1 88).toInt, (vi1 89).toInt, (vi1 90).toInt, (vi1 91).toInt, (vi1 92).toInt, (vi1 93).toInt, (vi1 94).toInt, (vi1 95).toInt, (vi1 96).toInt, (vi1 97).toInt, (vi1 98).toInt, (vi1 99).toInt, (vi1 100).toInt, (vi1 101).toInt, (vi1 102).toInt, (vi1 103).toInt, (vi1 104).toInt, (vi1 105).toInt, (vi1 106).toInt, (vi1 107).toInt, (vi1 108).toInt, (vi1 109).toInt, (vi1 110).toInt, (vi1 111).toInt, (vi1 112).toInt, (vi1 113).toInt, (vi1 114).toInt, (vi1 115).toInt, (vi1 116).toInt, (vi1 117).toInt, (vi1 118).toInt, (vi1 119).toInt, (vi1 120).toInt, (vi1 121).toInt, (vi1 122).toInt, (vi1 123).toInt, (vi1 124).toInt, (vi1 125).toInt, (vi1 126).toInt, (vi1 127).toInt, (vi1 128).toInt, (vi1 129).toInt, (vi1 130).toInt, (vi1 131).toInt, (vi1 132).toInt, (vi1 133).toInt, (vi1 134).toInt, (vi1 135).toInt, (vi1 136).toInt]), (fl_nF [(fl_A (vf1 23)), (fl_A (vf1 24)), (fl_A (vf1 25)), (fl_A (vf1 26)), (fl_A (vf1 27)), (fl_A (vf1 28)), (fl_A (vf1 29)), (fl_A (vf1 30)), (fl_A (vf1 31)), (fl_A (vf1 32)), (fl_A (vf1 33)), (fl_A (vf1 34)), (fl_A (vf1 35)), (fl_A (vf1 36)), (fl_A (vf1 37)), (fl_A (vf1 38)), (fl_A (vf1 39)), (fl_A (vf1 40)), (fl_A (vf1 41)), (fl_A (vf1 42)), (fl_A (vf1 43)), (fl_A (vf1 44)), (fl_A (vf1 45)), (fl_A (vf1 46)), (fl_A (vf1 47)), (fl_A (vf1 48)), (fl_A (vf1 49)), (fl_A (vf1 50)), (fl_A (vf1 51)), (fl_A (vf1 52)), (fl_A (vf1 53)), (fl_A (vf1 54))]))) (gm : ((vm 11 = 0 ∧ (∀ k9 : Nat, k9 ∉ ([0, 9] : List Nat) → vm1 k9 = vm k9) ∧ (∀ k9 : Nat, k9 ∉ ([] : List Nat) → vn1 k9 = vn k9)) ∨ (vm 11 = 1 ∧ (Ff_X8_put a.toInt (vm 11).toInt (vm 12).toInt (fl_A (vn 2)) (fl_A (vn 4)) (fl_A (vn 6))).2 = ((vm1 0).toInt, (vm1 9).toInt, (vm1 12).toInt, (fl_A (vn1 4)), (fl_A (vn1 6)))))) : lr_Q vi1 vf1 vm1 vn1 := by
  obtain ⟨hT, hF, hH, hV⟩ := hR
  rcases hM with hM0 | ⟨hM1, hrs, hkm⟩
  · rcases hH with hH | ⟨z9, -⟩
    rotate_left
    · rw [hM0] at z9; exact absurd z9 (by decide)
    have hH9 : lr_H vi vf vm vn := Or.inl hH
    obtain ⟨-, h33, -⟩ := hH
    obtain ⟨⟨v54, v56⟩, hV⟩ := hV
    rcases hV with ⟨-, v12, v24, v25, u12, u13⟩ | ⟨z9, -⟩
    rotate_left
    · rw [hM0] at z9; exact absurd z9 (by decide)
    have e33 : (vi 33).toInt = 0 := by rw [h33]; decide
    have ex : Ff_X7_put a.toInt (vi 33).toInt (vi 12).toInt (vi 13).toInt (vi 14).toInt (vi 15).toInt (vi 16).toInt (fl_A (vf 1)) (vi 24).toInt (vi 26).toInt (fl_nI [(vi 57).toInt, (vi 58).toInt, (vi 59).toInt, (vi 60).toInt, (vi 61).toInt, (vi 62).toInt, (vi 63).toInt, (vi 64).toInt, (vi 65).toInt, (vi 66).toInt, (vi 67).toInt, (vi 68).toInt, (vi 69).toInt, (vi 70).toInt, (vi 71).toInt, (vi 72).toInt, (vi 73).toInt, (vi 74).toInt, (vi 75).toInt, (vi 76).toInt, (vi 77).toInt, (vi 78).toInt, (vi 79).toInt, (vi 80).toInt, (vi 81).toInt, (vi 82).toInt, (vi 83).toInt, (vi 84).toInt, (vi 85).toInt, (vi 86).toInt, (vi 87).toInt, (vi 88).toInt, (vi 89).toInt, (vi 90).toInt, (vi 91).toInt, (vi 92).toInt, (vi 93).toInt, (vi 94).toInt, (vi 95).toInt, (vi 96).toInt, (vi 97).toInt, (vi 98).toInt, (vi 99).toInt, (vi 100).toInt, (vi 101).toInt, (vi 102).toInt, (vi 103).toInt, (vi 104).toInt, (vi 105).toInt, (vi 106).toInt, (vi 107).toInt, (vi 108).toInt, (vi 109).toInt, (vi 110).toInt, (vi 111).toInt, (vi 112).toInt, (vi 113).toInt, (vi 114).toInt, (vi 115).toInt, (vi 116).toInt, (vi 117).toInt, (vi 118).toInt, (vi 119).toInt, (vi 120).toInt, (vi 121).toInt, (vi 122).toInt, (vi 123).toInt, (vi 124).toInt, (vi 125).toInt, (vi 126).toInt, (vi 127).toInt, (vi 128).toInt, (vi 129).toInt, (vi 130).toInt, (vi 131).toInt, (vi 132).toInt, (vi 133).toInt, (vi 134).toInt, (vi 135).toInt, (vi 136).toInt]) (fl_nF [(fl_A (vf 23)), (fl_A (vf 24)), (fl_A (vf 25)), (fl_A (vf 26)), (fl_A (vf 27)), (fl_A (vf 28)), (fl_A (vf 29)), (fl_A (vf 30)), (fl_A (vf 31)), (fl_A (vf 32)), (fl_A (vf 33)), (fl_A (vf 34)), (fl_A (vf 35)), (fl_A (vf 36)), (fl_A (vf 37)), (fl_A (vf 38)), (fl_A (vf 39)), (fl_A (vf 40)), (fl_A (vf 41)), (fl_A (vf 42)), (fl_A (vf 43)), (fl_A (vf 44)), (fl_A (vf 45)), (fl_A (vf 46)), (fl_A (vf 47)), (fl_A (vf 48)), (fl_A (vf 49)), (fl_A (vf 50)), (fl_A (vf 51)), (fl_A (vf 52)), (fl_A (vf 53)), (fl_A (vf 54))]) (fl_A (vf 2)) = ((-1), 1, (fl_A (vf 1)), (vi 24).toInt, (vi 26).toInt, (fl_nI [(vi 57).toInt, (vi 58).toInt, (vi 59).toInt, (vi 60).toInt, (vi 61).toInt, (vi 62).toInt, (vi 63).toInt, (vi 64).toInt, (vi 65).toInt, (vi 66).toInt, (vi 67).toInt, (vi 68).toInt, (vi 69).toInt, (vi 70).toInt, (vi 71).toInt, (vi 72).toInt, (vi 73).toInt, (vi 74).toInt, (vi 75).toInt, (vi 76).toInt, (vi 77).toInt, (vi 78).toInt, (vi 79).toInt, (vi 80).toInt, (vi 81).toInt, (vi 82).toInt, (vi 83).toInt, (vi 84).toInt, (vi 85).toInt, (vi 86).toInt, (vi 87).toInt, (vi 88).toInt, (vi 89).toInt, (vi 90).toInt, (vi 91).toInt, (vi 92).toInt, (vi 93).toInt, (vi 94).toInt, (vi 95).toInt, (vi 96).toInt, (vi 97).toInt, (vi 98).toInt, (vi 99).toInt, (vi 100).toInt, (vi 101).toInt, (vi 102).toInt, (vi 103).toInt, (vi 104).toInt, (vi 105).toInt, (vi 106).toInt, (vi 107).toInt, (vi 108).toInt, (vi 109).toInt, (vi 110).toInt, (vi 111).toInt, (vi 112).toInt, (vi 113).toInt, (vi 114).toInt, (vi 115).toInt, (vi 116).toInt, (vi 117).toInt, (vi 118).toInt, (vi 119).toInt, (vi 120).toInt, (vi 121).toInt, (vi 122).toInt, (vi 123).toInt, (vi 124).toInt, (vi 125).toInt, (vi 126).toInt, (vi 127).toInt, (vi 128).toInt, (vi 129).toInt, (vi 130).toInt, (vi 131).toInt, (vi 132).toInt, (vi 133).toInt, (vi 134).toInt, (vi 135).toInt, (vi 136).toInt]), (fl_nF [(fl_A (vf 23)), (fl_A (vf 24)), (fl_A (vf 25)), (fl_A (vf 26)), (fl_A (vf 27)), (fl_A (vf 28)), (fl_A (vf 29)), (fl_A (vf 30)), (fl_A (vf 31)), (fl_A (vf 32)), (fl_A (vf 33)), (fl_A (vf 34)), (fl_A (vf 35)), (fl_A (vf 36)), (fl_A (vf 37)), (fl_A (vf 38)), (fl_A (vf 39)), (fl_A (vf 40)), (fl_A (vf 41)), (fl_A (vf 42)), (fl_A (vf 43)), (fl_A (vf 44)), (fl_A (vf 45)), (fl_A (vf 46)), (fl_A (vf 47)), (fl_A (vf 48)), (fl_A (vf 49)), (fl_A (vf 50)), (fl_A (vf 51)), (fl_A (vf 52)), (fl_A (vf 53)), (fl_A (vf 54))])) := by
      unfold Ff_X7_put
      rw [e33, rs_isf, if_neg (by omega)]
      rfl
    rw [ex] at gx
    have p_U : (vi 24).toInt = (vi1 24).toInt := congrArg (fun z9 => z9.2.2.1) gx
    rcases gm with ⟨-, k01, k02⟩ | ⟨z9, -⟩
    rotate_left
    · rw [hM0] at z9; exact absurd z9 (by decide)
    refine ⟨by rw [kx1 1 (by decide), k01 7 (by decide)]; exact hF, lr_H_keep (kx1 33 (by decide)) (kx1 34 (by decide)) (kx1 35 (by decide)) (kx1 36 (by decide)) (kx1 37 (by decide)) (kx1 38 (by decide)) (kx1 39 (by decide)) (kx1 40 (by decide)) (kx1 41 (by decide)) (kx1 42 (by decide)) (kx1 53 (by decide)) (kx2 11 (by decide)) (kx2 12 (by decide)) (kx2 13 (by decide)) (kx2 14 (by decide)) (kx2 19 (by decide)) (kx2 20 (by decide)) (k01 11 (by decide)) (by rw [k02 2 (by decide)]) hH9, ⟨by rw [kx1 54 (by decide)]; exact v54, by rw [kx1 56 (by decide)]; exact v56⟩, Or.inl ⟨by rw [k01 11 (by decide)]; exact hM0, by rw [kx1 12 (by decide)]; exact v12, by rw [← Int32.toInt_inj, ← p_U, v24], by rw [kx1 25 (by decide)]; exact v25, by rw [k01 12 (by decide)]; exact u12, by rw [k01 13 (by decide)]; exact u13⟩⟩
  · obtain ⟨hG, hD, -⟩ := lr_G hH hM1 hrs hkm
    have hf9 : 2 ≤ (vi 33).toInt ∧ (vi 33).toInt ≤ 9 := ⟨hG.1.2.1, hG.1.2.2⟩
    have f9 := hf9.2
    have hV4 := hV.2
    rcases hV4 with ⟨z9, -⟩ | ⟨-, hS, hm, hU, hN, hHi, hIm⟩
    · rw [hM1] at z9; exact absurd z9 (by decide)
    have e11 : (vm 11).toInt = 1 := by rw [hM1]; decide
    have hHi := rs_H_cg (gI1 := fl_nI [(vi 57).toInt, (vi 58).toInt, (vi 59).toInt, (vi 60).toInt, (vi 61).toInt, (vi 62).toInt, (vi 63).toInt, (vi 64).toInt, (vi 65).toInt, (vi 66).toInt, (vi 67).toInt, (vi 68).toInt, (vi 69).toInt, (vi 70).toInt, (vi 71).toInt, (vi 72).toInt, (vi 73).toInt, (vi 74).toInt, (vi 75).toInt, (vi 76).toInt, (vi 77).toInt, (vi 78).toInt, (vi 79).toInt, (vi 80).toInt, (vi 81).toInt, (vi 82).toInt, (vi 83).toInt, (vi 84).toInt, (vi 85).toInt, (vi 86).toInt, (vi 87).toInt, (vi 88).toInt, (vi 89).toInt, (vi 90).toInt, (vi 91).toInt, (vi 92).toInt, (vi 93).toInt, (vi 94).toInt, (vi 95).toInt, (vi 96).toInt, (vi 97).toInt, (vi 98).toInt, (vi 99).toInt, (vi 100).toInt, (vi 101).toInt, (vi 102).toInt, (vi 103).toInt, (vi 104).toInt, (vi 105).toInt, (vi 106).toInt, (vi 107).toInt, (vi 108).toInt, (vi 109).toInt, (vi 110).toInt, (vi 111).toInt, (vi 112).toInt, (vi 113).toInt, (vi 114).toInt, (vi 115).toInt, (vi 116).toInt, (vi 117).toInt, (vi 118).toInt, (vi 119).toInt, (vi 120).toInt, (vi 121).toInt, (vi 122).toInt, (vi 123).toInt, (vi 124).toInt, (vi 125).toInt, (vi 126).toInt, (vi 127).toInt, (vi 128).toInt, (vi 129).toInt, (vi 130).toInt, (vi 131).toInt, (vi 132).toInt, (vi 133).toInt, (vi 134).toInt, (vi 135).toInt, (vi 136).toInt]) (gF1 := fl_nF [(fl_A (vf 23)), (fl_A (vf 24)), (fl_A (vf 25)), (fl_A (vf 26)), (fl_A (vf 27)), (fl_A (vf 28)), (fl_A (vf 29)), (fl_A (vf 30)), (fl_A (vf 31)), (fl_A (vf 32)), (fl_A (vf 33)), (fl_A (vf 34)), (fl_A (vf 35)), (fl_A (vf 36)), (fl_A (vf 37)), (fl_A (vf 38)), (fl_A (vf 39)), (fl_A (vf 40)), (fl_A (vf 41)), (fl_A (vf 42)), (fl_A (vf 43)), (fl_A (vf 44)), (fl_A (vf 45)), (fl_A (vf 46)), (fl_A (vf 47)), (fl_A (vf 48)), (fl_A (vf 49)), (fl_A (vf 50)), (fl_A (vf 51)), (fl_A (vf 52)), (fl_A (vf 53)), (fl_A (vf 54))]) (fun k h9 => lr_g3e vi h9) (fun k h9 => lr_f3e vf h9) hHi
    have hIm := rs_I_cg (gI1 := fl_nI [(vi 137).toInt, (vi 138).toInt, (vi 139).toInt, (vi 140).toInt, (vi 141).toInt, (vi 142).toInt, (vi 143).toInt, (vi 144).toInt, (vi 145).toInt, (vi 146).toInt, (vi 147).toInt, (vi 148).toInt, (vi 149).toInt, (vi 150).toInt, (vi 151).toInt]) (gF1 := fl_nF [(fl_A (vf 55)), (fl_A (vf 56)), (fl_A (vf 57)), (fl_A (vf 58)), (fl_A (vf 59)), (fl_A (vf 60))]) (fun k h9 => lr_g4e vi h9) (fun k h9 => lr_f4e vf h9) hIm
    obtain ⟨R, tr, U1, L1, gI1, pl1, gF1, st1, und1, e1, e2, e3, e5⟩ := rs_put hG hS hm hHi a.toInt
    rcases gm with ⟨z9, -⟩ | ⟨-, gm⟩
    · rw [hM1] at z9; exact absurd z9 (by decide)
    rw [e11, ← hU] at gm
    rw [e1] at gx
    rw [e2] at gm
    have p_pl : pl1 = (fl_A (vf1 1)) := congrArg (fun z9 => z9.2.1) gx
    have p_U : U1 = (vi1 24).toInt := congrArg (fun z9 => z9.2.2.1) gx
    have p_L : L1 = (vi1 26).toInt := congrArg (fun z9 => z9.2.2.2.1) gx
    have p_gI : gI1 = (fl_nI [(vi1 57).toInt, (vi1 58).toInt, (vi1 59).toInt, (vi1 60).toInt, (vi1 61).toInt, (vi1 62).toInt, (vi1 63).toInt, (vi1 64).toInt, (vi1 65).toInt, (vi1 66).toInt, (vi1 67).toInt, (vi1 68).toInt, (vi1 69).toInt, (vi1 70).toInt, (vi1 71).toInt, (vi1 72).toInt, (vi1 73).toInt, (vi1 74).toInt, (vi1 75).toInt, (vi1 76).toInt, (vi1 77).toInt, (vi1 78).toInt, (vi1 79).toInt, (vi1 80).toInt, (vi1 81).toInt, (vi1 82).toInt, (vi1 83).toInt, (vi1 84).toInt, (vi1 85).toInt, (vi1 86).toInt, (vi1 87).toInt, (vi1 88).toInt, (vi1 89).toInt, (vi1 90).toInt, (vi1 91).toInt, (vi1 92).toInt, (vi1 93).toInt, (vi1 94).toInt, (vi1 95).toInt, (vi1 96).toInt, (vi1 97).toInt, (vi1 98).toInt, (vi1 99).toInt, (vi1 100).toInt, (vi1 101).toInt, (vi1 102).toInt, (vi1 103).toInt, (vi1 104).toInt, (vi1 105).toInt, (vi1 106).toInt, (vi1 107).toInt, (vi1 108).toInt, (vi1 109).toInt, (vi1 110).toInt, (vi1 111).toInt, (vi1 112).toInt, (vi1 113).toInt, (vi1 114).toInt, (vi1 115).toInt, (vi1 116).toInt, (vi1 117).toInt, (vi1 118).toInt, (vi1 119).toInt, (vi1 120).toInt, (vi1 121).toInt, (vi1 122).toInt, (vi1 123).toInt, (vi1 124).toInt, (vi1 125).toInt, (vi1 126).toInt, (vi1 127).toInt, (vi1 128).toInt, (vi1 129).toInt, (vi1 130).toInt, (vi1 131).toInt, (vi1 132).toInt, (vi1 133).toInt, (vi1 134).toInt, (vi1 135).toInt, (vi1 136).toInt]) := congrArg (fun z9 => z9.2.2.2.2.1) gx
    have p_gF : gF1 = (fl_nF [(fl_A (vf1 23)), (fl_A (vf1 24)), (fl_A (vf1 25)), (fl_A (vf1 26)), (fl_A (vf1 27)), (fl_A (vf1 28)), (fl_A (vf1 29)), (fl_A (vf1 30)), (fl_A (vf1 31)), (fl_A (vf1 32)), (fl_A (vf1 33)), (fl_A (vf1 34)), (fl_A (vf1 35)), (fl_A (vf1 36)), (fl_A (vf1 37)), (fl_A (vf1 38)), (fl_A (vf1 39)), (fl_A (vf1 40)), (fl_A (vf1 41)), (fl_A (vf1 42)), (fl_A (vf1 43)), (fl_A (vf1 44)), (fl_A (vf1 45)), (fl_A (vf1 46)), (fl_A (vf1 47)), (fl_A (vf1 48)), (fl_A (vf1 49)), (fl_A (vf1 50)), (fl_A (vf1 51)), (fl_A (vf1 52)), (fl_A (vf1 53)), (fl_A (vf1 54))]) := congrArg (fun z9 => z9.2.2.2.2.2) gx
    have r_U : U1 = (vm1 12).toInt := congrArg (fun z9 => z9.2.2.1) gm
    have r_st : st1 = (fl_A (vn1 4)) := congrArg (fun z9 => z9.2.2.2.1) gm
    have r_und : und1 = (fl_A (vn1 6)) := congrArg (fun z9 => z9.2.2.2.2) gm
    have w1 : rs_S (vi1 33).toInt (vi1 34).toInt (fl_A (vf1 11)) (vi1 12).toInt (vi1 13).toInt (vi1 14).toInt (vi1 15).toInt (vi1 16).toInt (fl_A (vf1 1)) (fl_A (vf1 2)) (fl_A (vn1 4)) := by
      rw [kx1 33 (by decide), kx1 34 (by decide), kx2 11 (by decide), kx1 12 (by decide), kx1 13 (by decide), kx1 14 (by decide), kx1 15 (by decide), kx1 16 (by decide), ← p_pl, kx2 2 (by decide), ← r_st]
      exact e3
    have w2 : (vi1 12).toInt ≤ 9999 := by
      rw [kx1 12 (by decide)]
      exact hm
    have w3 : (vi1 24).toInt = (vm1 12).toInt := by
      rw [← p_U, ← r_U]
    have w4 : (vi1 25).toInt = (vm1 13).toInt := by
      rw [kx1 25 (by decide), km1 13 (by decide)]
      exact hN
    have w5 : rs_H (vi1 33).toInt (vi1 34).toInt (fl_A (vf1 11)) (vi1 24).toInt (vi1 26).toInt (lr_g3 vi1) (lr_f3 vf1) (fl_A (vn1 6)) := by
      rw [kx1 33 (by decide), kx1 34 (by decide), kx2 11 (by decide), ← p_U, ← p_L, ← r_und]
      exact rs_H_cg (fun k h9 => by rw [p_gI]; exact (lr_g3e vi1 h9).symm) (fun k h9 => by rw [p_gF]; exact (lr_f3e vf1 h9).symm) e5
    have w6 : rs_I (vi1 33).toInt (vi1 34).toInt (fl_A (vf1 11)) (vi1 25).toInt (lr_g4 vi1) (lr_f4 vf1) (fl_A (vn1 7)) := by
      rw [kx1 33 (by decide), kx1 34 (by decide), kx2 11 (by decide), kx1 25 (by decide), km2 7 (by decide)]
      exact rs_I_cg (fun k h9 => by rw [lr_g4e vi h9]; show (vi1 (137 + k)).toInt = (vi (137 + k)).toInt; rw [kx1 (137 + k) (kp_out (a := 137) (b := 152) (by decide) (by omega) (by omega))]) (fun k h9 => by rw [lr_f4e vf h9]; show fl_A (vf1 (55 + k)) = fl_A (vf (55 + k)); rw [kx2 (55 + k) (kp_out (a := 55) (b := 61) (by decide) (by omega) (by omega))]) hIm
    exact ⟨by rw [kx1 1 (by decide), km1 7 (by decide)]; exact hF, lr_H_keep (kx1 33 (by decide)) (kx1 34 (by decide)) (kx1 35 (by decide)) (kx1 36 (by decide)) (kx1 37 (by decide)) (kx1 38 (by decide)) (kx1 39 (by decide)) (kx1 40 (by decide)) (kx1 41 (by decide)) (kx1 42 (by decide)) (kx1 53 (by decide)) (kx2 11 (by decide)) (kx2 12 (by decide)) (kx2 13 (by decide)) (kx2 14 (by decide)) (kx2 19 (by decide)) (kx2 20 (by decide)) (km1 11 (by decide)) (by rw [km2 2 (by decide)]) hH, ⟨by rw [kx1 54 (by decide)]; exact hV.1.1, by rw [kx1 56 (by decide)]; exact hV.1.2⟩, Or.inr ⟨by rw [km1 11 (by decide)]; exact hM1, w1, w2, w3, w4, w5, w6⟩⟩

theorem lr_wind {tp : Int32} {vi vi1 vm vm1 : Nat → Int32} {vf vf1 vn vn1 : Nat → Nat → Int32} (hR : lr_R tp vi vf vm vn) (hM : vm 11 = 0 ∨ (vm 11 = 1 ∧ ((∀ k : Nat, 0 ≤ k → k ≤ 0 → (2 : Int) ≤ ((vn 2) k).toInt ∧ ((vn 2) k).toInt ≤ 9) ∧ (∀ k : Nat, 1 ≤ k → k ≤ 1 → (1 : Int) ≤ ((vn 2) k).toInt ∧ ((vn 2) k).toInt ≤ 20) ∧ (∀ k : Nat, 2 ≤ k → k ≤ 2 → (0 : Int) ≤ ((vn 2) k).toInt ∧ ((vn 2) k).toInt ≤ 8) ∧ (∀ k : Nat, 3 ≤ k → k ≤ 3 → (0 : Int) ≤ ((vn 2) k).toInt ∧ ((vn 2) k).toInt ≤ 100) ∧ (∀ k : Nat, 4 ≤ k → k ≤ 4 → (0 : Int) ≤ ((vn 2) k).toInt ∧ ((vn 2) k).toInt ≤ 9) ∧ (∀ k : Nat, 5 ≤ k → k ≤ 5 → (0 : Int) ≤ ((vn 2) k).toInt ∧ ((vn 2) k).toInt ≤ 3) ∧ (∀ k : Nat, 6 ≤ k → k ≤ 6 → (0 : Int) ≤ ((vn 2) k).toInt ∧ ((vn 2) k).toInt ≤ 6) ∧ (∀ k : Nat, 7 ≤ k → k ≤ 9 → (0 : Int) ≤ ((vn 2) k).toInt ∧ ((vn 2) k).toInt ≤ 8) ∧ (∀ k : Nat, 12 ≤ k → k ≤ 29 → (0 : Int) ≤ ((vn 2) k).toInt ∧ ((vn 2) k).toInt ≤ 20) ∧ (∀ k : Nat, 30 ≤ k → k ≤ 35 → (0 : Int) ≤ ((vn 2) k).toInt ∧ ((vn 2) k).toInt ≤ 8) ∧ (∀ k : Nat, 36 ≤ k → k ≤ 47 → (0 : Int) ≤ ((vn 2) k).toInt ∧ ((vn 2) k).toInt ≤ 999)) ∧ ((∀ (j i0 i : Int32), (0 : Int) ≤ j.toInt → j.toInt ≤ 8 → i0.toInt = 12 + 2 * j.toInt → i.toInt = 13 + 2 * j.toInt → ((vn 2) i0.toNatClampNeg).toInt = (1 : Int32).toInt → (1 : Int) ≤ ((vn 2) i.toNatClampNeg).toInt)))) (a : Int32) (kx1 : (∀ k9 : Nat, k9 ∉ ([0, 13, 14, 24, 26, 57, 58, 59, 60, 61, 62, 63, 64, 65, 66, 67, 68, 69, 70, 71, 72, 73, 74, 75, 76, 77, 78, 79, 80, 81, 82, 83, 84, 85, 86, 87, 88, 89, 90, 91, 92, 93, 94, 95, 96, 97, 98, 99, 100, 101, 102, 103, 104, 105, 106, 107, 108, 109, 110, 111, 112, 113, 114, 115, 116, 117, 118, 119, 120, 121, 122, 123, 124, 125, 126, 127, 128, 129, 130, 131, 132, 133, 134, 135, 136] : List Nat) → vi1 k9 = vi k9)) (kx2 : (∀ k9 : Nat, k9 ∉ ([23, 24, 25, 26, 27, 28, 29, 30, 31, 32, 33, 34, 35, 36, 37, 38, 39, 40, 41, 42, 43, 44, 45, 46, 47, 48, 49, 50, 51, 52, 53, 54] : List Nat) → vf1 k9 = vf k9)) (km1 : (∀ k9 : Nat, k9 ∉ ([0, 9, 12] : List Nat) → vm1 k9 = vm k9)) (km2 : (∀ k9 : Nat, k9 ∉ ([4, 6] : List Nat) → vn1 k9 = vn k9)) (gx : (Ff_X7_wind a.toInt (vi 33).toInt (vi 12).toInt (vi 13).toInt (vi 14).toInt (vi 15).toInt (vi 16).toInt (vi 24).toInt (vi 26).toInt (fl_nI [(vi 57).toInt, (vi 58).toInt, (vi 59).toInt, (vi 60).toInt, (vi 61).toInt, (vi 62).toInt, (vi 63).toInt, (vi 64).toInt, (vi 65).toInt, (vi 66).toInt, (vi 67).toInt, (vi 68).toInt, (vi 69).toInt, (vi 70).toInt, (vi 71).toInt, (vi 72).toInt, (vi 73).toInt, (vi 74).toInt, (vi 75).toInt, (vi 76).toInt, (vi 77).toInt, (vi 78).toInt, (vi 79).toInt, (vi 80).toInt, (vi 81).toInt, (vi 82).toInt, (vi 83).toInt, (vi 84).toInt, (vi 85).toInt, (vi 86).toInt, (vi 87).toInt, (vi 88).toInt, (vi 89).toInt, (vi 90).toInt, (vi 91).toInt, (vi 92).toInt, (vi 93).toInt, (vi 94).toInt, (vi 95).toInt, (vi 96).toInt, (vi 97).toInt, (vi 98).toInt, (vi 99).toInt, (vi 100).toInt, (vi 101).toInt, (vi 102).toInt, (vi 103).toInt, (vi 104).toInt, (vi 105).toInt, (vi 106).toInt, (vi 107).toInt, (vi 108).toInt, (vi 109).toInt, (vi 110).toInt, (vi 111).toInt, (vi 112).toInt, (vi 113).toInt, (vi 114).toInt, (vi 115).toInt, (vi 116).toInt, (vi 117).toInt, (vi 118).toInt, (vi 119).toInt, (vi 120).toInt, (vi 121).toInt, (vi 122).toInt, (vi 123).toInt, (vi 124).toInt, (vi 125).toInt, (vi 126).toInt, (vi 127).toInt, (vi 128).toInt, (vi 129).toInt, (vi 130).toInt, (vi 131).toInt, (vi 132).toInt, (vi 133).toInt, (vi 134).toInt, (vi 135).toInt, (vi 136).toInt]) (fl_A (vf 1)) (fl_nF [(fl_A (vf 23)), (fl_A (vf 24)), (fl_A (vf 25)), (fl_A (vf 26)), (fl_A (vf 27)), (fl_A (vf 28)), (fl_A (vf 29)), (fl_A (vf 30)), (fl_A (vf 31)), (fl_A (vf 32)), (fl_A (vf 33)), (fl_A (vf 34)), (fl_A (vf 35)), (fl_A (vf 36)), (fl_A (vf 37)), (fl_A (vf 38)), (fl_A (vf 39)), (fl_A (vf 40)), (fl_A (vf 41)), (fl_A (vf 42)), (fl_A (vf 43)), (fl_A (vf 44)), (fl_A (vf 45)), (fl_A (vf 46)), (fl_A (vf 47)), (fl_A (vf 48)), (fl_A (vf 49)), (fl_A (vf 50)), (fl_A (vf 51)), (fl_A (vf 52)), (fl_A (vf 53)), (fl_A (vf 54))]) (fl_A (vf 2))).2 = ((vi1 0).toInt, (vi1 13).toInt, (vi1 14).toInt, (vi1 24).toInt, (vi1 26).toInt, (fl_nI [(vi1 57).toInt, (vi1 58).toInt, (vi1 59).toInt, (vi1 60).toInt, (vi1 61).toInt, (vi1 62).toInt, (vi1 63).toInt, (vi1 64).toInt, (vi1 65).toInt, (vi1 66).toInt, (vi1 67).toInt, (vi1 68).toInt, (vi1 69).toInt, (vi1 70).toInt, (vi1 71).toInt, (vi1 72).toInt, (vi1 73).toInt, (vi1 74).toInt, (vi1 75).toInt, (vi1 76).toInt, (vi1 77).toInt, (vi1 78).toInt, (vi1 79).toInt, (vi1 80).toInt, (vi1 81).toInt, (vi1 82).toInt, (vi1 83).toInt, (vi1 84).toInt, (vi1 85).toInt, (vi1 86).toInt, (vi1 87).toInt, (vi1 88).toInt, (vi1 89).toInt, (vi1 90).toInt, (vi1 91).toInt, (vi1 92).toInt, (vi1 93).toInt, (vi1 94).toInt, (vi1 95).toInt, (vi1 96).toInt, (vi1 97).toInt, (vi1 98).toInt, (vi1 99).toInt, (vi1 100).toInt, (vi1 101).toInt, (vi1 102).toInt, (vi1 103).toInt, (vi1 104).toInt, (vi1 105).toInt, (vi1 106).toInt, (vi1 107).toInt, (vi1 108).toInt, (vi1 109).toInt, (vi1 110).toInt, (vi1 111).toInt, (vi1 112).toInt, (vi1 113).toInt, (vi1 114).toInt, (vi1 115).toInt, (vi1 116).toInt, (vi1 117).toInt, (vi1 118).toInt, (vi1 119).toInt, (vi1 120).toInt, (vi1 121).toInt, (vi1 122).toInt, (vi1 123).toInt, (vi1 124).toInt, (vi1 125).toInt, (vi1 126).toInt, (vi1 127).toInt, (vi1 128).toInt, (vi1 129).toInt, (vi1 130).toInt, (vi1 131).toInt, (vi1 132).toInt, (vi1 133).toInt, (vi1 134).toInt, (vi1 135).toInt, (vi1 136).toInt]), (fl_nF [(fl_A (vf1 23)), (fl_A (vf1 24)), (fl_A (vf1 25)), (fl_A (vf1 26)), (fl_A (vf1 27)), (fl_A (vf1 28)), (fl_A (vf1 29)), (fl_A (vf1 30)), (fl_A (vf1 31)), (fl_A (vf1 32)), (fl_A (vf1 33)), (fl_A (vf1 34)), (fl_A (vf1 35)), (fl_A (vf1 36)), (fl_A (vf1 37)), (fl_A (vf1 38)), (fl_A (vf1 39)), (fl_A (vf1 40)), (fl_A (vf1 41)), (fl_A (vf1 42)), (fl_A (vf1 43)), (fl_A (vf1 44)), (fl_A (vf1 45)), (fl_A (vf1 46)), (fl_A (vf1 47)), (fl_A (vf1 48)), (fl_A (vf1 49)), (fl_A (vf1 50)), (fl_A (vf1 51)), (fl_A (vf1 52)), (fl_A (vf1 53)), (fl_A (vf1 54))]))) (gm : ((vm 11 = 0 ∧ (∀ k9 : Nat, k9 ∉ ([0, 9] : List Nat) → vm1 k9 = vm k9) ∧ (∀ k9 : Nat, k9 ∉ ([] : List Nat) → vn1 k9 = vn k9)) ∨ (vm 11 = 1 ∧ (Ff_X8_wind a.toInt (vm 11).toInt (vm 12).toInt (fl_A (vn 2)) (fl_A (vn 4)) (fl_A (vn 6))).2 = ((vm1 0).toInt, (vm1 9).toInt, (vm1 12).toInt, (fl_A (vn1 4)), (fl_A (vn1 6)))))) : lr_Q vi1 vf1 vm1 vn1 := by
  obtain ⟨hT, hF, hH, hV⟩ := hR
  rcases hM with hM0 | ⟨hM1, hrs, hkm⟩
  · rcases hH with hH | ⟨z9, -⟩
    rotate_left
    · rw [hM0] at z9; exact absurd z9 (by decide)
    have hH9 : lr_H vi vf vm vn := Or.inl hH
    obtain ⟨-, h33, -⟩ := hH
    obtain ⟨⟨v54, v56⟩, hV⟩ := hV
    rcases hV with ⟨-, v12, v24, v25, u12, u13⟩ | ⟨z9, -⟩
    rotate_left
    · rw [hM0] at z9; exact absurd z9 (by decide)
    have e33 : (vi 33).toInt = 0 := by rw [h33]; decide
    have ex : Ff_X7_wind a.toInt (vi 33).toInt (vi 12).toInt (vi 13).toInt (vi 14).toInt (vi 15).toInt (vi 16).toInt (vi 24).toInt (vi 26).toInt (fl_nI [(vi 57).toInt, (vi 58).toInt, (vi 59).toInt, (vi 60).toInt, (vi 61).toInt, (vi 62).toInt, (vi 63).toInt, (vi 64).toInt, (vi 65).toInt, (vi 66).toInt, (vi 67).toInt, (vi 68).toInt, (vi 69).toInt, (vi 70).toInt, (vi 71).toInt, (vi 72).toInt, (vi 73).toInt, (vi 74).toInt, (vi 75).toInt, (vi 76).toInt, (vi 77).toInt, (vi 78).toInt, (vi 79).toInt, (vi 80).toInt, (vi 81).toInt, (vi 82).toInt, (vi 83).toInt, (vi 84).toInt, (vi 85).toInt, (vi 86).toInt, (vi 87).toInt, (vi 88).toInt, (vi 89).toInt, (vi 90).toInt, (vi 91).toInt, (vi 92).toInt, (vi 93).toInt, (vi 94).toInt, (vi 95).toInt, (vi 96).toInt, (vi 97).toInt, (vi 98).toInt, (vi 99).toInt, (vi 100).toInt, (vi 101).toInt, (vi 102).toInt, (vi 103).toInt, (vi 104).toInt, (vi 105).toInt, (vi 106).toInt, (vi 107).toInt, (vi 108).toInt, (vi 109).toInt, (vi 110).toInt, (vi 111).toInt, (vi 112).toInt, (vi 113).toInt, (vi 114).toInt, (vi 115).toInt, (vi 116).toInt, (vi 117).toInt, (vi 118).toInt, (vi 119).toInt, (vi 120).toInt, (vi 121).toInt, (vi 122).toInt, (vi 123).toInt, (vi 124).toInt, (vi 125).toInt, (vi 126).toInt, (vi 127).toInt, (vi 128).toInt, (vi 129).toInt, (vi 130).toInt, (vi 131).toInt, (vi 132).toInt, (vi 133).toInt, (vi 134).toInt, (vi 135).toInt, (vi 136).toInt]) (fl_A (vf 1)) (fl_nF [(fl_A (vf 23)), (fl_A (vf 24)), (fl_A (vf 25)), (fl_A (vf 26)), (fl_A (vf 27)), (fl_A (vf 28)), (fl_A (vf 29)), (fl_A (vf 30)), (fl_A (vf 31)), (fl_A (vf 32)), (fl_A (vf 33)), (fl_A (vf 34)), (fl_A (vf 35)), (fl_A (vf 36)), (fl_A (vf 37)), (fl_A (vf 38)), (fl_A (vf 39)), (fl_A (vf 40)), (fl_A (vf 41)), (fl_A (vf 42)), (fl_A (vf 43)), (fl_A (vf 44)), (fl_A (vf 45)), (fl_A (vf 46)), (fl_A (vf 47)), (fl_A (vf 48)), (fl_A (vf 49)), (fl_A (vf 50)), (fl_A (vf 51)), (fl_A (vf 52)), (fl_A (vf 53)), (fl_A (vf 54))]) (fl_A (vf 2)) = ((-1), 1, (vi 13).toInt, (vi 14).toInt, (vi 24).toInt, (vi 26).toInt, (fl_nI [(vi 57).toInt, (vi 58).toInt, (vi 59).toInt, (vi 60).toInt, (vi 61).toInt, (vi 62).toInt, (vi 63).toInt, (vi 64).toInt, (vi 65).toInt, (vi 66).toInt, (vi 67).toInt, (vi 68).toInt, (vi 69).toInt, (vi 70).toInt, (vi 71).toInt, (vi 72).toInt, (vi 73).toInt, (vi 74).toInt, (vi 75).toInt, (vi 76).toInt, (vi 77).toInt, (vi 78).toInt, (vi 79).toInt, (vi 80).toInt, (vi 81).toInt, (vi 82).toInt, (vi 83).toInt, (vi 84).toInt, (vi 85).toInt, (vi 86).toInt, (vi 87).toInt, (vi 88).toInt, (vi 89).toInt, (vi 90).toInt, (vi 91).toInt, (vi 92).toInt, (vi 93).toInt, (vi 94).toInt, (vi 95).toInt, (vi 96).toInt, (vi 97).toInt, (vi 98).toInt, (vi 99).toInt, (vi 100).toInt, (vi 101).toInt, (vi 102).toInt, (vi 103).toInt, (vi 104).toInt, (vi 105).toInt, (vi 106).toInt, (vi 107).toInt, (vi 108).toInt, (vi 109).toInt, (vi 110).toInt, (vi 111).toInt, (vi 112).toInt, (vi 113).toInt, (vi 114).toInt, (vi 115).toInt, (vi 116).toInt, (vi 117).toInt, (vi 118).toInt, (vi 119).toInt, (vi 120).toInt, (vi 121).toInt, (vi 122).toInt, (vi 123).toInt, (vi 124).toInt, (vi 125).toInt, (vi 126).toInt, (vi 127).toInt, (vi 128).toInt, (vi 129).toInt, (vi 130).toInt, (vi 131).toInt, (vi 132).toInt, (vi 133).toInt, (vi 134).toInt, (vi 135).toInt, (vi 136).toInt]), (fl_nF [(fl_A (vf 23)), (fl_A (vf 24)), (fl_A (vf 25)), (fl_A (vf 26)), (fl_A (vf 27)), (fl_A (vf 28)), (fl_A (vf 29)), (fl_A (vf 30)), (fl_A (vf 31)), (fl_A (vf 32)), (fl_A (vf 33)), (fl_A (vf 34)), (fl_A (vf 35)), (fl_A (vf 36)), (fl_A (vf 37)), (fl_A (vf 38)), (fl_A (vf 39)), (fl_A (vf 40)), (fl_A (vf 41)), (fl_A (vf 42)), (fl_A (vf 43)), (fl_A (vf 44)), (fl_A (vf 45)), (fl_A (vf 46)), (fl_A (vf 47)), (fl_A (vf 48)), (fl_A (vf 49)), (fl_A (vf 50)), (fl_A (vf 51)), (fl_A (vf 52)), (fl_A (vf 53)), (fl_A (vf 54))])) := by
      unfold Ff_X7_wind
      rw [e33, rs_isf, if_neg (by omega)]
      rfl
    rw [ex] at gx
    have p_U : (vi 24).toInt = (vi1 24).toInt := congrArg (fun z9 => z9.2.2.2.1) gx
    rcases gm with ⟨-, k01, k02⟩ | ⟨z9, -⟩
    rotate_left
    · rw [hM0] at z9; exact absurd z9 (by decide)
    refine ⟨by rw [kx1 1 (by decide), k01 7 (by decide)]; exact hF, lr_H_keep (kx1 33 (by decide)) (kx1 34 (by decide)) (kx1 35 (by decide)) (kx1 36 (by decide)) (kx1 37 (by decide)) (kx1 38 (by decide)) (kx1 39 (by decide)) (kx1 40 (by decide)) (kx1 41 (by decide)) (kx1 42 (by decide)) (kx1 53 (by decide)) (kx2 11 (by decide)) (kx2 12 (by decide)) (kx2 13 (by decide)) (kx2 14 (by decide)) (kx2 19 (by decide)) (kx2 20 (by decide)) (k01 11 (by decide)) (by rw [k02 2 (by decide)]) hH9, ⟨by rw [kx1 54 (by decide)]; exact v54, by rw [kx1 56 (by decide)]; exact v56⟩, Or.inl ⟨by rw [k01 11 (by decide)]; exact hM0, by rw [kx1 12 (by decide)]; exact v12, by rw [← Int32.toInt_inj, ← p_U, v24], by rw [kx1 25 (by decide)]; exact v25, by rw [k01 12 (by decide)]; exact u12, by rw [k01 13 (by decide)]; exact u13⟩⟩
  · obtain ⟨hG, hD, -⟩ := lr_G hH hM1 hrs hkm
    have hf9 : 2 ≤ (vi 33).toInt ∧ (vi 33).toInt ≤ 9 := ⟨hG.1.2.1, hG.1.2.2⟩
    have f9 := hf9.2
    have hV4 := hV.2
    rcases hV4 with ⟨z9, -⟩ | ⟨-, hS, hm, hU, hN, hHi, hIm⟩
    · rw [hM1] at z9; exact absurd z9 (by decide)
    have e11 : (vm 11).toInt = 1 := by rw [hM1]; decide
    have hHi := rs_H_cg (gI1 := fl_nI [(vi 57).toInt, (vi 58).toInt, (vi 59).toInt, (vi 60).toInt, (vi 61).toInt, (vi 62).toInt, (vi 63).toInt, (vi 64).toInt, (vi 65).toInt, (vi 66).toInt, (vi 67).toInt, (vi 68).toInt, (vi 69).toInt, (vi 70).toInt, (vi 71).toInt, (vi 72).toInt, (vi 73).toInt, (vi 74).toInt, (vi 75).toInt, (vi 76).toInt, (vi 77).toInt, (vi 78).toInt, (vi 79).toInt, (vi 80).toInt, (vi 81).toInt, (vi 82).toInt, (vi 83).toInt, (vi 84).toInt, (vi 85).toInt, (vi 86).toInt, (vi 87).toInt, (vi 88).toInt, (vi 89).toInt, (vi 90).toInt, (vi 91).toInt, (vi 92).toInt, (vi 93).toInt, (vi 94).toInt, (vi 95).toInt, (vi 96).toInt, (vi 97).toInt, (vi 98).toInt, (vi 99).toInt, (vi 100).toInt, (vi 101).toInt, (vi 102).toInt, (vi 103).toInt, (vi 104).toInt, (vi 105).toInt, (vi 106).toInt, (vi 107).toInt, (vi 108).toInt, (vi 109).toInt, (vi 110).toInt, (vi 111).toInt, (vi 112).toInt, (vi 113).toInt, (vi 114).toInt, (vi 115).toInt, (vi 116).toInt, (vi 117).toInt, (vi 118).toInt, (vi 119).toInt, (vi 120).toInt, (vi 121).toInt, (vi 122).toInt, (vi 123).toInt, (vi 124).toInt, (vi 125).toInt, (vi 126).toInt, (vi 127).toInt, (vi 128).toInt, (vi 129).toInt, (vi 130).toInt, (vi 131).toInt, (vi 132).toInt, (vi 133).toInt, (vi 134).toInt, (vi 135).toInt, (vi 136).toInt]) (gF1 := fl_nF [(fl_A (vf 23)), (fl_A (vf 24)), (fl_A (vf 25)), (fl_A (vf 26)), (fl_A (vf 27)), (fl_A (vf 28)), (fl_A (vf 29)), (fl_A (vf 30)), (fl_A (vf 31)), (fl_A (vf 32)), (fl_A (vf 33)), (fl_A (vf 34)), (fl_A (vf 35)), (fl_A (vf 36)), (fl_A (vf 37)), (fl_A (vf 38)), (fl_A (vf 39)), (fl_A (vf 40)), (fl_A (vf 41)), (fl_A (vf 42)), (fl_A (vf 43)), (fl_A (vf 44)), (fl_A (vf 45)), (fl_A (vf 46)), (fl_A (vf 47)), (fl_A (vf 48)), (fl_A (vf 49)), (fl_A (vf 50)), (fl_A (vf 51)), (fl_A (vf 52)), (fl_A (vf 53)), (fl_A (vf 54))]) (fun k h9 => lr_g3e vi h9) (fun k h9 => lr_f3e vf h9) hHi
    have hIm := rs_I_cg (gI1 := fl_nI [(vi 137).toInt, (vi 138).toInt, (vi 139).toInt, (vi 140).toInt, (vi 141).toInt, (vi 142).toInt, (vi 143).toInt, (vi 144).toInt, (vi 145).toInt, (vi 146).toInt, (vi 147).toInt, (vi 148).toInt, (vi 149).toInt, (vi 150).toInt, (vi 151).toInt]) (gF1 := fl_nF [(fl_A (vf 55)), (fl_A (vf 56)), (fl_A (vf 57)), (fl_A (vf 58)), (fl_A (vf 59)), (fl_A (vf 60))]) (fun k h9 => lr_g4e vi h9) (fun k h9 => lr_f4e vf h9) hIm
    obtain ⟨R, tr, tu1, sn1, U1, L1, gI1, gF1, st1, und1, e1, e2, e3, e5⟩ := rs_wind hG hS hm hHi a.toInt
    rcases gm with ⟨z9, -⟩ | ⟨-, gm⟩
    · rw [hM1] at z9; exact absurd z9 (by decide)
    rw [e11, ← hU] at gm
    rw [e1] at gx
    rw [e2] at gm
    have p_tu : tu1 = (vi1 13).toInt := congrArg (fun z9 => z9.2.1) gx
    have p_sn : sn1 = (vi1 14).toInt := congrArg (fun z9 => z9.2.2.1) gx
    have p_U : U1 = (vi1 24).toInt := congrArg (fun z9 => z9.2.2.2.1) gx
    have p_L : L1 = (vi1 26).toInt := congrArg (fun z9 => z9.2.2.2.2.1) gx
    have p_gI : gI1 = (fl_nI [(vi1 57).toInt, (vi1 58).toInt, (vi1 59).toInt, (vi1 60).toInt, (vi1 61).toInt, (vi1 62).toInt, (vi1 63).toInt, (vi1 64).toInt, (vi1 65).toInt, (vi1 66).toInt, (vi1 67).toInt, (vi1 68).toInt, (vi1 69).toInt, (vi1 70).toInt, (vi1 71).toInt, (vi1 72).toInt, (vi1 73).toInt, (vi1 74).toInt, (vi1 75).toInt, (vi1 76).toInt, (vi1 77).toInt, (vi1 78).toInt, (vi1 79).toInt, (vi1 80).toInt, (vi1 81).toInt, (vi1 82).toInt, (vi1 83).toInt, (vi1 84).toInt, (vi1 85).toInt, (vi1 86).toInt, (vi1 87).toInt, (vi1 88).toInt, (vi1 89).toInt, (vi1 90).toInt, (vi1 91).toInt, (vi1 92).toInt, (vi1 93).toInt, (vi1 94).toInt, (vi1 95).toInt, (vi1 96).toInt, (vi1 97).toInt, (vi1 98).toInt, (vi1 99).toInt, (vi1 100).toInt, (vi1 101).toInt, (vi1 102).toInt, (vi1 103).toInt, (vi1 104).toInt, (vi1 105).toInt, (vi1 106).toInt, (vi1 107).toInt, (vi1 108).toInt, (vi1 109).toInt, (vi1 110).toInt, (vi1 111).toInt, (vi1 112).toInt, (vi1 113).toInt, (vi1 114).toInt, (vi1 115).toInt, (vi1 116).toInt, (vi1 117).toInt, (vi1 118).toInt, (vi1 119).toInt, (vi1 120).toInt, (vi1 121).toInt, (vi1 122).toInt, (vi1 123).toInt, (vi1 124).toInt, (vi1 125).toInt, (vi1 126).toInt, (vi1 127).toInt, (vi1 128).toInt, (vi1 129).toInt, (vi1 130).toInt, (vi1 131).toInt, (vi1 132).toInt, (vi1 133).toInt, (vi1 134).toInt, (vi1 135).toInt, (vi1 136).toInt]) := congrArg (fun z9 => z9.2.2.2.2.2.1) gx
    have p_gF : gF1 = (fl_nF [(fl_A (vf1 23)), (fl_A (vf1 24)), (fl_A (vf1 25)), (fl_A (vf1 26)), (fl_A (vf1 27)), (fl_A (vf1 28)), (fl_A (vf1 29)), (fl_A (vf1 30)), (fl_A (vf1 31)), (fl_A (vf1 32)), (fl_A (vf1 33)), (fl_A (vf1 34)), (fl_A (vf1 35)), (fl_A (vf1 36)), (fl_A (vf1 37)), (fl_A (vf1 38)), (fl_A (vf1 39)), (fl_A (vf1 40)), (fl_A (vf1 41)), (fl_A (vf1 42)), (fl_A (vf1 43)), (fl_A (vf1 44)), (fl_A (vf1 45)), (fl_A (vf1 46)), (fl_A (vf1 47)), (fl_A (vf1 48)), (fl_A (vf1 49)), (fl_A (vf1 50)), (fl_A (vf1 51)), (fl_A (vf1 52)), (fl_A (vf1 53)), (fl_A (vf1 54))]) := congrArg (fun z9 => z9.2.2.2.2.2.2) gx
    have r_U : U1 = (vm1 12).toInt := congrArg (fun z9 => z9.2.2.1) gm
    have r_st : st1 = (fl_A (vn1 4)) := congrArg (fun z9 => z9.2.2.2.1) gm
    have r_und : und1 = (fl_A (vn1 6)) := congrArg (fun z9 => z9.2.2.2.2) gm
    have w1 : rs_S (vi1 33).toInt (vi1 34).toInt (fl_A (vf1 11)) (vi1 12).toInt (vi1 13).toInt (vi1 14).toInt (vi1 15).toInt (vi1 16).toInt (fl_A (vf1 1)) (fl_A (vf1 2)) (fl_A (vn1 4)) := by
      rw [kx1 33 (by decide), kx1 34 (by decide), kx2 11 (by decide), kx1 12 (by decide), ← p_tu, ← p_sn, kx1 15 (by decide), kx1 16 (by decide), kx2 1 (by decide), kx2 2 (by decide), ← r_st]
      exact e3
    have w2 : (vi1 12).toInt ≤ 9999 := by
      rw [kx1 12 (by decide)]
      exact hm
    have w3 : (vi1 24).toInt = (vm1 12).toInt := by
      rw [← p_U, ← r_U]
    have w4 : (vi1 25).toInt = (vm1 13).toInt := by
      rw [kx1 25 (by decide), km1 13 (by decide)]
      exact hN
    have w5 : rs_H (vi1 33).toInt (vi1 34).toInt (fl_A (vf1 11)) (vi1 24).toInt (vi1 26).toInt (lr_g3 vi1) (lr_f3 vf1) (fl_A (vn1 6)) := by
      rw [kx1 33 (by decide), kx1 34 (by decide), kx2 11 (by decide), ← p_U, ← p_L, ← r_und]
      exact rs_H_cg (fun k h9 => by rw [p_gI]; exact (lr_g3e vi1 h9).symm) (fun k h9 => by rw [p_gF]; exact (lr_f3e vf1 h9).symm) e5
    have w6 : rs_I (vi1 33).toInt (vi1 34).toInt (fl_A (vf1 11)) (vi1 25).toInt (lr_g4 vi1) (lr_f4 vf1) (fl_A (vn1 7)) := by
      rw [kx1 33 (by decide), kx1 34 (by decide), kx2 11 (by decide), kx1 25 (by decide), km2 7 (by decide)]
      exact rs_I_cg (fun k h9 => by rw [lr_g4e vi h9]; show (vi1 (137 + k)).toInt = (vi (137 + k)).toInt; rw [kx1 (137 + k) (kp_out (a := 137) (b := 152) (by decide) (by omega) (by omega))]) (fun k h9 => by rw [lr_f4e vf h9]; show fl_A (vf1 (55 + k)) = fl_A (vf (55 + k)); rw [kx2 (55 + k) (kp_out (a := 55) (b := 61) (by decide) (by omega) (by omega))]) hIm
    exact ⟨by rw [kx1 1 (by decide), km1 7 (by decide)]; exact hF, lr_H_keep (kx1 33 (by decide)) (kx1 34 (by decide)) (kx1 35 (by decide)) (kx1 36 (by decide)) (kx1 37 (by decide)) (kx1 38 (by decide)) (kx1 39 (by decide)) (kx1 40 (by decide)) (kx1 41 (by decide)) (kx1 42 (by decide)) (kx1 53 (by decide)) (kx2 11 (by decide)) (kx2 12 (by decide)) (kx2 13 (by decide)) (kx2 14 (by decide)) (kx2 19 (by decide)) (kx2 20 (by decide)) (km1 11 (by decide)) (by rw [km2 2 (by decide)]) hH, ⟨by rw [kx1 54 (by decide)]; exact hV.1.1, by rw [kx1 56 (by decide)]; exact hV.1.2⟩, Or.inr ⟨by rw [km1 11 (by decide)]; exact hM1, w1, w2, w3, w4, w5, w6⟩⟩

theorem lr_go {tp : Int32} {vi vi1 vm vm1 : Nat → Int32} {vf vf1 vn vn1 : Nat → Nat → Int32} (hR : lr_R tp vi vf vm vn) (hM : vm 11 = 0 ∨ (vm 11 = 1 ∧ ((∀ k : Nat, 0 ≤ k → k ≤ 0 → (2 : Int) ≤ ((vn 2) k).toInt ∧ ((vn 2) k).toInt ≤ 9) ∧ (∀ k : Nat, 1 ≤ k → k ≤ 1 → (1 : Int) ≤ ((vn 2) k).toInt ∧ ((vn 2) k).toInt ≤ 20) ∧ (∀ k : Nat, 2 ≤ k → k ≤ 2 → (0 : Int) ≤ ((vn 2) k).toInt ∧ ((vn 2) k).toInt ≤ 8) ∧ (∀ k : Nat, 3 ≤ k → k ≤ 3 → (0 : Int) ≤ ((vn 2) k).toInt ∧ ((vn 2) k).toInt ≤ 100) ∧ (∀ k : Nat, 4 ≤ k → k ≤ 4 → (0 : Int) ≤ ((vn 2) k).toInt ∧ ((vn 2) k).toInt ≤ 9) ∧ (∀ k : Nat, 5 ≤ k → k ≤ 5 → (0 : Int) ≤ ((vn 2) k).toInt ∧ ((vn 2) k).toInt ≤ 3) ∧ (∀ k : Nat, 6 ≤ k → k ≤ 6 → (0 : Int) ≤ ((vn 2) k).toInt ∧ ((vn 2) k).toInt ≤ 6) ∧ (∀ k : Nat, 7 ≤ k → k ≤ 9 → (0 : Int) ≤ ((vn 2) k).toInt ∧ ((vn 2) k).toInt ≤ 8) ∧ (∀ k : Nat, 12 ≤ k → k ≤ 29 → (0 : Int) ≤ ((vn 2) k).toInt ∧ ((vn 2) k).toInt ≤ 20) ∧ (∀ k : Nat, 30 ≤ k → k ≤ 35 → (0 : Int) ≤ ((vn 2) k).toInt ∧ ((vn 2) k).toInt ≤ 8) ∧ (∀ k : Nat, 36 ≤ k → k ≤ 47 → (0 : Int) ≤ ((vn 2) k).toInt ∧ ((vn 2) k).toInt ≤ 999)) ∧ ((∀ (j i0 i : Int32), (0 : Int) ≤ j.toInt → j.toInt ≤ 8 → i0.toInt = 12 + 2 * j.toInt → i.toInt = 13 + 2 * j.toInt → ((vn 2) i0.toNatClampNeg).toInt = (1 : Int32).toInt → (1 : Int) ≤ ((vn 2) i.toNatClampNeg).toInt)))) (a : Int32) (kx1 : (∀ k9 : Nat, k9 ∉ ([0, 12, 13, 14, 15, 16, 24, 26, 57, 58, 59, 60, 61, 62, 63, 64, 65, 66, 67, 68, 69, 70, 71, 72, 73, 74, 75, 76, 77, 78, 79, 80, 81, 82, 83, 84, 85, 86, 87, 88, 89, 90, 91, 92, 93, 94, 95, 96, 97, 98, 99, 100, 101, 102, 103, 104, 105, 106, 107, 108, 109, 110, 111, 112, 113, 114, 115, 116, 117, 118, 119, 120, 121, 122, 123, 124, 125, 126, 127, 128, 129, 130, 131, 132, 133, 134, 135, 136] : List Nat) → vi1 k9 = vi k9)) (kx2 : (∀ k9 : Nat, k9 ∉ ([1, 2, 23, 24, 25, 26, 27, 28, 29, 30, 31, 32, 33, 34, 35, 36, 37, 38, 39, 40, 41, 42, 43, 44, 45, 46, 47, 48, 49, 50, 51, 52, 53, 54] : List Nat) → vf1 k9 = vf k9)) (km1 : (∀ k9 : Nat, k9 ∉ ([0, 9, 12, 14, 15, 16, 17] : List Nat) → vm1 k9 = vm k9)) (km2 : (∀ k9 : Nat, k9 ∉ ([4, 6, 8, 9] : List Nat) → vn1 k9 = vn k9)) (gx : (Ff_X7_go a.toInt (vi 33).toInt (vi 34).toInt (vi 35).toInt (vi 38).toInt (vi 39).toInt (vi 12).toInt (vi 13).toInt (vi 14).toInt (vi 15).toInt (vi 16).toInt (vi 24).toInt (vi 26).toInt (fl_nI [(vi 57).toInt, (vi 58).toInt, (vi 59).toInt, (vi 60).toInt, (vi 61).toInt, (vi 62).toInt, (vi 63).toInt, (vi 64).toInt, (vi 65).toInt, (vi 66).toInt, (vi 67).toInt, (vi 68).toInt, (vi 69).toInt, (vi 70).toInt, (vi 71).toInt, (vi 72).toInt, (vi 73).toInt, (vi 74).toInt, (vi 75).toInt, (vi 76).toInt, (vi 77).toInt, (vi 78).toInt, (vi 79).toInt, (vi 80).toInt, (vi 81).toInt, (vi 82).toInt, (vi 83).toInt, (vi 84).toInt, (vi 85).toInt, (vi 86).toInt, (vi 87).toInt, (vi 88).toInt, (vi 89).toInt, (vi 90).toInt, (vi 91).toInt, (vi 92).toInt, (vi 93).toInt, (vi 94).toInt, (vi 95).toInt, (vi 96).toInt, (vi 97).toInt, (vi 98).toInt, (vi 99).toInt, (vi 100).toInt, (vi 101).toInt, (vi 102).toInt, (vi 103).toInt, (vi 104).toInt, (vi 105).toInt, (vi 106).toInt, (vi 107).toInt, (vi 108).toInt, (vi 109).toInt, (vi 110).toInt, (vi 111).toInt, (vi 112).toInt, (vi 113).toInt, (vi 114).toInt, (vi 115).toInt, (vi 116).toInt, (vi 117).toInt, (vi 118).toInt, (vi 119).toInt, (vi 120).toInt, (vi 121).toInt, (vi 122).toInt, (vi 123).toInt, (vi 124).toInt, (vi 125).toInt, (vi 126).toInt, (vi 127).toInt, (vi 128).toInt, (vi 129).toInt, (vi 130).toInt, (vi 131).toInt, (vi 132).toInt, (vi 133).toInt, (vi 134).toInt, (vi 135).toInt, (vi 136).toInt]) (fl_A (vf 1)) (fl_nF [(fl_A (vf 23)), (fl_A (vf 24)), (fl_A (vf 25)), (fl_A (vf 26)), (fl_A (vf 27)), (fl_A (vf 28)), (fl_A (vf 29)), (fl_A (vf 30)), (fl_A (vf 31)), (fl_A (vf 32)), (fl_A (vf 33)), (fl_A (vf 34)), (fl_A (vf 35)), (fl_A (vf 36)), (fl_A (vf 37)), (fl_A (vf 38)), (fl_A (vf 39)), (fl_A (vf 40)), (fl_A (vf 41)), (fl_A (vf 42)), (fl_A (vf 43)), (fl_A (vf 44)), (fl_A (vf 45)), (fl_A (vf 46)), (fl_A (vf 47)), (fl_A (vf 48)), (fl_A (vf 49)), (fl_A (vf 50)), (fl_A (vf 51)), (fl_A (vf 52)), (fl_A (vf 53)), (fl_A (vf 54))]) (fl_A (vf 2)) (fl_A (vf 11)) (fl_A (vf 12)) (vi 53).toInt (vi 54).toInt (fl_A (vf 20)) (fl_A (vf 19))).2 = ((vi1 0).toInt, (vi1 12).toInt, (vi1 13).toInt, (vi1 14).toInt, (vi1 15).toInt, (vi1 16).toInt, (vi1 24).toInt, (vi1 26).toInt, (fl_nI [(vi1 57).toInt, (vi1 58).toInt, (vi1 59).toInt, (vi1 60).toInt, (vi1 61).toInt, (vi1 62).toInt, (vi1 63).toInt, (vi1 64).toInt, (vi1 65).toInt, (vi1 66).toInt, (vi1 67).toInt, (vi1 68).toInt, (vi1 69).toInt, (vi1 70).toInt, (vi1 71).toInt, (vi1 72).toInt, (vi1 73).toInt, (vi1 74).toInt, (vi1 75).toInt, (vi1 76).toInt, (vi1 77).toInt, (vi1 78).toInt, (vi1 79).toInt, (vi1 80).toInt, (vi1 81).toInt, (vi1 82).toInt, (vi1 83).toInt, (vi1 84).toInt, (vi1 85).toInt, (vi1 86).toInt, (vi1 87).toInt, (vi1 88).toInt, (vi1 89).toInt, (vi1 90).toInt, (vi1 91).toInt, (vi1 92).toInt, (vi1 93).toInt, (vi1 94).toInt, (vi1 95).toInt, (vi1 96).toInt, (vi1 97).toInt, (vi1 98).toInt, (vi1 99).toInt, (vi1 100).toInt, (vi1 101).toInt, (vi1 102).toInt, (vi1 103).toInt, (vi1 104).toInt, (vi1 105).toInt, (vi1 106).toInt, (vi1 107).toInt, (vi1 108).toInt, (vi1 109).toInt, (vi1 110).toInt, (vi1 111).toInt, (vi1 112).toInt, (vi1 113).toInt, (vi1 114).toInt, (vi1 115).toInt, (vi1 116).toInt, (vi1 117).toInt, (vi1 118).toInt, (vi1 119).toInt, (vi1 120).toInt, (vi1 121).toInt, (vi1 122).toInt, (vi1 123).toInt, (vi1 124).toInt, (vi1 125).toInt, (vi1 126).toInt, (vi1 127).toInt, (vi1 128).toInt, (vi1 129).toInt, (vi1 130).toInt, (vi1 131).toInt, (vi1 132).toInt, (vi1 133).toInt, (vi1 134).toInt, (vi1 135).toInt, (vi1 136).toInt]), (fl_A (vf1 1)), (fl_nF [(fl_A (vf1 23)), (fl_A (vf1 24)), (fl_A (vf1 25)), (fl_A (vf1 26)), (fl_A (vf1 27)), (fl_A (vf1 28)), (fl_A (vf1 29)), (fl_A (vf1 30)), (fl_A (vf1 31)), (fl_A (vf1 32)), (fl_A (vf1 33)), (fl_A (vf1 34)), (fl_A (vf1 35)), (fl_A (vf1 36)), (fl_A (vf1 37)), (fl_A (vf1 38)), (fl_A (vf1 39)), (fl_A (vf1 40)), (fl_A (vf1 41)), (fl_A (vf1 42)), (fl_A (vf1 43)), (fl_A (vf1 44)), (fl_A (vf1 45)), (fl_A (vf1 46)), (fl_A (vf1 47)), (fl_A (vf1 48)), (fl_A (vf1 49)), (fl_A (vf1 50)), (fl_A (vf1 51)), (fl_A (vf1 52)), (fl_A (vf1 53)), (fl_A (vf1 54))]), (fl_A (vf1 2)))) (gm : ((vm 11 = 0 ∧ (∀ k9 : Nat, k9 ∉ ([0, 9] : List Nat) → vm1 k9 = vm k9) ∧ (∀ k9 : Nat, k9 ∉ ([] : List Nat) → vn1 k9 = vn k9)) ∨ (vm 11 = 1 ∧ (Ff_X8_go a.toInt (vm 11).toInt (vm 12).toInt (vm 14).toInt (vm 15).toInt (vm 16).toInt (vm 17).toInt (fl_A (vn 4)) (fl_A (vn 6)) (fl_A (vn 2)) (fl_A (vn 8)) (fl_A (vn 9))).2 = ((vm1 0).toInt, (vm1 9).toInt, (vm1 12).toInt, (vm1 14).toInt, (vm1 15).toInt, (vm1 16).toInt, (vm1 17).toInt, (fl_A (vn1 4)), (fl_A (vn1 6)), (fl_A (vn1 8)), (fl_A (vn1 9)))))) : lr_Q vi1 vf1 vm1 vn1 := by
  obtain ⟨hT, hF, hH, hV⟩ := hR
  rcases hM with hM0 | ⟨hM1, hrs, hkm⟩
  · rcases hH with hH | ⟨z9, -⟩
    rotate_left
    · rw [hM0] at z9; exact absurd z9 (by decide)
    have hH9 : lr_H vi vf vm vn := Or.inl hH
    obtain ⟨-, h33, -⟩ := hH
    obtain ⟨⟨v54, v56⟩, hV⟩ := hV
    rcases hV with ⟨-, v12, v24, v25, u12, u13⟩ | ⟨z9, -⟩
    rotate_left
    · rw [hM0] at z9; exact absurd z9 (by decide)
    have e33 : (vi 33).toInt = 0 := by rw [h33]; decide
    have ex : Ff_X7_go a.toInt (vi 33).toInt (vi 34).toInt (vi 35).toInt (vi 38).toInt (vi 39).toInt (vi 12).toInt (vi 13).toInt (vi 14).toInt (vi 15).toInt (vi 16).toInt (vi 24).toInt (vi 26).toInt (fl_nI [(vi 57).toInt, (vi 58).toInt, (vi 59).toInt, (vi 60).toInt, (vi 61).toInt, (vi 62).toInt, (vi 63).toInt, (vi 64).toInt, (vi 65).toInt, (vi 66).toInt, (vi 67).toInt, (vi 68).toInt, (vi 69).toInt, (vi 70).toInt, (vi 71).toInt, (vi 72).toInt, (vi 73).toInt, (vi 74).toInt, (vi 75).toInt, (vi 76).toInt, (vi 77).toInt, (vi 78).toInt, (vi 79).toInt, (vi 80).toInt, (vi 81).toInt, (vi 82).toInt, (vi 83).toInt, (vi 84).toInt, (vi 85).toInt, (vi 86).toInt, (vi 87).toInt, (vi 88).toInt, (vi 89).toInt, (vi 90).toInt, (vi 91).toInt, (vi 92).toInt, (vi 93).toInt, (vi 94).toInt, (vi 95).toInt, (vi 96).toInt, (vi 97).toInt, (vi 98).toInt, (vi 99).toInt, (vi 100).toInt, (vi 101).toInt, (vi 102).toInt, (vi 103).toInt, (vi 104).toInt, (vi 105).toInt, (vi 106).toInt, (vi 107).toInt, (vi 108).toInt, (vi 109).toInt, (vi 110).toInt, (vi 111).toInt, (vi 112).toInt, (vi 113).toInt, (vi 114).toInt, (vi 115).toInt, (vi 116).toInt, (vi 117).toInt, (vi 118).toInt, (vi 119).toInt, (vi 120).toInt, (vi 121).toInt, (vi 122).toInt, (vi 123).toInt, (vi 124).toInt, (vi 125).toInt, (vi 126).toInt, (vi 127).toInt, (vi 128).toInt, (vi 129).toInt, (vi 130).toInt, (vi 131).toInt, (vi 132).toInt, (vi 133).toInt, (vi 134).toInt, (vi 135).toInt, (vi 136).toInt]) (fl_A (vf 1)) (fl_nF [(fl_A (vf 23)), (fl_A (vf 24)), (fl_A (vf 25)), (fl_A (vf 26)), (fl_A (vf 27)), (fl_A (vf 28)), (fl_A (vf 29)), (fl_A (vf 30)), (fl_A (vf 31)), (fl_A (vf 32)), (fl_A (vf 33)), (fl_A (vf 34)), (fl_A (vf 35)), (fl_A (vf 36)), (fl_A (vf 37)), (fl_A (vf 38)), (fl_A (vf 39)), (fl_A (vf 40)), (fl_A (vf 41)), (fl_A (vf 42)), (fl_A (vf 43)), (fl_A (vf 44)), (fl_A (vf 45)), (fl_A (vf 46)), (fl_A (vf 47)), (fl_A (vf 48)), (fl_A (vf 49)), (fl_A (vf 50)), (fl_A (vf 51)), (fl_A (vf 52)), (fl_A (vf 53)), (fl_A (vf 54))]) (fl_A (vf 2)) (fl_A (vf 11)) (fl_A (vf 12)) (vi 53).toInt (vi 54).toInt (fl_A (vf 20)) (fl_A (vf 19)) = ((-1), 1, (vi 12).toInt, (vi 13).toInt, (vi 14).toInt, (vi 15).toInt, (vi 16).toInt, (vi 24).toInt, (vi 26).toInt, (fl_nI [(vi 57).toInt, (vi 58).toInt, (vi 59).toInt, (vi 60).toInt, (vi 61).toInt, (vi 62).toInt, (vi 63).toInt, (vi 64).toInt, (vi 65).toInt, (vi 66).toInt, (vi 67).toInt, (vi 68).toInt, (vi 69).toInt, (vi 70).toInt, (vi 71).toInt, (vi 72).toInt, (vi 73).toInt, (vi 74).toInt, (vi 75).toInt, (vi 76).toInt, (vi 77).toInt, (vi 78).toInt, (vi 79).toInt, (vi 80).toInt, (vi 81).toInt, (vi 82).toInt, (vi 83).toInt, (vi 84).toInt, (vi 85).toInt, (vi 86).toInt, (vi 87).toInt, (vi 88).toInt, (vi 89).toInt, (vi 90).toInt, (vi 91).toInt, (vi 92).toInt, (vi 93).toInt, (vi 94).toInt, (vi 95).toInt, (vi 96).toInt, (vi 97).toInt, (vi 98).toInt, (vi 99).toInt, (vi 100).toInt, (vi 101).toInt, (vi 102).toInt, (vi 103).toInt, (vi 104).toInt, (vi 105).toInt, (vi 106).toInt, (vi 107).toInt, (vi 108).toInt, (vi 109).toInt, (vi 110).toInt, (vi 111).toInt, (vi 112).toInt, (vi 113).toInt, (vi 114).toInt, (vi 115).toInt, (vi 116).toInt, (vi 117).toInt, (vi 118).toInt, (vi 119).toInt, (vi 120).toInt, (vi 121).toInt, (vi 122).toInt, (vi 123).toInt, (vi 124).toInt, (vi 125).toInt, (vi 126).toInt, (vi 127).toInt, (vi 128).toInt, (vi 129).toInt, (vi 130).toInt, (vi 131).toInt, (vi 132).toInt, (vi 133).toInt, (vi 134).toInt, (vi 135).toInt, (vi 136).toInt]), (fl_A (vf 1)), (fl_nF [(fl_A (vf 23)), (fl_A (vf 24)), (fl_A (vf 25)), (fl_A (vf 26)), (fl_A (vf 27)), (fl_A (vf 28)), (fl_A (vf 29)), (fl_A (vf 30)), (fl_A (vf 31)), (fl_A (vf 32)), (fl_A (vf 33)), (fl_A (vf 34)), (fl_A (vf 35)), (fl_A (vf 36)), (fl_A (vf 37)), (fl_A (vf 38)), (fl_A (vf 39)), (fl_A (vf 40)), (fl_A (vf 41)), (fl_A (vf 42)), (fl_A (vf 43)), (fl_A (vf 44)), (fl_A (vf 45)), (fl_A (vf 46)), (fl_A (vf 47)), (fl_A (vf 48)), (fl_A (vf 49)), (fl_A (vf 50)), (fl_A (vf 51)), (fl_A (vf 52)), (fl_A (vf 53)), (fl_A (vf 54))]), (fl_A (vf 2))) := by
      unfold Ff_X7_go
      rw [e33, rs_tn, if_pos (by decide)]
      rfl
    rw [ex] at gx
    have p_mi : (vi 12).toInt = (vi1 12).toInt := congrArg (fun z9 => z9.2.1) gx
    have p_U : (vi 24).toInt = (vi1 24).toInt := congrArg (fun z9 => z9.2.2.2.2.2.2.1) gx
    rcases gm with ⟨-, k01, k02⟩ | ⟨z9, -⟩
    rotate_left
    · rw [hM0] at z9; exact absurd z9 (by decide)
    refine ⟨by rw [kx1 1 (by decide), k01 7 (by decide)]; exact hF, lr_H_keep (kx1 33 (by decide)) (kx1 34 (by decide)) (kx1 35 (by decide)) (kx1 36 (by decide)) (kx1 37 (by decide)) (kx1 38 (by decide)) (kx1 39 (by decide)) (kx1 40 (by decide)) (kx1 41 (by decide)) (kx1 42 (by decide)) (kx1 53 (by decide)) (kx2 11 (by decide)) (kx2 12 (by decide)) (kx2 13 (by decide)) (kx2 14 (by decide)) (kx2 19 (by decide)) (kx2 20 (by decide)) (k01 11 (by decide)) (by rw [k02 2 (by decide)]) hH9, ⟨by rw [kx1 54 (by decide)]; exact v54, by rw [kx1 56 (by decide)]; exact v56⟩, Or.inl ⟨by rw [k01 11 (by decide)]; exact hM0, by rw [← Int32.toInt_inj, ← p_mi, v12], by rw [← Int32.toInt_inj, ← p_U, v24], by rw [kx1 25 (by decide)]; exact v25, by rw [k01 12 (by decide)]; exact u12, by rw [k01 13 (by decide)]; exact u13⟩⟩
  · obtain ⟨hG, hD, -⟩ := lr_G hH hM1 hrs hkm
    have hf9 : 2 ≤ (vi 33).toInt ∧ (vi 33).toInt ≤ 9 := ⟨hG.1.2.1, hG.1.2.2⟩
    have f9 := hf9.2
    have hV4 := hV.2
    rcases hV4 with ⟨z9, -⟩ | ⟨-, hS, hm, hU, hN, hHi, hIm⟩
    · rw [hM1] at z9; exact absurd z9 (by decide)
    have e11 : (vm 11).toInt = 1 := by rw [hM1]; decide
    have hHi := rs_H_cg (gI1 := fl_nI [(vi 57).toInt, (vi 58).toInt, (vi 59).toInt, (vi 60).toInt, (vi 61).toInt, (vi 62).toInt, (vi 63).toInt, (vi 64).toInt, (vi 65).toInt, (vi 66).toInt, (vi 67).toInt, (vi 68).toInt, (vi 69).toInt, (vi 70).toInt, (vi 71).toInt, (vi 72).toInt, (vi 73).toInt, (vi 74).toInt, (vi 75).toInt, (vi 76).toInt, (vi 77).toInt, (vi 78).toInt, (vi 79).toInt, (vi 80).toInt, (vi 81).toInt, (vi 82).toInt, (vi 83).toInt, (vi 84).toInt, (vi 85).toInt, (vi 86).toInt, (vi 87).toInt, (vi 88).toInt, (vi 89).toInt, (vi 90).toInt, (vi 91).toInt, (vi 92).toInt, (vi 93).toInt, (vi 94).toInt, (vi 95).toInt, (vi 96).toInt, (vi 97).toInt, (vi 98).toInt, (vi 99).toInt, (vi 100).toInt, (vi 101).toInt, (vi 102).toInt, (vi 103).toInt, (vi 104).toInt, (vi 105).toInt, (vi 106).toInt, (vi 107).toInt, (vi 108).toInt, (vi 109).toInt, (vi 110).toInt, (vi 111).toInt, (vi 112).toInt, (vi 113).toInt, (vi 114).toInt, (vi 115).toInt, (vi 116).toInt, (vi 117).toInt, (vi 118).toInt, (vi 119).toInt, (vi 120).toInt, (vi 121).toInt, (vi 122).toInt, (vi 123).toInt, (vi 124).toInt, (vi 125).toInt, (vi 126).toInt, (vi 127).toInt, (vi 128).toInt, (vi 129).toInt, (vi 130).toInt, (vi 131).toInt, (vi 132).toInt, (vi 133).toInt, (vi 134).toInt, (vi 135).toInt, (vi 136).toInt]) (gF1 := fl_nF [(fl_A (vf 23)), (fl_A (vf 24)), (fl_A (vf 25)), (fl_A (vf 26)), (fl_A (vf 27)), (fl_A (vf 28)), (fl_A (vf 29)), (fl_A (vf 30)), (fl_A (vf 31)), (fl_A (vf 32)), (fl_A (vf 33)), (fl_A (vf 34)), (fl_A (vf 35)), (fl_A (vf 36)), (fl_A (vf 37)), (fl_A (vf 38)), (fl_A (vf 39)), (fl_A (vf 40)), (fl_A (vf 41)), (fl_A (vf 42)), (fl_A (vf 43)), (fl_A (vf 44)), (fl_A (vf 45)), (fl_A (vf 46)), (fl_A (vf 47)), (fl_A (vf 48)), (fl_A (vf 49)), (fl_A (vf 50)), (fl_A (vf 51)), (fl_A (vf 52)), (fl_A (vf 53)), (fl_A (vf 54))]) (fun k h9 => lr_g3e vi h9) (fun k h9 => lr_f3e vf h9) hHi
    have hIm := rs_I_cg (gI1 := fl_nI [(vi 137).toInt, (vi 138).toInt, (vi 139).toInt, (vi 140).toInt, (vi 141).toInt, (vi 142).toInt, (vi 143).toInt, (vi 144).toInt, (vi 145).toInt, (vi 146).toInt, (vi 147).toInt, (vi 148).toInt, (vi 149).toInt, (vi 150).toInt, (vi 151).toInt]) (gF1 := fl_nF [(fl_A (vf 55)), (fl_A (vf 56)), (fl_A (vf 57)), (fl_A (vf 58)), (fl_A (vf 59)), (fl_A (vf 60))]) (fun k h9 => lr_g4e vi h9) (fun k h9 => lr_f4e vf h9) hIm
    obtain ⟨R, tr, mi1, tu1, sn1, go1, ca1, U1, L1, z5, z6, z7, z8, gI1, pl1, gF1, he1, st1, und1, ff1, tt1, e1, e2, e3, e4, e5⟩ := rs_go hG (hD hV.1.1) hS hm hHi a.toInt (vm 14).toInt (vm 15).toInt (vm 16).toInt (vm 17).toInt (fl_A (vn 8)) (fl_A (vn 9))
    rcases gm with ⟨z9, -⟩ | ⟨-, gm⟩
    · rw [hM1] at z9; exact absurd z9 (by decide)
    rw [e11, ← hU] at gm
    rw [e1] at gx
    rw [e2] at gm
    have p_mi : mi1 = (vi1 12).toInt := congrArg (fun z9 => z9.2.1) gx
    have p_tu : tu1 = (vi1 13).toInt := congrArg (fun z9 => z9.2.2.1) gx
    have p_sn : sn1 = (vi1 14).toInt := congrArg (fun z9 => z9.2.2.2.1) gx
    have p_go : go1 = (vi1 15).toInt := congrArg (fun z9 => z9.2.2.2.2.1) gx
    have p_ca : ca1 = (vi1 16).toInt := congrArg (fun z9 => z9.2.2.2.2.2.1) gx
    have p_U : U1 = (vi1 24).toInt := congrArg (fun z9 => z9.2.2.2.2.2.2.1) gx
    have p_L : L1 = (vi1 26).toInt := congrArg (fun z9 => z9.2.2.2.2.2.2.2.1) gx
    have p_gI : gI1 = (fl_nI [(vi1 57).toInt, (vi1 58).toInt, (vi1 59).toInt, (vi1 60).toInt, (vi1 61).toInt, (vi1 62).toInt, (vi1 63).toInt, (vi1 64).toInt, (vi1 65).toInt, (vi1 66).toInt, (vi1 67).toInt, (vi1 68).toInt, (vi1 69).toInt, (vi1 70).toInt, (vi1 71).toInt, (vi1 72).toInt, (vi1 73).toInt, (vi1 74).toInt, (vi1 75).toInt, (vi1 76).toInt, (vi1 77).toInt, (vi1 78).toInt, (vi1 79).toInt, (vi1 80).toInt, (vi1 81).toInt, (vi1 82).toInt, (vi1 83).toInt, (vi1 84).toInt, (vi1 85).toInt, (vi1 86).toInt, (vi1 87).toInt, (vi1 88).toInt, (vi1 89).toInt, (vi1 90).toInt, (vi1 91).toInt, (vi1 92).toInt, (vi1 93).toInt, (vi1 94).toInt, (vi1 95).toInt, (vi1 96).toInt, (vi1 97).toInt, (vi1 98).toInt, (vi1 99).toInt, (vi1 100).toInt, (vi1 101).toInt, (vi1 102).toInt, (vi1 103).toInt, (vi1 104).toInt, (vi1 105).toInt, (vi1 106).toInt, (vi1 107).toInt, (vi1 108).toInt, (vi1 109).toInt, (vi1 110).toInt, (vi1 111).toInt, (vi1 112).toInt, (vi1 113).toInt, (vi1 114).toInt, (vi1 115).toInt, (vi1 116).toInt, (vi1 117).toInt, (vi1 118).toInt, (vi1 119).toInt, (vi1 120).toInt, (vi1 121).toInt, (vi1 122).toInt, (vi1 123).toInt, (vi1 124).toInt, (vi1 125).toInt, (vi1 126).toInt, (vi1 127).toInt, (vi1 128).toInt, (vi1 129).toInt, (vi1 130).toInt, (vi1 131).toInt, (vi1 132).toInt, (vi1 133).toInt, (vi1 134).toInt, (vi1 135).toInt, (vi1 136).toInt]) := congrArg (fun z9 => z9.2.2.2.2.2.2.2.2.1) gx
    have p_pl : pl1 = (fl_A (vf1 1)) := congrArg (fun z9 => z9.2.2.2.2.2.2.2.2.2.1) gx
    have p_gF : gF1 = (fl_nF [(fl_A (vf1 23)), (fl_A (vf1 24)), (fl_A (vf1 25)), (fl_A (vf1 26)), (fl_A (vf1 27)), (fl_A (vf1 28)), (fl_A (vf1 29)), (fl_A (vf1 30)), (fl_A (vf1 31)), (fl_A (vf1 32)), (fl_A (vf1 33)), (fl_A (vf1 34)), (fl_A (vf1 35)), (fl_A (vf1 36)), (fl_A (vf1 37)), (fl_A (vf1 38)), (fl_A (vf1 39)), (fl_A (vf1 40)), (fl_A (vf1 41)), (fl_A (vf1 42)), (fl_A (vf1 43)), (fl_A (vf1 44)), (fl_A (vf1 45)), (fl_A (vf1 46)), (fl_A (vf1 47)), (fl_A (vf1 48)), (fl_A (vf1 49)), (fl_A (vf1 50)), (fl_A (vf1 51)), (fl_A (vf1 52)), (fl_A (vf1 53)), (fl_A (vf1 54))]) := congrArg (fun z9 => z9.2.2.2.2.2.2.2.2.2.2.1) gx
    have p_he : he1 = (fl_A (vf1 2)) := congrArg (fun z9 => z9.2.2.2.2.2.2.2.2.2.2.2) gx
    have r_U : U1 = (vm1 12).toInt := congrArg (fun z9 => z9.2.2.1) gm
    have r_st : st1 = (fl_A (vn1 4)) := congrArg (fun z9 => z9.2.2.2.2.2.2.2.1) gm
    have r_und : und1 = (fl_A (vn1 6)) := congrArg (fun z9 => z9.2.2.2.2.2.2.2.2.1) gm
    have w1 : rs_S (vi1 33).toInt (vi1 34).toInt (fl_A (vf1 11)) (vi1 12).toInt (vi1 13).toInt (vi1 14).toInt (vi1 15).toInt (vi1 16).toInt (fl_A (vf1 1)) (fl_A (vf1 2)) (fl_A (vn1 4)) := by
      rw [kx1 33 (by decide), kx1 34 (by decide), kx2 11 (by decide), ← p_mi, ← p_tu, ← p_sn, ← p_go, ← p_ca, ← p_pl, ← p_he, ← r_st]
      exact e3
    have w2 : (vi1 12).toInt ≤ 9999 := by
      rw [← p_mi]
      exact e4
    have w3 : (vi1 24).toInt = (vm1 12).toInt := by
      rw [← p_U, ← r_U]
    have w4 : (vi1 25).toInt = (vm1 13).toInt := by
      rw [kx1 25 (by decide), km1 13 (by decide)]
      exact hN
    have w5 : rs_H (vi1 33).toInt (vi1 34).toInt (fl_A (vf1 11)) (vi1 24).toInt (vi1 26).toInt (lr_g3 vi1) (lr_f3 vf1) (fl_A (vn1 6)) := by
      rw [kx1 33 (by decide), kx1 34 (by decide), kx2 11 (by decide), ← p_U, ← p_L, ← r_und]
      exact rs_H_cg (fun k h9 => by rw [p_gI]; exact (lr_g3e vi1 h9).symm) (fun k h9 => by rw [p_gF]; exact (lr_f3e vf1 h9).symm) e5
    have w6 : rs_I (vi1 33).toInt (vi1 34).toInt (fl_A (vf1 11)) (vi1 25).toInt (lr_g4 vi1) (lr_f4 vf1) (fl_A (vn1 7)) := by
      rw [kx1 33 (by decide), kx1 34 (by decide), kx2 11 (by decide), kx1 25 (by decide), km2 7 (by decide)]
      exact rs_I_cg (fun k h9 => by rw [lr_g4e vi h9]; show (vi1 (137 + k)).toInt = (vi (137 + k)).toInt; rw [kx1 (137 + k) (kp_out (a := 137) (b := 152) (by decide) (by omega) (by omega))]) (fun k h9 => by rw [lr_f4e vf h9]; show fl_A (vf1 (55 + k)) = fl_A (vf (55 + k)); rw [kx2 (55 + k) (kp_out (a := 55) (b := 61) (by decide) (by omega) (by omega))]) hIm
    exact ⟨by rw [kx1 1 (by decide), km1 7 (by decide)]; exact hF, lr_H_keep (kx1 33 (by decide)) (kx1 34 (by decide)) (kx1 35 (by decide)) (kx1 36 (by decide)) (kx1 37 (by decide)) (kx1 38 (by decide)) (kx1 39 (by decide)) (kx1 40 (by decide)) (kx1 41 (by decide)) (kx1 42 (by decide)) (kx1 53 (by decide)) (kx2 11 (by decide)) (kx2 12 (by decide)) (kx2 13 (by decide)) (kx2 14 (by decide)) (kx2 19 (by decide)) (kx2 20 (by decide)) (km1 11 (by decide)) (by rw [km2 2 (by decide)]) hH, ⟨by rw [kx1 54 (by decide)]; exact hV.1.1, by rw [kx1 56 (by decide)]; exact hV.1.2⟩, Or.inr ⟨by rw [km1 11 (by decide)]; exact hM1, w1, w2, w3, w4, w5, w6⟩⟩

theorem lr_undo {tp : Int32} {vi vi1 vm vm1 : Nat → Int32} {vf vf1 vn vn1 : Nat → Nat → Int32} (hR : lr_R tp vi vf vm vn) (hM : vm 11 = 0 ∨ (vm 11 = 1 ∧ ((∀ k : Nat, 0 ≤ k → k ≤ 0 → (2 : Int) ≤ ((vn 2) k).toInt ∧ ((vn 2) k).toInt ≤ 9) ∧ (∀ k : Nat, 1 ≤ k → k ≤ 1 → (1 : Int) ≤ ((vn 2) k).toInt ∧ ((vn 2) k).toInt ≤ 20) ∧ (∀ k : Nat, 2 ≤ k → k ≤ 2 → (0 : Int) ≤ ((vn 2) k).toInt ∧ ((vn 2) k).toInt ≤ 8) ∧ (∀ k : Nat, 3 ≤ k → k ≤ 3 → (0 : Int) ≤ ((vn 2) k).toInt ∧ ((vn 2) k).toInt ≤ 100) ∧ (∀ k : Nat, 4 ≤ k → k ≤ 4 → (0 : Int) ≤ ((vn 2) k).toInt ∧ ((vn 2) k).toInt ≤ 9) ∧ (∀ k : Nat, 5 ≤ k → k ≤ 5 → (0 : Int) ≤ ((vn 2) k).toInt ∧ ((vn 2) k).toInt ≤ 3) ∧ (∀ k : Nat, 6 ≤ k → k ≤ 6 → (0 : Int) ≤ ((vn 2) k).toInt ∧ ((vn 2) k).toInt ≤ 6) ∧ (∀ k : Nat, 7 ≤ k → k ≤ 9 → (0 : Int) ≤ ((vn 2) k).toInt ∧ ((vn 2) k).toInt ≤ 8) ∧ (∀ k : Nat, 12 ≤ k → k ≤ 29 → (0 : Int) ≤ ((vn 2) k).toInt ∧ ((vn 2) k).toInt ≤ 20) ∧ (∀ k : Nat, 30 ≤ k → k ≤ 35 → (0 : Int) ≤ ((vn 2) k).toInt ∧ ((vn 2) k).toInt ≤ 8) ∧ (∀ k : Nat, 36 ≤ k → k ≤ 47 → (0 : Int) ≤ ((vn 2) k).toInt ∧ ((vn 2) k).toInt ≤ 999)) ∧ ((∀ (j i0 i : Int32), (0 : Int) ≤ j.toInt → j.toInt ≤ 8 → i0.toInt = 12 + 2 * j.toInt → i.toInt = 13 + 2 * j.toInt → ((vn 2) i0.toNatClampNeg).toInt = (1 : Int32).toInt → (1 : Int) ≤ ((vn 2) i.toNatClampNeg).toInt)))) (kx1 : (∀ k9 : Nat, k9 ∉ ([0, 12, 13, 14, 15, 16, 24, 26] : List Nat) → vi1 k9 = vi k9)) (kx2 : (∀ k9 : Nat, k9 ∉ ([1, 2] : List Nat) → vf1 k9 = vf k9)) (km1 : (∀ k9 : Nat, k9 ∉ ([0, 9, 12] : List Nat) → vm1 k9 = vm k9)) (km2 : (∀ k9 : Nat, k9 ∉ ([4] : List Nat) → vn1 k9 = vn k9)) (gx : (Ff_X7_undo (vi 24).toInt (vi 26).toInt (vi 12).toInt (vi 13).toInt (vi 14).toInt (vi 15).toInt (vi 16).toInt (fl_nI [(vi 57).toInt, (vi 58).toInt, (vi 59).toInt, (vi 60).toInt, (vi 61).toInt, (vi 62).toInt, (vi 63).toInt, (vi 64).toInt, (vi 65).toInt, (vi 66).toInt, (vi 67).toInt, (vi 68).toInt, (vi 69).toInt, (vi 70).toInt, (vi 71).toInt, (vi 72).toInt, (vi 73).toInt, (vi 74).toInt, (vi 75).toInt, (vi 76).toInt, (vi 77).toInt, (vi 78).toInt, (vi 79).toInt, (vi 80).toInt, (vi 81).toInt, (vi 82).toInt, (vi 83).toInt, (vi 84).toInt, (vi 85).toInt, (vi 86).toInt, (vi 87).toInt, (vi 88).toInt, (vi 89).toInt, (vi 90).toInt, (vi 91).toInt, (vi 92).toInt, (vi 93).toInt, (vi 94).toInt, (vi 95).toInt, (vi 96).toInt, (vi 97).toInt, (vi 98).toInt, (vi 99).toInt, (vi 100).toInt, (vi 101).toInt, (vi 102).toInt, (vi 103).toInt, (vi 104).toInt, (vi 105).toInt, (vi 106).toInt, (vi 107).toInt, (vi 108).toInt, (vi 109).toInt, (vi 110).toInt, (vi 111).toInt, (vi 112).toInt, (vi 113).toInt, (vi 114).toInt, (vi 115).toInt, (vi 116).toInt, (vi 117).toInt, (vi 118).toInt, (vi 119).toInt, (vi 120).toInt, (vi 121).toInt, (vi 122).toInt, (vi 123).toInt, (vi 124).toInt, (vi 125).toInt, (vi 126).toInt, (vi 127).toInt, (vi 128).toInt, (vi 129).toInt, (vi 130).toInt, (vi 131).toInt, (vi 132).toInt, (vi 133).toInt, (vi 134).toInt, (vi 135).toInt, (vi 136).toInt]) (fl_nF [(fl_A (vf 23)), (fl_A (vf 24)), (fl_A (vf 25)), (fl_A (vf 26)), (fl_A (vf 27)), (fl_A (vf 28)), (fl_A (vf 29)), (fl_A (vf 30)), (fl_A (vf 31)), (fl_A (vf 32)), (fl_A (vf 33)), (fl_A (vf 34)), (fl_A (vf 35)), (fl_A (vf 36)), (fl_A (vf 37)), (fl_A (vf 38)), (fl_A (vf 39)), (fl_A (vf 40)), (fl_A (vf 41)), (fl_A (vf 42)), (fl_A (vf 43)), (fl_A (vf 44)), (fl_A (vf 45)), (fl_A (vf 46)), (fl_A (vf 47)), (fl_A (vf 48)), (fl_A (vf 49)), (fl_A (vf 50)), (fl_A (vf 51)), (fl_A (vf 52)), (fl_A (vf 53)), (fl_A (vf 54))]) (fl_A (vf 1)) (fl_A (vf 2))).2 = ((vi1 0).toInt, (vi1 24).toInt, (vi1 26).toInt, (vi1 12).toInt, (vi1 13).toInt, (vi1 14).toInt, (vi1 15).toInt, (vi1 16).toInt, (fl_A (vf1 1)), (fl_A (vf1 2)))) (gm : (Ff_X8_undo (vm 12).toInt (fl_A (vn 6)) (fl_A (vn 4))).2 = ((vm1 0).toInt, (vm1 9).toInt, (vm1 12).toInt, (fl_A (vn1 4)))) : lr_Q vi1 vf1 vm1 vn1 := by
  obtain ⟨hT, hF, hH, hV⟩ := hR
  rcases hM with hM0 | ⟨hM1, hrs, hkm⟩
  · rcases hH with hH | ⟨z9, -⟩
    rotate_left
    · rw [hM0] at z9; exact absurd z9 (by decide)
    have hH9 : lr_H vi vf vm vn := Or.inl hH
    obtain ⟨-, h33, -⟩ := hH
    obtain ⟨⟨v54, v56⟩, hV⟩ := hV
    rcases hV with ⟨-, v12, v24, v25, u12, u13⟩ | ⟨z9, -⟩
    rotate_left
    · rw [hM0] at z9; exact absurd z9 (by decide)
    have e33 : (vi 33).toInt = 0 := by rw [h33]; decide
    have e24 : (vi 24).toInt = 0 := by rw [v24]; decide
    have e12 : (vm 12).toInt = 0 := by rw [u12]; decide
    have ex : Ff_X7_undo (vi 24).toInt (vi 26).toInt (vi 12).toInt (vi 13).toInt (vi 14).toInt (vi 15).toInt (vi 16).toInt (fl_nI [(vi 57).toInt, (vi 58).toInt, (vi 59).toInt, (vi 60).toInt, (vi 61).toInt, (vi 62).toInt, (vi 63).toInt, (vi 64).toInt, (vi 65).toInt, (vi 66).toInt, (vi 67).toInt, (vi 68).toInt, (vi 69).toInt, (vi 70).toInt, (vi 71).toInt, (vi 72).toInt, (vi 73).toInt, (vi 74).toInt, (vi 75).toInt, (vi 76).toInt, (vi 77).toInt, (vi 78).toInt, (vi 79).toInt, (vi 80).toInt, (vi 81).toInt, (vi 82).toInt, (vi 83).toInt, (vi 84).toInt, (vi 85).toInt, (vi 86).toInt, (vi 87).toInt, (vi 88).toInt, (vi 89).toInt, (vi 90).toInt, (vi 91).toInt, (vi 92).toInt, (vi 93).toInt, (vi 94).toInt, (vi 95).toInt, (vi 96).toInt, (vi 97).toInt, (vi 98).toInt, (vi 99).toInt, (vi 100).toInt, (vi 101).toInt, (vi 102).toInt, (vi 103).toInt, (vi 104).toInt, (vi 105).toInt, (vi 106).toInt, (vi 107).toInt, (vi 108).toInt, (vi 109).toInt, (vi 110).toInt, (vi 111).toInt, (vi 112).toInt, (vi 113).toInt, (vi 114).toInt, (vi 115).toInt, (vi 116).toInt, (vi 117).toInt, (vi 118).toInt, (vi 119).toInt, (vi 120).toInt, (vi 121).toInt, (vi 122).toInt, (vi 123).toInt, (vi 124).toInt, (vi 125).toInt, (vi 126).toInt, (vi 127).toInt, (vi 128).toInt, (vi 129).toInt, (vi 130).toInt, (vi 131).toInt, (vi 132).toInt, (vi 133).toInt, (vi 134).toInt, (vi 135).toInt, (vi 136).toInt]) (fl_nF [(fl_A (vf 23)), (fl_A (vf 24)), (fl_A (vf 25)), (fl_A (vf 26)), (fl_A (vf 27)), (fl_A (vf 28)), (fl_A (vf 29)), (fl_A (vf 30)), (fl_A (vf 31)), (fl_A (vf 32)), (fl_A (vf 33)), (fl_A (vf 34)), (fl_A (vf 35)), (fl_A (vf 36)), (fl_A (vf 37)), (fl_A (vf 38)), (fl_A (vf 39)), (fl_A (vf 40)), (fl_A (vf 41)), (fl_A (vf 42)), (fl_A (vf 43)), (fl_A (vf 44)), (fl_A (vf 45)), (fl_A (vf 46)), (fl_A (vf 47)), (fl_A (vf 48)), (fl_A (vf 49)), (fl_A (vf 50)), (fl_A (vf 51)), (fl_A (vf 52)), (fl_A (vf 53)), (fl_A (vf 54))]) (fl_A (vf 1)) (fl_A (vf 2)) = (0, 6, (vi 24).toInt, (vi 26).toInt, (vi 12).toInt, (vi 13).toInt, (vi 14).toInt, (vi 15).toInt, (vi 16).toInt, (fl_A (vf 1)), (fl_A (vf 2))) := by
      unfold Ff_X7_undo Ff_X1_takeLatest
      rw [if_pos e24, fl_c10_eq rfl]
      rfl
    rw [ex] at gx
    have p_U : (vi 24).toInt = (vi1 24).toInt := congrArg (fun z9 => z9.2.1) gx
    have p_mi : (vi 12).toInt = (vi1 12).toInt := congrArg (fun z9 => z9.2.2.2.1) gx
    have em : Ff_X8_undo (vm 12).toInt (fl_A (vn 6)) (fl_A (vn 4)) = (0, 0, 6, (vm 12).toInt, (fl_A (vn 4))) := by
      unfold Ff_X8_undo Ff_X8_good
      rw [fl_c2_eq rfl, if_pos e12]
      rfl
    rw [em] at gm
    have p_Um : (vm 12).toInt = (vm1 12).toInt := congrArg (fun z9 => z9.2.2.1) gm
    refine ⟨by rw [kx1 1 (by decide), km1 7 (by decide)]; exact hF, lr_H_keep (kx1 33 (by decide)) (kx1 34 (by decide)) (kx1 35 (by decide)) (kx1 36 (by decide)) (kx1 37 (by decide)) (kx1 38 (by decide)) (kx1 39 (by decide)) (kx1 40 (by decide)) (kx1 41 (by decide)) (kx1 42 (by decide)) (kx1 53 (by decide)) (kx2 11 (by decide)) (kx2 12 (by decide)) (kx2 13 (by decide)) (kx2 14 (by decide)) (kx2 19 (by decide)) (kx2 20 (by decide)) (km1 11 (by decide)) (by rw [km2 2 (by decide)]) hH9, ⟨by rw [kx1 54 (by decide)]; exact v54, by rw [kx1 56 (by decide)]; exact v56⟩, Or.inl ⟨by rw [km1 11 (by decide)]; exact hM0, by rw [← Int32.toInt_inj, ← p_mi, v12], by rw [← Int32.toInt_inj, ← p_U, v24], by rw [kx1 25 (by decide)]; exact v25, by rw [← Int32.toInt_inj, ← p_Um, u12], by rw [km1 13 (by decide)]; exact u13⟩⟩
  · obtain ⟨hG, hD, -⟩ := lr_G hH hM1 hrs hkm
    have hf9 : 2 ≤ (vi 33).toInt ∧ (vi 33).toInt ≤ 9 := ⟨hG.1.2.1, hG.1.2.2⟩
    have f9 := hf9.2
    have hV4 := hV.2
    rcases hV4 with ⟨z9, -⟩ | ⟨-, hS, hm, hU, hN, hHi, hIm⟩
    · rw [hM1] at z9; exact absurd z9 (by decide)
    have e11 : (vm 11).toInt = 1 := by rw [hM1]; decide
    have hHi := rs_H_cg (gI1 := fl_nI [(vi 57).toInt, (vi 58).toInt, (vi 59).toInt, (vi 60).toInt, (vi 61).toInt, (vi 62).toInt, (vi 63).toInt, (vi 64).toInt, (vi 65).toInt, (vi 66).toInt, (vi 67).toInt, (vi 68).toInt, (vi 69).toInt, (vi 70).toInt, (vi 71).toInt, (vi 72).toInt, (vi 73).toInt, (vi 74).toInt, (vi 75).toInt, (vi 76).toInt, (vi 77).toInt, (vi 78).toInt, (vi 79).toInt, (vi 80).toInt, (vi 81).toInt, (vi 82).toInt, (vi 83).toInt, (vi 84).toInt, (vi 85).toInt, (vi 86).toInt, (vi 87).toInt, (vi 88).toInt, (vi 89).toInt, (vi 90).toInt, (vi 91).toInt, (vi 92).toInt, (vi 93).toInt, (vi 94).toInt, (vi 95).toInt, (vi 96).toInt, (vi 97).toInt, (vi 98).toInt, (vi 99).toInt, (vi 100).toInt, (vi 101).toInt, (vi 102).toInt, (vi 103).toInt, (vi 104).toInt, (vi 105).toInt, (vi 106).toInt, (vi 107).toInt, (vi 108).toInt, (vi 109).toInt, (vi 110).toInt, (vi 111).toInt, (vi 112).toInt, (vi 113).toInt, (vi 114).toInt, (vi 115).toInt, (vi 116).toInt, (vi 117).toInt, (vi 118).toInt, (vi 119).toInt, (vi 120).toInt, (vi 121).toInt, (vi 122).toInt, (vi 123).toInt, (vi 124).toInt, (vi 125).toInt, (vi 126).toInt, (vi 127).toInt, (vi 128).toInt, (vi 129).toInt, (vi 130).toInt, (vi 131).toInt, (vi 132).toInt, (vi 133).toInt, (vi 134).toInt, (vi 135).toInt, (vi 136).toInt]) (gF1 := fl_nF [(fl_A (vf 23)), (fl_A (vf 24)), (fl_A (vf 25)), (fl_A (vf 26)), (fl_A (vf 27)), (fl_A (vf 28)), (fl_A (vf 29)), (fl_A (vf 30)), (fl_A (vf 31)), (fl_A (vf 32)), (fl_A (vf 33)), (fl_A (vf 34)), (fl_A (vf 35)), (fl_A (vf 36)), (fl_A (vf 37)), (fl_A (vf 38)), (fl_A (vf 39)), (fl_A (vf 40)), (fl_A (vf 41)), (fl_A (vf 42)), (fl_A (vf 43)), (fl_A (vf 44)), (fl_A (vf 45)), (fl_A (vf 46)), (fl_A (vf 47)), (fl_A (vf 48)), (fl_A (vf 49)), (fl_A (vf 50)), (fl_A (vf 51)), (fl_A (vf 52)), (fl_A (vf 53)), (fl_A (vf 54))]) (fun k h9 => lr_g3e vi h9) (fun k h9 => lr_f3e vf h9) hHi
    have hIm := rs_I_cg (gI1 := fl_nI [(vi 137).toInt, (vi 138).toInt, (vi 139).toInt, (vi 140).toInt, (vi 141).toInt, (vi 142).toInt, (vi 143).toInt, (vi 144).toInt, (vi 145).toInt, (vi 146).toInt, (vi 147).toInt, (vi 148).toInt, (vi 149).toInt, (vi 150).toInt, (vi 151).toInt]) (gF1 := fl_nF [(fl_A (vf 55)), (fl_A (vf 56)), (fl_A (vf 57)), (fl_A (vf 58)), (fl_A (vf 59)), (fl_A (vf 60))]) (fun k h9 => lr_g4e vi h9) (fun k h9 => lr_f4e vf h9) hIm
    obtain ⟨R, tr, U1, L1, mi1, tu1, sn1, go1, ca1, pl1, he1, st1, e1, e2, e3, e4, e5⟩ := rs_undo f9 hS hm hHi
    rw [← hU] at gm
    rw [e1] at gx
    rw [e2] at gm
    have p_U : U1 = (vi1 24).toInt := congrArg (fun z9 => z9.2.1) gx
    have p_L : L1 = (vi1 26).toInt := congrArg (fun z9 => z9.2.2.1) gx
    have p_mi : mi1 = (vi1 12).toInt := congrArg (fun z9 => z9.2.2.2.1) gx
    have p_tu : tu1 = (vi1 13).toInt := congrArg (fun z9 => z9.2.2.2.2.1) gx
    have p_sn : sn1 = (vi1 14).toInt := congrArg (fun z9 => z9.2.2.2.2.2.1) gx
    have p_go : go1 = (vi1 15).toInt := congrArg (fun z9 => z9.2.2.2.2.2.2.1) gx
    have p_ca : ca1 = (vi1 16).toInt := congrArg (fun z9 => z9.2.2.2.2.2.2.2.1) gx
    have p_pl : pl1 = (fl_A (vf1 1)) := congrArg (fun z9 => z9.2.2.2.2.2.2.2.2.1) gx
    have p_he : he1 = (fl_A (vf1 2)) := congrArg (fun z9 => z9.2.2.2.2.2.2.2.2.2) gx
    have r_U : U1 = (vm1 12).toInt := congrArg (fun z9 => z9.2.2.1) gm
    have r_st : st1 = (fl_A (vn1 4)) := congrArg (fun z9 => z9.2.2.2) gm
    have w1 : rs_S (vi1 33).toInt (vi1 34).toInt (fl_A (vf1 11)) (vi1 12).toInt (vi1 13).toInt (vi1 14).toInt (vi1 15).toInt (vi1 16).toInt (fl_A (vf1 1)) (fl_A (vf1 2)) (fl_A (vn1 4)) := by
      rw [kx1 33 (by decide), kx1 34 (by decide), kx2 11 (by decide), ← p_mi, ← p_tu, ← p_sn, ← p_go, ← p_ca, ← p_pl, ← p_he, ← r_st]
      exact e3
    have w2 : (vi1 12).toInt ≤ 9999 := by
      rw [← p_mi]
      exact e4
    have w3 : (vi1 24).toInt = (vm1 12).toInt := by
      rw [← p_U, ← r_U]
    have w4 : (vi1 25).toInt = (vm1 13).toInt := by
      rw [kx1 25 (by decide), km1 13 (by decide)]
      exact hN
    have w5 : rs_H (vi1 33).toInt (vi1 34).toInt (fl_A (vf1 11)) (vi1 24).toInt (vi1 26).toInt (lr_g3 vi1) (lr_f3 vf1) (fl_A (vn1 6)) := by
      rw [kx1 33 (by decide), kx1 34 (by decide), kx2 11 (by decide), ← p_U, ← p_L, km2 6 (by decide)]
      exact rs_H_cg (fun k h9 => by rw [lr_g3e vi h9]; show (vi1 (57 + k)).toInt = (vi (57 + k)).toInt; rw [kx1 (57 + k) (kp_out (a := 57) (b := 137) (by decide) (by omega) (by omega))]) (fun k h9 => by rw [lr_f3e vf h9]; show fl_A (vf1 (23 + k)) = fl_A (vf (23 + k)); rw [kx2 (23 + k) (kp_out (a := 23) (b := 55) (by decide) (by omega) (by omega))]) e5
    have w6 : rs_I (vi1 33).toInt (vi1 34).toInt (fl_A (vf1 11)) (vi1 25).toInt (lr_g4 vi1) (lr_f4 vf1) (fl_A (vn1 7)) := by
      rw [kx1 33 (by decide), kx1 34 (by decide), kx2 11 (by decide), kx1 25 (by decide), km2 7 (by decide)]
      exact rs_I_cg (fun k h9 => by rw [lr_g4e vi h9]; show (vi1 (137 + k)).toInt = (vi (137 + k)).toInt; rw [kx1 (137 + k) (kp_out (a := 137) (b := 152) (by decide) (by omega) (by omega))]) (fun k h9 => by rw [lr_f4e vf h9]; show fl_A (vf1 (55 + k)) = fl_A (vf (55 + k)); rw [kx2 (55 + k) (kp_out (a := 55) (b := 61) (by decide) (by omega) (by omega))]) hIm
    exact ⟨by rw [kx1 1 (by decide), km1 7 (by decide)]; exact hF, lr_H_keep (kx1 33 (by decide)) (kx1 34 (by decide)) (kx1 35 (by decide)) (kx1 36 (by decide)) (kx1 37 (by decide)) (kx1 38 (by decide)) (kx1 39 (by decide)) (kx1 40 (by decide)) (kx1 41 (by decide)) (kx1 42 (by decide)) (kx1 53 (by decide)) (kx2 11 (by decide)) (kx2 12 (by decide)) (kx2 13 (by decide)) (kx2 14 (by decide)) (kx2 19 (by decide)) (kx2 20 (by decide)) (km1 11 (by decide)) (by rw [km2 2 (by decide)]) hH, ⟨by rw [kx1 54 (by decide)]; exact hV.1.1, by rw [kx1 56 (by decide)]; exact hV.1.2⟩, Or.inr ⟨by rw [km1 11 (by decide)]; exact hM1, w1, w2, w3, w4, w5, w6⟩⟩

theorem lr_image {tp : Int32} {vi vi1 vm vm1 : Nat → Int32} {vf vf1 vn vn1 : Nat → Nat → Int32} (hR : lr_R tp vi vf vm vn) (hM : vm 11 = 0 ∨ (vm 11 = 1 ∧ ((∀ k : Nat, 0 ≤ k → k ≤ 0 → (2 : Int) ≤ ((vn 2) k).toInt ∧ ((vn 2) k).toInt ≤ 9) ∧ (∀ k : Nat, 1 ≤ k → k ≤ 1 → (1 : Int) ≤ ((vn 2) k).toInt ∧ ((vn 2) k).toInt ≤ 20) ∧ (∀ k : Nat, 2 ≤ k → k ≤ 2 → (0 : Int) ≤ ((vn 2) k).toInt ∧ ((vn 2) k).toInt ≤ 8) ∧ (∀ k : Nat, 3 ≤ k → k ≤ 3 → (0 : Int) ≤ ((vn 2) k).toInt ∧ ((vn 2) k).toInt ≤ 100) ∧ (∀ k : Nat, 4 ≤ k → k ≤ 4 → (0 : Int) ≤ ((vn 2) k).toInt ∧ ((vn 2) k).toInt ≤ 9) ∧ (∀ k : Nat, 5 ≤ k → k ≤ 5 → (0 : Int) ≤ ((vn 2) k).toInt ∧ ((vn 2) k).toInt ≤ 3) ∧ (∀ k : Nat, 6 ≤ k → k ≤ 6 → (0 : Int) ≤ ((vn 2) k).toInt ∧ ((vn 2) k).toInt ≤ 6) ∧ (∀ k : Nat, 7 ≤ k → k ≤ 9 → (0 : Int) ≤ ((vn 2) k).toInt ∧ ((vn 2) k).toInt ≤ 8) ∧ (∀ k : Nat, 12 ≤ k → k ≤ 29 → (0 : Int) ≤ ((vn 2) k).toInt ∧ ((vn 2) k).toInt ≤ 20) ∧ (∀ k : Nat, 30 ≤ k → k ≤ 35 → (0 : Int) ≤ ((vn 2) k).toInt ∧ ((vn 2) k).toInt ≤ 8) ∧ (∀ k : Nat, 36 ≤ k → k ≤ 47 → (0 : Int) ≤ ((vn 2) k).toInt ∧ ((vn 2) k).toInt ≤ 999)) ∧ ((∀ (j i0 i : Int32), (0 : Int) ≤ j.toInt → j.toInt ≤ 8 → i0.toInt = 12 + 2 * j.toInt → i.toInt = 13 + 2 * j.toInt → ((vn 2) i0.toNatClampNeg).toInt = (1 : Int32).toInt → (1 : Int) ≤ ((vn 2) i.toNatClampNeg).toInt)))) (kx1 : (∀ k9 : Nat, k9 ∉ ([0, 25, 137, 138, 139, 140, 141, 142, 143, 144, 145, 146, 147, 148, 149, 150, 151] : List Nat) → vi1 k9 = vi k9)) (kx2 : (∀ k9 : Nat, k9 ∉ ([55, 56, 57, 58, 59, 60] : List Nat) → vf1 k9 = vf k9)) (km1 : (∀ k9 : Nat, k9 ∉ ([0, 9, 13] : List Nat) → vm1 k9 = vm k9)) (km2 : (∀ k9 : Nat, k9 ∉ ([7] : List Nat) → vn1 k9 = vn k9)) (gx : (Ff_X7_image (vi 33).toInt (vi 25).toInt (fl_nI [(vi 137).toInt, (vi 138).toInt, (vi 139).toInt, (vi 140).toInt, (vi 141).toInt, (vi 142).toInt, (vi 143).toInt, (vi 144).toInt, (vi 145).toInt, (vi 146).toInt, (vi 147).toInt, (vi 148).toInt, (vi 149).toInt, (vi 150).toInt, (vi 151).toInt]) (vi 12).toInt (vi 13).toInt (vi 14).toInt (vi 15).toInt (vi 16).toInt (fl_A (vf 1)) (fl_nF [(fl_A (vf 55)), (fl_A (vf 56)), (fl_A (vf 57)), (fl_A (vf 58)), (fl_A (vf 59)), (fl_A (vf 60))]) (fl_A (vf 2))).2 = ((vi1 0).toInt, (vi1 25).toInt, (fl_nI [(vi1 137).toInt, (vi1 138).toInt, (vi1 139).toInt, (vi1 140).toInt, (vi1 141).toInt, (vi1 142).toInt, (vi1 143).toInt, (vi1 144).toInt, (vi1 145).toInt, (vi1 146).toInt, (vi1 147).toInt, (vi1 148).toInt, (vi1 149).toInt, (vi1 150).toInt, (vi1 151).toInt]), (fl_nF [(fl_A (vf1 55)), (fl_A (vf1 56)), (fl_A (vf1 57)), (fl_A (vf1 58)), (fl_A (vf1 59)), (fl_A (vf1 60))]))) (gm : ((vm 11 = 0 ∧ (∀ k9 : Nat, k9 ∉ ([0, 9] : List Nat) → vm1 k9 = vm k9) ∧ (∀ k9 : Nat, k9 ∉ ([] : List Nat) → vn1 k9 = vn k9)) ∨ (vm 11 = 1 ∧ (Ff_X8_image (vm 11).toInt (vm 13).toInt (fl_A (vn 4)) (fl_A (vn 7))).2 = ((vm1 0).toInt, (vm1 9).toInt, (vm1 13).toInt, (fl_A (vn1 7)))))) : lr_Q vi1 vf1 vm1 vn1 := by
  obtain ⟨hT, hF, hH, hV⟩ := hR
  rcases hM with hM0 | ⟨hM1, hrs, hkm⟩
  · rcases hH with hH | ⟨z9, -⟩
    rotate_left
    · rw [hM0] at z9; exact absurd z9 (by decide)
    have hH9 : lr_H vi vf vm vn := Or.inl hH
    obtain ⟨-, h33, -⟩ := hH
    obtain ⟨⟨v54, v56⟩, hV⟩ := hV
    rcases hV with ⟨-, v12, v24, v25, u12, u13⟩ | ⟨z9, -⟩
    rotate_left
    · rw [hM0] at z9; exact absurd z9 (by decide)
    have e33 : (vi 33).toInt = 0 := by rw [h33]; decide
    have ex : Ff_X7_image (vi 33).toInt (vi 25).toInt (fl_nI [(vi 137).toInt, (vi 138).toInt, (vi 139).toInt, (vi 140).toInt, (vi 141).toInt, (vi 142).toInt, (vi 143).toInt, (vi 144).toInt, (vi 145).toInt, (vi 146).toInt, (vi 147).toInt, (vi 148).toInt, (vi 149).toInt, (vi 150).toInt, (vi 151).toInt]) (vi 12).toInt (vi 13).toInt (vi 14).toInt (vi 15).toInt (vi 16).toInt (fl_A (vf 1)) (fl_nF [(fl_A (vf 55)), (fl_A (vf 56)), (fl_A (vf 57)), (fl_A (vf 58)), (fl_A (vf 59)), (fl_A (vf 60))]) (fl_A (vf 2)) = ((-1), 1, (vi 25).toInt, (fl_nI [(vi 137).toInt, (vi 138).toInt, (vi 139).toInt, (vi 140).toInt, (vi 141).toInt, (vi 142).toInt, (vi 143).toInt, (vi 144).toInt, (vi 145).toInt, (vi 146).toInt, (vi 147).toInt, (vi 148).toInt, (vi 149).toInt, (vi 150).toInt, (vi 151).toInt]), (fl_nF [(fl_A (vf 55)), (fl_A (vf 56)), (fl_A (vf 57)), (fl_A (vf 58)), (fl_A (vf 59)), (fl_A (vf 60))])) := by
      unfold Ff_X7_image Ff_X7_hasGallery
      rw [e33, if_pos (by decide)]
      rfl
    rw [ex] at gx
    have p_N : (vi 25).toInt = (vi1 25).toInt := congrArg (fun z9 => z9.2.1) gx
    rcases gm with ⟨-, k01, k02⟩ | ⟨z9, -⟩
    rotate_left
    · rw [hM0] at z9; exact absurd z9 (by decide)
    refine ⟨by rw [kx1 1 (by decide), k01 7 (by decide)]; exact hF, lr_H_keep (kx1 33 (by decide)) (kx1 34 (by decide)) (kx1 35 (by decide)) (kx1 36 (by decide)) (kx1 37 (by decide)) (kx1 38 (by decide)) (kx1 39 (by decide)) (kx1 40 (by decide)) (kx1 41 (by decide)) (kx1 42 (by decide)) (kx1 53 (by decide)) (kx2 11 (by decide)) (kx2 12 (by decide)) (kx2 13 (by decide)) (kx2 14 (by decide)) (kx2 19 (by decide)) (kx2 20 (by decide)) (k01 11 (by decide)) (by rw [k02 2 (by decide)]) hH9, ⟨by rw [kx1 54 (by decide)]; exact v54, by rw [kx1 56 (by decide)]; exact v56⟩, Or.inl ⟨by rw [k01 11 (by decide)]; exact hM0, by rw [kx1 12 (by decide)]; exact v12, by rw [kx1 24 (by decide)]; exact v24, by rw [← Int32.toInt_inj, ← p_N, v25], by rw [k01 12 (by decide)]; exact u12, by rw [k01 13 (by decide)]; exact u13⟩⟩
  · obtain ⟨hG, hD, -⟩ := lr_G hH hM1 hrs hkm
    have hf9 : 2 ≤ (vi 33).toInt ∧ (vi 33).toInt ≤ 9 := ⟨hG.1.2.1, hG.1.2.2⟩
    have f9 := hf9.2
    have hV4 := hV.2
    rcases hV4 with ⟨z9, -⟩ | ⟨-, hS, hm, hU, hN, hHi, hIm⟩
    · rw [hM1] at z9; exact absurd z9 (by decide)
    have e11 : (vm 11).toInt = 1 := by rw [hM1]; decide
    have hHi := rs_H_cg (gI1 := fl_nI [(vi 57).toInt, (vi 58).toInt, (vi 59).toInt, (vi 60).toInt, (vi 61).toInt, (vi 62).toInt, (vi 63).toInt, (vi 64).toInt, (vi 65).toInt, (vi 66).toInt, (vi 67).toInt, (vi 68).toInt, (vi 69).toInt, (vi 70).toInt, (vi 71).toInt, (vi 72).toInt, (vi 73).toInt, (vi 74).toInt, (vi 75).toInt, (vi 76).toInt, (vi 77).toInt, (vi 78).toInt, (vi 79).toInt, (vi 80).toInt, (vi 81).toInt, (vi 82).toInt, (vi 83).toInt, (vi 84).toInt, (vi 85).toInt, (vi 86).toInt, (vi 87).toInt, (vi 88).toInt, (vi 89).toInt, (vi 90).toInt, (vi 91).toInt, (vi 92).toInt, (vi 93).toInt, (vi 94).toInt, (vi 95).toInt, (vi 96).toInt, (vi 97).toInt, (vi 98).toInt, (vi 99).toInt, (vi 100).toInt, (vi 101).toInt, (vi 102).toInt, (vi 103).toInt, (vi 104).toInt, (vi 105).toInt, (vi 106).toInt, (vi 107).toInt, (vi 108).toInt, (vi 109).toInt, (vi 110).toInt, (vi 111).toInt, (vi 112).toInt, (vi 113).toInt, (vi 114).toInt, (vi 115).toInt, (vi 116).toInt, (vi 117).toInt, (vi 118).toInt, (vi 119).toInt, (vi 120).toInt, (vi 121).toInt, (vi 122).toInt, (vi 123).toInt, (vi 124).toInt, (vi 125).toInt, (vi 126).toInt, (vi 127).toInt, (vi 128).toInt, (vi 129).toInt, (vi 130).toInt, (vi 131).toInt, (vi 132).toInt, (vi 133).toInt, (vi 134).toInt, (vi 135).toInt, (vi 136).toInt]) (gF1 := fl_nF [(fl_A (vf 23)), (fl_A (vf 24)), (fl_A (vf 25)), (fl_A (vf 26)), (fl_A (vf 27)), (fl_A (vf 28)), (fl_A (vf 29)), (fl_A (vf 30)), (fl_A (vf 31)), (fl_A (vf 32)), (fl_A (vf 33)), (fl_A (vf 34)), (fl_A (vf 35)), (fl_A (vf 36)), (fl_A (vf 37)), (fl_A (vf 38)), (fl_A (vf 39)), (fl_A (vf 40)), (fl_A (vf 41)), (fl_A (vf 42)), (fl_A (vf 43)), (fl_A (vf 44)), (fl_A (vf 45)), (fl_A (vf 46)), (fl_A (vf 47)), (fl_A (vf 48)), (fl_A (vf 49)), (fl_A (vf 50)), (fl_A (vf 51)), (fl_A (vf 52)), (fl_A (vf 53)), (fl_A (vf 54))]) (fun k h9 => lr_g3e vi h9) (fun k h9 => lr_f3e vf h9) hHi
    have hIm := rs_I_cg (gI1 := fl_nI [(vi 137).toInt, (vi 138).toInt, (vi 139).toInt, (vi 140).toInt, (vi 141).toInt, (vi 142).toInt, (vi 143).toInt, (vi 144).toInt, (vi 145).toInt, (vi 146).toInt, (vi 147).toInt, (vi 148).toInt, (vi 149).toInt, (vi 150).toInt, (vi 151).toInt]) (gF1 := fl_nF [(fl_A (vf 55)), (fl_A (vf 56)), (fl_A (vf 57)), (fl_A (vf 58)), (fl_A (vf 59)), (fl_A (vf 60))]) (fun k h9 => lr_g4e vi h9) (fun k h9 => lr_f4e vf h9) hIm
    obtain ⟨R, tr, N1, iI1, iF1, kp1, e1, e2, e6⟩ := rs_image f9 (by omega) hS hm hIm
    rcases gm with ⟨z9, -⟩ | ⟨-, gm⟩
    · rw [hM1] at z9; exact absurd z9 (by decide)
    rw [e11, ← hN] at gm
    rw [e1] at gx
    rw [e2] at gm
    have p_N : N1 = (vi1 25).toInt := congrArg (fun z9 => z9.2.1) gx
    have p_iI : iI1 = (fl_nI [(vi1 137).toInt, (vi1 138).toInt, (vi1 139).toInt, (vi1 140).toInt, (vi1 141).toInt, (vi1 142).toInt, (vi1 143).toInt, (vi1 144).toInt, (vi1 145).toInt, (vi1 146).toInt, (vi1 147).toInt, (vi1 148).toInt, (vi1 149).toInt, (vi1 150).toInt, (vi1 151).toInt]) := congrArg (fun z9 => z9.2.2.1) gx
    have p_iF : iF1 = (fl_nF [(fl_A (vf1 55)), (fl_A (vf1 56)), (fl_A (vf1 57)), (fl_A (vf1 58)), (fl_A (vf1 59)), (fl_A (vf1 60))]) := congrArg (fun z9 => z9.2.2.2) gx
    have r_N : N1 = (vm1 13).toInt := congrArg (fun z9 => z9.2.2.1) gm
    have r_kp : kp1 = (fl_A (vn1 7)) := congrArg (fun z9 => z9.2.2.2) gm
    have w1 : rs_S (vi1 33).toInt (vi1 34).toInt (fl_A (vf1 11)) (vi1 12).toInt (vi1 13).toInt (vi1 14).toInt (vi1 15).toInt (vi1 16).toInt (fl_A (vf1 1)) (fl_A (vf1 2)) (fl_A (vn1 4)) := by
      rw [kx1 33 (by decide), kx1 34 (by decide), kx2 11 (by decide), kx1 12 (by decide), kx1 13 (by decide), kx1 14 (by decide), kx1 15 (by decide), kx1 16 (by decide), kx2 1 (by decide), kx2 2 (by decide), km2 4 (by decide)]
      exact hS
    have w2 : (vi1 12).toInt ≤ 9999 := by
      rw [kx1 12 (by decide)]
      exact hm
    have w3 : (vi1 24).toInt = (vm1 12).toInt := by
      rw [kx1 24 (by decide), km1 12 (by decide)]
      exact hU
    have w4 : (vi1 25).toInt = (vm1 13).toInt := by
      rw [← p_N, ← r_N]
    have w5 : rs_H (vi1 33).toInt (vi1 34).toInt (fl_A (vf1 11)) (vi1 24).toInt (vi1 26).toInt (lr_g3 vi1) (lr_f3 vf1) (fl_A (vn1 6)) := by
      rw [kx1 33 (by decide), kx1 34 (by decide), kx2 11 (by decide), kx1 24 (by decide), kx1 26 (by decide), km2 6 (by decide)]
      exact rs_H_cg (fun k h9 => by rw [lr_g3e vi h9]; show (vi1 (57 + k)).toInt = (vi (57 + k)).toInt; rw [kx1 (57 + k) (kp_out (a := 57) (b := 137) (by decide) (by omega) (by omega))]) (fun k h9 => by rw [lr_f3e vf h9]; show fl_A (vf1 (23 + k)) = fl_A (vf (23 + k)); rw [kx2 (23 + k) (kp_out (a := 23) (b := 55) (by decide) (by omega) (by omega))]) hHi
    have w6 : rs_I (vi1 33).toInt (vi1 34).toInt (fl_A (vf1 11)) (vi1 25).toInt (lr_g4 vi1) (lr_f4 vf1) (fl_A (vn1 7)) := by
      rw [kx1 33 (by decide), kx1 34 (by decide), kx2 11 (by decide), ← p_N, ← r_kp]
      exact rs_I_cg (fun k h9 => by rw [p_iI]; exact (lr_g4e vi1 h9).symm) (fun k h9 => by rw [p_iF]; exact (lr_f4e vf1 h9).symm) e6
    exact ⟨by rw [kx1 1 (by decide), km1 7 (by decide)]; exact hF, lr_H_keep (kx1 33 (by decide)) (kx1 34 (by decide)) (kx1 35 (by decide)) (kx1 36 (by decide)) (kx1 37 (by decide)) (kx1 38 (by decide)) (kx1 39 (by decide)) (kx1 40 (by decide)) (kx1 41 (by decide)) (kx1 42 (by decide)) (kx1 53 (by decide)) (kx2 11 (by decide)) (kx2 12 (by decide)) (kx2 13 (by decide)) (kx2 14 (by decide)) (kx2 19 (by decide)) (kx2 20 (by decide)) (km1 11 (by decide)) (by rw [km2 2 (by decide)]) hH, ⟨by rw [kx1 54 (by decide)]; exact hV.1.1, by rw [kx1 56 (by decide)]; exact hV.1.2⟩, Or.inr ⟨by rw [km1 11 (by decide)]; exact hM1, w1, w2, w3, w4, w5, w6⟩⟩

theorem lr_back {tp : Int32} {vi vi1 vm vm1 : Nat → Int32} {vf vf1 vn vn1 : Nat → Nat → Int32} (hR : lr_R tp vi vf vm vn) (hM : vm 11 = 0 ∨ (vm 11 = 1 ∧ ((∀ k : Nat, 0 ≤ k → k ≤ 0 → (2 : Int) ≤ ((vn 2) k).toInt ∧ ((vn 2) k).toInt ≤ 9) ∧ (∀ k : Nat, 1 ≤ k → k ≤ 1 → (1 : Int) ≤ ((vn 2) k).toInt ∧ ((vn 2) k).toInt ≤ 20) ∧ (∀ k : Nat, 2 ≤ k → k ≤ 2 → (0 : Int) ≤ ((vn 2) k).toInt ∧ ((vn 2) k).toInt ≤ 8) ∧ (∀ k : Nat, 3 ≤ k → k ≤ 3 → (0 : Int) ≤ ((vn 2) k).toInt ∧ ((vn 2) k).toInt ≤ 100) ∧ (∀ k : Nat, 4 ≤ k → k ≤ 4 → (0 : Int) ≤ ((vn 2) k).toInt ∧ ((vn 2) k).toInt ≤ 9) ∧ (∀ k : Nat, 5 ≤ k → k ≤ 5 → (0 : Int) ≤ ((vn 2) k).toInt ∧ ((vn 2) k).toInt ≤ 3) ∧ (∀ k : Nat, 6 ≤ k → k ≤ 6 → (0 : Int) ≤ ((vn 2) k).toInt ∧ ((vn 2) k).toInt ≤ 6) ∧ (∀ k : Nat, 7 ≤ k → k ≤ 9 → (0 : Int) ≤ ((vn 2) k).toInt ∧ ((vn 2) k).toInt ≤ 8) ∧ (∀ k : Nat, 12 ≤ k → k ≤ 29 → (0 : Int) ≤ ((vn 2) k).toInt ∧ ((vn 2) k).toInt ≤ 20) ∧ (∀ k : Nat, 30 ≤ k → k ≤ 35 → (0 : Int) ≤ ((vn 2) k).toInt ∧ ((vn 2) k).toInt ≤ 8) ∧ (∀ k : Nat, 36 ≤ k → k ≤ 47 → (0 : Int) ≤ ((vn 2) k).toInt ∧ ((vn 2) k).toInt ≤ 999)) ∧ ((∀ (j i0 i : Int32), (0 : Int) ≤ j.toInt → j.toInt ≤ 8 → i0.toInt = 12 + 2 * j.toInt → i.toInt = 13 + 2 * j.toInt → ((vn 2) i0.toNatClampNeg).toInt = (1 : Int32).toInt → (1 : Int) ≤ ((vn 2) i.toNatClampNeg).toInt)))) (a : Int32) (kx1 : (∀ k9 : Nat, k9 ∉ ([0, 12, 13, 14, 15, 16, 24] : List Nat) → vi1 k9 = vi k9)) (kx2 : (∀ k9 : Nat, k9 ∉ ([1, 2] : List Nat) → vf1 k9 = vf k9)) (km1 : (∀ k9 : Nat, k9 ∉ ([0, 9, 12] : List Nat) → vm1 k9 = vm k9)) (km2 : (∀ k9 : Nat, k9 ∉ ([4] : List Nat) → vn1 k9 = vn k9)) (gx : (Ff_X7_back a.toInt (vi 24).toInt (vi 25).toInt (vi 12).toInt (vi 13).toInt (vi 14).toInt (vi 15).toInt (vi 16).toInt (fl_nI [(vi 137).toInt, (vi 138).toInt, (vi 139).toInt, (vi 140).toInt, (vi 141).toInt, (vi 142).toInt, (vi 143).toInt, (vi 144).toInt, (vi 145).toInt, (vi 146).toInt, (vi 147).toInt, (vi 148).toInt, (vi 149).toInt, (vi 150).toInt, (vi 151).toInt]) (fl_nF [(fl_A (vf 55)), (fl_A (vf 56)), (fl_A (vf 57)), (fl_A (vf 58)), (fl_A (vf 59)), (fl_A (vf 60))]) (fl_A (vf 1)) (fl_A (vf 2))).2 = ((vi1 0).toInt, (vi1 24).toInt, (vi1 12).toInt, (vi1 13).toInt, (vi1 14).toInt, (vi1 15).toInt, (vi1 16).toInt, (fl_A (vf1 1)), (fl_A (vf1 2)))) (gm : (Ff_X8_back a.toInt (vm 12).toInt (vm 13).toInt (fl_A (vn 7)) (fl_A (vn 4))).2 = ((vm1 0).toInt, (vm1 9).toInt, (vm1 12).toInt, (fl_A (vn1 4)))) : lr_Q vi1 vf1 vm1 vn1 := by
  obtain ⟨hT, hF, hH, hV⟩ := hR
  rcases hM with hM0 | ⟨hM1, hrs, hkm⟩
  · rcases hH with hH | ⟨z9, -⟩
    rotate_left
    · rw [hM0] at z9; exact absurd z9 (by decide)
    have hH9 : lr_H vi vf vm vn := Or.inl hH
    obtain ⟨-, h33, -⟩ := hH
    obtain ⟨⟨v54, v56⟩, hV⟩ := hV
    rcases hV with ⟨-, v12, v24, v25, u12, u13⟩ | ⟨z9, -⟩
    rotate_left
    · rw [hM0] at z9; exact absurd z9 (by decide)
    have e33 : (vi 33).toInt = 0 := by rw [h33]; decide
    have e25 : (vi 25).toInt = 0 := by rw [v25]; decide
    have e13 : (vm 13).toInt = 0 := by rw [u13]; decide
    have ex : Ff_X7_back a.toInt (vi 24).toInt (vi 25).toInt (vi 12).toInt (vi 13).toInt (vi 14).toInt (vi 15).toInt (vi 16).toInt (fl_nI [(vi 137).toInt, (vi 138).toInt, (vi 139).toInt, (vi 140).toInt, (vi 141).toInt, (vi 142).toInt, (vi 143).toInt, (vi 144).toInt, (vi 145).toInt, (vi 146).toInt, (vi 147).toInt, (vi 148).toInt, (vi 149).toInt, (vi 150).toInt, (vi 151).toInt]) (fl_nF [(fl_A (vf 55)), (fl_A (vf 56)), (fl_A (vf 57)), (fl_A (vf 58)), (fl_A (vf 59)), (fl_A (vf 60))]) (fl_A (vf 1)) (fl_A (vf 2)) = (0, 1, (vi 24).toInt, (vi 12).toInt, (vi 13).toInt, (vi 14).toInt, (vi 15).toInt, (vi 16).toInt, (fl_A (vf 1)), (fl_A (vf 2))) := by
      unfold Ff_X7_back Ff_X1_goBack
      rw [fl_lt_eq rfl, e25, rp_in, rp_in0 (by omega), fl_lt_eq rfl, if_neg (by decide), fl_c9_eq rfl]
      rfl
    rw [ex] at gx
    have p_U : (vi 24).toInt = (vi1 24).toInt := congrArg (fun z9 => z9.2.1) gx
    have p_mi : (vi 12).toInt = (vi1 12).toInt := congrArg (fun z9 => z9.2.2.1) gx
    have em : Ff_X8_back a.toInt (vm 12).toInt (vm 13).toInt (fl_A (vn 7)) (fl_A (vn 4)) = (0, 0, 1, (vm 12).toInt, (fl_A (vn 4))) := by
      unfold Ff_X8_back Ff_X8_good
      rw [fl_c2_eq rfl, fl_lt_eq rfl, e13, rp_in0 (by omega)]
      rfl
    rw [em] at gm
    have p_Um : (vm 12).toInt = (vm1 12).toInt := congrArg (fun z9 => z9.2.2.1) gm
    refine ⟨by rw [kx1 1 (by decide), km1 7 (by decide)]; exact hF, lr_H_keep (kx1 33 (by decide)) (kx1 34 (by decide)) (kx1 35 (by decide)) (kx1 36 (by decide)) (kx1 37 (by decide)) (kx1 38 (by decide)) (kx1 39 (by decide)) (kx1 40 (by decide)) (kx1 41 (by decide)) (kx1 42 (by decide)) (kx1 53 (by decide)) (kx2 11 (by decide)) (kx2 12 (by decide)) (kx2 13 (by decide)) (kx2 14 (by decide)) (kx2 19 (by decide)) (kx2 20 (by decide)) (km1 11 (by decide)) (by rw [km2 2 (by decide)]) hH9, ⟨by rw [kx1 54 (by decide)]; exact v54, by rw [kx1 56 (by decide)]; exact v56⟩, Or.inl ⟨by rw [km1 11 (by decide)]; exact hM0, by rw [← Int32.toInt_inj, ← p_mi, v12], by rw [← Int32.toInt_inj, ← p_U, v24], by rw [kx1 25 (by decide)]; exact v25, by rw [← Int32.toInt_inj, ← p_Um, u12], by rw [km1 13 (by decide)]; exact u13⟩⟩
  · obtain ⟨hG, hD, -⟩ := lr_G hH hM1 hrs hkm
    have hf9 : 2 ≤ (vi 33).toInt ∧ (vi 33).toInt ≤ 9 := ⟨hG.1.2.1, hG.1.2.2⟩
    have f9 := hf9.2
    have hV4 := hV.2
    rcases hV4 with ⟨z9, -⟩ | ⟨-, hS, hm, hU, hN, hHi, hIm⟩
    · rw [hM1] at z9; exact absurd z9 (by decide)
    have e11 : (vm 11).toInt = 1 := by rw [hM1]; decide
    have hHi := rs_H_cg (gI1 := fl_nI [(vi 57).toInt, (vi 58).toInt, (vi 59).toInt, (vi 60).toInt, (vi 61).toInt, (vi 62).toInt, (vi 63).toInt, (vi 64).toInt, (vi 65).toInt, (vi 66).toInt, (vi 67).toInt, (vi 68).toInt, (vi 69).toInt, (vi 70).toInt, (vi 71).toInt, (vi 72).toInt, (vi 73).toInt, (vi 74).toInt, (vi 75).toInt, (vi 76).toInt, (vi 77).toInt, (vi 78).toInt, (vi 79).toInt, (vi 80).toInt, (vi 81).toInt, (vi 82).toInt, (vi 83).toInt, (vi 84).toInt, (vi 85).toInt, (vi 86).toInt, (vi 87).toInt, (vi 88).toInt, (vi 89).toInt, (vi 90).toInt, (vi 91).toInt, (vi 92).toInt, (vi 93).toInt, (vi 94).toInt, (vi 95).toInt, (vi 96).toInt, (vi 97).toInt, (vi 98).toInt, (vi 99).toInt, (vi 100).toInt, (vi 101).toInt, (vi 102).toInt, (vi 103).toInt, (vi 104).toInt, (vi 105).toInt, (vi 106).toInt, (vi 107).toInt, (vi 108).toInt, (vi 109).toInt, (vi 110).toInt, (vi 111).toInt, (vi 112).toInt, (vi 113).toInt, (vi 114).toInt, (vi 115).toInt, (vi 116).toInt, (vi 117).toInt, (vi 118).toInt, (vi 119).toInt, (vi 120).toInt, (vi 121).toInt, (vi 122).toInt, (vi 123).toInt, (vi 124).toInt, (vi 125).toInt, (vi 126).toInt, (vi 127).toInt, (vi 128).toInt, (vi 129).toInt, (vi 130).toInt, (vi 131).toInt, (vi 132).toInt, (vi 133).toInt, (vi 134).toInt, (vi 135).toInt, (vi 136).toInt]) (gF1 := fl_nF [(fl_A (vf 23)), (fl_A (vf 24)), (fl_A (vf 25)), (fl_A (vf 26)), (fl_A (vf 27)), (fl_A (vf 28)), (fl_A (vf 29)), (fl_A (vf 30)), (fl_A (vf 31)), (fl_A (vf 32)), (fl_A (vf 33)), (fl_A (vf 34)), (fl_A (vf 35)), (fl_A (vf 36)), (fl_A (vf 37)), (fl_A (vf 38)), (fl_A (vf 39)), (fl_A (vf 40)), (fl_A (vf 41)), (fl_A (vf 42)), (fl_A (vf 43)), (fl_A (vf 44)), (fl_A (vf 45)), (fl_A (vf 46)), (fl_A (vf 47)), (fl_A (vf 48)), (fl_A (vf 49)), (fl_A (vf 50)), (fl_A (vf 51)), (fl_A (vf 52)), (fl_A (vf 53)), (fl_A (vf 54))]) (fun k h9 => lr_g3e vi h9) (fun k h9 => lr_f3e vf h9) hHi
    have hIm := rs_I_cg (gI1 := fl_nI [(vi 137).toInt, (vi 138).toInt, (vi 139).toInt, (vi 140).toInt, (vi 141).toInt, (vi 142).toInt, (vi 143).toInt, (vi 144).toInt, (vi 145).toInt, (vi 146).toInt, (vi 147).toInt, (vi 148).toInt, (vi 149).toInt, (vi 150).toInt, (vi 151).toInt]) (gF1 := fl_nF [(fl_A (vf 55)), (fl_A (vf 56)), (fl_A (vf 57)), (fl_A (vf 58)), (fl_A (vf 59)), (fl_A (vf 60))]) (fun k h9 => lr_g4e vi h9) (fun k h9 => lr_f4e vf h9) hIm
    obtain ⟨R, tr, U1, mi1, tu1, sn1, go1, ca1, pl1, he1, st1, e1, e2, e3, e4, e5⟩ := rs_back f9 hS hm hHi hIm a.toInt
    rw [← hU, ← hN] at gm
    rw [e1] at gx
    rw [e2] at gm
    have p_U : U1 = (vi1 24).toInt := congrArg (fun z9 => z9.2.1) gx
    have p_mi : mi1 = (vi1 12).toInt := congrArg (fun z9 => z9.2.2.1) gx
    have p_tu : tu1 = (vi1 13).toInt := congrArg (fun z9 => z9.2.2.2.1) gx
    have p_sn : sn1 = (vi1 14).toInt := congrArg (fun z9 => z9.2.2.2.2.1) gx
    have p_go : go1 = (vi1 15).toInt := congrArg (fun z9 => z9.2.2.2.2.2.1) gx
    have p_ca : ca1 = (vi1 16).toInt := congrArg (fun z9 => z9.2.2.2.2.2.2.1) gx
    have p_pl : pl1 = (fl_A (vf1 1)) := congrArg (fun z9 => z9.2.2.2.2.2.2.2.1) gx
    have p_he : he1 = (fl_A (vf1 2)) := congrArg (fun z9 => z9.2.2.2.2.2.2.2.2) gx
    have r_U : U1 = (vm1 12).toInt := congrArg (fun z9 => z9.2.2.1) gm
    have r_st : st1 = (fl_A (vn1 4)) := congrArg (fun z9 => z9.2.2.2) gm
    have w1 : rs_S (vi1 33).toInt (vi1 34).toInt (fl_A (vf1 11)) (vi1 12).toInt (vi1 13).toInt (vi1 14).toInt (vi1 15).toInt (vi1 16).toInt (fl_A (vf1 1)) (fl_A (vf1 2)) (fl_A (vn1 4)) := by
      rw [kx1 33 (by decide), kx1 34 (by decide), kx2 11 (by decide), ← p_mi, ← p_tu, ← p_sn, ← p_go, ← p_ca, ← p_pl, ← p_he, ← r_st]
      exact e3
    have w2 : (vi1 12).toInt ≤ 9999 := by
      rw [← p_mi]
      exact e4
    have w3 : (vi1 24).toInt = (vm1 12).toInt := by
      rw [← p_U, ← r_U]
    have w4 : (vi1 25).toInt = (vm1 13).toInt := by
      rw [kx1 25 (by decide), km1 13 (by decide)]
      exact hN
    have w5 : rs_H (vi1 33).toInt (vi1 34).toInt (fl_A (vf1 11)) (vi1 24).toInt (vi1 26).toInt (lr_g3 vi1) (lr_f3 vf1) (fl_A (vn1 6)) := by
      rw [kx1 33 (by decide), kx1 34 (by decide), kx2 11 (by decide), ← p_U, kx1 26 (by decide), km2 6 (by decide)]
      exact rs_H_cg (fun k h9 => by rw [lr_g3e vi h9]; show (vi1 (57 + k)).toInt = (vi (57 + k)).toInt; rw [kx1 (57 + k) (kp_out (a := 57) (b := 137) (by decide) (by omega) (by omega))]) (fun k h9 => by rw [lr_f3e vf h9]; show fl_A (vf1 (23 + k)) = fl_A (vf (23 + k)); rw [kx2 (23 + k) (kp_out (a := 23) (b := 55) (by decide) (by omega) (by omega))]) e5
    have w6 : rs_I (vi1 33).toInt (vi1 34).toInt (fl_A (vf1 11)) (vi1 25).toInt (lr_g4 vi1) (lr_f4 vf1) (fl_A (vn1 7)) := by
      rw [kx1 33 (by decide), kx1 34 (by decide), kx2 11 (by decide), kx1 25 (by decide), km2 7 (by decide)]
      exact rs_I_cg (fun k h9 => by rw [lr_g4e vi h9]; show (vi1 (137 + k)).toInt = (vi (137 + k)).toInt; rw [kx1 (137 + k) (kp_out (a := 137) (b := 152) (by decide) (by omega) (by omega))]) (fun k h9 => by rw [lr_f4e vf h9]; show fl_A (vf1 (55 + k)) = fl_A (vf (55 + k)); rw [kx2 (55 + k) (kp_out (a := 55) (b := 61) (by decide) (by omega) (by omega))]) hIm
    exact ⟨by rw [kx1 1 (by decide), km1 7 (by decide)]; exact hF, lr_H_keep (kx1 33 (by decide)) (kx1 34 (by decide)) (kx1 35 (by decide)) (kx1 36 (by decide)) (kx1 37 (by decide)) (kx1 38 (by decide)) (kx1 39 (by decide)) (kx1 40 (by decide)) (kx1 41 (by decide)) (kx1 42 (by decide)) (kx1 53 (by decide)) (kx2 11 (by decide)) (kx2 12 (by decide)) (kx2 13 (by decide)) (kx2 14 (by decide)) (kx2 19 (by decide)) (kx2 20 (by decide)) (km1 11 (by decide)) (by rw [km2 2 (by decide)]) hH, ⟨by rw [kx1 54 (by decide)]; exact hV.1.1, by rw [kx1 56 (by decide)]; exact hV.1.2⟩, Or.inr ⟨by rw [km1 11 (by decide)]; exact hM1, w1, w2, w3, w4, w5, w6⟩⟩
end RELA
end P094032_rel
section P094034_rel
section RELP
def Gf_X7_led_38_1 (j4l3 : Int) (j38l2 : Int) : Sum (Int × Int) (Int) :=
  fl_lt (j4l3 + 1) (fun x38 => Sum.inl (x38, j38l2))
def Sf_X7_led_4_1 (a1 : Int) (a0_7_0 : Int) (fa0_1_5 : (Nat → Int)) (j4l3 : Int) (j4l2 : Int) : Sum (Int × Int) (Int) :=
  if a0_7_0 ≤ j4l3 then (Sum.inr ((-1))) else (fl_lt (fa0_1_5 (j4l3.toNat)) (fun x23 => if x23 = j4l3 then (Gf_X7_led_38_1 j4l3 j4l2) else (if j4l2 = a1 then (Sum.inr (j4l3)) else (fl_lt (fl_iadd j4l2 1) (fun x35 => Gf_X7_led_38_1 j4l3 x35)))))
def Ff_X7_led (a1 : Int) (a0_7_0 : Int) (fa0_1_5 : (Nat → Int)) : Int :=
  fl_wh (fun t9 => Sf_X7_led_4_1 a1 a0_7_0 fa0_1_5 t9.1 t9.2) 0 10 (0, 0)
section RLD
theorem rd_led {F : Nat} (h9 : F ≤ 9) (a : Int) {pl r st : Nat → Int} (h0 : (F : Int) = r 0) (hp : ∀ k : Nat, (k : Int) < (F : Int) → pl k = st k) : ∀ (d m1 m2 n : Nat) (c : Int), n + d = F → d + 1 ≤ m1 → d + 1 ≤ m2 →
    (fl_wh (fun t9 : Int × Int => Sf_X7_led_4_1 a (F : Int) pl t9.1 t9.2) 0 m1 ((n : Int), c) = (-1) ∧ (fl_wh (fun t9 : Int × Int => Sf_X8_led_4_1 a 1 r st t9.1 t9.2) (0, 0) m2 ((n : Int), c)).2 = 1) ∨
    (0 ≤ fl_wh (fun t9 : Int × Int => Sf_X7_led_4_1 a (F : Int) pl t9.1 t9.2) 0 m1 ((n : Int), c) ∧ (fl_wh (fun t9 : Int × Int => Sf_X8_led_4_1 a 1 r st t9.1 t9.2) (0, 0) m2 ((n : Int), c)).2 = 0 ∧ (fl_wh (fun t9 : Int × Int => Sf_X8_led_4_1 a 1 r st t9.1 t9.2) (0, 0) m2 ((n : Int), c)).1 = fl_wh (fun t9 : Int × Int => Sf_X7_led_4_1 a (F : Int) pl t9.1 t9.2) 0 m1 ((n : Int), c)) := by
  intro d
  induction d with
  | zero =>
    intro m1 m2 n c hn h1 h2
    obtain ⟨m1, rfl⟩ : ∃ q, m1 = q + 1 := ⟨m1 - 1, by omega⟩
    obtain ⟨m2, rfl⟩ : ∃ q, m2 = q + 1 := ⟨m2 - 1, by omega⟩
    have c7 : Sf_X7_led_4_1 a (F : Int) pl (n : Int) c = .inr (-1) := by
      unfold Sf_X7_led_4_1
      rw [if_pos (by omega)]
    have c8 : Sf_X8_led_4_1 a 1 r st (n : Int) c = .inr (0, 1) := by
      unfold Sf_X8_led_4_1
      rw [if_neg (show ¬ (1 : Int) = 0 by decide), fl_lt_eq (e := r 0) rfl, if_pos (show r 0 ≤ (n : Int) by omega)]
      rfl
    exact Or.inl ⟨fl_wh_r (step := (fun t9 : Int × Int => Sf_X7_led_4_1 a (F : Int) pl t9.1 t9.2)) (s := ((n : Int), c)) c7, congrArg Prod.snd (fl_wh_r (step := (fun t9 : Int × Int => Sf_X8_led_4_1 a 1 r st t9.1 t9.2)) (s := ((n : Int), c)) (d := (0, 0)) (n := m2) c8)⟩
  | succ d ih =>
    intro m1 m2 n c hn h1 h2
    obtain ⟨m1, rfl⟩ : ∃ q, m1 = q + 1 := ⟨m1 - 1, by omega⟩
    obtain ⟨m2, rfl⟩ : ∃ q, m2 = q + 1 := ⟨m2 - 1, by omega⟩
    have hst : st n = pl n := (hp n (by omega)).symm
    have go : ∀ c' : Int, Sf_X7_led_4_1 a (F : Int) pl (n : Int) c = .inl (((n + 1 : Nat) : Int), c') → Sf_X8_led_4_1 a 1 r st (n : Int) c = .inl (((n + 1 : Nat) : Int), c') →
        (fl_wh (fun t9 : Int × Int => Sf_X7_led_4_1 a (F : Int) pl t9.1 t9.2) 0 (m1 + 1) ((n : Int), c) = (-1) ∧ (fl_wh (fun t9 : Int × Int => Sf_X8_led_4_1 a 1 r st t9.1 t9.2) (0, 0) (m2 + 1) ((n : Int), c)).2 = 1) ∨
        (0 ≤ fl_wh (fun t9 : Int × Int => Sf_X7_led_4_1 a (F : Int) pl t9.1 t9.2) 0 (m1 + 1) ((n : Int), c) ∧ (fl_wh (fun t9 : Int × Int => Sf_X8_led_4_1 a 1 r st t9.1 t9.2) (0, 0) (m2 + 1) ((n : Int), c)).2 = 0 ∧ (fl_wh (fun t9 : Int × Int => Sf_X8_led_4_1 a 1 r st t9.1 t9.2) (0, 0) (m2 + 1) ((n : Int), c)).1 = fl_wh (fun t9 : Int × Int => Sf_X7_led_4_1 a (F : Int) pl t9.1 t9.2) 0 (m1 + 1) ((n : Int), c)) := by
      intro c' c7 c8
      have w7 := fl_wh_l (step := (fun t9 : Int × Int => Sf_X7_led_4_1 a (F : Int) pl t9.1 t9.2)) (s := ((n : Int), c)) (d := 0) (n := m1) c7
      have w8 := fl_wh_l (step := (fun t9 : Int × Int => Sf_X8_led_4_1 a 1 r st t9.1 t9.2)) (s := ((n : Int), c)) (d := (0, 0)) (n := m2) c8
      rw [w7, w8]
      exact ih m1 m2 (n + 1) c' (by omega) (by omega) (by omega)
    by_cases e : pl n = (n : Int)
    · refine go c ?_ ?_
      · unfold Sf_X7_led_4_1 Gf_X7_led_38_1
        rw [if_neg (by omega), Int.toNat_natCast, fl_lt_eq (e := pl n) rfl, if_pos e]
        rfl
      · unfold Sf_X8_led_4_1 Gf_X8_led_49_1
        rw [if_neg (show ¬ (1 : Int) = 0 by decide), fl_lt_eq (e := r 0) rfl, if_neg (show ¬ r 0 ≤ (n : Int) by omega), Int.toNat_natCast, fl_lt_eq (e := st n) rfl, hst, if_pos e]
        rfl
    · by_cases ec : c = a
      · have c7 : Sf_X7_led_4_1 a (F : Int) pl (n : Int) c = .inr (n : Int) := by
          unfold Sf_X7_led_4_1
          rw [if_neg (by omega), Int.toNat_natCast, fl_lt_eq (e := pl n) rfl, if_neg e, if_pos ec]
        have c8 : Sf_X8_led_4_1 a 1 r st (n : Int) c = .inr ((n : Int), 0) := by
          unfold Sf_X8_led_4_1
          rw [if_neg (show ¬ (1 : Int) = 0 by decide), fl_lt_eq (e := r 0) rfl, if_neg (show ¬ r 0 ≤ (n : Int) by omega), Int.toNat_natCast, fl_lt_eq (e := st n) rfl, hst, if_neg e, if_pos ec]
        have w7 := fl_wh_r (step := (fun t9 : Int × Int => Sf_X7_led_4_1 a (F : Int) pl t9.1 t9.2)) (s := ((n : Int), c)) (d := 0) (n := m1) c7
        have w8 := fl_wh_r (step := (fun t9 : Int × Int => Sf_X8_led_4_1 a 1 r st t9.1 t9.2)) (s := ((n : Int), c)) (d := (0, 0)) (n := m2) c8
        rw [w7, w8]
        exact Or.inr ⟨Int.natCast_nonneg n, rfl, rfl⟩
      · refine go (fl_iadd c 1) ?_ ?_
        · unfold Sf_X7_led_4_1 Gf_X7_led_38_1
          rw [if_neg (by omega), Int.toNat_natCast, fl_lt_eq (e := pl n) rfl, if_neg e, if_neg ec]
          rfl
        · unfold Sf_X8_led_4_1 Gf_X8_led_49_1
          rw [if_neg (show ¬ (1 : Int) = 0 by decide), fl_lt_eq (e := r 0) rfl, if_neg (show ¬ r 0 ≤ (n : Int) by omega), Int.toNat_natCast, fl_lt_eq (e := st n) rfl, hst, if_neg e, if_neg ec]
          rfl
theorem rt_a_led {fg : Int} {pl r st : Nat → Int} (f1 : fg = r 0) (f2 : 2 ≤ fg) (f3 : fg ≤ 9) (hp : ∀ k : Nat, (k : Int) < fg → pl k = st k) (a : Int) : (Ff_X7_led a fg pl = (-1) ∧ (Ff_X8_led a 1 r st).2 = 1) ∨ (0 ≤ Ff_X7_led a fg pl ∧ (Ff_X8_led a 1 r st).2 = 0 ∧ (Ff_X8_led a 1 r st).1 = Ff_X7_led a fg pl) := by
  obtain ⟨F, rfl⟩ : ∃ F : Nat, fg = (F : Int) := ⟨fg.toNat, by omega⟩
  exact rd_led (by omega) a f1 hp F 10 10 0 0 (by omega) (by omega) (by omega)
theorem rt_0_led (a : Int) (pl : Nat → Int) : Ff_X7_led a 0 pl = (-1) ∧ (Ff0_X8_led 0).2 = 1 := by
  refine ⟨fl_wh_r (step := (fun t9 : Int × Int => Sf_X7_led_4_1 a 0 pl t9.1 t9.2)) (s := (0, 0)) ?_, rfl⟩
  show Sf_X7_led_4_1 a 0 pl 0 0 = _
  unfold Sf_X7_led_4_1
  rw [if_pos (Int.le_refl 0)]
end RLD
theorem lr_0 {vi vm : Nat → Int32} {vf vn : Nat → Nat → Int32} (h : lr_H vi vf vm vn) (z : vm 11 = 0) : (vm 11).toInt = 0 ∧ (vi 33).toInt = 0 ∧ (vi 53).toInt = 0 := by
  rcases h with ⟨h1, h2, -, -, -, -, -, -, -, -, h3⟩ | ⟨h1, h2, -⟩
  · exact ⟨by rw [h1]; decide, by rw [h2]; decide, by rw [h3]; decide⟩
  · rw [z] at h1; exact absurd h1 (by decide)
theorem lr_1 {vi vm : Nat → Int32} {vf vn : Nat → Nat → Int32} (h : lr_H vi vf vm vn) (z : vm 11 = 1) : (vm 11).toInt = 1 ∧ 2 ≤ (vi 33).toInt ∧ (vi 33).toInt ≤ 9 := by
  rcases h with ⟨h1, h2, -⟩ | ⟨h1, h2, -⟩
  · rw [z] at h1; exact absurd h1 (by decide)
  · exact ⟨by rw [z]; decide, h2.1, h2.2.1⟩
theorem lr_led {vi vm : Nat → Int32} {vf vn : Nat → Nat → Int32} (hH : lr_H vi vf vm vn) (hV : lr_V vi vf vm vn) (hMo : vm 11 = 0 ∨ (vm 11 = 1 ∧ ((∀ k : Nat, 0 ≤ k → k ≤ 0 → (2 : Int) ≤ ((vn 2) k).toInt ∧ ((vn 2) k).toInt ≤ 9) ∧ (∀ k : Nat, 1 ≤ k → k ≤ 1 → (1 : Int) ≤ ((vn 2) k).toInt ∧ ((vn 2) k).toInt ≤ 20) ∧ (∀ k : Nat, 2 ≤ k → k ≤ 2 → (0 : Int) ≤ ((vn 2) k).toInt ∧ ((vn 2) k).toInt ≤ 8) ∧ (∀ k : Nat, 3 ≤ k → k ≤ 3 → (0 : Int) ≤ ((vn 2) k).toInt ∧ ((vn 2) k).toInt ≤ 100) ∧ (∀ k : Nat, 4 ≤ k → k ≤ 4 → (0 : Int) ≤ ((vn 2) k).toInt ∧ ((vn 2) k).toInt ≤ 9) ∧ (∀ k : Nat, 5 ≤ k → k ≤ 5 → (0 : Int) ≤ ((vn 2) k).toInt ∧ ((vn 2) k).toInt ≤ 3) ∧ (∀ k : Nat, 6 ≤ k → k ≤ 6 → (0 : Int) ≤ ((vn 2) k).toInt ∧ ((vn 2) k).toInt ≤ 6) ∧ (∀ k : Nat, 7 ≤ k → k ≤ 9 → (0 : Int) ≤ ((vn 2) k).toInt ∧ ((vn 2) k).toInt ≤ 8) ∧ (∀ k : Nat, 12 ≤ k → k ≤ 29 → (0 : Int) ≤ ((vn 2) k).toInt ∧ ((vn 2) k).toInt ≤ 20) ∧ (∀ k : Nat, 30 ≤ k → k ≤ 35 → (0 : Int) ≤ ((vn 2) k).toInt ∧ ((vn 2) k).toInt ≤ 8) ∧ (∀ k : Nat, 36 ≤ k → k ≤ 47 → (0 : Int) ≤ ((vn 2) k).toInt ∧ ((vn 2) k).toInt ≤ 999)) ∧ ((∀ (j i0 i : Int32), (0 : Int) ≤ j.toInt → j.toInt ≤ 8 → i0.toInt = 12 + 2 * j.toInt → i.toInt = 13 + 2 * j.toInt → ((vn 2) i0.toNatClampNeg).toInt = (1 : Int32).toInt → (1 : Int) ≤ ((vn 2) i.toNatClampNeg).toInt)))) (a : Int) {b : Int} (hb : (vm 11 = 0 ∧ b = (Ff0_X8_led (vm 11).toInt).1) ∨ (vm 11 = 1 ∧ b = (Ff_X8_led a (vm 11).toInt (fl_A (vn 2)) (fl_A (vn 4))).1)) {th : Int} (ht : (vm 11 = 0 ∧ (Ff0_X8_led (vm 11).toInt).2 = th) ∨ (vm 11 = 1 ∧ (Ff_X8_led a (vm 11).toInt (fl_A (vn 2)) (fl_A (vn 4))).2 = th)) : (Ff_X7_led a (vi 33).toInt (fl_A (vf 1)) = (-1) ∧ th = 1) ∨ (0 ≤ Ff_X7_led a (vi 33).toInt (fl_A (vf 1)) ∧ th = 0 ∧ b = Ff_X7_led a (vi 33).toInt (fl_A (vf 1))) := by
  rcases hb with ⟨z, hb⟩ | ⟨z, hb⟩
  · obtain ⟨e1, e2, e3⟩ := lr_0 hH z
    obtain ⟨v54, v⟩ := hV
    rcases v with ⟨-, v12, v24, v25, u12, u13⟩ | ⟨z0, -⟩
    rotate_left
    · rw [z] at z0; exact absurd z0 (by decide)
    rcases ht with ⟨z2, ht⟩ | ⟨z2, ht⟩
    rotate_left
    · rw [z] at z2; exact absurd z2 (by decide)
    rw [e1] at ht
    rw [e2]
    exact Or.inl ⟨(rt_0_led _ _).1, ht.symm.trans (rt_0_led a (fun _ => 0)).2⟩
  · obtain ⟨e1, e2, e3⟩ := lr_1 hH z
    rcases hMo with z0 | ⟨-, hrs, hkm⟩
    · rw [z] at z0; exact absurd z0 (by decide)
    obtain ⟨hG, hD, -⟩ := lr_G hH z hrs hkm
    obtain ⟨v54, v⟩ := hV
    have hD := hD v54.1
    rcases v with ⟨z0, -⟩ | ⟨-, hS, hm, hU, hN, hHi, hIm⟩
    · rw [z] at z0; exact absurd z0 (by decide)
    obtain ⟨⟨s1, s2, s3, s4, s5⟩, m0, ⟨t0, t1⟩, ⟨n0, n1⟩, ⟨g0, g1⟩, hk⟩ := id hS
    obtain ⟨⟨f1, f2, f3⟩, ⟨sp1, sp2, sp3⟩, ⟨sa1, sa2, sa3⟩, ⟨ti1, ti2, ti3⟩, ⟨pu1, pu2, pu3⟩, hkd⟩ := id hG
    rcases ht with ⟨z2, ht⟩ | ⟨z2, ht⟩
    · rw [z] at z2; exact absurd z2 (by decide)
    rw [e1] at ht hb
    rw [← ht, hb]
    exact rt_a_led f1 f2 f3 (fun k hk' => (hk k hk').1) a
end RELP
end P094034_rel
section P100_safe
set_option maxHeartbeats 4000000 in
set_option maxRecDepth 100000 in
theorem c_X7_within (l : Launch) (dC : Nat → ClassId) (dI : Nat → Nat → Nat) (sz : Nat) (a1 : Int32) (a2 : Int32) (a3 : Int32)  : zm l yX7_within wsX7_within ({ frames := 0, cells := 0, slots := 0, locals := 0 }) [.int a1, .int a2, .int a3] dC dI sz [] [] (fun A _ => True) (fun A => va_Qi (fun (r : Int32) (_ : Unit) => (r = 1 ∧ a2.toInt ≤ a1.toInt ∧ a1.toInt ≤ a3.toInt) ∨ (r = 0 ∧ (a1.toInt < a2.toInt ∨ a3.toInt < a1.toInt))) (fun (_ : Unit) (t : State) => ax_B dC dI A [] [] t) A) := by
  refine zh (cc := cX7_within) (maxL := 3) (ret := (some .boolean)) zn_RX7 rfl (Nat.le_of_ble_eq_true rfl) (fun p e s m below meth c A ls hx hb hml hr hts (hown : s.vm.findClass RX7 = some m.cls) hlocks hA hS hP hK hD hE (hl : lv_has ls 3 [(0, .int a1), (1, .int a2), (2, .int a3)]) => ?_)
  refine lv_iload_n hx hb dX7_within_0 rfl (lv_at hl 0 rfl) ?_
  refine lv_iload_n hx hb dX7_within_1 rfl (lv_at hl 1 rfl) ?_
  refine lv_icmp_lt (tgt := 14) hx hb dX7_within_2 (by decide) (fun c2 => ?_) (fun c2 => ?_)
  · have gc2 := ai_lt c2
    have u2t_a1 : a1.toInt ≤ (2147483646 : Int) := ai_lthi gc2 (ai_max a2)
    have l2t_a2 : (-2147483647 : Int) ≤ a2.toInt := ai_ltlo gc2 (ai_min a1)
    refine lv_iconst (v := 0) hx hb dX7_within_14 zk_iconst_0 ?_
    exact W.zret (v := 0) hx hb hr rfl (fun t ht hW => ⟨⟨0, (), rfl, (Or.inr ⟨rfl, Or.inl gc2⟩), by rw [ht]; exact hP, va_K.moved hW.alike hK, hD⟩, hS.F ht⟩) hS.2.2 dX7_within_15
  · have gc2 := ai_nlt c2
    refine lv_iload_n hx hb dX7_within_5 rfl (lv_at hl 0 rfl) ?_
    refine lv_iload_n hx hb dX7_within_6 rfl (lv_at hl 2 rfl) ?_
    refine lv_icmp_gt (tgt := 14) hx hb dX7_within_7 (by decide) (fun c7 => ?_) (fun c7 => ?_)
    · have gc7 := ai_lt c7
      have u7t_a3 : a3.toInt ≤ (2147483646 : Int) := ai_lthi gc7 (ai_max a1)
      have l7t_a1 : (-2147483647 : Int) ≤ a1.toInt := ai_ltlo gc7 (ai_min a3)
      refine lv_iconst (v := 0) hx hb dX7_within_14 zk_iconst_0 ?_
      exact W.zret (v := 0) hx hb hr rfl (fun t ht hW => ⟨⟨0, (), rfl, (Or.inr ⟨rfl, Or.inr gc7⟩), by rw [ht]; exact hP, va_K.moved hW.alike hK, hD⟩, hS.F ht⟩) hS.2.2 dX7_within_15
    · have gc7 := ai_nlt c7
      refine lv_iconst (v := 1) hx hb dX7_within_10 zk_iconst_1 ?_
      refine lv_goto (tgt := 15) hx hb dX7_within_11 (by decide) ?_
      exact W.zret (v := 1) hx hb hr rfl (fun t ht hW => ⟨⟨1, (), rfl, (Or.inl ⟨rfl, gc2, gc7⟩), by rw [ht]; exact hP, va_K.moved hW.alike hK, hD⟩, hS.F ht⟩) hS.2.2 dX7_within_15

set_option maxHeartbeats 4000000 in
set_option maxRecDepth 100000 in
theorem c_X7_hasBit (l : Launch) (dC : Nat → ClassId) (dI : Nat → Nat → Nat) (sz : Nat) (a1 : Int32) (a2 : Int32)  : zm l yX7_hasBit wsX7_hasBit ({ frames := 0, cells := 0, slots := 0, locals := 0 }) [.int a1, .int a2] dC dI sz [] [] (fun A _ => True) (fun A => va_Qi (fun (r : Int32) (_ : Unit) => (r = 1) ∨ (r = 0)) (fun (_ : Unit) (t : State) => ax_B dC dI A [] [] t) A) := by
  refine zh (cc := cX7_hasBit) (maxL := 2) (ret := (some .boolean)) zn_RX7 rfl (Nat.le_of_ble_eq_true rfl) (fun p e s m below meth c A ls hx hb hml hr hts (hown : s.vm.findClass RX7 = some m.cls) hlocks hA hS hP hK hD hE (hl : lv_has ls 2 [(0, .int a1), (1, .int a2)]) => ?_)
  refine lv_iload_n hx hb dX7_hasBit_0 rfl (lv_at hl 0 rfl) ?_
  refine lv_iload_n hx hb dX7_hasBit_1 rfl (lv_at hl 1 rfl) ?_
  refine lv_ishr hx hb dX7_hasBit_2 ?_
  refine lv_topi (fun x2 ex2 => ?_)
  refine lv_iconst (v := 1) hx hb dX7_hasBit_3 zk_iconst_1 ?_
  refine lv_iand hx hb dX7_hasBit_4 ?_
  refine lv_topi (fun x4 ex4 => ?_)
  refine lv_iconst (v := 1) hx hb dX7_hasBit_5 zk_iconst_1 ?_
  refine lv_icmp_ne (tgt := 13) hx hb dX7_hasBit_6 (by decide) (fun c6 => ?_) (fun c6 => ?_)
  · have gc6 := ai_ne c6
    refine lv_iconst (v := 0) hx hb dX7_hasBit_13 zk_iconst_0 ?_
    exact W.zret (v := 0) hx hb hr rfl (fun t ht hW => ⟨⟨0, (), rfl, (Or.inr (rfl)), by rw [ht]; exact hP, va_K.moved hW.alike hK, hD⟩, hS.F ht⟩) hS.2.2 dX7_hasBit_14
  · have gc6 := ai_eq c6
    have u6f_x4 : x4.toInt ≤ (1 : Int) := Int.le_trans (Int.le_of_eq gc6) zq0
    have l6f_x4 : (1 : Int) ≤ x4.toInt := Int.le_trans zq1 (Int.le_of_eq gc6.symm)
    refine lv_iconst (v := 1) hx hb dX7_hasBit_9 zk_iconst_1 ?_
    refine lv_goto (tgt := 14) hx hb dX7_hasBit_10 (by decide) ?_
    exact W.zret (v := 1) hx hb hr rfl (fun t ht hW => ⟨⟨1, (), rfl, (Or.inl (rfl)), by rw [ht]; exact hP, va_K.moved hW.alike hK, hD⟩, hS.F ht⟩) hS.2.2 dX7_hasBit_14

set_option maxHeartbeats 4000000 in
set_option maxRecDepth 100000 in
theorem c_X5_startTurn (l : Launch) (dC : Nat → ClassId) (dI : Nat → Nat → Nat) (sz : Nat) (a0 : Nat) (a1 : Int32) (a0g_0 a0g_3 a0g_4 a0g_5 a0g_6 : Value) (a0_1 : Int32) (a0_2 : Int32) (ba1_l : (0 : Int) ≤ a1.toInt) (ba1_u : a1.toInt ≤ (8 : Int)) (ba0_1_l : (0 : Int) ≤ a0_1.toInt) (ba0_1_u : a0_1.toInt ≤ (8 : Int)) : zm l yX5_startTurn wsX5_startTurn ({ frames := 0, cells := 0, slots := 0, locals := 0 }) [.ref a0, .int a1] dC dI sz [(a0, .inr (5, [a0g_0, .int a0_1, .int a0_2, a0g_3, a0g_4, a0g_5, a0g_6]))] [] (fun A _ => True) (fun A => va_Qv (fun (_ : Unit) => True) (fun (_ : Unit) (t : State) => ∃ na0_1 : Int32, ∃ na0_2 : Int32, ((0 : Int) ≤ na0_1.toInt ∧ na0_1.toInt ≤ 8) ∧ ax_B dC dI A [(a0, .inr (5, [a0g_0, .int na0_1, .int na0_2, a0g_3, a0g_4, a0g_5, a0g_6]))] [] t) A) := by
  refine zh (cc := cX5_startTurn) (maxL := 2) (ret := none) zn_RX5 rfl (Nat.le_of_ble_eq_true rfl) (fun p e s m below meth c A ls hx hb hml hr hts (hown : s.vm.findClass RX5 = some m.cls) hlocks hA hS hP hK hD hE (hl : lv_has ls 2 [(0, .ref a0), (1, .int a1)]) => ?_)
  refine lv_aload_n hx hb dX5_startTurn_0 rfl (lv_at hl 0 rfl) ?_
  refine lv_iload_n hx hb dX5_startTurn_1 rfl (lv_at hl 1 rfl) ?_
  refine va_put (D := (dC, dI)) (ci := 5) (v := .int a1) (ty := .int) (C := RX5) (T := TX5) (N := 7) hx hb hts zi_X5_startTurn_5 tyX5 tyX5_ok nmX5 hown hK hP hD hS 0 rfl rfl 1 (by decide) (hts (.fieldLink RX5 32 "WaxTurns$Scene" "turn" "I") (List.mem_cons_of_mem _ (List.mem_append_left _ (List.mem_of_getElem? (i := 0) rfl)))) (fun _ h9 => h9) rfl (tyX5_ok 1 (by decide)) rfl rfl (Nat.le_of_ble_eq_true rfl) dX5_startTurn_2 (fun H locs hP hD hS => ?_)
  refine zs_0 (y := (a0, .inr (5, [a0g_0, .int a1, .int a0_2, a0g_3, a0g_4, a0g_5, a0g_6]))) hP hD rfl (fun hP hD => ?_)
  refine lv_aload_n hx hb dX5_startTurn_5 rfl (lv_at hl 0 rfl) ?_
  refine lv_iconst (v := 0) hx hb dX5_startTurn_6 zk_iconst_0 ?_
  refine va_put (D := (dC, dI)) (ci := 5) (v := .int 0) (ty := .int) (C := RX5) (T := TX5) (N := 7) hx hb hts zi_X5_startTurn_5 tyX5 tyX5_ok nmX5 hown hK hP hD hS 0 rfl rfl 2 (by decide) (hts (.fieldLink RX5 35 "WaxTurns$Scene" "spent" "I") (List.mem_cons_of_mem _ (List.mem_append_left _ (List.mem_of_getElem? (i := 1) rfl)))) (fun _ h9 => h9) rfl (tyX5_ok 2 (by decide)) rfl rfl (Nat.le_of_ble_eq_true rfl) dX5_startTurn_7 (fun H locs hP hD hS => ?_)
  refine zs_0 (y := (a0, .inr (5, [a0g_0, .int a1, .int 0, a0g_3, a0g_4, a0g_5, a0g_6]))) hP hD rfl (fun hP hD => ?_)
  exact W.vret hx hb hr (fun t ht hW => ⟨⟨(), rfl, trivial, a1, 0, ⟨ba1_l, ba1_u⟩, by rw [ht]; exact hP, va_K.moved hW.alike hK, hD⟩, hS.F ht⟩) hS.2.2 dX5_startTurn_10

set_option maxHeartbeats 4000000 in
set_option maxRecDepth 100000 in
theorem c_X5_isGone (l : Launch) (dC : Nat → ClassId) (dI : Nat → Nat → Nat) (sz : Nat) (a0 : Nat) (a1 : Int32) (a0g_0 a0g_1 a0g_2 a0g_4 a0g_5 a0g_6 : Value) (a0_3 : Int32)  : zm l yX5_isGone wsX5_isGone ({ frames := 1, cells := 0, slots := 0, locals := 21 }) [.ref a0, .int a1] dC dI sz [(a0, .inr (5, [a0g_0, a0g_1, a0g_2, .int a0_3, a0g_4, a0g_5, a0g_6]))] [] (fun A U => va_Nw (.methodLinkNest RX5 38 yX7_hasBit RX7) U) (fun A => va_Qi (fun (r : Int32) (_ : Unit) => (r = 1) ∨ (r = 0)) (fun (_ : Unit) (t : State) => ax_B dC dI A [(a0, .inr (5, [a0g_0, a0g_1, a0g_2, .int a0_3, a0g_4, a0g_5, a0g_6]))] [] t) A) := by
  refine zh (cc := cX5_isGone) (maxL := 2) (ret := (some .boolean)) zn_RX5 rfl (Nat.le_of_ble_eq_true rfl) (fun p e s m below meth c A ls hx hb hml hr hts (hown : s.vm.findClass RX5 = some m.cls) hlocks hA hS hP hK hD hE (hl : lv_has ls 2 [(0, .ref a0), (1, .int a1)]) => ?_)
  have hE0 := hE
  refine lv_aload_n hx hb dX5_isGone_0 rfl (lv_at hl 0 rfl) ?_
  refine va_get (D := (dC, dI)) (ci := 5) (v := .int a0_3) (C := RX5) (T := TX5) (N := 7) hx hb hts zi_X5_isGone_5 hown hK hP 0 rfl rfl 3 (by decide) (hts (.fieldLink RX5 22 "WaxTurns$Scene" "goneBits" "I") (List.mem_cons_of_mem _ (List.mem_append_left _ (List.mem_of_getElem? (i := 0) rfl)))) (fun _ h9 => h9) rfl dX5_isGone_1 ?_
  refine lv_iload_n hx hb dX5_isGone_4 rfl (lv_at hl 1 rfl) ?_
  refine va_calli (va_runSN (As := [.int a0_3, .int a1]) (rest := []) ⟨hx, hb, hml, hown, hts⟩ (c_X7_hasBit l dC dI s.heap.size a0_3 a1 ) ⟨va_cnB 2 hts gX5_isGone_X7_hasBit_n38 rfl rfl rfl hE0 (hts (.initialized RX7) (List.mem_cons_of_mem _ (List.mem_append_left _ (List.mem_of_getElem? (i := 2) rfl)))) zd_X7_hasBit.2 ⟨Nat.le_of_ble_eq_true rfl, Nat.le_of_ble_eq_true rfl⟩, (hts (.static yX7_hasBit) (List.mem_cons_of_mem _ (List.mem_append_left _ (List.mem_of_getElem? (i := 1) rfl)))), trivial⟩ ⟨ax_blind (fun _ _ _ _ _ => trivial), ax_pre (zp_P0 hP) (zp_K hK) (zp_D0 hD) (fun _ _ => trivial)⟩ rfl rfl hl.1 rfl (lv_room (Nat.le_of_ble_eq_true rfl)) dX5_isGone_5 ⟨Nat.le_of_ble_eq_true rfl, Nat.le_of_ble_eq_true rfl⟩) hS (fun q _ h => zp_F0 hD hS hA q h) (zp_F0 hD hS hA) (fun r5 u t H locs ht hvm hw hB hz1 hk1 hS1 => zo0 hB ht hP hD hk1 (zp_F0 hD hS hA) hS1 (fun hP hK1 hD hS => ?_))
  rcases hw with hw | hw
  · subst hw
    exact W.zret (v := 1) hx hb hr rfl (fun t ht hW => ⟨⟨1, (), rfl, (Or.inl (rfl)), by rw [ht]; exact hP, va_K.moved hW.alike hK, hD⟩, hS.F ht⟩) hS.2.2 dX5_isGone_8
  · subst hw
    exact W.zret (v := 0) hx hb hr rfl (fun t ht hW => ⟨⟨0, (), rfl, (Or.inr (rfl)), by rw [ht]; exact hP, va_K.moved hW.alike hK, hD⟩, hS.F ht⟩) hS.2.2 dX5_isGone_8

set_option maxHeartbeats 4000000 in
set_option maxRecDepth 100000 in
theorem c_X5_copyFrom (l : Launch) (dC : Nat → ClassId) (dI : Nat → Nat → Nat) (sz : Nat) (a0 : Nat) (a1 : Nat) (a0_0 : Int32) (a0_1 : Int32) (a0_2 : Int32) (a0_3 : Int32) (a0_4 : Int32) (a0_5 : Nat) (a0_6 : Nat) (a1_0 : Int32) (a1_1 : Int32) (a1_2 : Int32) (a1_3 : Int32) (a1_4 : Int32) (a1_5 : Nat) (a1_6 : Nat) (ka1_5 : ClassId) (fa1_5 : Nat → Int32) (ka0_5 : ClassId) (fa0_5 : Nat → Int32) (ka1_6 : ClassId) (fa1_6 : Nat → Int32) (ka0_6 : ClassId) (fa0_6 : Nat → Int32) (ba0_1_l : (0 : Int) ≤ a0_1.toInt) (ba0_1_u : a0_1.toInt ≤ (8 : Int)) (ba1_1_l : (0 : Int) ≤ a1_1.toInt) (ba1_1_u : a1_1.toInt ≤ (8 : Int)) : zm l yX5_copyFrom wsX5_copyFrom ({ frames := 0, cells := 0, slots := 0, locals := 0 }) [.ref a0, .ref a1] dC dI sz [(a0, .inr (5, [.int a0_0, .int a0_1, .int a0_2, .int a0_3, .int a0_4, .ref a0_5, .ref a0_6])), (a1, .inr (5, [.int a1_0, .int a1_1, .int a1_2, .int a1_3, .int a1_4, .ref a1_5, .ref a1_6])), (a1_5, .inl (ka1_5, 9, .inl (fa1_5))), (a0_5, .inl (ka0_5, 9, .inl (fa0_5))), (a1_6, .inl (ka1_6, 9, .inl (fa1_6))), (a0_6, .inl (ka0_6, 9, .inl (fa0_6)))] [(ka1_5, .int), (ka0_5, .int), (ka1_6, .int), (ka0_6, .int)] (fun A _ => True) (fun A => va_Qv (fun (_ : Unit) => True) (fun (_ : Unit) (t : State) => ∃ na0_0 : Int32, ∃ na0_1 : Int32, ∃ na0_2 : Int32, ∃ na0_3 : Int32, ∃ na0_4 : Int32, ∃ nfa0_5 : Nat → Int32, ∃ nfa0_6 : Nat → Int32, ((0 : Int) ≤ na0_1.toInt ∧ na0_1.toInt ≤ 8) ∧ ax_B dC dI A [(a0, .inr (5, [.int na0_0, .int na0_1, .int na0_2, .int na0_3, .int na0_4, .ref a0_5, .ref a0_6])), (a1, .inr (5, [.int a1_0, .int a1_1, .int a1_2, .int a1_3, .int a1_4, .ref a1_5, .ref a1_6])), (a1_5, .inl (ka1_5, 9, .inl (fa1_5))), (a0_5, .inl (ka0_5, 9, .inl (nfa0_5))), (a1_6, .inl (ka1_6, 9, .inl (fa1_6))), (a0_6, .inl (ka0_6, 9, .inl (nfa0_6)))] [(ka1_5, .int), (ka0_5, .int), (ka1_6, .int), (ka0_6, .int)] t) A) := by
  refine zh (cc := cX5_copyFrom) (maxL := 3) (ret := none) zn_RX5 rfl (Nat.le_of_ble_eq_true rfl) (fun p e s m below meth c A ls hx hb hml hr hts (hown : s.vm.findClass RX5 = some m.cls) hlocks hA hS hP hK hD hE (hl : lv_has ls 3 [(0, .ref a0), (1, .ref a1)]) => ?_)
  refine ai_open (fun K hK0 => ?_)
  refine (hK0 _ _ _).mpr ?_
  refine lv_aload_n hx hb dX5_copyFrom_0 rfl (lv_at hl 0 rfl) ?_
  refine lv_aload_n hx hb dX5_copyFrom_1 rfl (lv_at hl 1 rfl) ?_
  refine va_get (D := (dC, dI)) (ci := 5) (v := .int a1_0) (C := RX5) (T := TX5) (N := 7) hx hb hts zi_X5_copyFrom_5 hown hK hP 1 rfl rfl 0 (by decide) (hts (.fieldLink RX5 18 "WaxTurns$Scene" "minute" "I") (List.mem_cons_of_mem _ (List.mem_append_left _ (List.mem_of_getElem? (i := 0) rfl)))) (fun _ h9 => h9) rfl dX5_copyFrom_2 ?_
  refine va_put (D := (dC, dI)) (ci := 5) (v := .int a1_0) (ty := .int) (C := RX5) (T := TX5) (N := 7) hx hb hts zi_X5_copyFrom_5 tyX5 tyX5_ok nmX5 hown hK hP hD hS 0 rfl rfl 0 (by decide) (hts (.fieldLink RX5 18 "WaxTurns$Scene" "minute" "I") (List.mem_cons_of_mem _ (List.mem_append_left _ (List.mem_of_getElem? (i := 0) rfl)))) (fun _ h9 => h9) rfl (tyX5_ok 0 (by decide)) rfl rfl (Nat.le_of_ble_eq_true rfl) dX5_copyFrom_5 (fun H locs hP hD hS => ?_)
  refine zs_0 (y := (a0, .inr (5, [.int a1_0, .int a0_1, .int a0_2, .int a0_3, .int a0_4, .ref a0_5, .ref a0_6]))) hP hD rfl (fun hP hD => ?_)
  refine lv_aload_n hx hb dX5_copyFrom_8 rfl (lv_at hl 0 rfl) ?_
  refine lv_aload_n hx hb dX5_copyFrom_9 rfl (lv_at hl 1 rfl) ?_
  refine va_get (D := (dC, dI)) (ci := 5) (v := .int a1_1) (C := RX5) (T := TX5) (N := 7) hx hb hts zi_X5_copyFrom_5 hown hK hP 1 rfl rfl 1 (by decide) (hts (.fieldLink RX5 32 "WaxTurns$Scene" "turn" "I") (List.mem_cons_of_mem _ (List.mem_append_left _ (List.mem_of_getElem? (i := 1) rfl)))) (fun _ h9 => h9) rfl dX5_copyFrom_10 ?_
  refine va_put (D := (dC, dI)) (ci := 5) (v := .int a1_1) (ty := .int) (C := RX5) (T := TX5) (N := 7) hx hb hts zi_X5_copyFrom_5 tyX5 tyX5_ok nmX5 hown hK hP hD hS 0 rfl rfl 1 (by decide) (hts (.fieldLink RX5 32 "WaxTurns$Scene" "turn" "I") (List.mem_cons_of_mem _ (List.mem_append_left _ (List.mem_of_getElem? (i := 1) rfl)))) (fun _ h9 => h9) rfl (tyX5_ok 1 (by decide)) rfl rfl (Nat.le_of_ble_eq_true rfl) dX5_copyFrom_13 (fun H locs hP hD hS => ?_)
  refine zs_0 (y := (a0, .inr (5, [.int a1_0, .int a1_1, .int a0_2, .int a0_3, .int a0_4, .ref a0_5, .ref a0_6]))) hP hD rfl (fun hP hD => ?_)
  refine lv_aload_n hx hb dX5_copyFrom_16 rfl (lv_at hl 0 rfl) ?_
  refine lv_aload_n hx hb dX5_copyFrom_17 rfl (lv_at hl 1 rfl) ?_
  refine va_get (D := (dC, dI)) (ci := 5) (v := .int a1_2) (C := RX5) (T := TX5) (N := 7) hx hb hts zi_X5_copyFrom_5 hown hK hP 1 rfl rfl 2 (by decide) (hts (.fieldLink RX5 35 "WaxTurns$Scene" "spent" "I") (List.mem_cons_of_mem _ (List.mem_append_left _ (List.mem_of_getElem? (i := 2) rfl)))) (fun _ h9 => h9) rfl dX5_copyFrom_18 ?_
  refine va_put (D := (dC, dI)) (ci := 5) (v := .int a1_2) (ty := .int) (C := RX5) (T := TX5) (N := 7) hx hb hts zi_X5_copyFrom_5 tyX5 tyX5_ok nmX5 hown hK hP hD hS 0 rfl rfl 2 (by decide) (hts (.fieldLink RX5 35 "WaxTurns$Scene" "spent" "I") (List.mem_cons_of_mem _ (List.mem_append_left _ (List.mem_of_getElem? (i := 2) rfl)))) (fun _ h9 => h9) rfl (tyX5_ok 2 (by decide)) rfl rfl (Nat.le_of_ble_eq_true rfl) dX5_copyFrom_21 (fun H locs hP hD hS => ?_)
  refine zs_0 (y := (a0, .inr (5, [.int a1_0, .int a1_1, .int a1_2, .int a0_3, .int a0_4, .ref a0_5, .ref a0_6]))) hP hD rfl (fun hP hD => ?_)
  refine lv_aload_n hx hb dX5_copyFrom_24 rfl (lv_at hl 0 rfl) ?_
  refine lv_aload_n hx hb dX5_copyFrom_25 rfl (lv_at hl 1 rfl) ?_
  refine va_get (D := (dC, dI)) (ci := 5) (v := .int a1_3) (C := RX5) (T := TX5) (N := 7) hx hb hts zi_X5_copyFrom_5 hown hK hP 1 rfl rfl 3 (by decide) (hts (.fieldLink RX5 22 "WaxTurns$Scene" "goneBits" "I") (List.mem_cons_of_mem _ (List.mem_append_left _ (List.mem_of_getElem? (i := 3) rfl)))) (fun _ h9 => h9) rfl dX5_copyFrom_26 ?_
  refine va_put (D := (dC, dI)) (ci := 5) (v := .int a1_3) (ty := .int) (C := RX5) (T := TX5) (N := 7) hx hb hts zi_X5_copyFrom_5 tyX5 tyX5_ok nmX5 hown hK hP hD hS 0 rfl rfl 3 (by decide) (hts (.fieldLink RX5 22 "WaxTurns$Scene" "goneBits" "I") (List.mem_cons_of_mem _ (List.mem_append_left _ (List.mem_of_getElem? (i := 3) rfl)))) (fun _ h9 => h9) rfl (tyX5_ok 3 (by decide)) rfl rfl (Nat.le_of_ble_eq_true rfl) dX5_copyFrom_29 (fun H locs hP hD hS => ?_)
  refine zs_0 (y := (a0, .inr (5, [.int a1_0, .int a1_1, .int a1_2, .int a1_3, .int a0_4, .ref a0_5, .ref a0_6]))) hP hD rfl (fun hP hD => ?_)
  refine lv_aload_n hx hb dX5_copyFrom_32 rfl (lv_at hl 0 rfl) ?_
  refine lv_aload_n hx hb dX5_copyFrom_33 rfl (lv_at hl 1 rfl) ?_
  refine va_get (D := (dC, dI)) (ci := 5) (v := .int a1_4) (C := RX5) (T := TX5) (N := 7) hx hb hts zi_X5_copyFrom_5 hown hK hP 1 rfl rfl 4 (by decide) (hts (.fieldLink RX5 25 "WaxTurns$Scene" "catchCount" "I") (List.mem_cons_of_mem _ (List.mem_append_left _ (List.mem_of_getElem? (i := 4) rfl)))) (fun _ h9 => h9) rfl dX5_copyFrom_34 ?_
  refine va_put (D := (dC, dI)) (ci := 5) (v := .int a1_4) (ty := .int) (C := RX5) (T := TX5) (N := 7) hx hb hts zi_X5_copyFrom_5 tyX5 tyX5_ok nmX5 hown hK hP hD hS 0 rfl rfl 4 (by decide) (hts (.fieldLink RX5 25 "WaxTurns$Scene" "catchCount" "I") (List.mem_cons_of_mem _ (List.mem_append_left _ (List.mem_of_getElem? (i := 4) rfl)))) (fun _ h9 => h9) rfl (tyX5_ok 4 (by decide)) rfl rfl (Nat.le_of_ble_eq_true rfl) dX5_copyFrom_37 (fun H locs hP hD hS => ?_)
  refine zs_0 (y := (a0, .inr (5, [.int a1_0, .int a1_1, .int a1_2, .int a1_3, .int a1_4, .ref a0_5, .ref a0_6]))) hP hD rfl (fun hP hD => ?_)
  refine lv_iconst (v := 0) hx hb dX5_copyFrom_40 zk_iconst_0 ?_
  refine lv_istore_n (lv' := [(2, .int 0), (0, .ref a0), (1, .ref a1)]) hx hb dX5_copyFrom_41 rfl hl (by decide) rfl (fun ls hl => ?_)
  have J42 : ∀ (n : Nat) (j42l2 : Int32) (j42a0_5_a : Nat → Int32) (j42a0_6_a : Nat → Int32) (H : Heap) (locs : List Loc) (ls : Array Slot), (10 : Int) - j42l2.toInt ≤ (n : Int) → (0 : Int) ≤ j42l2.toInt → j42l2.toInt ≤ (9 : Int) → va_P (dC, dI) vwCl [(a0, .inr (5, [.int a1_0, .int a1_1, .int a1_2, .int a1_3, .int a1_4, .ref a0_5, .ref a0_6])), (a1, .inr (5, [.int a1_0, .int a1_1, .int a1_2, .int a1_3, .int a1_4, .ref a1_5, .ref a1_6])), (a1_5, .inl (ka1_5, 9, .inl (fa1_5))), (a0_5, .inl (ka0_5, 9, .inl (j42a0_5_a))), (a1_6, .inl (ka1_6, 9, .inl (fa1_6))), (a0_6, .inl (ka0_6, 9, .inl (j42a0_6_a)))] H → va_D A [(a0, .inr (5, [.int a1_0, .int a1_1, .int a1_2, .int a1_3, .int a1_4, .ref a0_5, .ref a0_6])), (a1, .inr (5, [.int a1_0, .int a1_1, .int a1_2, .int a1_3, .int a1_4, .ref a1_5, .ref a1_6])), (a1_5, .inl (ka1_5, 9, .inl (fa1_5))), (a0_5, .inl (ka0_5, 9, .inl (j42a0_5_a))), (a1_6, .inl (ka1_6, 9, .inl (fa1_6))), (a0_6, .inl (ka0_6, 9, .inl (j42a0_6_a)))] → va_S A s.heap H locs → lv_has ls 3 [(0, .ref a0), (1, .ref a1), (2, .int j42l2)] → K H locs (F0 m 42 ls []) := by
    intro n
    induction n with
    | zero =>
      intro j42l2 j42a0_5_a j42a0_6_a H locs ls hm bj42l2_l bj42l2_u hP hD hS hl
      first | exact zg_0 hm bj42l2_u (by decide) | (have h8 := ai_min j42l2; have h9 := ai_max j42l2; exact absurd hm (by omega))
    | succ n ih42 =>
      intro j42l2 j42a0_5_a j42a0_6_a H locs ls hm bj42l2_l bj42l2_u hP hD hS hl
      refine (hK0 _ _ _).mpr ?_
      have hm42 := hm
      refine lv_iload_n hx hb dX5_copyFrom_42 rfl (lv_at hl 2 rfl) ?_
      refine lv_bipush (v := 9) hx hb dX5_copyFrom_43 zk_bipush_9 ?_
      refine lv_icmp_ge (tgt := 78) hx hb dX5_copyFrom_45 (by decide) (fun c45 => ?_) (fun c45 => ?_)
      · have gc45 := ai_le c45
        have l45t_j42l2 : (9 : Int) ≤ j42l2.toInt := Int.le_trans zq2 gc45
        exact W.vret hx hb hr (fun t ht hW => ⟨⟨(), rfl, trivial, a1_0, a1_1, a1_2, a1_3, a1_4, j42a0_5_a, j42a0_6_a, ⟨ba1_1_l, ba1_1_u⟩, by rw [ht]; exact hP, va_K.moved hW.alike hK, hD⟩, hS.F ht⟩) hS.2.2 dX5_copyFrom_78
      · have gc45 := ai_nle c45
        have u45f_j42l2 : j42l2.toInt ≤ (8 : Int) := ai_lthi gc45 zq3
        refine lv_aload_n hx hb dX5_copyFrom_48 rfl (lv_at hl 0 rfl) ?_
        refine va_get (D := (dC, dI)) (ci := 5) (v := .ref a0_5) (C := RX5) (T := TX5) (N := 7) hx hb hts zi_X5_copyFrom_5 hown hK hP 0 rfl rfl 5 (by decide) (hts (.fieldLink RX5 9 "WaxTurns$Scene" "places" "[I") (List.mem_cons_of_mem _ (List.mem_append_left _ (List.mem_of_getElem? (i := 5) rfl)))) (fun _ h9 => h9) rfl dX5_copyFrom_49 ?_
        refine lv_iload_n hx hb dX5_copyFrom_52 rfl (lv_at hl 2 rfl) ?_
        refine lv_aload_n hx hb dX5_copyFrom_53 rfl (lv_at hl 1 rfl) ?_
        refine va_get (D := (dC, dI)) (ci := 5) (v := .ref a1_5) (C := RX5) (T := TX5) (N := 7) hx hb hts zi_X5_copyFrom_5 hown hK hP 1 rfl rfl 5 (by decide) (hts (.fieldLink RX5 9 "WaxTurns$Scene" "places" "[I") (List.mem_cons_of_mem _ (List.mem_append_left _ (List.mem_of_getElem? (i := 5) rfl)))) (fun _ h9 => h9) rfl dX5_copyFrom_54 ?_
        refine lv_iload_n hx hb dX5_copyFrom_57 rfl (lv_at hl 2 rfl) ?_
        refine va_iald hx hb hK hP 2 0 rfl rfl (ai_in bj42l2_l u45f_j42l2 (by decide) (by decide)) dX5_copyFrom_58 ?_
        refine lv_topi (fun x58 ex58 => ?_)
        refine va_iast hx hb hK hP hD hS 3 1 rfl rfl (ai_in bj42l2_l u45f_j42l2 (by decide) (by decide)) dX5_copyFrom_59 (fun H locs hP hD hS => ?_)
        obtain ⟨f59, hP, hD⟩ : ∃ f59 : Nat → Int32, va_P (dC, dI) vwCl [(a0, .inr (5, [.int a1_0, .int a1_1, .int a1_2, .int a1_3, .int a1_4, .ref a0_5, .ref a0_6])), (a1, .inr (5, [.int a1_0, .int a1_1, .int a1_2, .int a1_3, .int a1_4, .ref a1_5, .ref a1_6])), (a1_5, .inl (ka1_5, 9, .inl (fa1_5))), (a0_5, .inl (ka0_5, 9, .inl (f59))), (a1_6, .inl (ka1_6, 9, .inl (fa1_6))), (a0_6, .inl (ka0_6, 9, .inl (j42a0_6_a)))] H ∧ va_D A [(a0, .inr (5, [.int a1_0, .int a1_1, .int a1_2, .int a1_3, .int a1_4, .ref a0_5, .ref a0_6])), (a1, .inr (5, [.int a1_0, .int a1_1, .int a1_2, .int a1_3, .int a1_4, .ref a1_5, .ref a1_6])), (a1_5, .inl (ka1_5, 9, .inl (fa1_5))), (a0_5, .inl (ka0_5, 9, .inl (f59))), (a1_6, .inl (ka1_6, 9, .inl (fa1_6))), (a0_6, .inl (ka0_6, 9, .inl (j42a0_6_a)))] := ⟨_, hP, hD⟩
        refine lv_aload_n hx hb dX5_copyFrom_60 rfl (lv_at hl 0 rfl) ?_
        refine va_get (D := (dC, dI)) (ci := 5) (v := .ref a0_6) (C := RX5) (T := TX5) (N := 7) hx hb hts zi_X5_copyFrom_5 hown hK hP 0 rfl rfl 6 (by decide) (hts (.fieldLink RX5 15 "WaxTurns$Scene" "heardBits" "[I") (List.mem_cons_of_mem _ (List.mem_append_left _ (List.mem_of_getElem? (i := 6) rfl)))) (fun _ h9 => h9) rfl dX5_copyFrom_61 ?_
        refine lv_iload_n hx hb dX5_copyFrom_64 rfl (lv_at hl 2 rfl) ?_
        refine lv_aload_n hx hb dX5_copyFrom_65 rfl (lv_at hl 1 rfl) ?_
        refine va_get (D := (dC, dI)) (ci := 5) (v := .ref a1_6) (C := RX5) (T := TX5) (N := 7) hx hb hts zi_X5_copyFrom_5 hown hK hP 1 rfl rfl 6 (by decide) (hts (.fieldLink RX5 15 "WaxTurns$Scene" "heardBits" "[I") (List.mem_cons_of_mem _ (List.mem_append_left _ (List.mem_of_getElem? (i := 6) rfl)))) (fun _ h9 => h9) rfl dX5_copyFrom_66 ?_
        refine lv_iload_n hx hb dX5_copyFrom_69 rfl (lv_at hl 2 rfl) ?_
        refine va_iald hx hb hK hP 4 2 rfl rfl (ai_in bj42l2_l u45f_j42l2 (by decide) (by decide)) dX5_copyFrom_70 ?_
        refine lv_topi (fun x70 ex70 => ?_)
        refine va_iast hx hb hK hP hD hS 5 3 rfl rfl (ai_in bj42l2_l u45f_j42l2 (by decide) (by decide)) dX5_copyFrom_71 (fun H locs hP hD hS => ?_)
        obtain ⟨f71, hP, hD⟩ : ∃ f71 : Nat → Int32, va_P (dC, dI) vwCl [(a0, .inr (5, [.int a1_0, .int a1_1, .int a1_2, .int a1_3, .int a1_4, .ref a0_5, .ref a0_6])), (a1, .inr (5, [.int a1_0, .int a1_1, .int a1_2, .int a1_3, .int a1_4, .ref a1_5, .ref a1_6])), (a1_5, .inl (ka1_5, 9, .inl (fa1_5))), (a0_5, .inl (ka0_5, 9, .inl (f59))), (a1_6, .inl (ka1_6, 9, .inl (fa1_6))), (a0_6, .inl (ka0_6, 9, .inl (f71)))] H ∧ va_D A [(a0, .inr (5, [.int a1_0, .int a1_1, .int a1_2, .int a1_3, .int a1_4, .ref a0_5, .ref a0_6])), (a1, .inr (5, [.int a1_0, .int a1_1, .int a1_2, .int a1_3, .int a1_4, .ref a1_5, .ref a1_6])), (a1_5, .inl (ka1_5, 9, .inl (fa1_5))), (a0_5, .inl (ka0_5, 9, .inl (f59))), (a1_6, .inl (ka1_6, 9, .inl (fa1_6))), (a0_6, .inl (ka0_6, 9, .inl (f71)))] := ⟨_, hP, hD⟩
        obtain ⟨x72, ex72⟩ : ∃ y : Int32, y = j42l2 + Int32.ofInt 1 := ⟨_, rfl⟩
        have qx72 : x72.toInt = j42l2.toInt + 1 := ai_inc ex72 (by decide) (by decide) u45f_j42l2 (by decide)
        have bx72 : (1 : Int) ≤ x72.toInt ∧ x72.toInt ≤ 9 := ⟨by rw [qx72]; exact Int.add_le_add bj42l2_l (Int.le_refl _), by rw [qx72]; exact Int.add_le_add u45f_j42l2 (Int.le_refl _)⟩
        refine lv_iinc (v := x72) (lv' := [(2, .int x72), (0, .ref a0), (1, .ref a1)]) hx hb dX5_copyFrom_72 hl (k := 2) rfl ex72.symm (by decide) rfl (fun ls hl => ?_)
        refine lv_goto (tgt := 42) hx hb dX5_copyFrom_75 (by decide) ?_
        exact (hK0 _ _ _).mp (ih42 x72 f59 f71 _ _ _ (by first | exact zg_s hm42 qx72 | (have h0 := qx72; omega)) (Int.le_trans zq4 bx72.1) bx72.2 hP hD hS (lv_sub hl [1, 2, 0] rfl))
  exact (hK0 _ _ _).mp (J42 10 0 fa0_5 fa0_6 _ _ _ (by first | decide +kernel | (have h1 : (0 : Int) ≤ (0 : Int32).toInt := zq5; have h2 : (0 : Int32).toInt ≤ (0 : Int) := zq6; omega)) zq5 (Int.le_trans zq6 zq7) hP hD hS (lv_sub hl [1, 2, 0] rfl))

set_option maxHeartbeats 4000000 in
set_option maxRecDepth 100000 in
theorem c_X6_copyFrom (l : Launch) (dC : Nat → ClassId) (dI : Nat → Nat → Nat) (sz : Nat) (a0 : Nat) (a1 : Nat) (a0_0 : Int32) (a0_1 : Int32) (a0_2 : Nat) (a0_3 : Nat) (a1_0 : Int32) (a1_1 : Int32) (a1_2 : Nat) (a1_3 : Nat) (ka1_2 : ClassId) (fa1_2 : Nat → Int32) (ka0_2 : ClassId) (fa0_2 : Nat → Int32) (ka1_3 : ClassId) (fa1_3 : Nat → Int32) (ka0_3 : ClassId) (fa0_3 : Nat → Int32) (ba0_0_l : (0 : Int) ≤ a0_0.toInt) (ba0_0_u : a0_0.toInt ≤ (3 : Int)) (ba1_0_l : (0 : Int) ≤ a1_0.toInt) (ba1_0_u : a1_0.toInt ≤ (3 : Int)) (bfa1_2 : (∀ k, (0 : Int) ≤ (fa1_2 k).toInt ∧ (fa1_2 k).toInt ≤ 80)) (bfa0_2 : (∀ k, (0 : Int) ≤ (fa0_2 k).toInt ∧ (fa0_2 k).toInt ≤ 80)) (bfa1_3 : (∀ k, (0 : Int) ≤ (fa1_3 k).toInt ∧ (fa1_3 k).toInt ≤ 80)) (bfa0_3 : (∀ k, (0 : Int) ≤ (fa0_3 k).toInt ∧ (fa0_3 k).toInt ≤ 80)) : zm l yX6_copyFrom wsX6_copyFrom ({ frames := 0, cells := 0, slots := 0, locals := 0 }) [.ref a0, .ref a1] dC dI sz [(a0, .inr (6, [.int a0_0, .int a0_1, .ref a0_2, .ref a0_3])), (a1, .inr (6, [.int a1_0, .int a1_1, .ref a1_2, .ref a1_3])), (a1_2, .inl (ka1_2, 3, .inl (fa1_2))), (a0_2, .inl (ka0_2, 3, .inl (fa0_2))), (a1_3, .inl (ka1_3, 3, .inl (fa1_3))), (a0_3, .inl (ka0_3, 3, .inl (fa0_3)))] [(ka1_2, .int), (ka0_2, .int), (ka1_3, .int), (ka0_3, .int)] (fun A _ => True) (fun A => va_Qv (fun (_ : Unit) => True) (fun (_ : Unit) (t : State) => ∃ na0_0 : Int32, ∃ na0_1 : Int32, ∃ nfa0_2 : Nat → Int32, ∃ nfa0_3 : Nat → Int32, ((0 : Int) ≤ na0_0.toInt ∧ na0_0.toInt ≤ 3) ∧ (∀ k, (0 : Int) ≤ (nfa0_2 k).toInt ∧ (nfa0_2 k).toInt ≤ 80) ∧ (∀ k, (0 : Int) ≤ (nfa0_3 k).toInt ∧ (nfa0_3 k).toInt ≤ 80) ∧ ax_B dC dI A [(a0, .inr (6, [.int na0_0, .int na0_1, .ref a0_2, .ref a0_3])), (a1, .inr (6, [.int a1_0, .int a1_1, .ref a1_2, .ref a1_3])), (a1_2, .inl (ka1_2, 3, .inl (fa1_2))), (a0_2, .inl (ka0_2, 3, .inl (nfa0_2))), (a1_3, .inl (ka1_3, 3, .inl (fa1_3))), (a0_3, .inl (ka0_3, 3, .inl (nfa0_3)))] [(ka1_2, .int), (ka0_2, .int), (ka1_3, .int), (ka0_3, .int)] t) A) := by
  refine zh (cc := cX6_copyFrom) (maxL := 3) (ret := none) zn_RX6 rfl (Nat.le_of_ble_eq_true rfl) (fun p e s m below meth c A ls hx hb hml hr hts (hown : s.vm.findClass RX6 = some m.cls) hlocks hA hS hP hK hD hE (hl : lv_has ls 3 [(0, .ref a0), (1, .ref a1)]) => ?_)
  refine ai_open (fun K hK0 => ?_)
  refine (hK0 _ _ _).mpr ?_
  refine lv_aload_n hx hb dX6_copyFrom_0 rfl (lv_at hl 0 rfl) ?_
  refine lv_aload_n hx hb dX6_copyFrom_1 rfl (lv_at hl 1 rfl) ?_
  refine va_get (D := (dC, dI)) (ci := 6) (v := .int a1_0) (C := RX6) (T := TX6) (N := 4) hx hb hts zi_X6_copyFrom_6 hown hK hP 1 rfl rfl 0 (by decide) (hts (.fieldLink RX6 18 "WaxTurns$Watchers" "count" "I") (List.mem_cons_of_mem _ (List.mem_append_left _ (List.mem_of_getElem? (i := 0) rfl)))) (fun _ h9 => h9) rfl dX6_copyFrom_2 ?_
  refine va_put (D := (dC, dI)) (ci := 6) (v := .int a1_0) (ty := .int) (C := RX6) (T := TX6) (N := 4) hx hb hts zi_X6_copyFrom_6 tyX6 tyX6_ok nmX6 hown hK hP hD hS 0 rfl rfl 0 (by decide) (hts (.fieldLink RX6 18 "WaxTurns$Watchers" "count" "I") (List.mem_cons_of_mem _ (List.mem_append_left _ (List.mem_of_getElem? (i := 0) rfl)))) (fun _ h9 => h9) rfl (tyX6_ok 0 (by decide)) rfl rfl (Nat.le_of_ble_eq_true rfl) dX6_copyFrom_5 (fun H locs hP hD hS => ?_)
  refine zs_0 (y := (a0, .inr (6, [.int a1_0, .int a0_1, .ref a0_2, .ref a0_3]))) hP hD rfl (fun hP hD => ?_)
  refine lv_aload_n hx hb dX6_copyFrom_8 rfl (lv_at hl 0 rfl) ?_
  refine lv_aload_n hx hb dX6_copyFrom_9 rfl (lv_at hl 1 rfl) ?_
  refine va_get (D := (dC, dI)) (ci := 6) (v := .int a1_1) (C := RX6) (T := TX6) (N := 4) hx hb hts zi_X6_copyFrom_6 hown hK hP 1 rfl rfl 1 (by decide) (hts (.fieldLink RX6 22 "WaxTurns$Watchers" "posts" "I") (List.mem_cons_of_mem _ (List.mem_append_left _ (List.mem_of_getElem? (i := 1) rfl)))) (fun _ h9 => h9) rfl dX6_copyFrom_10 ?_
  refine va_put (D := (dC, dI)) (ci := 6) (v := .int a1_1) (ty := .int) (C := RX6) (T := TX6) (N := 4) hx hb hts zi_X6_copyFrom_6 tyX6 tyX6_ok nmX6 hown hK hP hD hS 0 rfl rfl 1 (by decide) (hts (.fieldLink RX6 22 "WaxTurns$Watchers" "posts" "I") (List.mem_cons_of_mem _ (List.mem_append_left _ (List.mem_of_getElem? (i := 1) rfl)))) (fun _ h9 => h9) rfl (tyX6_ok 1 (by decide)) rfl rfl (Nat.le_of_ble_eq_true rfl) dX6_copyFrom_13 (fun H locs hP hD hS => ?_)
  refine zs_0 (y := (a0, .inr (6, [.int a1_0, .int a1_1, .ref a0_2, .ref a0_3]))) hP hD rfl (fun hP hD => ?_)
  refine lv_iconst (v := 0) hx hb dX6_copyFrom_16 zk_iconst_0 ?_
  refine lv_istore_n (lv' := [(2, .int 0), (0, .ref a0), (1, .ref a1)]) hx hb dX6_copyFrom_17 rfl hl (by decide) rfl (fun ls hl => ?_)
  have J18 : ∀ (n : Nat) (j18l2 : Int32) (j18a0_2_a : Nat → Int32) (j18a0_3_a : Nat → Int32) (H : Heap) (locs : List Loc) (ls : Array Slot), (4 : Int) - j18l2.toInt ≤ (n : Int) → (0 : Int) ≤ j18l2.toInt → j18l2.toInt ≤ (3 : Int) → (∀ k, (0 : Int) ≤ (j18a0_2_a k).toInt ∧ (j18a0_2_a k).toInt ≤ 80) → (∀ k, (0 : Int) ≤ (j18a0_3_a k).toInt ∧ (j18a0_3_a k).toInt ≤ 80) → va_P (dC, dI) vwCl [(a0, .inr (6, [.int a1_0, .int a1_1, .ref a0_2, .ref a0_3])), (a1, .inr (6, [.int a1_0, .int a1_1, .ref a1_2, .ref a1_3])), (a1_2, .inl (ka1_2, 3, .inl (fa1_2))), (a0_2, .inl (ka0_2, 3, .inl (j18a0_2_a))), (a1_3, .inl (ka1_3, 3, .inl (fa1_3))), (a0_3, .inl (ka0_3, 3, .inl (j18a0_3_a)))] H → va_D A [(a0, .inr (6, [.int a1_0, .int a1_1, .ref a0_2, .ref a0_3])), (a1, .inr (6, [.int a1_0, .int a1_1, .ref a1_2, .ref a1_3])), (a1_2, .inl (ka1_2, 3, .inl (fa1_2))), (a0_2, .inl (ka0_2, 3, .inl (j18a0_2_a))), (a1_3, .inl (ka1_3, 3, .inl (fa1_3))), (a0_3, .inl (ka0_3, 3, .inl (j18a0_3_a)))] → va_S A s.heap H locs → lv_has ls 3 [(0, .ref a0), (1, .ref a1), (2, .int j18l2)] → K H locs (F0 m 18 ls []) := by
    intro n
    induction n with
    | zero =>
      intro j18l2 j18a0_2_a j18a0_3_a H locs ls hm bj18l2_l bj18l2_u bj18a0_2_a bj18a0_3_a hP hD hS hl
      first | exact zg_0 hm bj18l2_u (by decide) | (have h8 := ai_min j18l2; have h9 := ai_max j18l2; exact absurd hm (by omega))
    | succ n ih18 =>
      intro j18l2 j18a0_2_a j18a0_3_a H locs ls hm bj18l2_l bj18l2_u bj18a0_2_a bj18a0_3_a hP hD hS hl
      refine (hK0 _ _ _).mpr ?_
      have hm18 := hm
      refine lv_iload_n hx hb dX6_copyFrom_18 rfl (lv_at hl 2 rfl) ?_
      refine lv_iconst (v := 3) hx hb dX6_copyFrom_19 zk_iconst_3 ?_
      refine lv_icmp_ge (tgt := 53) hx hb dX6_copyFrom_20 (by decide) (fun c20 => ?_) (fun c20 => ?_)
      · have gc20 := ai_le c20
        have l20t_j18l2 : (3 : Int) ≤ j18l2.toInt := Int.le_trans zq8 gc20
        exact W.vret hx hb hr (fun t ht hW => ⟨⟨(), rfl, trivial, a1_0, a1_1, j18a0_2_a, j18a0_3_a, ⟨ba1_0_l, ba1_0_u⟩, bj18a0_2_a, bj18a0_3_a, by rw [ht]; exact hP, va_K.moved hW.alike hK, hD⟩, hS.F ht⟩) hS.2.2 dX6_copyFrom_53
      · have gc20 := ai_nle c20
        have u20f_j18l2 : j18l2.toInt ≤ (2 : Int) := ai_lthi gc20 zq9
        refine lv_aload_n hx hb dX6_copyFrom_23 rfl (lv_at hl 0 rfl) ?_
        refine va_get (D := (dC, dI)) (ci := 6) (v := .ref a0_2) (C := RX6) (T := TX6) (N := 4) hx hb hts zi_X6_copyFrom_6 hown hK hP 0 rfl rfl 2 (by decide) (hts (.fieldLink RX6 9 "WaxTurns$Watchers" "from" "[I") (List.mem_cons_of_mem _ (List.mem_append_left _ (List.mem_of_getElem? (i := 2) rfl)))) (fun _ h9 => h9) rfl dX6_copyFrom_24 ?_
        refine lv_iload_n hx hb dX6_copyFrom_27 rfl (lv_at hl 2 rfl) ?_
        refine lv_aload_n hx hb dX6_copyFrom_28 rfl (lv_at hl 1 rfl) ?_
        refine va_get (D := (dC, dI)) (ci := 6) (v := .ref a1_2) (C := RX6) (T := TX6) (N := 4) hx hb hts zi_X6_copyFrom_6 hown hK hP 1 rfl rfl 2 (by decide) (hts (.fieldLink RX6 9 "WaxTurns$Watchers" "from" "[I") (List.mem_cons_of_mem _ (List.mem_append_left _ (List.mem_of_getElem? (i := 2) rfl)))) (fun _ h9 => h9) rfl dX6_copyFrom_29 ?_
        refine lv_iload_n hx hb dX6_copyFrom_32 rfl (lv_at hl 2 rfl) ?_
        refine va_iald hx hb hK hP 2 0 rfl rfl (ai_in bj18l2_l u20f_j18l2 (by decide) (by decide)) dX6_copyFrom_33 ?_
        refine lv_topi (fun x33 ex33 => ?_)
        have bx33 : (0 : Int) ≤ x33.toInt ∧ x33.toInt ≤ 80 := by rw [ex33]; exact bfa1_2 _
        refine va_iast hx hb hK hP hD hS 3 1 rfl rfl (ai_in bj18l2_l u20f_j18l2 (by decide) (by decide)) dX6_copyFrom_34 (fun H locs hP hD hS => ?_)
        obtain ⟨f34, bf34, hP, hD⟩ : ∃ f34 : Nat → Int32, (∀ k, (0 : Int) ≤ (f34 k).toInt ∧ (f34 k).toInt ≤ 80) ∧ va_P (dC, dI) vwCl [(a0, .inr (6, [.int a1_0, .int a1_1, .ref a0_2, .ref a0_3])), (a1, .inr (6, [.int a1_0, .int a1_1, .ref a1_2, .ref a1_3])), (a1_2, .inl (ka1_2, 3, .inl (fa1_2))), (a0_2, .inl (ka0_2, 3, .inl (f34))), (a1_3, .inl (ka1_3, 3, .inl (fa1_3))), (a0_3, .inl (ka0_3, 3, .inl (j18a0_3_a)))] H ∧ va_D A [(a0, .inr (6, [.int a1_0, .int a1_1, .ref a0_2, .ref a0_3])), (a1, .inr (6, [.int a1_0, .int a1_1, .ref a1_2, .ref a1_3])), (a1_2, .inl (ka1_2, 3, .inl (fa1_2))), (a0_2, .inl (ka0_2, 3, .inl (f34))), (a1_3, .inl (ka1_3, 3, .inl (fa1_3))), (a0_3, .inl (ka0_3, 3, .inl (j18a0_3_a)))] := ⟨_, ai_upd bj18a0_2_a _ ⟨bx33.1, bx33.2⟩, hP, hD⟩
        refine lv_aload_n hx hb dX6_copyFrom_35 rfl (lv_at hl 0 rfl) ?_
        refine va_get (D := (dC, dI)) (ci := 6) (v := .ref a0_3) (C := RX6) (T := TX6) (N := 4) hx hb hts zi_X6_copyFrom_6 hown hK hP 0 rfl rfl 3 (by decide) (hts (.fieldLink RX6 15 "WaxTurns$Watchers" "to" "[I") (List.mem_cons_of_mem _ (List.mem_append_left _ (List.mem_of_getElem? (i := 3) rfl)))) (fun _ h9 => h9) rfl dX6_copyFrom_36 ?_
        refine lv_iload_n hx hb dX6_copyFrom_39 rfl (lv_at hl 2 rfl) ?_
        refine lv_aload_n hx hb dX6_copyFrom_40 rfl (lv_at hl 1 rfl) ?_
        refine va_get (D := (dC, dI)) (ci := 6) (v := .ref a1_3) (C := RX6) (T := TX6) (N := 4) hx hb hts zi_X6_copyFrom_6 hown hK hP 1 rfl rfl 3 (by decide) (hts (.fieldLink RX6 15 "WaxTurns$Watchers" "to" "[I") (List.mem_cons_of_mem _ (List.mem_append_left _ (List.mem_of_getElem? (i := 3) rfl)))) (fun _ h9 => h9) rfl dX6_copyFrom_41 ?_
        refine lv_iload_n hx hb dX6_copyFrom_44 rfl (lv_at hl 2 rfl) ?_
        refine va_iald hx hb hK hP 4 2 rfl rfl (ai_in bj18l2_l u20f_j18l2 (by decide) (by decide)) dX6_copyFrom_45 ?_
        refine lv_topi (fun x45 ex45 => ?_)
        have bx45 : (0 : Int) ≤ x45.toInt ∧ x45.toInt ≤ 80 := by rw [ex45]; exact bfa1_3 _
        refine va_iast hx hb hK hP hD hS 5 3 rfl rfl (ai_in bj18l2_l u20f_j18l2 (by decide) (by decide)) dX6_copyFrom_46 (fun H locs hP hD hS => ?_)
        obtain ⟨f46, bf46, hP, hD⟩ : ∃ f46 : Nat → Int32, (∀ k, (0 : Int) ≤ (f46 k).toInt ∧ (f46 k).toInt ≤ 80) ∧ va_P (dC, dI) vwCl [(a0, .inr (6, [.int a1_0, .int a1_1, .ref a0_2, .ref a0_3])), (a1, .inr (6, [.int a1_0, .int a1_1, .ref a1_2, .ref a1_3])), (a1_2, .inl (ka1_2, 3, .inl (fa1_2))), (a0_2, .inl (ka0_2, 3, .inl (f34))), (a1_3, .inl (ka1_3, 3, .inl (fa1_3))), (a0_3, .inl (ka0_3, 3, .inl (f46)))] H ∧ va_D A [(a0, .inr (6, [.int a1_0, .int a1_1, .ref a0_2, .ref a0_3])), (a1, .inr (6, [.int a1_0, .int a1_1, .ref a1_2, .ref a1_3])), (a1_2, .inl (ka1_2, 3, .inl (fa1_2))), (a0_2, .inl (ka0_2, 3, .inl (f34))), (a1_3, .inl (ka1_3, 3, .inl (fa1_3))), (a0_3, .inl (ka0_3, 3, .inl (f46)))] := ⟨_, ai_upd bj18a0_3_a _ ⟨bx45.1, bx45.2⟩, hP, hD⟩
        obtain ⟨x47, ex47⟩ : ∃ y : Int32, y = j18l2 + Int32.ofInt 1 := ⟨_, rfl⟩
        have qx47 : x47.toInt = j18l2.toInt + 1 := ai_inc ex47 (by decide) (by decide) u20f_j18l2 (by decide)
        have bx47 : (1 : Int) ≤ x47.toInt ∧ x47.toInt ≤ 3 := ⟨by rw [qx47]; exact Int.add_le_add bj18l2_l (Int.le_refl _), by rw [qx47]; exact Int.add_le_add u20f_j18l2 (Int.le_refl _)⟩
        refine lv_iinc (v := x47) (lv' := [(2, .int x47), (0, .ref a0), (1, .ref a1)]) hx hb dX6_copyFrom_47 hl (k := 2) rfl ex47.symm (by decide) rfl (fun ls hl => ?_)
        refine lv_goto (tgt := 18) hx hb dX6_copyFrom_50 (by decide) ?_
        exact (hK0 _ _ _).mp (ih18 x47 f34 f46 _ _ _ (by first | exact zg_s hm18 qx47 | (have h0 := qx47; omega)) (Int.le_trans zq4 bx47.1) bx47.2 bf34 bf46 hP hD hS (lv_sub hl [1, 2, 0] rfl))
  exact (hK0 _ _ _).mp (J18 4 0 fa0_2 fa0_3 _ _ _ (by first | decide +kernel | (have h1 : (0 : Int) ≤ (0 : Int32).toInt := zq5; have h2 : (0 : Int32).toInt ≤ (0 : Int) := zq6; omega)) zq5 (Int.le_trans zq6 zq11) bfa0_2 bfa0_3 hP hD hS (lv_sub hl [1, 2, 0] rfl))

set_option maxHeartbeats 4000000 in
set_option maxRecDepth 100000 in
theorem c_X6_placeOf (l : Launch) (dC : Nat → ClassId) (dI : Nat → Nat → Nat) (sz : Nat) (a0 : Nat) (a1 : Int32) (a2 : Int32) (a0g_0 a0g_1 : Value) (a0_2 : Nat) (a0_3 : Nat) (ka0_3 : ClassId) (fa0_3 : Nat → Int32) (ka0_2 : ClassId) (fa0_2 : Nat → Int32) (ba1_l : (0 : Int) ≤ a1.toInt) (ba1_u : a1.toInt ≤ (2 : Int)) (bfa0_3 : (∀ k, (0 : Int) ≤ (fa0_3 k).toInt ∧ (fa0_3 k).toInt ≤ 80)) (bfa0_2 : (∀ k, (0 : Int) ≤ (fa0_2 k).toInt ∧ (fa0_2 k).toInt ≤ 80)) : zm l yX6_placeOf wsX6_placeOf ({ frames := 0, cells := 0, slots := 0, locals := 0 }) [.ref a0, .int a1, .int a2] dC dI sz [(a0, .inr (6, [a0g_0, a0g_1, .ref a0_2, .ref a0_3])), (a0_3, .inl (ka0_3, 3, .inl (fa0_3))), (a0_2, .inl (ka0_2, 3, .inl (fa0_2)))] [(ka0_3, .int), (ka0_2, .int)] (fun A _ => True) (fun A => va_Qi (fun (r : Int32) (_ : Unit) => True) (fun (_ : Unit) (t : State) => ax_B dC dI A [(a0, .inr (6, [a0g_0, a0g_1, .ref a0_2, .ref a0_3])), (a0_3, .inl (ka0_3, 3, .inl (fa0_3))), (a0_2, .inl (ka0_2, 3, .inl (fa0_2)))] [(ka0_3, .int), (ka0_2, .int)] t) A) := by
  refine zh (cc := cX6_placeOf) (maxL := 7) (ret := (some .int)) zn_RX6 rfl (Nat.le_of_ble_eq_true rfl) (fun p e s m below meth c A ls hx hb hml hr hts (hown : s.vm.findClass RX6 = some m.cls) hlocks hA hS hP hK hD hE (hl : lv_has ls 7 [(0, .ref a0), (1, .int a1), (2, .int a2)]) => ?_)
  refine lv_aload_n hx hb dX6_placeOf_0 rfl (lv_at hl 0 rfl) ?_
  refine va_get (D := (dC, dI)) (ci := 6) (v := .ref a0_3) (C := RX6) (T := TX6) (N := 4) hx hb hts zi_X6_placeOf_6 hown hK hP 0 rfl rfl 3 (by decide) (hts (.fieldLink RX6 15 "WaxTurns$Watchers" "to" "[I") (List.mem_cons_of_mem _ (List.mem_append_left _ (List.mem_of_getElem? (i := 0) rfl)))) (fun _ h9 => h9) rfl dX6_placeOf_1 ?_
  refine lv_iload_n hx hb dX6_placeOf_4 rfl (lv_at hl 1 rfl) ?_
  refine va_iald hx hb hK hP 1 0 rfl rfl (ai_in ba1_l ba1_u (by decide) (by decide)) dX6_placeOf_5 ?_
  refine lv_topi (fun x5 ex5 => ?_)
  have bx5 : (0 : Int) ≤ x5.toInt ∧ x5.toInt ≤ 80 := by rw [ex5]; exact bfa0_3 _
  refine lv_aload_n hx hb dX6_placeOf_6 rfl (lv_at hl 0 rfl) ?_
  refine va_get (D := (dC, dI)) (ci := 6) (v := .ref a0_2) (C := RX6) (T := TX6) (N := 4) hx hb hts zi_X6_placeOf_6 hown hK hP 0 rfl rfl 2 (by decide) (hts (.fieldLink RX6 9 "WaxTurns$Watchers" "from" "[I") (List.mem_cons_of_mem _ (List.mem_append_left _ (List.mem_of_getElem? (i := 1) rfl)))) (fun _ h9 => h9) rfl dX6_placeOf_7 ?_
  refine lv_iload_n hx hb dX6_placeOf_10 rfl (lv_at hl 1 rfl) ?_
  refine va_iald hx hb hK hP 2 1 rfl rfl (ai_in ba1_l ba1_u (by decide) (by decide)) dX6_placeOf_11 ?_
  refine lv_topi (fun x11 ex11 => ?_)
  have bx11 : (0 : Int) ≤ x11.toInt ∧ x11.toInt ≤ 80 := by rw [ex11]; exact bfa0_2 _
  refine lv_icmp_le (tgt := 19) hx hb dX6_placeOf_12 (by decide) (fun c12 => ?_) (fun c12 => ?_)
  · have gc12 := ai_le c12
    have u12t_x5 : x5.toInt ≤ (80 : Int) := bx5.2
    have l12t_x11 : (0 : Int) ≤ x11.toInt := bx11.1
    refine lv_iconst (v := 0) hx hb dX6_placeOf_19 zk_iconst_0 ?_
    refine lv_istore_n (lv' := [(3, .int 0), (0, .ref a0), (1, .int a1), (2, .int a2)]) hx hb dX6_placeOf_20 rfl hl (by decide) rfl (fun ls hl => ?_)
    refine lv_iload_n hx hb dX6_placeOf_21 rfl (lv_at hl 0 rfl) ?_
    refine lv_if_eq (tgt := 41) hx hb dX6_placeOf_22 (by decide) (fun _ => ?_) (fun c22 => absurd (by decide +kernel) c22)
    refine lv_aload_n hx hb dX6_placeOf_41 rfl (lv_at hl 1 rfl) ?_
    refine va_get (D := (dC, dI)) (ci := 6) (v := .ref a0_2) (C := RX6) (T := TX6) (N := 4) hx hb hts zi_X6_placeOf_6 hown hK hP 0 rfl rfl 2 (by decide) (hts (.fieldLink RX6 9 "WaxTurns$Watchers" "from" "[I") (List.mem_cons_of_mem _ (List.mem_append_left _ (List.mem_of_getElem? (i := 1) rfl)))) (fun _ h9 => h9) rfl dX6_placeOf_42 ?_
    refine lv_iload_n hx hb dX6_placeOf_45 rfl (lv_at hl 2 rfl) ?_
    refine va_iald hx hb hK hP 2 1 rfl rfl (ai_in ba1_l ba1_u (by decide) (by decide)) dX6_placeOf_46 ?_
    refine ax_ti x11 ex11.symm ?_
    refine lv_aload_n hx hb dX6_placeOf_47 rfl (lv_at hl 1 rfl) ?_
    refine va_get (D := (dC, dI)) (ci := 6) (v := .ref a0_3) (C := RX6) (T := TX6) (N := 4) hx hb hts zi_X6_placeOf_6 hown hK hP 0 rfl rfl 3 (by decide) (hts (.fieldLink RX6 15 "WaxTurns$Watchers" "to" "[I") (List.mem_cons_of_mem _ (List.mem_append_left _ (List.mem_of_getElem? (i := 0) rfl)))) (fun _ h9 => h9) rfl dX6_placeOf_48 ?_
    refine lv_iload_n hx hb dX6_placeOf_51 rfl (lv_at hl 2 rfl) ?_
    refine va_iald hx hb hK hP 1 0 rfl rfl (ai_in ba1_l ba1_u (by decide) (by decide)) dX6_placeOf_52 ?_
    refine ax_ti x5 ex5.symm ?_
    refine lv_isub hx hb dX6_placeOf_53 ?_
    refine lv_topi (fun x53 ex53 => ?_)
    have qx53 : x53.toInt = x11.toInt - x5.toInt := ai_sub ex53 ⟨l12t_x11, bx11.2⟩ ⟨bx5.1, u12t_x5⟩ (by decide) (by decide)
    have bx53 : (-80 : Int) ≤ x53.toInt ∧ x53.toInt ≤ 80 := ⟨by rw [qx53]; exact Int.sub_le_sub l12t_x11 u12t_x5, by rw [qx53]; exact Int.sub_le_sub bx11.2 bx5.1⟩
    refine lv_istore (lv' := [(4, .int x53), (3, .int 0), (0, .ref a0), (1, .int a1), (2, .int a2)]) hx hb dX6_placeOf_54 hl (by decide) rfl (fun ls hl => ?_)
    refine lv_iload hx hb dX6_placeOf_56 (lv_at hl 0 rfl) ?_
    refine lv_if_gt (tgt := 68) hx hb dX6_placeOf_58 (by decide) (fun c58 => ?_) (fun c58 => ?_)
    · have gc58 := ai_lt c58
      have l58t_x53 : (1 : Int) ≤ x53.toInt := ai_ltlo gc58 zq5
      refine lv_iload_n hx hb dX6_placeOf_68 rfl (lv_at hl 4 rfl) ?_
      refine lv_iconst (v := 2) hx hb dX6_placeOf_69 zk_iconst_2 ?_
      refine lv_iload hx hb dX6_placeOf_70 (lv_at hl 0 rfl) ?_
      refine lv_imul hx hb dX6_placeOf_72 ?_
      refine lv_topi (fun x72 ex72 => ?_)
      have qx72 : x72.toInt = (2 : Int32).toInt * x53.toInt ∧ (2 : Int) ≤ x72.toInt ∧ x72.toInt ≤ 160 := ai_mul ex72 ⟨zq12, zq13⟩ ⟨l58t_x53, bx53.2⟩ (by decide) (by decide) zq14
      have wx72 : x72.toInt = 2 * x53.toInt := qx72.1
      refine lv_irem hx hb dX6_placeOf_73 (ai_nz qx72.2.1 (by decide)) ?_
      refine lv_topi (fun x73 ex73 => ?_)
      refine lv_istore (lv' := [(5, .int x73), (4, .int x53), (3, .int 0), (0, .ref a0), (1, .int a1), (2, .int a2)]) hx hb dX6_placeOf_74 hl (by decide) rfl (fun ls hl => ?_)
      refine lv_iload hx hb dX6_placeOf_76 (lv_at hl 0 rfl) ?_
      refine lv_iload hx hb dX6_placeOf_78 (lv_at hl 1 rfl) ?_
      refine lv_icmp_gt (tgt := 88) hx hb dX6_placeOf_80 (by decide) (fun c80 => ?_) (fun c80 => ?_)
      · have gc80 := ai_lt c80
        have u80t_x53 : x53.toInt ≤ (80 : Int) := bx53.2
        have l80t_x73 : (2 : Int) ≤ x73.toInt := ai_ltlo gc80 l58t_x53
        refine lv_iconst (v := 2) hx hb dX6_placeOf_88 zk_iconst_2 ?_
        refine lv_iload hx hb dX6_placeOf_89 (lv_at hl 1 rfl) ?_
        refine lv_imul hx hb dX6_placeOf_91 ?_
        refine ax_ti x72 ex72.symm ?_
        refine lv_iload hx hb dX6_placeOf_92 (lv_at hl 0 rfl) ?_
        refine lv_isub hx hb dX6_placeOf_94 ?_
        refine lv_topi (fun x94 ex94 => ?_)
        have qx94 : x94.toInt = x72.toInt - x73.toInt := ai_sub ex94 ⟨qx72.2.1, qx72.2.2⟩ ⟨l80t_x73, (ai_max x73)⟩ (by decide) (by decide)
        have bx94 : (-2147483645 : Int) ≤ x94.toInt ∧ x94.toInt ≤ 158 := ⟨by rw [qx94]; exact Int.sub_le_sub qx72.2.1 (ai_max x73), by rw [qx94]; exact Int.sub_le_sub qx72.2.2 l80t_x73⟩
        refine lv_istore (lv' := [(6, .int x94), (5, .int x73), (4, .int x53), (3, .int 0), (0, .ref a0), (1, .int a1), (2, .int a2)]) hx hb dX6_placeOf_95 hl (by decide) rfl (fun ls hl => ?_)
        refine lv_iload_n hx hb dX6_placeOf_97 rfl (lv_at hl 3 rfl) ?_
        refine lv_if_eq (tgt := 113) hx hb dX6_placeOf_98 (by decide) (fun _ => ?_) (fun c98 => absurd (by decide +kernel) c98)
        refine lv_aload_n hx hb dX6_placeOf_113 rfl (lv_at hl 4 rfl) ?_
        refine va_get (D := (dC, dI)) (ci := 6) (v := .ref a0_2) (C := RX6) (T := TX6) (N := 4) hx hb hts zi_X6_placeOf_6 hown hK hP 0 rfl rfl 2 (by decide) (hts (.fieldLink RX6 9 "WaxTurns$Watchers" "from" "[I") (List.mem_cons_of_mem _ (List.mem_append_left _ (List.mem_of_getElem? (i := 1) rfl)))) (fun _ h9 => h9) rfl dX6_placeOf_114 ?_
        refine lv_iload_n hx hb dX6_placeOf_117 rfl (lv_at hl 5 rfl) ?_
        refine va_iald hx hb hK hP 2 1 rfl rfl (ai_in ba1_l ba1_u (by decide) (by decide)) dX6_placeOf_118 ?_
        refine ax_ti x11 ex11.symm ?_
        refine lv_iload hx hb dX6_placeOf_119 (lv_at hl 0 rfl) ?_
        refine lv_isub hx hb dX6_placeOf_121 ?_
        refine lv_topi (fun x121 ex121 => ?_)
        exact W.iret (v := x121) hx hb hr (fun t ht hW => ⟨⟨x121, (), rfl, trivial, by rw [ht]; exact hP, va_K.moved hW.alike hK, hD⟩, hS.F ht⟩) hS.2.2 dX6_placeOf_122
      · have gc80 := ai_nlt c80
        have u80f_x73 : x73.toInt ≤ (80 : Int) := Int.le_trans gc80 bx53.2
        refine lv_iload hx hb dX6_placeOf_83 (lv_at hl 0 rfl) ?_
        refine lv_goto (tgt := 95) hx hb dX6_placeOf_85 (by decide) ?_
        refine lv_istore (lv' := [(6, .int x73), (5, .int x73), (4, .int x53), (3, .int 0), (0, .ref a0), (1, .int a1), (2, .int a2)]) hx hb dX6_placeOf_95 hl (by decide) rfl (fun ls hl => ?_)
        refine lv_iload_n hx hb dX6_placeOf_97 rfl (lv_at hl 3 rfl) ?_
        refine lv_if_eq (tgt := 113) hx hb dX6_placeOf_98 (by decide) (fun _ => ?_) (fun c98 => absurd (by decide +kernel) c98)
        refine lv_aload_n hx hb dX6_placeOf_113 rfl (lv_at hl 4 rfl) ?_
        refine va_get (D := (dC, dI)) (ci := 6) (v := .ref a0_2) (C := RX6) (T := TX6) (N := 4) hx hb hts zi_X6_placeOf_6 hown hK hP 0 rfl rfl 2 (by decide) (hts (.fieldLink RX6 9 "WaxTurns$Watchers" "from" "[I") (List.mem_cons_of_mem _ (List.mem_append_left _ (List.mem_of_getElem? (i := 1) rfl)))) (fun _ h9 => h9) rfl dX6_placeOf_114 ?_
        refine lv_iload_n hx hb dX6_placeOf_117 rfl (lv_at hl 5 rfl) ?_
        refine va_iald hx hb hK hP 2 1 rfl rfl (ai_in ba1_l ba1_u (by decide) (by decide)) dX6_placeOf_118 ?_
        refine ax_ti x11 ex11.symm ?_
        refine lv_iload hx hb dX6_placeOf_119 (lv_at hl 0 rfl) ?_
        refine lv_isub hx hb dX6_placeOf_121 ?_
        refine lv_topi (fun x121 ex121 => ?_)
        exact W.iret (v := x121) hx hb hr (fun t ht hW => ⟨⟨x121, (), rfl, trivial, by rw [ht]; exact hP, va_K.moved hW.alike hK, hD⟩, hS.F ht⟩) hS.2.2 dX6_placeOf_122
    · have gc58 := ai_nlt c58
      have u58f_x53 : x53.toInt ≤ (0 : Int) := Int.le_trans gc58 zq6
      refine lv_aload_n hx hb dX6_placeOf_61 rfl (lv_at hl 2 rfl) ?_
      refine va_get (D := (dC, dI)) (ci := 6) (v := .ref a0_2) (C := RX6) (T := TX6) (N := 4) hx hb hts zi_X6_placeOf_6 hown hK hP 0 rfl rfl 2 (by decide) (hts (.fieldLink RX6 9 "WaxTurns$Watchers" "from" "[I") (List.mem_cons_of_mem _ (List.mem_append_left _ (List.mem_of_getElem? (i := 1) rfl)))) (fun _ h9 => h9) rfl dX6_placeOf_62 ?_
      refine lv_iload_n hx hb dX6_placeOf_65 rfl (lv_at hl 3 rfl) ?_
      refine va_iald hx hb hK hP 2 1 rfl rfl (ai_in ba1_l ba1_u (by decide) (by decide)) dX6_placeOf_66 ?_
      refine ax_ti x11 ex11.symm ?_
      exact W.iret (v := x11) hx hb hr (fun t ht hW => ⟨⟨x11, (), rfl, trivial, by rw [ht]; exact hP, va_K.moved hW.alike hK, hD⟩, hS.F ht⟩) hS.2.2 dX6_placeOf_67
  · have gc12 := ai_nle c12
    have u12f_x11 : x11.toInt ≤ (79 : Int) := ai_lthi gc12 bx5.2
    have l12f_x5 : (1 : Int) ≤ x5.toInt := ai_ltlo gc12 bx11.1
    refine lv_iconst (v := 1) hx hb dX6_placeOf_15 zk_iconst_1 ?_
    refine lv_goto (tgt := 20) hx hb dX6_placeOf_16 (by decide) ?_
    refine lv_istore_n (lv' := [(3, .int 1), (0, .ref a0), (1, .int a1), (2, .int a2)]) hx hb dX6_placeOf_20 rfl hl (by decide) rfl (fun ls hl => ?_)
    refine lv_iload_n hx hb dX6_placeOf_21 rfl (lv_at hl 0 rfl) ?_
    refine lv_if_eq (tgt := 41) hx hb dX6_placeOf_22 (by decide) (fun c22 => absurd c22 (by decide +kernel)) (fun _ => ?_)
    refine lv_aload_n hx hb dX6_placeOf_25 rfl (lv_at hl 1 rfl) ?_
    refine va_get (D := (dC, dI)) (ci := 6) (v := .ref a0_3) (C := RX6) (T := TX6) (N := 4) hx hb hts zi_X6_placeOf_6 hown hK hP 0 rfl rfl 3 (by decide) (hts (.fieldLink RX6 15 "WaxTurns$Watchers" "to" "[I") (List.mem_cons_of_mem _ (List.mem_append_left _ (List.mem_of_getElem? (i := 0) rfl)))) (fun _ h9 => h9) rfl dX6_placeOf_26 ?_
    refine lv_iload_n hx hb dX6_placeOf_29 rfl (lv_at hl 2 rfl) ?_
    refine va_iald hx hb hK hP 1 0 rfl rfl (ai_in ba1_l ba1_u (by decide) (by decide)) dX6_placeOf_30 ?_
    refine ax_ti x5 ex5.symm ?_
    refine lv_aload_n hx hb dX6_placeOf_31 rfl (lv_at hl 1 rfl) ?_
    refine va_get (D := (dC, dI)) (ci := 6) (v := .ref a0_2) (C := RX6) (T := TX6) (N := 4) hx hb hts zi_X6_placeOf_6 hown hK hP 0 rfl rfl 2 (by decide) (hts (.fieldLink RX6 9 "WaxTurns$Watchers" "from" "[I") (List.mem_cons_of_mem _ (List.mem_append_left _ (List.mem_of_getElem? (i := 1) rfl)))) (fun _ h9 => h9) rfl dX6_placeOf_32 ?_
    refine lv_iload_n hx hb dX6_placeOf_35 rfl (lv_at hl 2 rfl) ?_
    refine va_iald hx hb hK hP 2 1 rfl rfl (ai_in ba1_l ba1_u (by decide) (by decide)) dX6_placeOf_36 ?_
    refine ax_ti x11 ex11.symm ?_
    refine lv_isub hx hb dX6_placeOf_37 ?_
    refine lv_topi (fun x37 ex37 => ?_)
    have qx37 : x37.toInt = x5.toInt - x11.toInt := ai_sub ex37 ⟨l12f_x5, bx5.2⟩ ⟨bx11.1, u12f_x11⟩ (by decide) (by decide)
    have bx37 : (-78 : Int) ≤ x37.toInt ∧ x37.toInt ≤ 80 := ⟨by rw [qx37]; exact Int.sub_le_sub l12f_x5 u12f_x11, by rw [qx37]; exact Int.sub_le_sub bx5.2 bx11.1⟩
    refine lv_goto (tgt := 54) hx hb dX6_placeOf_38 (by decide) ?_
    refine lv_istore (lv' := [(4, .int x37), (3, .int 1), (0, .ref a0), (1, .int a1), (2, .int a2)]) hx hb dX6_placeOf_54 hl (by decide) rfl (fun ls hl => ?_)
    refine lv_iload hx hb dX6_placeOf_56 (lv_at hl 0 rfl) ?_
    refine lv_if_gt (tgt := 68) hx hb dX6_placeOf_58 (by decide) (fun c58 => ?_) (fun c58 => ?_)
    · have gc58 := ai_lt c58
      have l58t_x37 : (1 : Int) ≤ x37.toInt := ai_ltlo gc58 zq5
      refine lv_iload_n hx hb dX6_placeOf_68 rfl (lv_at hl 4 rfl) ?_
      refine lv_iconst (v := 2) hx hb dX6_placeOf_69 zk_iconst_2 ?_
      refine lv_iload hx hb dX6_placeOf_70 (lv_at hl 0 rfl) ?_
      refine lv_imul hx hb dX6_placeOf_72 ?_
      refine lv_topi (fun x72 ex72 => ?_)
      have qx72 : x72.toInt = (2 : Int32).toInt * x37.toInt ∧ (2 : Int) ≤ x72.toInt ∧ x72.toInt ≤ 160 := ai_mul ex72 ⟨zq12, zq13⟩ ⟨l58t_x37, bx37.2⟩ (by decide) (by decide) zq14
      have wx72 : x72.toInt = 2 * x37.toInt := qx72.1
      refine lv_irem hx hb dX6_placeOf_73 (ai_nz qx72.2.1 (by decide)) ?_
      refine lv_topi (fun x73 ex73 => ?_)
      refine lv_istore (lv' := [(5, .int x73), (4, .int x37), (3, .int 1), (0, .ref a0), (1, .int a1), (2, .int a2)]) hx hb dX6_placeOf_74 hl (by decide) rfl (fun ls hl => ?_)
      refine lv_iload hx hb dX6_placeOf_76 (lv_at hl 0 rfl) ?_
      refine lv_iload hx hb dX6_placeOf_78 (lv_at hl 1 rfl) ?_
      refine lv_icmp_gt (tgt := 88) hx hb dX6_placeOf_80 (by decide) (fun c80 => ?_) (fun c80 => ?_)
      · have gc80 := ai_lt c80
        have u80t_x37 : x37.toInt ≤ (80 : Int) := bx37.2
        have l80t_x73 : (2 : Int) ≤ x73.toInt := ai_ltlo gc80 l58t_x37
        refine lv_iconst (v := 2) hx hb dX6_placeOf_88 zk_iconst_2 ?_
        refine lv_iload hx hb dX6_placeOf_89 (lv_at hl 1 rfl) ?_
        refine lv_imul hx hb dX6_placeOf_91 ?_
        refine ax_ti x72 ex72.symm ?_
        refine lv_iload hx hb dX6_placeOf_92 (lv_at hl 0 rfl) ?_
        refine lv_isub hx hb dX6_placeOf_94 ?_
        refine lv_topi (fun x94 ex94 => ?_)
        have qx94 : x94.toInt = x72.toInt - x73.toInt := ai_sub ex94 ⟨qx72.2.1, qx72.2.2⟩ ⟨l80t_x73, (ai_max x73)⟩ (by decide) (by decide)
        have bx94 : (-2147483645 : Int) ≤ x94.toInt ∧ x94.toInt ≤ 158 := ⟨by rw [qx94]; exact Int.sub_le_sub qx72.2.1 (ai_max x73), by rw [qx94]; exact Int.sub_le_sub qx72.2.2 l80t_x73⟩
        refine lv_istore (lv' := [(6, .int x94), (5, .int x73), (4, .int x37), (3, .int 1), (0, .ref a0), (1, .int a1), (2, .int a2)]) hx hb dX6_placeOf_95 hl (by decide) rfl (fun ls hl => ?_)
        refine lv_iload_n hx hb dX6_placeOf_97 rfl (lv_at hl 3 rfl) ?_
        refine lv_if_eq (tgt := 113) hx hb dX6_placeOf_98 (by decide) (fun c98 => absurd c98 (by decide +kernel)) (fun _ => ?_)
        refine lv_aload_n hx hb dX6_placeOf_101 rfl (lv_at hl 4 rfl) ?_
        refine va_get (D := (dC, dI)) (ci := 6) (v := .ref a0_2) (C := RX6) (T := TX6) (N := 4) hx hb hts zi_X6_placeOf_6 hown hK hP 0 rfl rfl 2 (by decide) (hts (.fieldLink RX6 9 "WaxTurns$Watchers" "from" "[I") (List.mem_cons_of_mem _ (List.mem_append_left _ (List.mem_of_getElem? (i := 1) rfl)))) (fun _ h9 => h9) rfl dX6_placeOf_102 ?_
        refine lv_iload_n hx hb dX6_placeOf_105 rfl (lv_at hl 5 rfl) ?_
        refine va_iald hx hb hK hP 2 1 rfl rfl (ai_in ba1_l ba1_u (by decide) (by decide)) dX6_placeOf_106 ?_
        refine ax_ti x11 ex11.symm ?_
        refine lv_iload hx hb dX6_placeOf_107 (lv_at hl 0 rfl) ?_
        refine lv_iadd hx hb dX6_placeOf_109 ?_
        refine lv_topi (fun x109 ex109 => ?_)
        have qx109 : x109.toInt = x11.toInt + x94.toInt := ai_add ex109 ⟨bx11.1, u12f_x11⟩ ⟨bx94.1, bx94.2⟩ (by decide) (by decide)
        have bx109 : (-2147483645 : Int) ≤ x109.toInt ∧ x109.toInt ≤ 237 := ⟨by rw [qx109]; exact Int.add_le_add bx11.1 bx94.1, by rw [qx109]; exact Int.add_le_add u12f_x11 bx94.2⟩
        refine lv_goto (tgt := 122) hx hb dX6_placeOf_110 (by decide) ?_
        exact W.iret (v := x109) hx hb hr (fun t ht hW => ⟨⟨x109, (), rfl, trivial, by rw [ht]; exact hP, va_K.moved hW.alike hK, hD⟩, hS.F ht⟩) hS.2.2 dX6_placeOf_122
      · have gc80 := ai_nlt c80
        have u80f_x73 : x73.toInt ≤ (80 : Int) := Int.le_trans gc80 bx37.2
        refine lv_iload hx hb dX6_placeOf_83 (lv_at hl 0 rfl) ?_
        refine lv_goto (tgt := 95) hx hb dX6_placeOf_85 (by decide) ?_
        refine lv_istore (lv' := [(6, .int x73), (5, .int x73), (4, .int x37), (3, .int 1), (0, .ref a0), (1, .int a1), (2, .int a2)]) hx hb dX6_placeOf_95 hl (by decide) rfl (fun ls hl => ?_)
        refine lv_iload_n hx hb dX6_placeOf_97 rfl (lv_at hl 3 rfl) ?_
        refine lv_if_eq (tgt := 113) hx hb dX6_placeOf_98 (by decide) (fun c98 => absurd c98 (by decide +kernel)) (fun _ => ?_)
        refine lv_aload_n hx hb dX6_placeOf_101 rfl (lv_at hl 4 rfl) ?_
        refine va_get (D := (dC, dI)) (ci := 6) (v := .ref a0_2) (C := RX6) (T := TX6) (N := 4) hx hb hts zi_X6_placeOf_6 hown hK hP 0 rfl rfl 2 (by decide) (hts (.fieldLink RX6 9 "WaxTurns$Watchers" "from" "[I") (List.mem_cons_of_mem _ (List.mem_append_left _ (List.mem_of_getElem? (i := 1) rfl)))) (fun _ h9 => h9) rfl dX6_placeOf_102 ?_
        refine lv_iload_n hx hb dX6_placeOf_105 rfl (lv_at hl 5 rfl) ?_
        refine va_iald hx hb hK hP 2 1 rfl rfl (ai_in ba1_l ba1_u (by decide) (by decide)) dX6_placeOf_106 ?_
        refine ax_ti x11 ex11.symm ?_
        refine lv_iload hx hb dX6_placeOf_107 (lv_at hl 0 rfl) ?_
        refine lv_iadd hx hb dX6_placeOf_109 ?_
        refine lv_topi (fun x109 ex109 => ?_)
        have qx109 : x109.toInt = x11.toInt + x73.toInt := ai_add ex109 ⟨bx11.1, u12f_x11⟩ ⟨(ai_min x73), u80f_x73⟩ (by decide) (by decide)
        have bx109 : (-2147483648 : Int) ≤ x109.toInt ∧ x109.toInt ≤ 159 := ⟨by rw [qx109]; exact Int.add_le_add bx11.1 (ai_min x73), by rw [qx109]; exact Int.add_le_add u12f_x11 u80f_x73⟩
        refine lv_goto (tgt := 122) hx hb dX6_placeOf_110 (by decide) ?_
        exact W.iret (v := x109) hx hb hr (fun t ht hW => ⟨⟨x109, (), rfl, trivial, by rw [ht]; exact hP, va_K.moved hW.alike hK, hD⟩, hS.F ht⟩) hS.2.2 dX6_placeOf_122
    · have gc58 := ai_nlt c58
      have u58f_x37 : x37.toInt ≤ (0 : Int) := Int.le_trans gc58 zq6
      refine lv_aload_n hx hb dX6_placeOf_61 rfl (lv_at hl 2 rfl) ?_
      refine va_get (D := (dC, dI)) (ci := 6) (v := .ref a0_2) (C := RX6) (T := TX6) (N := 4) hx hb hts zi_X6_placeOf_6 hown hK hP 0 rfl rfl 2 (by decide) (hts (.fieldLink RX6 9 "WaxTurns$Watchers" "from" "[I") (List.mem_cons_of_mem _ (List.mem_append_left _ (List.mem_of_getElem? (i := 1) rfl)))) (fun _ h9 => h9) rfl dX6_placeOf_62 ?_
      refine lv_iload_n hx hb dX6_placeOf_65 rfl (lv_at hl 3 rfl) ?_
      refine va_iald hx hb hK hP 2 1 rfl rfl (ai_in ba1_l ba1_u (by decide) (by decide)) dX6_placeOf_66 ?_
      refine ax_ti x11 ex11.symm ?_
      exact W.iret (v := x11) hx hb hr (fun t ht hW => ⟨⟨x11, (), rfl, trivial, by rw [ht]; exact hP, va_K.moved hW.alike hK, hD⟩, hS.F ht⟩) hS.2.2 dX6_placeOf_67

set_option maxHeartbeats 4000000 in
set_option maxRecDepth 100000 in
theorem c_X6_placesIn (l : Launch) (dC : Nat → ClassId) (dI : Nat → Nat → Nat) (sz : Nat) (a0 : Nat) (a1 : Int32) (a0_0 : Int32) (a0_1 : Int32) (a0_2 : Nat) (a0_3 : Nat) (ka0_3 : ClassId) (fa0_3 : Nat → Int32) (ka0_2 : ClassId) (fa0_2 : Nat → Int32) (ba0_0_l : (0 : Int) ≤ a0_0.toInt) (ba0_0_u : a0_0.toInt ≤ (3 : Int)) (bfa0_3 : (∀ k, (0 : Int) ≤ (fa0_3 k).toInt ∧ (fa0_3 k).toInt ≤ 80)) (bfa0_2 : (∀ k, (0 : Int) ≤ (fa0_2 k).toInt ∧ (fa0_2 k).toInt ≤ 80)) : zm l yX6_placesIn wsX6_placesIn ({ frames := 1, cells := 0, slots := 0, locals := 26 }) [.ref a0, .int a1] dC dI sz [(a0, .inr (6, [.int a0_0, .int a0_1, .ref a0_2, .ref a0_3])), (a0_3, .inl (ka0_3, 3, .inl (fa0_3))), (a0_2, .inl (ka0_2, 3, .inl (fa0_2)))] [(ka0_3, .int), (ka0_2, .int)] (fun A _ => True) (fun A => va_Qi (fun (r : Int32) (_ : Unit) => True) (fun (_ : Unit) (t : State) => ax_B dC dI A [(a0, .inr (6, [.int a0_0, .int a0_1, .ref a0_2, .ref a0_3])), (a0_3, .inl (ka0_3, 3, .inl (fa0_3))), (a0_2, .inl (ka0_2, 3, .inl (fa0_2)))] [(ka0_3, .int), (ka0_2, .int)] t) A) := by
  refine zh (cc := cX6_placesIn) (maxL := 4) (ret := (some .int)) zn_RX6 rfl (Nat.le_of_ble_eq_true rfl) (fun p e s m below meth c A ls hx hb hml hr hts (hown : s.vm.findClass RX6 = some m.cls) hlocks hA hS hP hK hD hE (hl : lv_has ls 4 [(0, .ref a0), (1, .int a1)]) => ?_)
  refine ai_open (fun K hK0 => ?_)
  refine (hK0 _ _ _).mpr ?_
  refine lv_aload_n hx hb dX6_placesIn_0 rfl (lv_at hl 0 rfl) ?_
  refine va_get (D := (dC, dI)) (ci := 6) (v := .int a0_1) (C := RX6) (T := TX6) (N := 4) hx hb hts zi_X6_placesIn_6 hown hK hP 0 rfl rfl 1 (by decide) (hts (.fieldLink RX6 22 "WaxTurns$Watchers" "posts" "I") (List.mem_cons_of_mem _ (List.mem_append_left _ (List.mem_of_getElem? (i := 0) rfl)))) (fun _ h9 => h9) rfl dX6_placesIn_1 ?_
  refine lv_istore_n (lv' := [(2, .int a0_1), (0, .ref a0), (1, .int a1)]) hx hb dX6_placesIn_4 rfl hl (by decide) rfl (fun ls hl => ?_)
  refine lv_iconst (v := 0) hx hb dX6_placesIn_5 zk_iconst_0 ?_
  refine lv_istore_n (lv' := [(3, .int 0), (2, .int a0_1), (0, .ref a0), (1, .int a1)]) hx hb dX6_placesIn_6 rfl hl (by decide) rfl (fun ls hl => ?_)
  have J7 : ∀ (n : Nat) (j7l3 : Int32) (j7l2 : Int32) (H : Heap) (locs : List Loc) (ls : Array Slot), (4 : Int) - j7l3.toInt ≤ (n : Int) → (0 : Int) ≤ j7l3.toInt → j7l3.toInt ≤ (3 : Int) → va_P (dC, dI) vwCl [(a0, .inr (6, [.int a0_0, .int a0_1, .ref a0_2, .ref a0_3])), (a0_3, .inl (ka0_3, 3, .inl (fa0_3))), (a0_2, .inl (ka0_2, 3, .inl (fa0_2)))] H → va_D A [(a0, .inr (6, [.int a0_0, .int a0_1, .ref a0_2, .ref a0_3])), (a0_3, .inl (ka0_3, 3, .inl (fa0_3))), (a0_2, .inl (ka0_2, 3, .inl (fa0_2)))] → va_S A s.heap H locs → lv_has ls 4 [(0, .ref a0), (1, .int a1), (2, .int j7l2), (3, .int j7l3)] → K H locs (F0 m 7 ls []) := by
    intro n
    induction n with
    | zero =>
      intro j7l3 j7l2 H locs ls hm bj7l3_l bj7l3_u hP hD hS hl
      first | exact zg_0 hm bj7l3_u (by decide) | (have h8 := ai_min j7l3; have h9 := ai_max j7l3; exact absurd hm (by omega))
    | succ n ih7 =>
      intro j7l3 j7l2 H locs ls hm bj7l3_l bj7l3_u hP hD hS hl
      refine (hK0 _ _ _).mpr ?_
      have hm7 := hm
      refine lv_iload_n hx hb dX6_placesIn_7 rfl (lv_at hl 3 rfl) ?_
      refine lv_aload_n hx hb dX6_placesIn_8 rfl (lv_at hl 0 rfl) ?_
      refine va_get (D := (dC, dI)) (ci := 6) (v := .int a0_0) (C := RX6) (T := TX6) (N := 4) hx hb hts zi_X6_placesIn_6 hown hK hP 0 rfl rfl 0 (by decide) (hts (.fieldLink RX6 18 "WaxTurns$Watchers" "count" "I") (List.mem_cons_of_mem _ (List.mem_append_left _ (List.mem_of_getElem? (i := 1) rfl)))) (fun _ h9 => h9) rfl dX6_placesIn_9 ?_
      refine lv_icmp_ge (tgt := 32) hx hb dX6_placesIn_12 (by decide) (fun c12 => ?_) (fun c12 => ?_)
      · have gc12 := ai_le c12
        have u12t_a0_0 : a0_0.toInt ≤ (3 : Int) := ba0_0_u
        have l12t_j7l3 : (0 : Int) ≤ j7l3.toInt := bj7l3_l
        refine lv_iload_n hx hb dX6_placesIn_32 rfl (lv_at hl 2 rfl) ?_
        exact W.iret (v := j7l2) hx hb hr (fun t ht hW => ⟨⟨j7l2, (), rfl, trivial, by rw [ht]; exact hP, va_K.moved hW.alike hK, hD⟩, hS.F ht⟩) hS.2.2 dX6_placesIn_33
      · have gc12 := ai_nle c12
        have u12f_j7l3 : j7l3.toInt ≤ (2 : Int) := ai_lthi gc12 ba0_0_u
        have l12f_a0_0 : (1 : Int) ≤ a0_0.toInt := ai_ltlo gc12 bj7l3_l
        refine lv_iload_n hx hb dX6_placesIn_15 rfl (lv_at hl 2 rfl) ?_
        refine lv_iconst (v := 1) hx hb dX6_placesIn_16 zk_iconst_1 ?_
        refine lv_aload_n hx hb dX6_placesIn_17 rfl (lv_at hl 0 rfl) ?_
        refine lv_iload_n hx hb dX6_placesIn_18 rfl (lv_at hl 3 rfl) ?_
        refine lv_iload_n hx hb dX6_placesIn_19 rfl (lv_at hl 1 rfl) ?_
        have hKc := hK.sub (tys' := [(ka0_3, .int), (ka0_2, .int)]) [0, 1] rfl
        refine va_calli (va_runV (As := [.int j7l3, .int a1]) (rest := [.int 1, .int j7l2]) ⟨hx, hb, hml, hown, hts⟩ (c_X6_placeOf l dC dI H.size a0 j7l3 a1 (.int a0_0) (.int a0_1) a0_2 a0_3 ka0_3 fa0_3 ka0_2 fa0_2 bj7l3_l u12f_j7l3 bfa0_3 bfa0_2) (cwV 2 hts gX6_placesIn_X6_placeOf rfl rfl rfl zd_X6_placeOf ⟨Nat.le_of_ble_eq_true rfl, Nat.le_of_ble_eq_true rfl⟩) ⟨ax_blind (fun _ _ _ _ _ => trivial), zr_6 hKc (zp_P3 hP) (q0 := 0) rfl, ax_pre (zp_P3 hP) hKc (zp_D3 hD) (fun _ _ => trivial)⟩ rfl rfl hl.1 rfl (lv_room (Nat.le_of_ble_eq_true rfl)) dX6_placesIn_20 ⟨Nat.le_of_ble_eq_true rfl, Nat.le_of_ble_eq_true rfl⟩) hS (fun q _ h => zp_F3 hD hS hA q h) (zp_F3 hD hS hA) (fun r20 u t H locs ht hvm hw hB hz1 hk1 hS1 => zo3 hB ht hP hD hk1 (zp_F3 hD hS hA) hS1 (fun hP hK1 hD hS => ?_))
        refine lv_ishl hx hb dX6_placesIn_23 ?_
        refine lv_topi (fun x23 ex23 => ?_)
        refine lv_ior hx hb dX6_placesIn_24 ?_
        refine lv_topi (fun x24 ex24 => ?_)
        refine lv_istore_n (lv' := [(2, .int x24), (0, .ref a0), (1, .int a1), (3, .int j7l3)]) hx hb dX6_placesIn_25 rfl hl (by decide) rfl (fun ls hl => ?_)
        obtain ⟨x26, ex26⟩ : ∃ y : Int32, y = j7l3 + Int32.ofInt 1 := ⟨_, rfl⟩
        have qx26 : x26.toInt = j7l3.toInt + 1 := ai_inc ex26 (by decide) (by decide) u12f_j7l3 (by decide)
        have bx26 : (1 : Int) ≤ x26.toInt ∧ x26.toInt ≤ 3 := ⟨by rw [qx26]; exact Int.add_le_add bj7l3_l (Int.le_refl _), by rw [qx26]; exact Int.add_le_add u12f_j7l3 (Int.le_refl _)⟩
        refine lv_iinc (v := x26) (lv' := [(3, .int x26), (2, .int x24), (0, .ref a0), (1, .int a1)]) hx hb dX6_placesIn_26 hl (k := 3) rfl ex26.symm (by decide) rfl (fun ls hl => ?_)
        refine lv_goto (tgt := 7) hx hb dX6_placesIn_29 (by decide) ?_
        exact (hK0 _ _ _).mp (ih7 x26 x24 _ _ _ (by first | exact zg_s hm7 qx26 | (have h0 := qx26; omega)) (Int.le_trans zq4 bx26.1) bx26.2 hP hD hS (lv_sub hl [2, 3, 1, 0] rfl))
  exact (hK0 _ _ _).mp (J7 4 0 a0_1 _ _ _ (by first | decide +kernel | (have h1 : (0 : Int) ≤ (0 : Int32).toInt := zq5; have h2 : (0 : Int32).toInt ≤ (0 : Int) := zq6; omega)) zq5 (Int.le_trans zq6 zq11) hP hD hS (lv_sub hl [2, 3, 1, 0] rfl))
end P100_safe
section P101_safe
set_option maxHeartbeats 4000000 in
set_option maxRecDepth 100000 in
theorem c_X0_next (l : Launch) (dC : Nat → ClassId) (dI : Nat → Nat → Nat) (sz : Nat) (a0 : Nat) (a1 : Int32) (a0_0 : Int32) (a0g_1 a0g_2 a0g_3 a0g_4 a0g_7 a0g_8 a0g_9 a0g_10 a0g_11 a0g_12 a0g_13 a0g_14 : Value) (a0_5 : Int32) (a0_6 : Int32) (ba1_l : (0 : Int) ≤ a1.toInt) (ba1_u : a1.toInt ≤ (8 : Int)) (ba0_0_l : (0 : Int) ≤ a0_0.toInt) (ba0_0_u : a0_0.toInt ≤ (9 : Int)) (ba0_5_l : (0 : Int) ≤ a0_5.toInt) (ba0_5_u : a0_5.toInt ≤ (8 : Int)) (ba0_6_l : (0 : Int) ≤ a0_6.toInt) (ba0_6_u : a0_6.toInt ≤ (8 : Int)) : zm l yX0_next wsX0_next ({ frames := 0, cells := 0, slots := 0, locals := 0 }) [.ref a0, .int a1] dC dI sz [(a0, .inr (0, [.int a0_0, a0g_1, a0g_2, a0g_3, a0g_4, .int a0_5, .int a0_6, a0g_7, a0g_8, a0g_9, a0g_10, a0g_11, a0g_12, a0g_13, a0g_14]))] [] (fun A _ => True) (fun A => va_Qi (fun (r : Int32) (_ : Unit) => (0 : Int) ≤ r.toInt ∧ r.toInt ≤ (8 : Int)) (fun (_ : Unit) (t : State) => ax_B dC dI A [(a0, .inr (0, [.int a0_0, a0g_1, a0g_2, a0g_3, a0g_4, .int a0_5, .int a0_6, a0g_7, a0g_8, a0g_9, a0g_10, a0g_11, a0g_12, a0g_13, a0g_14]))] [] t) A) := by
  refine zh (cc := cX0_next) (maxL := 2) (ret := (some .int)) zn_RX0 rfl (Nat.le_of_ble_eq_true rfl) (fun p e s m below meth c A ls hx hb hml hr hts (hown : s.vm.findClass RX0 = some m.cls) hlocks hA hS hP hK hD hE (hl : lv_has ls 2 [(0, .ref a0), (1, .int a1)]) => ?_)
  refine lv_aload_n hx hb dX0_next_0 rfl (lv_at hl 0 rfl) ?_
  refine va_get (D := (dC, dI)) (ci := 0) (v := .int a0_0) (C := RX0) (T := TX0) (N := 15) hx hb hts zi_X0_next_0 hown hK hP 0 rfl rfl 0 (by decide) (hts (.fieldLink RX0 31 "WaxTurns$Hall" "figures" "I") (List.mem_cons_of_mem _ (List.mem_append_left _ (List.mem_of_getElem? (i := 0) rfl)))) (fun _ h9 => h9) rfl dX0_next_1 ?_
  refine lv_if_gt (tgt := 11) hx hb dX0_next_4 (by decide) (fun c4 => ?_) (fun c4 => ?_)
  · have gc4 := ai_lt c4
    have l4t_a0_0 : (1 : Int) ≤ a0_0.toInt := ai_ltlo gc4 zq5
    refine lv_iload_n hx hb dX0_next_11 rfl (lv_at hl 1 rfl) ?_
    refine lv_aload_n hx hb dX0_next_12 rfl (lv_at hl 0 rfl) ?_
    refine va_get (D := (dC, dI)) (ci := 0) (v := .int a0_5) (C := RX0) (T := TX0) (N := 15) hx hb hts zi_X0_next_0 hown hK hP 0 rfl rfl 5 (by decide) (hts (.fieldLink RX0 63 "WaxTurns$Hall" "times" "I") (List.mem_cons_of_mem _ (List.mem_append_left _ (List.mem_of_getElem? (i := 1) rfl)))) (fun _ h9 => h9) rfl dX0_next_13 ?_
    refine lv_imul hx hb dX0_next_16 ?_
    refine lv_topi (fun x16 ex16 => ?_)
    have qx16 : x16.toInt = a1.toInt * a0_5.toInt ∧ (0 : Int) ≤ x16.toInt ∧ x16.toInt ≤ 64 := ai_mul ex16 ⟨ba1_l, ba1_u⟩ ⟨ba0_5_l, ba0_5_u⟩ (by decide) (by decide) zq18
    refine lv_aload_n hx hb dX0_next_17 rfl (lv_at hl 0 rfl) ?_
    refine va_get (D := (dC, dI)) (ci := 0) (v := .int a0_6) (C := RX0) (T := TX0) (N := 15) hx hb hts zi_X0_next_0 hown hK hP 0 rfl rfl 6 (by decide) (hts (.fieldLink RX0 66 "WaxTurns$Hall" "plus" "I") (List.mem_cons_of_mem _ (List.mem_append_left _ (List.mem_of_getElem? (i := 2) rfl)))) (fun _ h9 => h9) rfl dX0_next_18 ?_
    refine lv_iadd hx hb dX0_next_21 ?_
    refine lv_topi (fun x21 ex21 => ?_)
    have qx21 : x21.toInt = x16.toInt + a0_6.toInt := ai_add ex21 ⟨qx16.2.1, qx16.2.2⟩ ⟨ba0_6_l, ba0_6_u⟩ (by decide) (by decide)
    have bx21 : (0 : Int) ≤ x21.toInt ∧ x21.toInt ≤ 72 := ⟨by rw [qx21]; exact Int.add_le_add qx16.2.1 ba0_6_l, by rw [qx21]; exact Int.add_le_add qx16.2.2 ba0_6_u⟩
    refine lv_aload_n hx hb dX0_next_22 rfl (lv_at hl 0 rfl) ?_
    refine va_get (D := (dC, dI)) (ci := 0) (v := .int a0_0) (C := RX0) (T := TX0) (N := 15) hx hb hts zi_X0_next_0 hown hK hP 0 rfl rfl 0 (by decide) (hts (.fieldLink RX0 31 "WaxTurns$Hall" "figures" "I") (List.mem_cons_of_mem _ (List.mem_append_left _ (List.mem_of_getElem? (i := 0) rfl)))) (fun _ h9 => h9) rfl dX0_next_23 ?_
    refine lv_irem hx hb dX0_next_26 (ai_nz l4t_a0_0 (by decide)) ?_
    refine lv_topi (fun x26 ex26 => ?_)
    have qx26 := ai_rem2 ex26 bx21.1 (Int.lt_of_lt_of_le zq19 l4t_a0_0) ba0_0_u
    exact W.iret (v := x26) hx hb hr (fun t ht hW => ⟨⟨x26, (), rfl, ⟨qx26.2.1, qx26.2.2⟩, by rw [ht]; exact hP, va_K.moved hW.alike hK, hD⟩, hS.F ht⟩) hS.2.2 dX0_next_27
  · have gc4 := ai_nlt c4
    have u4f_a0_0 : a0_0.toInt ≤ (0 : Int) := Int.le_trans gc4 zq6
    refine lv_iconst (v := 0) hx hb dX0_next_7 zk_iconst_0 ?_
    refine lv_goto (tgt := 27) hx hb dX0_next_8 (by decide) ?_
    exact W.iret (v := 0) hx hb hr (fun t ht hW => ⟨⟨0, (), rfl, ⟨zq5, (Int.le_trans zq6 zq20)⟩, by rw [ht]; exact hP, va_K.moved hW.alike hK, hD⟩, hS.F ht⟩) hS.2.2 dX0_next_27

set_option maxHeartbeats 4000000 in
set_option maxRecDepth 100000 in
theorem c_X7_laterTurn8 (l : Launch) (dC : Nat → ClassId) (dI : Nat → Nat → Nat) (sz : Nat) (a1 : Int32) (a2 : Int32) (a3 : Int32) (a4 : Int32) (a5 : Int32) (ba1_l : (0 : Int) ≤ a1.toInt) (ba1_u : a1.toInt ≤ (9 : Int)) (ba2_l : (0 : Int) ≤ a2.toInt) (ba2_u : a2.toInt ≤ (8 : Int)) (ba3_l : (0 : Int) ≤ a3.toInt) (ba3_u : a3.toInt ≤ (8 : Int)) (ba4_l : (0 : Int) ≤ a4.toInt) (ba4_u : a4.toInt ≤ (8 : Int)) : zm l yX7_laterTurn wsX7_laterTurn ({ frames := 0, cells := 0, slots := 0, locals := 0 }) [.int a1, .int a2, .int a3, .int a4, .int a5] dC dI sz [] [] (fun A _ => True) (fun A => va_Qi (fun (r : Int32) (_ : Unit) => (0 : Int) ≤ r.toInt ∧ r.toInt ≤ (8 : Int)) (fun (_ : Unit) (t : State) => ax_B dC dI A [] [] t) A) := by
  refine zh (cc := cX7_laterTurn) (maxL := 9) (ret := (some .int)) zn_RX7 rfl (Nat.le_of_ble_eq_true rfl) (fun p e s m below meth c A ls hx hb hml hr hts (hown : s.vm.findClass RX7 = some m.cls) hlocks hA hS hP hK hD hE (hl : lv_has ls 9 [(0, .int a1), (1, .int a2), (2, .int a3), (3, .int a4), (4, .int a5)]) => ?_)
  refine ai_open (fun K hK0 => ?_)
  refine (hK0 _ _ _).mpr ?_
  refine lv_iload_n hx hb dX7_laterTurn_0 rfl (lv_at hl 0 rfl) ?_
  refine lv_if_gt (tgt := 6) hx hb dX7_laterTurn_1 (by decide) (fun c1 => ?_) (fun c1 => ?_)
  · have gc1 := ai_lt c1
    have l1t_a1 : (1 : Int) ≤ a1.toInt := ai_ltlo gc1 zq5
    refine lv_iload_n hx hb dX7_laterTurn_6 rfl (lv_at hl 1 rfl) ?_
    refine lv_istore (lv' := [(5, .int a2), (0, .int a1), (1, .int a2), (2, .int a3), (3, .int a4), (4, .int a5)]) hx hb dX7_laterTurn_7 hl (by decide) rfl (fun ls hl => ?_)
    refine lv_iload_n hx hb dX7_laterTurn_9 rfl (lv_at hl 3 rfl) ?_
    refine lv_istore (lv' := [(6, .int a3), (5, .int a2), (0, .int a1), (1, .int a2), (2, .int a3), (3, .int a4), (4, .int a5)]) hx hb dX7_laterTurn_10 hl (by decide) rfl (fun ls hl => ?_)
    refine lv_iload_n hx hb dX7_laterTurn_12 rfl (lv_at hl 5 rfl) ?_
    refine lv_istore (lv' := [(7, .int a4), (6, .int a3), (5, .int a2), (0, .int a1), (1, .int a2), (2, .int a3), (3, .int a4), (4, .int a5)]) hx hb dX7_laterTurn_13 hl (by decide) rfl (fun ls hl => ?_)
    refine lv_iload hx hb dX7_laterTurn_15 (lv_at hl 7 rfl) ?_
    refine lv_istore (lv' := [(8, .int a5), (7, .int a4), (6, .int a3), (5, .int a2), (0, .int a1), (1, .int a2), (2, .int a3), (3, .int a4), (4, .int a5)]) hx hb dX7_laterTurn_17 hl (by decide) rfl (fun ls hl => ?_)
    have J19 : ∀ (n : Nat) (j19l8 : Int32) (j19l7 : Int32) (j19l6 : Int32) (j19l5 : Int32) (H : Heap) (locs : List Loc) (ls : Array Slot), j19l8.toInt - (-2147483649 : Int) ≤ (n : Int) → (0 : Int) ≤ j19l7.toInt → j19l7.toInt ≤ (8 : Int) → (0 : Int) ≤ j19l6.toInt → j19l6.toInt ≤ (8 : Int) → (0 : Int) ≤ j19l5.toInt → j19l5.toInt ≤ (8 : Int) → va_P (dC, dI) vwCl [] H → va_D A [] → va_S A s.heap H locs → lv_has ls 9 [(0, .int a1), (5, .int j19l5), (6, .int j19l6), (7, .int j19l7), (8, .int j19l8)] → K H locs (F0 m 19 ls []) := by
      intro n
      induction n with
      | zero =>
        intro j19l8 j19l7 j19l6 j19l5 H locs ls hm bj19l7_l bj19l7_u bj19l6_l bj19l6_u bj19l5_l bj19l5_u hP hD hS hl
        have h8 := ai_min j19l8
        have h9 := ai_max j19l8
        exact absurd hm (by omega)
      | succ n ih19 =>
        intro j19l8 j19l7 j19l6 j19l5 H locs ls hm bj19l7_l bj19l7_u bj19l6_l bj19l6_u bj19l5_l bj19l5_u hP hD hS hl
        refine (hK0 _ _ _).mpr ?_
        have hm19 := hm
        refine lv_iload hx hb dX7_laterTurn_19 (lv_at hl 4 rfl) ?_
        refine lv_if_le (tgt := 74) hx hb dX7_laterTurn_21 (by decide) (fun c21 => ?_) (fun c21 => ?_)
        · have gc21 := ai_le c21
          have u21t_j19l8 : j19l8.toInt ≤ (0 : Int) := Int.le_trans gc21 zq6
          refine lv_iload hx hb dX7_laterTurn_74 (lv_at hl 3 rfl) ?_
          exact W.iret (v := j19l7) hx hb hr (fun t ht hW => ⟨⟨j19l7, (), rfl, ⟨bj19l7_l, bj19l7_u⟩, by rw [ht]; exact hP, va_K.moved hW.alike hK, hD⟩, hS.F ht⟩) hS.2.2 dX7_laterTurn_76
        · have gc21 := ai_nle c21
          have l21f_j19l8 : (1 : Int) ≤ j19l8.toInt := ai_ltlo gc21 zq5
          refine lv_iload hx hb dX7_laterTurn_24 (lv_at hl 4 rfl) ?_
          refine lv_iconst (v := 1) hx hb dX7_laterTurn_26 zk_iconst_1 ?_
          refine lv_iand hx hb dX7_laterTurn_27 ?_
          refine lv_topi (fun x27 ex27 => ?_)
          refine lv_iconst (v := 1) hx hb dX7_laterTurn_28 zk_iconst_1 ?_
          have J44 : ∀ (j44l7 : Int32) (H : Heap) (locs : List Loc) (ls : Array Slot), (0 : Int) ≤ j44l7.toInt → j44l7.toInt ≤ (8 : Int) → va_P (dC, dI) vwCl [] H → va_D A [] → va_S A s.heap H locs → lv_has ls 9 [(0, .int a1), (5, .int j19l5), (6, .int j19l6), (7, .int j44l7), (8, .int j19l8)] → K H locs (F0 m 44 ls []) := by
            intro j44l7 H locs ls  bj44l7_l bj44l7_u hP hD hS hl
            refine (hK0 _ _ _).mpr ?_
            refine lv_iload hx hb dX7_laterTurn_44 (lv_at hl 2 rfl) ?_
            refine lv_iload hx hb dX7_laterTurn_46 (lv_at hl 1 rfl) ?_
            refine lv_imul hx hb dX7_laterTurn_48 ?_
            refine lv_topi (fun x48 ex48 => ?_)
            have qx48 : x48.toInt = j19l6.toInt * j19l5.toInt ∧ (0 : Int) ≤ x48.toInt ∧ x48.toInt ≤ 64 := ai_mul ex48 ⟨bj19l6_l, bj19l6_u⟩ ⟨bj19l5_l, bj19l5_u⟩ (by decide) (by decide) zq18
            refine lv_iload hx hb dX7_laterTurn_49 (lv_at hl 2 rfl) ?_
            refine lv_iadd hx hb dX7_laterTurn_51 ?_
            refine lv_topi (fun x51 ex51 => ?_)
            have qx51 : x51.toInt = x48.toInt + j19l6.toInt := ai_add ex51 ⟨qx48.2.1, qx48.2.2⟩ ⟨bj19l6_l, bj19l6_u⟩ (by decide) (by decide)
            have bx51 : (0 : Int) ≤ x51.toInt ∧ x51.toInt ≤ 72 := ⟨by rw [qx51]; exact Int.add_le_add qx48.2.1 bj19l6_l, by rw [qx51]; exact Int.add_le_add qx48.2.2 bj19l6_u⟩
            refine lv_iload_n hx hb dX7_laterTurn_52 rfl (lv_at hl 0 rfl) ?_
            refine lv_irem hx hb dX7_laterTurn_53 (ai_nz l1t_a1 (by decide)) ?_
            refine lv_topi (fun x53 ex53 => ?_)
            have qx53 := ai_rem2 ex53 bx51.1 (Int.lt_of_lt_of_le zq19 l1t_a1) ba1_u
            refine lv_istore (lv' := [(6, .int x53), (0, .int a1), (5, .int j19l5), (7, .int j44l7), (8, .int j19l8)]) hx hb dX7_laterTurn_54 hl (by decide) rfl (fun ls hl => ?_)
            refine lv_iload hx hb dX7_laterTurn_56 (lv_at hl 2 rfl) ?_
            refine lv_iload hx hb dX7_laterTurn_58 (lv_at hl 2 rfl) ?_
            refine lv_imul hx hb dX7_laterTurn_60 ?_
            refine lv_topi (fun x60 ex60 => ?_)
            have qx60 : x60.toInt = j19l5.toInt * j19l5.toInt ∧ (0 : Int) ≤ x60.toInt ∧ x60.toInt ≤ 64 := ai_mul ex60 ⟨bj19l5_l, bj19l5_u⟩ ⟨bj19l5_l, bj19l5_u⟩ (by decide) (by decide) zq18
            refine lv_iload_n hx hb dX7_laterTurn_61 rfl (lv_at hl 1 rfl) ?_
            refine lv_irem hx hb dX7_laterTurn_62 (ai_nz l1t_a1 (by decide)) ?_
            refine lv_topi (fun x62 ex62 => ?_)
            have qx62 := ai_rem2 ex62 qx60.2.1 (Int.lt_of_lt_of_le zq19 l1t_a1) ba1_u
            refine lv_istore (lv' := [(5, .int x62), (6, .int x53), (0, .int a1), (7, .int j44l7), (8, .int j19l8)]) hx hb dX7_laterTurn_63 hl (by decide) rfl (fun ls hl => ?_)
            refine lv_iload hx hb dX7_laterTurn_65 (lv_at hl 4 rfl) ?_
            refine lv_iconst (v := 1) hx hb dX7_laterTurn_67 zk_iconst_1 ?_
            refine lv_ishr hx hb dX7_laterTurn_68 ?_
            refine lv_topi (fun x68 ex68 => ?_)
            have qx68 : x68.toInt = j19l8.toInt / 2 := ai_shr1 ex68
            have bx68 : (0 : Int) ≤ x68.toInt ∧ x68.toInt ≤ 1073741823 := by have h1 : (1 : Int) ≤ j19l8.toInt := l21f_j19l8; have h2 : j19l8.toInt ≤ (2147483647 : Int) := (ai_max j19l8); omega
            refine lv_istore (lv' := [(8, .int x68), (5, .int x62), (6, .int x53), (0, .int a1), (7, .int j44l7)]) hx hb dX7_laterTurn_69 hl (by decide) rfl (fun ls hl => ?_)
            refine lv_goto (tgt := 19) hx hb dX7_laterTurn_71 (by decide) ?_
            exact (hK0 _ _ _).mp (ih19 x68 j44l7 x53 x62 _ _ _ (by have h0 := qx68; omega) bj44l7_l bj44l7_u qx53.2.1 qx53.2.2 qx62.2.1 qx62.2.2 hP hD hS (lv_sub hl [3, 1, 2, 4, 0] rfl))
          refine lv_icmp_ne (tgt := 44) hx hb dX7_laterTurn_29 (by decide) (fun c29 => ?_) (fun c29 => ?_)
          · have gc29 := ai_ne c29
            exact (hK0 _ _ _).mp (J44 j19l7 _ _ _  bj19l7_l bj19l7_u hP hD hS (lv_sub hl [0, 1, 2, 3, 4] rfl))
          · have gc29 := ai_eq c29
            have u29f_x27 : x27.toInt ≤ (1 : Int) := Int.le_trans (Int.le_of_eq gc29) zq0
            have l29f_x27 : (1 : Int) ≤ x27.toInt := Int.le_trans zq1 (Int.le_of_eq gc29.symm)
            refine lv_iload hx hb dX7_laterTurn_32 (lv_at hl 3 rfl) ?_
            refine lv_iload hx hb dX7_laterTurn_34 (lv_at hl 1 rfl) ?_
            refine lv_imul hx hb dX7_laterTurn_36 ?_
            refine lv_topi (fun x36 ex36 => ?_)
            have qx36 : x36.toInt = j19l7.toInt * j19l5.toInt ∧ (0 : Int) ≤ x36.toInt ∧ x36.toInt ≤ 64 := ai_mul ex36 ⟨bj19l7_l, bj19l7_u⟩ ⟨bj19l5_l, bj19l5_u⟩ (by decide) (by decide) zq18
            refine lv_iload hx hb dX7_laterTurn_37 (lv_at hl 2 rfl) ?_
            refine lv_iadd hx hb dX7_laterTurn_39 ?_
            refine lv_topi (fun x39 ex39 => ?_)
            have qx39 : x39.toInt = x36.toInt + j19l6.toInt := ai_add ex39 ⟨qx36.2.1, qx36.2.2⟩ ⟨bj19l6_l, bj19l6_u⟩ (by decide) (by decide)
            have bx39 : (0 : Int) ≤ x39.toInt ∧ x39.toInt ≤ 72 := ⟨by rw [qx39]; exact Int.add_le_add qx36.2.1 bj19l6_l, by rw [qx39]; exact Int.add_le_add qx36.2.2 bj19l6_u⟩
            refine lv_iload_n hx hb dX7_laterTurn_40 rfl (lv_at hl 0 rfl) ?_
            refine lv_irem hx hb dX7_laterTurn_41 (ai_nz l1t_a1 (by decide)) ?_
            refine lv_topi (fun x41 ex41 => ?_)
            have qx41 := ai_rem2 ex41 bx39.1 (Int.lt_of_lt_of_le zq19 l1t_a1) ba1_u
            refine lv_istore (lv' := [(7, .int x41), (0, .int a1), (5, .int j19l5), (6, .int j19l6), (8, .int j19l8)]) hx hb dX7_laterTurn_42 hl (by decide) rfl (fun ls hl => ?_)
            exact (hK0 _ _ _).mp (J44 x41 _ _ _  qx41.2.1 qx41.2.2 hP hD hS (lv_sub hl [1, 2, 3, 0, 4] rfl))
    exact (hK0 _ _ _).mp (J19 4294967296 a5 a4 a3 a2 _ _ _ (by have h1 : (-2147483648 : Int) ≤ a5.toInt := (ai_min a5); have h2 : a5.toInt ≤ (2147483647 : Int) := (ai_max a5); omega) ba4_l ba4_u ba3_l ba3_u ba2_l ba2_u hP hD hS (lv_sub hl [4, 3, 2, 1, 0] rfl))
  · have gc1 := ai_nlt c1
    have u1f_a1 : a1.toInt ≤ (0 : Int) := Int.le_trans gc1 zq6
    refine lv_iconst (v := 0) hx hb dX7_laterTurn_4 zk_iconst_0 ?_
    exact W.iret (v := 0) hx hb hr (fun t ht hW => ⟨⟨0, (), rfl, ⟨zq5, (Int.le_trans zq6 zq20)⟩, by rw [ht]; exact hP, va_K.moved hW.alike hK, hD⟩, hS.F ht⟩) hS.2.2 dX7_laterTurn_5

set_option maxHeartbeats 4000000 in
set_option maxRecDepth 100000 in
theorem c_X7_laterTurn (l : Launch) (dC : Nat → ClassId) (dI : Nat → Nat → Nat) (sz : Nat) (a1 : Int32) (a2 : Int32) (a3 : Int32) (a4 : Int32) (a5 : Int32) (ba1_l : (0 : Int) ≤ a1.toInt) (ba1_u : a1.toInt ≤ (9 : Int)) (ba2_l : (0 : Int) ≤ a2.toInt) (ba2_u : a2.toInt ≤ (9 : Int)) (ba3_l : (0 : Int) ≤ a3.toInt) (ba3_u : a3.toInt ≤ (9 : Int)) (ba4_l : (0 : Int) ≤ a4.toInt) (ba4_u : a4.toInt ≤ (9 : Int)) : zm l yX7_laterTurn wsX7_laterTurn ({ frames := 0, cells := 0, slots := 0, locals := 0 }) [.int a1, .int a2, .int a3, .int a4, .int a5] dC dI sz [] [] (fun A _ => True) (fun A => va_Qi (fun (r : Int32) (_ : Unit) => (0 : Int) ≤ r.toInt ∧ r.toInt ≤ (9 : Int)) (fun (_ : Unit) (t : State) => ax_B dC dI A [] [] t) A) := by
  refine zh (cc := cX7_laterTurn) (maxL := 9) (ret := (some .int)) zn_RX7 rfl (Nat.le_of_ble_eq_true rfl) (fun p e s m below meth c A ls hx hb hml hr hts (hown : s.vm.findClass RX7 = some m.cls) hlocks hA hS hP hK hD hE (hl : lv_has ls 9 [(0, .int a1), (1, .int a2), (2, .int a3), (3, .int a4), (4, .int a5)]) => ?_)
  refine ai_open (fun K hK0 => ?_)
  refine (hK0 _ _ _).mpr ?_
  refine lv_iload_n hx hb dX7_laterTurn_0 rfl (lv_at hl 0 rfl) ?_
  refine lv_if_gt (tgt := 6) hx hb dX7_laterTurn_1 (by decide) (fun c1 => ?_) (fun c1 => ?_)
  · have gc1 := ai_lt c1
    have l1t_a1 : (1 : Int) ≤ a1.toInt := ai_ltlo gc1 zq5
    refine lv_iload_n hx hb dX7_laterTurn_6 rfl (lv_at hl 1 rfl) ?_
    refine lv_istore (lv' := [(5, .int a2), (0, .int a1), (1, .int a2), (2, .int a3), (3, .int a4), (4, .int a5)]) hx hb dX7_laterTurn_7 hl (by decide) rfl (fun ls hl => ?_)
    refine lv_iload_n hx hb dX7_laterTurn_9 rfl (lv_at hl 3 rfl) ?_
    refine lv_istore (lv' := [(6, .int a3), (5, .int a2), (0, .int a1), (1, .int a2), (2, .int a3), (3, .int a4), (4, .int a5)]) hx hb dX7_laterTurn_10 hl (by decide) rfl (fun ls hl => ?_)
    refine lv_iload_n hx hb dX7_laterTurn_12 rfl (lv_at hl 5 rfl) ?_
    refine lv_istore (lv' := [(7, .int a4), (6, .int a3), (5, .int a2), (0, .int a1), (1, .int a2), (2, .int a3), (3, .int a4), (4, .int a5)]) hx hb dX7_laterTurn_13 hl (by decide) rfl (fun ls hl => ?_)
    refine lv_iload hx hb dX7_laterTurn_15 (lv_at hl 7 rfl) ?_
    refine lv_istore (lv' := [(8, .int a5), (7, .int a4), (6, .int a3), (5, .int a2), (0, .int a1), (1, .int a2), (2, .int a3), (3, .int a4), (4, .int a5)]) hx hb dX7_laterTurn_17 hl (by decide) rfl (fun ls hl => ?_)
    have J19 : ∀ (n : Nat) (j19l8 : Int32) (j19l7 : Int32) (j19l6 : Int32) (j19l5 : Int32) (H : Heap) (locs : List Loc) (ls : Array Slot), j19l8.toInt - (-2147483649 : Int) ≤ (n : Int) → (0 : Int) ≤ j19l7.toInt → j19l7.toInt ≤ (9 : Int) → (0 : Int) ≤ j19l6.toInt → j19l6.toInt ≤ (9 : Int) → (0 : Int) ≤ j19l5.toInt → j19l5.toInt ≤ (9 : Int) → va_P (dC, dI) vwCl [] H → va_D A [] → va_S A s.heap H locs → lv_has ls 9 [(0, .int a1), (5, .int j19l5), (6, .int j19l6), (7, .int j19l7), (8, .int j19l8)] → K H locs (F0 m 19 ls []) := by
      intro n
      induction n with
      | zero =>
        intro j19l8 j19l7 j19l6 j19l5 H locs ls hm bj19l7_l bj19l7_u bj19l6_l bj19l6_u bj19l5_l bj19l5_u hP hD hS hl
        have h8 := ai_min j19l8
        have h9 := ai_max j19l8
        exact absurd hm (by omega)
      | succ n ih19 =>
        intro j19l8 j19l7 j19l6 j19l5 H locs ls hm bj19l7_l bj19l7_u bj19l6_l bj19l6_u bj19l5_l bj19l5_u hP hD hS hl
        refine (hK0 _ _ _).mpr ?_
        have hm19 := hm
        refine lv_iload hx hb dX7_laterTurn_19 (lv_at hl 4 rfl) ?_
        refine lv_if_le (tgt := 74) hx hb dX7_laterTurn_21 (by decide) (fun c21 => ?_) (fun c21 => ?_)
        · have gc21 := ai_le c21
          have u21t_j19l8 : j19l8.toInt ≤ (0 : Int) := Int.le_trans gc21 zq6
          refine lv_iload hx hb dX7_laterTurn_74 (lv_at hl 3 rfl) ?_
          exact W.iret (v := j19l7) hx hb hr (fun t ht hW => ⟨⟨j19l7, (), rfl, ⟨bj19l7_l, bj19l7_u⟩, by rw [ht]; exact hP, va_K.moved hW.alike hK, hD⟩, hS.F ht⟩) hS.2.2 dX7_laterTurn_76
        · have gc21 := ai_nle c21
          have l21f_j19l8 : (1 : Int) ≤ j19l8.toInt := ai_ltlo gc21 zq5
          refine lv_iload hx hb dX7_laterTurn_24 (lv_at hl 4 rfl) ?_
          refine lv_iconst (v := 1) hx hb dX7_laterTurn_26 zk_iconst_1 ?_
          refine lv_iand hx hb dX7_laterTurn_27 ?_
          refine lv_topi (fun x27 ex27 => ?_)
          refine lv_iconst (v := 1) hx hb dX7_laterTurn_28 zk_iconst_1 ?_
          have J44 : ∀ (j44l7 : Int32) (H : Heap) (locs : List Loc) (ls : Array Slot), (0 : Int) ≤ j44l7.toInt → j44l7.toInt ≤ (9 : Int) → va_P (dC, dI) vwCl [] H → va_D A [] → va_S A s.heap H locs → lv_has ls 9 [(0, .int a1), (5, .int j19l5), (6, .int j19l6), (7, .int j44l7), (8, .int j19l8)] → K H locs (F0 m 44 ls []) := by
            intro j44l7 H locs ls  bj44l7_l bj44l7_u hP hD hS hl
            refine (hK0 _ _ _).mpr ?_
            refine lv_iload hx hb dX7_laterTurn_44 (lv_at hl 2 rfl) ?_
            refine lv_iload hx hb dX7_laterTurn_46 (lv_at hl 1 rfl) ?_
            refine lv_imul hx hb dX7_laterTurn_48 ?_
            refine lv_topi (fun x48 ex48 => ?_)
            have qx48 : x48.toInt = j19l6.toInt * j19l5.toInt ∧ (0 : Int) ≤ x48.toInt ∧ x48.toInt ≤ 81 := ai_mul ex48 ⟨bj19l6_l, bj19l6_u⟩ ⟨bj19l5_l, bj19l5_u⟩ (by decide) (by decide) zq21
            refine lv_iload hx hb dX7_laterTurn_49 (lv_at hl 2 rfl) ?_
            refine lv_iadd hx hb dX7_laterTurn_51 ?_
            refine lv_topi (fun x51 ex51 => ?_)
            have qx51 : x51.toInt = x48.toInt + j19l6.toInt := ai_add ex51 ⟨qx48.2.1, qx48.2.2⟩ ⟨bj19l6_l, bj19l6_u⟩ (by decide) (by decide)
            have bx51 : (0 : Int) ≤ x51.toInt ∧ x51.toInt ≤ 90 := ⟨by rw [qx51]; exact Int.add_le_add qx48.2.1 bj19l6_l, by rw [qx51]; exact Int.add_le_add qx48.2.2 bj19l6_u⟩
            refine lv_iload_n hx hb dX7_laterTurn_52 rfl (lv_at hl 0 rfl) ?_
            refine lv_irem hx hb dX7_laterTurn_53 (ai_nz l1t_a1 (by decide)) ?_
            refine lv_topi (fun x53 ex53 => ?_)
            have qx53 := ai_rem2 ex53 bx51.1 (Int.lt_of_lt_of_le zq19 l1t_a1) ba1_u
            refine lv_istore (lv' := [(6, .int x53), (0, .int a1), (5, .int j19l5), (7, .int j44l7), (8, .int j19l8)]) hx hb dX7_laterTurn_54 hl (by decide) rfl (fun ls hl => ?_)
            refine lv_iload hx hb dX7_laterTurn_56 (lv_at hl 2 rfl) ?_
            refine lv_iload hx hb dX7_laterTurn_58 (lv_at hl 2 rfl) ?_
            refine lv_imul hx hb dX7_laterTurn_60 ?_
            refine lv_topi (fun x60 ex60 => ?_)
            have qx60 : x60.toInt = j19l5.toInt * j19l5.toInt ∧ (0 : Int) ≤ x60.toInt ∧ x60.toInt ≤ 81 := ai_mul ex60 ⟨bj19l5_l, bj19l5_u⟩ ⟨bj19l5_l, bj19l5_u⟩ (by decide) (by decide) zq21
            refine lv_iload_n hx hb dX7_laterTurn_61 rfl (lv_at hl 1 rfl) ?_
            refine lv_irem hx hb dX7_laterTurn_62 (ai_nz l1t_a1 (by decide)) ?_
            refine lv_topi (fun x62 ex62 => ?_)
            have qx62 := ai_rem2 ex62 qx60.2.1 (Int.lt_of_lt_of_le zq19 l1t_a1) ba1_u
            refine lv_istore (lv' := [(5, .int x62), (6, .int x53), (0, .int a1), (7, .int j44l7), (8, .int j19l8)]) hx hb dX7_laterTurn_63 hl (by decide) rfl (fun ls hl => ?_)
            refine lv_iload hx hb dX7_laterTurn_65 (lv_at hl 4 rfl) ?_
            refine lv_iconst (v := 1) hx hb dX7_laterTurn_67 zk_iconst_1 ?_
            refine lv_ishr hx hb dX7_laterTurn_68 ?_
            refine lv_topi (fun x68 ex68 => ?_)
            have qx68 : x68.toInt = j19l8.toInt / 2 := ai_shr1 ex68
            have bx68 : (0 : Int) ≤ x68.toInt ∧ x68.toInt ≤ 1073741823 := by have h1 : (1 : Int) ≤ j19l8.toInt := l21f_j19l8; have h2 : j19l8.toInt ≤ (2147483647 : Int) := (ai_max j19l8); omega
            refine lv_istore (lv' := [(8, .int x68), (5, .int x62), (6, .int x53), (0, .int a1), (7, .int j44l7)]) hx hb dX7_laterTurn_69 hl (by decide) rfl (fun ls hl => ?_)
            refine lv_goto (tgt := 19) hx hb dX7_laterTurn_71 (by decide) ?_
            exact (hK0 _ _ _).mp (ih19 x68 j44l7 x53 x62 _ _ _ (by have h0 := qx68; omega) bj44l7_l bj44l7_u qx53.2.1 (Int.le_trans qx53.2.2 zq22) qx62.2.1 (Int.le_trans qx62.2.2 zq22) hP hD hS (lv_sub hl [3, 1, 2, 4, 0] rfl))
          refine lv_icmp_ne (tgt := 44) hx hb dX7_laterTurn_29 (by decide) (fun c29 => ?_) (fun c29 => ?_)
          · have gc29 := ai_ne c29
            exact (hK0 _ _ _).mp (J44 j19l7 _ _ _  bj19l7_l bj19l7_u hP hD hS (lv_sub hl [0, 1, 2, 3, 4] rfl))
          · have gc29 := ai_eq c29
            have u29f_x27 : x27.toInt ≤ (1 : Int) := Int.le_trans (Int.le_of_eq gc29) zq0
            have l29f_x27 : (1 : Int) ≤ x27.toInt := Int.le_trans zq1 (Int.le_of_eq gc29.symm)
            refine lv_iload hx hb dX7_laterTurn_32 (lv_at hl 3 rfl) ?_
            refine lv_iload hx hb dX7_laterTurn_34 (lv_at hl 1 rfl) ?_
            refine lv_imul hx hb dX7_laterTurn_36 ?_
            refine lv_topi (fun x36 ex36 => ?_)
            have qx36 : x36.toInt = j19l7.toInt * j19l5.toInt ∧ (0 : Int) ≤ x36.toInt ∧ x36.toInt ≤ 81 := ai_mul ex36 ⟨bj19l7_l, bj19l7_u⟩ ⟨bj19l5_l, bj19l5_u⟩ (by decide) (by decide) zq21
            refine lv_iload hx hb dX7_laterTurn_37 (lv_at hl 2 rfl) ?_
            refine lv_iadd hx hb dX7_laterTurn_39 ?_
            refine lv_topi (fun x39 ex39 => ?_)
            have qx39 : x39.toInt = x36.toInt + j19l6.toInt := ai_add ex39 ⟨qx36.2.1, qx36.2.2⟩ ⟨bj19l6_l, bj19l6_u⟩ (by decide) (by decide)
            have bx39 : (0 : Int) ≤ x39.toInt ∧ x39.toInt ≤ 90 := ⟨by rw [qx39]; exact Int.add_le_add qx36.2.1 bj19l6_l, by rw [qx39]; exact Int.add_le_add qx36.2.2 bj19l6_u⟩
            refine lv_iload_n hx hb dX7_laterTurn_40 rfl (lv_at hl 0 rfl) ?_
            refine lv_irem hx hb dX7_laterTurn_41 (ai_nz l1t_a1 (by decide)) ?_
            refine lv_topi (fun x41 ex41 => ?_)
            have qx41 := ai_rem2 ex41 bx39.1 (Int.lt_of_lt_of_le zq19 l1t_a1) ba1_u
            refine lv_istore (lv' := [(7, .int x41), (0, .int a1), (5, .int j19l5), (6, .int j19l6), (8, .int j19l8)]) hx hb dX7_laterTurn_42 hl (by decide) rfl (fun ls hl => ?_)
            exact (hK0 _ _ _).mp (J44 x41 _ _ _  qx41.2.1 (Int.le_trans qx41.2.2 zq22) hP hD hS (lv_sub hl [1, 2, 3, 0, 4] rfl))
    exact (hK0 _ _ _).mp (J19 4294967296 a5 a4 a3 a2 _ _ _ (by have h1 : (-2147483648 : Int) ≤ a5.toInt := (ai_min a5); have h2 : a5.toInt ≤ (2147483647 : Int) := (ai_max a5); omega) ba4_l ba4_u ba3_l ba3_u ba2_l ba2_u hP hD hS (lv_sub hl [4, 3, 2, 1, 0] rfl))
  · have gc1 := ai_nlt c1
    have u1f_a1 : a1.toInt ≤ (0 : Int) := Int.le_trans gc1 zq6
    refine lv_iconst (v := 0) hx hb dX7_laterTurn_4 zk_iconst_0 ?_
    exact W.iret (v := 0) hx hb hr (fun t ht hW => ⟨⟨0, (), rfl, ⟨zq5, (Int.le_trans zq6 zq7)⟩, by rw [ht]; exact hP, va_K.moved hW.alike hK, hD⟩, hS.F ht⟩) hS.2.2 dX7_laterTurn_5

set_option maxHeartbeats 4000000 in
set_option maxRecDepth 100000 in
theorem c_X0_aliveByLaw (l : Launch) (dC : Nat → ClassId) (dI : Nat → Nat → Nat) (sz : Nat) (a0 : Nat) (a1 : Int32) (a2 : Int32) (a0_0 : Int32) (a0_1 : Int32) (a0g_2 a0g_3 a0g_4 a0g_5 a0g_6 a0g_7 a0g_8 a0g_9 a0g_10 a0g_11 a0g_12 a0g_13 a0g_14 : Value) (ba1_l : (0 : Int) ≤ a1.toInt) (ba1_u : a1.toInt ≤ (999 : Int)) (ba2_l : (0 : Int) ≤ a2.toInt) (ba2_u : a2.toInt ≤ (999 : Int)) (ba0_0_l : (0 : Int) ≤ a0_0.toInt) (ba0_0_u : a0_0.toInt ≤ (9 : Int)) : zm l yX0_aliveByLaw wsX0_aliveByLaw ({ frames := 1, cells := 0, slots := 0, locals := 28 }) [.ref a0, .int a1, .int a2] dC dI sz [(a0, .inr (0, [.int a0_0, .int a0_1, a0g_2, a0g_3, a0g_4, a0g_5, a0g_6, a0g_7, a0g_8, a0g_9, a0g_10, a0g_11, a0g_12, a0g_13, a0g_14]))] [] (fun A U => va_Nw (.methodLinkNest RX0 72 yX7_laterTurn RX7) U) (fun A => va_Qi (fun (r : Int32) (_ : Unit) => (0 : Int) ≤ r.toInt ∧ r.toInt ≤ (9 : Int)) (fun (_ : Unit) (t : State) => ax_B dC dI A [(a0, .inr (0, [.int a0_0, .int a0_1, a0g_2, a0g_3, a0g_4, a0g_5, a0g_6, a0g_7, a0g_8, a0g_9, a0g_10, a0g_11, a0g_12, a0g_13, a0g_14]))] [] t) A) := by
  refine zh (cc := cX0_aliveByLaw) (maxL := 4) (ret := (some .int)) zn_RX0 rfl (Nat.le_of_ble_eq_true rfl) (fun p e s m below meth c A ls hx hb hml hr hts (hown : s.vm.findClass RX0 = some m.cls) hlocks hA hS hP hK hD hE (hl : lv_has ls 4 [(0, .ref a0), (1, .int a1), (2, .int a2)]) => ?_)
  have hE0 := hE
  refine lv_aload_n hx hb dX0_aliveByLaw_0 rfl (lv_at hl 0 rfl) ?_
  refine va_get (D := (dC, dI)) (ci := 0) (v := .int a0_1) (C := RX0) (T := TX0) (N := 15) hx hb hts zi_X0_aliveByLaw_0 hown hK hP 0 rfl rfl 1 (by decide) (hts (.fieldLink RX0 48 "WaxTurns$Hall" "span" "I") (List.mem_cons_of_mem _ (List.mem_append_left _ (List.mem_of_getElem? (i := 0) rfl)))) (fun _ h9 => h9) rfl dX0_aliveByLaw_1 ?_
  refine lv_if_gt (tgt := 11) hx hb dX0_aliveByLaw_4 (by decide) (fun c4 => ?_) (fun c4 => ?_)
  · have gc4 := ai_lt c4
    have l4t_a0_1 : (1 : Int) ≤ a0_1.toInt := ai_ltlo gc4 zq5
    refine lv_iload_n hx hb dX0_aliveByLaw_11 rfl (lv_at hl 2 rfl) ?_
    refine lv_aload_n hx hb dX0_aliveByLaw_12 rfl (lv_at hl 0 rfl) ?_
    refine va_get (D := (dC, dI)) (ci := 0) (v := .int a0_1) (C := RX0) (T := TX0) (N := 15) hx hb hts zi_X0_aliveByLaw_0 hown hK hP 0 rfl rfl 1 (by decide) (hts (.fieldLink RX0 48 "WaxTurns$Hall" "span" "I") (List.mem_cons_of_mem _ (List.mem_append_left _ (List.mem_of_getElem? (i := 0) rfl)))) (fun _ h9 => h9) rfl dX0_aliveByLaw_13 ?_
    refine lv_idiv hx hb dX0_aliveByLaw_16 (ai_nz l4t_a0_1 (by decide)) ?_
    refine lv_topi (fun x16 ex16 => ?_)
    have qx16 := ai_div ex16 ⟨ba2_l, ba2_u⟩ (Int.lt_of_lt_of_le zq19 l4t_a0_1)
    refine lv_istore_n (lv' := [(3, .int x16), (0, .ref a0), (1, .int a1), (2, .int a2)]) hx hb dX0_aliveByLaw_17 rfl hl (by decide) rfl (fun ls hl => ?_)
    refine lv_aload_n hx hb dX0_aliveByLaw_18 rfl (lv_at hl 1 rfl) ?_
    refine va_get (D := (dC, dI)) (ci := 0) (v := .int a0_0) (C := RX0) (T := TX0) (N := 15) hx hb hts zi_X0_aliveByLaw_0 hown hK hP 0 rfl rfl 0 (by decide) (hts (.fieldLink RX0 31 "WaxTurns$Hall" "figures" "I") (List.mem_cons_of_mem _ (List.mem_append_left _ (List.mem_of_getElem? (i := 1) rfl)))) (fun _ h9 => h9) rfl dX0_aliveByLaw_19 ?_
    refine lv_iload_n hx hb dX0_aliveByLaw_22 rfl (lv_at hl 2 rfl) ?_
    refine lv_bipush (v := 100) hx hb dX0_aliveByLaw_23 zk_bipush_100 ?_
    refine lv_idiv hx hb dX0_aliveByLaw_25 (by decide +kernel) ?_
    refine lv_topi (fun x25 ex25 => ?_)
    have qx25 := ai_div ex25 ⟨ba1_l, ba1_u⟩ (Int.lt_of_lt_of_le zq23 zq24)
    have u25z_x25 : x25.toInt ≤ (9 : Int) := (by have h1 := qx25.1; have h2 := ba1_u; have h3 : (100 : Int32).toInt = 100 := (by decide); rw [h3] at h1; omega)
    refine lv_iload_n hx hb dX0_aliveByLaw_26 rfl (lv_at hl 2 rfl) ?_
    refine lv_bipush (v := 10) hx hb dX0_aliveByLaw_27 zk_bipush_10 ?_
    refine lv_idiv hx hb dX0_aliveByLaw_29 (by decide +kernel) ?_
    refine lv_topi (fun x29 ex29 => ?_)
    have qx29 := ai_div ex29 ⟨ba1_l, ba1_u⟩ (Int.lt_of_lt_of_le zq25 zq26)
    have u29z_x29 : x29.toInt ≤ (99 : Int) := (by have h1 := qx29.1; have h2 := ba1_u; have h3 : (10 : Int32).toInt = 10 := (by decide); rw [h3] at h1; omega)
    refine lv_bipush (v := 10) hx hb dX0_aliveByLaw_30 zk_bipush_10 ?_
    refine lv_irem hx hb dX0_aliveByLaw_32 (by decide +kernel) ?_
    refine lv_topi (fun x32 ex32 => ?_)
    have qx32 := ai_rem2 ex32 qx29.2.1 (Int.lt_of_lt_of_le zq25 zq26) zq27
    have wx32 : x32.toInt = x29.toInt % 10 := qx32.1
    refine lv_iload_n hx hb dX0_aliveByLaw_33 rfl (lv_at hl 2 rfl) ?_
    refine lv_bipush (v := 10) hx hb dX0_aliveByLaw_34 zk_bipush_10 ?_
    refine lv_irem hx hb dX0_aliveByLaw_36 (by decide +kernel) ?_
    refine lv_topi (fun x36 ex36 => ?_)
    have qx36 := ai_rem2 ex36 ba1_l (Int.lt_of_lt_of_le zq25 zq26) zq27
    have wx36 : x36.toInt = a1.toInt % 10 := qx36.1
    refine lv_iload_n hx hb dX0_aliveByLaw_37 rfl (lv_at hl 0 rfl) ?_
    refine va_calli (va_runSN (As := [.int a0_0, .int x25, .int x32, .int x36, .int x16]) (rest := []) ⟨hx, hb, hml, hown, hts⟩ (c_X7_laterTurn l dC dI s.heap.size a0_0 x25 x32 x36 x16 ba0_0_l ba0_0_u qx25.2.1 u25z_x25 qx32.2.1 qx32.2.2 qx36.2.1 qx36.2.2) ⟨va_cnB 5 hts gX0_aliveByLaw_X7_laterTurn_n72 rfl rfl rfl hE0 (hts (.initialized RX7) (List.mem_cons_of_mem _ (List.mem_append_left _ (List.mem_of_getElem? (i := 3) rfl)))) zd_X7_laterTurn.2 ⟨Nat.le_of_ble_eq_true rfl, Nat.le_of_ble_eq_true rfl⟩, (hts (.static yX7_laterTurn) (List.mem_cons_of_mem _ (List.mem_append_left _ (List.mem_of_getElem? (i := 2) rfl)))), trivial⟩ ⟨ax_blind (fun _ _ _ _ _ => trivial), ax_pre (zp_P0 hP) (zp_K hK) (zp_D0 hD) (fun _ _ => trivial)⟩ rfl rfl hl.1 rfl (lv_room (Nat.le_of_ble_eq_true rfl)) dX0_aliveByLaw_38 ⟨Nat.le_of_ble_eq_true rfl, Nat.le_of_ble_eq_true rfl⟩) hS (fun q _ h => zp_F0 hD hS hA q h) (zp_F0 hD hS hA) (fun r38 u t H locs ht hvm hw hB hz1 hk1 hS1 => zo0 hB ht hP hD hk1 (zp_F0 hD hS hA) hS1 (fun hP hK1 hD hS => ?_))
    have hw : (0 : Int) ≤ r38.toInt ∧ r38.toInt ≤ (9 : Int) := hw
    obtain ⟨h38_0, h38_1⟩ := hw
    exact W.iret (v := r38) hx hb hr (fun t ht hW => ⟨⟨r38, (), rfl, ⟨h38_0, h38_1⟩, by rw [ht]; exact hP, va_K.moved hW.alike hK, hD⟩, hS.F ht⟩) hS.2.2 dX0_aliveByLaw_41
  · have gc4 := ai_nlt c4
    have u4f_a0_1 : a0_1.toInt ≤ (0 : Int) := Int.le_trans gc4 zq6
    refine lv_iconst (v := 0) hx hb dX0_aliveByLaw_7 zk_iconst_0 ?_
    refine lv_goto (tgt := 17) hx hb dX0_aliveByLaw_8 (by decide) ?_
    refine lv_istore_n (lv' := [(3, .int 0), (0, .ref a0), (1, .int a1), (2, .int a2)]) hx hb dX0_aliveByLaw_17 rfl hl (by decide) rfl (fun ls hl => ?_)
    refine lv_aload_n hx hb dX0_aliveByLaw_18 rfl (lv_at hl 1 rfl) ?_
    refine va_get (D := (dC, dI)) (ci := 0) (v := .int a0_0) (C := RX0) (T := TX0) (N := 15) hx hb hts zi_X0_aliveByLaw_0 hown hK hP 0 rfl rfl 0 (by decide) (hts (.fieldLink RX0 31 "WaxTurns$Hall" "figures" "I") (List.mem_cons_of_mem _ (List.mem_append_left _ (List.mem_of_getElem? (i := 1) rfl)))) (fun _ h9 => h9) rfl dX0_aliveByLaw_19 ?_
    refine lv_iload_n hx hb dX0_aliveByLaw_22 rfl (lv_at hl 2 rfl) ?_
    refine lv_bipush (v := 100) hx hb dX0_aliveByLaw_23 zk_bipush_100 ?_
    refine lv_idiv hx hb dX0_aliveByLaw_25 (by decide +kernel) ?_
    refine lv_topi (fun x25 ex25 => ?_)
    have qx25 := ai_div ex25 ⟨ba1_l, ba1_u⟩ (Int.lt_of_lt_of_le zq23 zq24)
    have u25z_x25 : x25.toInt ≤ (9 : Int) := (by have h1 := qx25.1; have h2 := ba1_u; have h3 : (100 : Int32).toInt = 100 := (by decide); rw [h3] at h1; omega)
    refine lv_iload_n hx hb dX0_aliveByLaw_26 rfl (lv_at hl 2 rfl) ?_
    refine lv_bipush (v := 10) hx hb dX0_aliveByLaw_27 zk_bipush_10 ?_
    refine lv_idiv hx hb dX0_aliveByLaw_29 (by decide +kernel) ?_
    refine lv_topi (fun x29 ex29 => ?_)
    have qx29 := ai_div ex29 ⟨ba1_l, ba1_u⟩ (Int.lt_of_lt_of_le zq25 zq26)
    have u29z_x29 : x29.toInt ≤ (99 : Int) := (by have h1 := qx29.1; have h2 := ba1_u; have h3 : (10 : Int32).toInt = 10 := (by decide); rw [h3] at h1; omega)
    refine lv_bipush (v := 10) hx hb dX0_aliveByLaw_30 zk_bipush_10 ?_
    refine lv_irem hx hb dX0_aliveByLaw_32 (by decide +kernel) ?_
    refine lv_topi (fun x32 ex32 => ?_)
    have qx32 := ai_rem2 ex32 qx29.2.1 (Int.lt_of_lt_of_le zq25 zq26) zq27
    have wx32 : x32.toInt = x29.toInt % 10 := qx32.1
    refine lv_iload_n hx hb dX0_aliveByLaw_33 rfl (lv_at hl 2 rfl) ?_
    refine lv_bipush (v := 10) hx hb dX0_aliveByLaw_34 zk_bipush_10 ?_
    refine lv_irem hx hb dX0_aliveByLaw_36 (by decide +kernel) ?_
    refine lv_topi (fun x36 ex36 => ?_)
    have qx36 := ai_rem2 ex36 ba1_l (Int.lt_of_lt_of_le zq25 zq26) zq27
    have wx36 : x36.toInt = a1.toInt % 10 := qx36.1
    refine lv_iload_n hx hb dX0_aliveByLaw_37 rfl (lv_at hl 0 rfl) ?_
    refine va_calli (va_runSN (As := [.int a0_0, .int x25, .int x32, .int x36, .int 0]) (rest := []) ⟨hx, hb, hml, hown, hts⟩ (c_X7_laterTurn l dC dI s.heap.size a0_0 x25 x32 x36 0 ba0_0_l ba0_0_u qx25.2.1 u25z_x25 qx32.2.1 qx32.2.2 qx36.2.1 qx36.2.2) ⟨va_cnB 5 hts gX0_aliveByLaw_X7_laterTurn_n72 rfl rfl rfl hE0 (hts (.initialized RX7) (List.mem_cons_of_mem _ (List.mem_append_left _ (List.mem_of_getElem? (i := 3) rfl)))) zd_X7_laterTurn.2 ⟨Nat.le_of_ble_eq_true rfl, Nat.le_of_ble_eq_true rfl⟩, (hts (.static yX7_laterTurn) (List.mem_cons_of_mem _ (List.mem_append_left _ (List.mem_of_getElem? (i := 2) rfl)))), trivial⟩ ⟨ax_blind (fun _ _ _ _ _ => trivial), ax_pre (zp_P0 hP) (zp_K hK) (zp_D0 hD) (fun _ _ => trivial)⟩ rfl rfl hl.1 rfl (lv_room (Nat.le_of_ble_eq_true rfl)) dX0_aliveByLaw_38 ⟨Nat.le_of_ble_eq_true rfl, Nat.le_of_ble_eq_true rfl⟩) hS (fun q _ h => zp_F0 hD hS hA q h) (zp_F0 hD hS hA) (fun r38 u t H locs ht hvm hw hB hz1 hk1 hS1 => zo0 hB ht hP hD hk1 (zp_F0 hD hS hA) hS1 (fun hP hK1 hD hS => ?_))
    have hw : (0 : Int) ≤ r38.toInt ∧ r38.toInt ≤ (9 : Int) := hw
    obtain ⟨h38_0, h38_1⟩ := hw
    exact W.iret (v := r38) hx hb hr (fun t ht hW => ⟨⟨r38, (), rfl, ⟨h38_0, h38_1⟩, by rw [ht]; exact hP, va_K.moved hW.alike hK, hD⟩, hS.F ht⟩) hS.2.2 dX0_aliveByLaw_41

set_option maxHeartbeats 4000000 in
set_option maxRecDepth 100000 in
theorem c_X0_goesLike (l : Launch) (dC : Nat → ClassId) (dI : Nat → Nat → Nat) (sz : Nat) (a0 : Nat) (a1 : Int32) (a2 : Int32) (a0_0 : Int32) (a0g_1 a0g_2 a0g_3 a0g_4 a0g_8 a0g_9 a0g_10 a0g_11 a0g_12 a0g_13 a0g_14 : Value) (a0_5 : Int32) (a0_6 : Int32) (a0_7 : Int32) (ba1_l : (0 : Int) ≤ a1.toInt) (ba1_u : a1.toInt ≤ (8 : Int)) (ba2_l : (0 : Int) ≤ a2.toInt) (ba2_u : a2.toInt ≤ (8 : Int)) (ba0_0_l : (0 : Int) ≤ a0_0.toInt) (ba0_0_u : a0_0.toInt ≤ (9 : Int)) (ba0_5_l : (0 : Int) ≤ a0_5.toInt) (ba0_5_u : a0_5.toInt ≤ (8 : Int)) (ba0_6_l : (0 : Int) ≤ a0_6.toInt) (ba0_6_u : a0_6.toInt ≤ (8 : Int)) (ba0_7_l : (0 : Int) ≤ a0_7.toInt) (ba0_7_u : a0_7.toInt ≤ (8 : Int)) : zm l yX0_goesLike wsX0_goesLike ({ frames := 1, cells := 0, slots := 0, locals := 21 }) [.ref a0, .int a1, .int a2] dC dI sz [(a0, .inr (0, [.int a0_0, a0g_1, a0g_2, a0g_3, a0g_4, .int a0_5, .int a0_6, .int a0_7, a0g_8, a0g_9, a0g_10, a0g_11, a0g_12, a0g_13, a0g_14]))] [] (fun A _ => True) (fun A => va_Qi (fun (r : Int32) (_ : Unit) => (r = 1) ∨ (r = 0 ∧ (1 : Int) ≤ a0_0.toInt ∧ a0_0.toInt ≤ (9 : Int))) (fun (_ : Unit) (t : State) => ax_B dC dI A [(a0, .inr (0, [.int a0_0, a0g_1, a0g_2, a0g_3, a0g_4, .int a0_5, .int a0_6, .int a0_7, a0g_8, a0g_9, a0g_10, a0g_11, a0g_12, a0g_13, a0g_14]))] [] t) A) := by
  refine zh (cc := cX0_goesLike) (maxL := 6) (ret := (some .boolean)) zn_RX0 rfl (Nat.le_of_ble_eq_true rfl) (fun p e s m below meth c A ls hx hb hml hr hts (hown : s.vm.findClass RX0 = some m.cls) hlocks hA hS hP hK hD hE (hl : lv_has ls 6 [(0, .ref a0), (1, .int a1), (2, .int a2)]) => ?_)
  refine ai_open (fun K hK0 => ?_)
  refine (hK0 _ _ _).mpr ?_
  refine lv_aload_n hx hb dX0_goesLike_0 rfl (lv_at hl 0 rfl) ?_
  refine va_get (D := (dC, dI)) (ci := 0) (v := .int a0_7) (C := RX0) (T := TX0) (N := 15) hx hb hts zi_X0_goesLike_0 hown hK hP 0 rfl rfl 7 (by decide) (hts (.fieldLink RX0 69 "WaxTurns$Hall" "first" "I") (List.mem_cons_of_mem _ (List.mem_append_left _ (List.mem_of_getElem? (i := 0) rfl)))) (fun _ h9 => h9) rfl dX0_goesLike_1 ?_
  refine lv_istore_n (lv' := [(3, .int a0_7), (0, .ref a0), (1, .int a1), (2, .int a2)]) hx hb dX0_goesLike_4 rfl hl (by decide) rfl (fun ls hl => ?_)
  refine lv_iconst (v := 0) hx hb dX0_goesLike_5 zk_iconst_0 ?_
  refine lv_istore (lv' := [(4, .int 0), (3, .int a0_7), (0, .ref a0), (1, .int a1), (2, .int a2)]) hx hb dX0_goesLike_6 hl (by decide) rfl (fun ls hl => ?_)
  have J8 : ∀ (n : Nat) (j8l4 : Int32) (j8l3 : Int32) (H : Heap) (locs : List Loc) (ls : Array Slot), (10 : Int) - j8l4.toInt ≤ (n : Int) → (0 : Int) ≤ j8l4.toInt → j8l4.toInt ≤ (9 : Int) → (0 : Int) ≤ j8l3.toInt → j8l3.toInt ≤ (8 : Int) → va_P (dC, dI) vwCl [(a0, .inr (0, [.int a0_0, a0g_1, a0g_2, a0g_3, a0g_4, .int a0_5, .int a0_6, .int a0_7, a0g_8, a0g_9, a0g_10, a0g_11, a0g_12, a0g_13, a0g_14]))] H → va_D A [(a0, .inr (0, [.int a0_0, a0g_1, a0g_2, a0g_3, a0g_4, .int a0_5, .int a0_6, .int a0_7, a0g_8, a0g_9, a0g_10, a0g_11, a0g_12, a0g_13, a0g_14]))] → va_S A s.heap H locs → lv_has ls 6 [(0, .ref a0), (1, .int a1), (2, .int a2), (3, .int j8l3), (4, .int j8l4)] → K H locs (F0 m 8 ls []) := by
    intro n
    induction n with
    | zero =>
      intro j8l4 j8l3 H locs ls hm bj8l4_l bj8l4_u bj8l3_l bj8l3_u hP hD hS hl
      first | exact zg_0 hm bj8l4_u (by decide) | (have h8 := ai_min j8l4; have h9 := ai_max j8l4; exact absurd hm (by omega))
    | succ n ih8 =>
      intro j8l4 j8l3 H locs ls hm bj8l4_l bj8l4_u bj8l3_l bj8l3_u hP hD hS hl
      refine (hK0 _ _ _).mpr ?_
      have hm8 := hm
      refine lv_iload hx hb dX0_goesLike_8 (lv_at hl 4 rfl) ?_
      refine lv_aload_n hx hb dX0_goesLike_10 rfl (lv_at hl 0 rfl) ?_
      refine va_get (D := (dC, dI)) (ci := 0) (v := .int a0_0) (C := RX0) (T := TX0) (N := 15) hx hb hts zi_X0_goesLike_0 hown hK hP 0 rfl rfl 0 (by decide) (hts (.fieldLink RX0 31 "WaxTurns$Hall" "figures" "I") (List.mem_cons_of_mem _ (List.mem_append_left _ (List.mem_of_getElem? (i := 1) rfl)))) (fun _ h9 => h9) rfl dX0_goesLike_11 ?_
      refine lv_icmp_ge (tgt := 50) hx hb dX0_goesLike_14 (by decide) (fun c14 => ?_) (fun c14 => ?_)
      · have gc14 := ai_le c14
        have u14t_a0_0 : a0_0.toInt ≤ (9 : Int) := ba0_0_u
        have l14t_j8l4 : (0 : Int) ≤ j8l4.toInt := bj8l4_l
        refine lv_iconst (v := 1) hx hb dX0_goesLike_50 zk_iconst_1 ?_
        exact W.zret (v := 1) hx hb hr rfl (fun t ht hW => ⟨⟨1, (), rfl, (Or.inl (rfl)), by rw [ht]; exact hP, va_K.moved hW.alike hK, hD⟩, hS.F ht⟩) hS.2.2 dX0_goesLike_51
      · have gc14 := ai_nle c14
        have u14f_j8l4 : j8l4.toInt ≤ (8 : Int) := ai_lthi gc14 ba0_0_u
        have l14f_a0_0 : (1 : Int) ≤ a0_0.toInt := ai_ltlo gc14 bj8l4_l
        refine lv_aload_n hx hb dX0_goesLike_17 rfl (lv_at hl 0 rfl) ?_
        refine lv_iload_n hx hb dX0_goesLike_18 rfl (lv_at hl 3 rfl) ?_
        refine va_calli (va_runV (As := [.int j8l3]) (rest := []) ⟨hx, hb, hml, hown, hts⟩ (c_X0_next l dC dI H.size a0 j8l3 a0_0 a0g_1 a0g_2 a0g_3 a0g_4 (.int a0_7) a0g_8 a0g_9 a0g_10 a0g_11 a0g_12 a0g_13 a0g_14 a0_5 a0_6 bj8l3_l bj8l3_u (Int.le_trans zq4 l14f_a0_0) ba0_0_u ba0_5_l ba0_5_u ba0_6_l ba0_6_u) (cwV 1 hts gX0_goesLike_X0_next rfl rfl rfl zd_X0_next ⟨Nat.le_of_ble_eq_true rfl, Nat.le_of_ble_eq_true rfl⟩) ⟨ax_blind (fun _ _ _ _ _ => trivial), zr_0 (zp_K hK) (zp_P1 hP) (q0 := 0) rfl, ax_pre (zp_P1 hP) (zp_K hK) (zp_D1 hD) (fun _ _ => trivial)⟩ rfl rfl hl.1 rfl (lv_room (Nat.le_of_ble_eq_true rfl)) dX0_goesLike_19 ⟨Nat.le_of_ble_eq_true rfl, Nat.le_of_ble_eq_true rfl⟩) hS (fun q _ h => zp_F1 hD hS hA q h) (zp_F1 hD hS hA) (fun r19 u t H locs ht hvm hw hB hz1 hk1 hS1 => zo1 hB ht hP hD hk1 (zp_F1 hD hS hA) hS1 (fun hP hK1 hD hS => ?_))
        have hw : (0 : Int) ≤ r19.toInt ∧ r19.toInt ≤ (8 : Int) := hw
        obtain ⟨h19_0, h19_1⟩ := hw
        refine lv_istore (lv' := [(5, .int r19), (0, .ref a0), (1, .int a1), (2, .int a2), (3, .int j8l3), (4, .int j8l4)]) hx hb dX0_goesLike_22 hl (by decide) rfl (fun ls hl => ?_)
        refine lv_iload_n hx hb dX0_goesLike_24 rfl (lv_at hl 4 rfl) ?_
        refine lv_iload_n hx hb dX0_goesLike_25 rfl (lv_at hl 2 rfl) ?_
        refine lv_imul hx hb dX0_goesLike_26 ?_
        refine lv_topi (fun x26 ex26 => ?_)
        have qx26 : x26.toInt = j8l3.toInt * a1.toInt ∧ (0 : Int) ≤ x26.toInt ∧ x26.toInt ≤ 64 := ai_mul ex26 ⟨bj8l3_l, bj8l3_u⟩ ⟨ba1_l, ba1_u⟩ (by decide) (by decide) zq18
        refine lv_iload_n hx hb dX0_goesLike_27 rfl (lv_at hl 3 rfl) ?_
        refine lv_iadd hx hb dX0_goesLike_28 ?_
        refine lv_topi (fun x28 ex28 => ?_)
        have qx28 : x28.toInt = x26.toInt + a2.toInt := ai_add ex28 ⟨qx26.2.1, qx26.2.2⟩ ⟨ba2_l, ba2_u⟩ (by decide) (by decide)
        have bx28 : (0 : Int) ≤ x28.toInt ∧ x28.toInt ≤ 72 := ⟨by rw [qx28]; exact Int.add_le_add qx26.2.1 ba2_l, by rw [qx28]; exact Int.add_le_add qx26.2.2 ba2_u⟩
        refine lv_aload_n hx hb dX0_goesLike_29 rfl (lv_at hl 1 rfl) ?_
        refine va_get (D := (dC, dI)) (ci := 0) (v := .int a0_0) (C := RX0) (T := TX0) (N := 15) hx hb hts zi_X0_goesLike_0 hown hK hP 0 rfl rfl 0 (by decide) (hts (.fieldLink RX0 31 "WaxTurns$Hall" "figures" "I") (List.mem_cons_of_mem _ (List.mem_append_left _ (List.mem_of_getElem? (i := 1) rfl)))) (fun _ h9 => h9) rfl dX0_goesLike_30 ?_
        refine lv_irem hx hb dX0_goesLike_33 (ai_nz l14f_a0_0 (by decide)) ?_
        refine lv_topi (fun x33 ex33 => ?_)
        have qx33 := ai_rem2 ex33 bx28.1 (Int.lt_of_lt_of_le zq19 l14f_a0_0) ba0_0_u
        refine lv_iload hx hb dX0_goesLike_34 (lv_at hl 0 rfl) ?_
        refine lv_icmp_eq (tgt := 41) hx hb dX0_goesLike_36 (by decide) (fun c36 => ?_) (fun c36 => ?_)
        · have gc36 := ai_eq c36
          have u36t_x33 : x33.toInt ≤ (8 : Int) := qx33.2.2
          have l36t_x33 : (0 : Int) ≤ x33.toInt := qx33.2.1
          have u36t_r19 : r19.toInt ≤ (8 : Int) := h19_1
          have l36t_r19 : (0 : Int) ≤ r19.toInt := h19_0
          refine lv_iload hx hb dX0_goesLike_41 (lv_at hl 0 rfl) ?_
          refine lv_istore_n (lv' := [(3, .int r19), (5, .int r19), (0, .ref a0), (1, .int a1), (2, .int a2), (4, .int j8l4)]) hx hb dX0_goesLike_43 rfl hl (by decide) rfl (fun ls hl => ?_)
          obtain ⟨x44, ex44⟩ : ∃ y : Int32, y = j8l4 + Int32.ofInt 1 := ⟨_, rfl⟩
          have qx44 : x44.toInt = j8l4.toInt + 1 := ai_inc ex44 (by decide) (by decide) u14f_j8l4 (by decide)
          have bx44 : (1 : Int) ≤ x44.toInt ∧ x44.toInt ≤ 9 := ⟨by rw [qx44]; exact Int.add_le_add bj8l4_l (Int.le_refl _), by rw [qx44]; exact Int.add_le_add u14f_j8l4 (Int.le_refl _)⟩
          refine lv_iinc (v := x44) (lv' := [(4, .int x44), (3, .int r19), (5, .int r19), (0, .ref a0), (1, .int a1), (2, .int a2)]) hx hb dX0_goesLike_44 hl (k := 5) rfl ex44.symm (by decide) rfl (fun ls hl => ?_)
          refine lv_goto (tgt := 8) hx hb dX0_goesLike_47 (by decide) ?_
          exact (hK0 _ _ _).mp (ih8 x44 r19 _ _ _ (by first | exact zg_s hm8 qx44 | (have h0 := qx44; omega)) (Int.le_trans zq4 bx44.1) bx44.2 l36t_r19 u36t_r19 hP hD hS (lv_sub hl [3, 4, 5, 1, 0] rfl))
        · have gc36 := ai_ne c36
          refine lv_iconst (v := 0) hx hb dX0_goesLike_39 zk_iconst_0 ?_
          exact W.zret (v := 0) hx hb hr rfl (fun t ht hW => ⟨⟨0, (), rfl, (Or.inr (⟨rfl, l14f_a0_0, ba0_0_u⟩)), by rw [ht]; exact hP, va_K.moved hW.alike hK, hD⟩, hS.F ht⟩) hS.2.2 dX0_goesLike_40
  exact (hK0 _ _ _).mp (J8 10 0 a0_7 _ _ _ (by first | decide +kernel | (have h1 : (0 : Int) ≤ (0 : Int32).toInt := zq5; have h2 : (0 : Int32).toInt ≤ (0 : Int) := zq6; omega)) zq5 (Int.le_trans zq6 zq7) ba0_7_l ba0_7_u hP hD hS (lv_sub hl [2, 3, 4, 1, 0] rfl))

set_option maxHeartbeats 4000000 in
set_option maxRecDepth 100000 in
theorem c_X0_stepsIn (l : Launch) (dC : Nat → ClassId) (dI : Nat → Nat → Nat) (sz : Nat) (a0 : Nat) (a1 : Int32) (a2 : Int32) (a0g_0 a0g_1 a0g_2 a0g_3 a0g_4 a0g_5 a0g_6 a0g_7 a0g_8 a0g_9 a0g_12 a0g_13 a0g_14 : Value) (a0_10 : Nat) (a0_11 : Nat) (ka0_10 : ClassId) (fa0_10 : Nat → Int32) (ka0_11 : ClassId) (fa0_11 : Nat → Int32)  : zm l yX0_stepsIn wsX0_stepsIn ({ frames := 1, cells := 0, slots := 0, locals := 22 }) [.ref a0, .int a1, .int a2] dC dI sz [(a0, .inr (0, [a0g_0, a0g_1, a0g_2, a0g_3, a0g_4, a0g_5, a0g_6, a0g_7, a0g_8, a0g_9, .ref a0_10, .ref a0_11, a0g_12, a0g_13, a0g_14])), (a0_10, .inl (ka0_10, 9, .inl (fa0_10))), (a0_11, .inl (ka0_11, 9, .inl (fa0_11)))] [(ka0_10, .int), (ka0_11, .int)] (fun A U => va_Nw (.methodLinkNest RX0 118 yX7_within RX7) U) (fun A => va_Qi (fun (r : Int32) (_ : Unit) => (r = 1 ∧ (0 : Int) ≤ a1.toInt ∧ a1.toInt ≤ (8 : Int)) ∨ (r = 0)) (fun (_ : Unit) (t : State) => ax_B dC dI A [(a0, .inr (0, [a0g_0, a0g_1, a0g_2, a0g_3, a0g_4, a0g_5, a0g_6, a0g_7, a0g_8, a0g_9, .ref a0_10, .ref a0_11, a0g_12, a0g_13, a0g_14])), (a0_10, .inl (ka0_10, 9, .inl (fa0_10))), (a0_11, .inl (ka0_11, 9, .inl (fa0_11)))] [(ka0_10, .int), (ka0_11, .int)] t) A) := by
  refine zh (cc := cX0_stepsIn) (maxL := 4) (ret := (some .boolean)) zn_RX0 rfl (Nat.le_of_ble_eq_true rfl) (fun p e s m below meth c A ls hx hb hml hr hts (hown : s.vm.findClass RX0 = some m.cls) hlocks hA hS hP hK hD hE (hl : lv_has ls 4 [(0, .ref a0), (1, .int a1), (2, .int a2)]) => ?_)
  have hE0 := hE
  refine lv_iload_n hx hb dX0_stepsIn_0 rfl (lv_at hl 1 rfl) ?_
  refine lv_iconst (v := 0) hx hb dX0_stepsIn_1 zk_iconst_0 ?_
  refine lv_bipush (v := 8) hx hb dX0_stepsIn_2 zk_bipush_8 ?_
  refine va_calli (va_runSN (As := [.int a1, .int 0, .int 8]) (rest := []) ⟨hx, hb, hml, hown, hts⟩ (c_X7_within l dC dI s.heap.size a1 0 8 ) ⟨va_cnB 3 hts gX0_stepsIn_X7_within_n118 rfl rfl rfl hE0 (hts (.initialized RX7) (List.mem_cons_of_mem _ (List.mem_append_left _ (List.mem_of_getElem? (i := 3) rfl)))) zd_X7_within.2 ⟨Nat.le_of_ble_eq_true rfl, Nat.le_of_ble_eq_true rfl⟩, (hts (.static yX7_within) (List.mem_cons_of_mem _ (List.mem_append_left _ (List.mem_of_getElem? (i := 2) rfl)))), trivial⟩ ⟨ax_blind (fun _ _ _ _ _ => trivial), ax_pre (zp_P0 hP) (zp_K hK) (zp_D0 hD) (fun _ _ => trivial)⟩ rfl rfl hl.1 rfl (lv_room (Nat.le_of_ble_eq_true rfl)) dX0_stepsIn_4 ⟨Nat.le_of_ble_eq_true rfl, Nat.le_of_ble_eq_true rfl⟩) hS (fun q _ h => zp_F0 hD hS hA q h) (zp_F0 hD hS hA) (fun r4 u t H locs ht hvm hw hB hz1 hk1 hS1 => zo0 hB ht hP hD hk1 (zp_F0 hD hS hA) hS1 (fun hP hK1 hD hS => ?_))
  rcases hw with hw | hw
  · obtain ⟨hw, h4⟩ := hw
    subst hw
    have l4k0_a1 : (0 : Int) ≤ a1.toInt := Int.le_trans zq5 h4.1
    have u4k0_a1 : a1.toInt ≤ (8 : Int) := Int.le_trans h4.2 zq28
    refine lv_if_eq (tgt := 20) hx hb dX0_stepsIn_7 (by decide) (fun c7 => absurd c7 (by decide +kernel)) (fun _ => ?_)
    refine lv_aload_n hx hb dX0_stepsIn_10 rfl (lv_at hl 0 rfl) ?_
    refine va_get (D := (dC, dI)) (ci := 0) (v := .ref a0_10) (C := RX0) (T := TX0) (N := 15) hx hb hts zi_X0_stepsIn_0 hown hK hP 0 rfl rfl 10 (by decide) (hts (.fieldLink RX0 9 "WaxTurns$Hall" "kinds" "[I") (List.mem_cons_of_mem _ (List.mem_append_left _ (List.mem_of_getElem? (i := 0) rfl)))) (fun _ h9 => h9) rfl dX0_stepsIn_11 ?_
    refine lv_iload_n hx hb dX0_stepsIn_14 rfl (lv_at hl 1 rfl) ?_
    refine va_iald hx hb hK hP 1 0 rfl rfl (ai_in l4k0_a1 u4k0_a1 (by decide) (by decide)) dX0_stepsIn_15 ?_
    refine lv_topi (fun x15 ex15 => ?_)
    refine lv_iconst (v := 1) hx hb dX0_stepsIn_16 zk_iconst_1 ?_
    refine lv_icmp_eq (tgt := 22) hx hb dX0_stepsIn_17 (by decide) (fun c17 => ?_) (fun c17 => ?_)
    · have gc17 := ai_eq c17
      have u17t_x15 : x15.toInt ≤ (1 : Int) := Int.le_trans (Int.le_of_eq gc17) zq0
      have l17t_x15 : (1 : Int) ≤ x15.toInt := Int.le_trans zq1 (Int.le_of_eq gc17.symm)
      refine lv_aload_n hx hb dX0_stepsIn_22 rfl (lv_at hl 0 rfl) ?_
      refine va_get (D := (dC, dI)) (ci := 0) (v := .ref a0_11) (C := RX0) (T := TX0) (N := 15) hx hb hts zi_X0_stepsIn_0 hown hK hP 0 rfl rfl 11 (by decide) (hts (.fieldLink RX0 15 "WaxTurns$Hall" "measures" "[I") (List.mem_cons_of_mem _ (List.mem_append_left _ (List.mem_of_getElem? (i := 1) rfl)))) (fun _ h9 => h9) rfl dX0_stepsIn_23 ?_
      refine lv_iload_n hx hb dX0_stepsIn_26 rfl (lv_at hl 1 rfl) ?_
      refine va_iald hx hb hK hP 2 1 rfl rfl (ai_in l4k0_a1 u4k0_a1 (by decide) (by decide)) dX0_stepsIn_27 ?_
      refine lv_topi (fun x27 ex27 => ?_)
      refine lv_istore_n (lv' := [(3, .int x27), (0, .ref a0), (1, .int a1), (2, .int a2)]) hx hb dX0_stepsIn_28 rfl hl (by decide) rfl (fun ls hl => ?_)
      refine lv_iload_n hx hb dX0_stepsIn_29 rfl (lv_at hl 0 rfl) ?_
      refine lv_if_le (tgt := 43) hx hb dX0_stepsIn_30 (by decide) (fun c30 => ?_) (fun c30 => ?_)
      · have gc30 := ai_le c30
        have u30t_x27 : x27.toInt ≤ (0 : Int) := Int.le_trans gc30 zq6
        refine lv_iconst (v := 0) hx hb dX0_stepsIn_43 zk_iconst_0 ?_
        exact W.zret (v := 0) hx hb hr rfl (fun t ht hW => ⟨⟨0, (), rfl, (Or.inr (rfl)), by rw [ht]; exact hP, va_K.moved hW.alike hK, hD⟩, hS.F ht⟩) hS.2.2 dX0_stepsIn_44
      · have gc30 := ai_nle c30
        have l30f_x27 : (1 : Int) ≤ x27.toInt := ai_ltlo gc30 zq5
        refine lv_iload_n hx hb dX0_stepsIn_33 rfl (lv_at hl 3 rfl) ?_
        refine lv_iload_n hx hb dX0_stepsIn_34 rfl (lv_at hl 0 rfl) ?_
        refine lv_irem hx hb dX0_stepsIn_35 (ai_nz l30f_x27 (by decide)) ?_
        refine lv_topi (fun x35 ex35 => ?_)
        refine lv_if_ne (tgt := 43) hx hb dX0_stepsIn_36 (by decide) (fun c36 => ?_) (fun c36 => ?_)
        · have gc36 := ai_ne c36
          refine lv_iconst (v := 0) hx hb dX0_stepsIn_43 zk_iconst_0 ?_
          exact W.zret (v := 0) hx hb hr rfl (fun t ht hW => ⟨⟨0, (), rfl, (Or.inr (rfl)), by rw [ht]; exact hP, va_K.moved hW.alike hK, hD⟩, hS.F ht⟩) hS.2.2 dX0_stepsIn_44
        · have gc36 := ai_eq c36
          have u36f_x35 : x35.toInt ≤ (0 : Int) := Int.le_trans (Int.le_of_eq gc36) zq6
          have l36f_x35 : (0 : Int) ≤ x35.toInt := Int.le_trans zq5 (Int.le_of_eq gc36.symm)
          refine lv_iconst (v := 1) hx hb dX0_stepsIn_39 zk_iconst_1 ?_
          refine lv_goto (tgt := 44) hx hb dX0_stepsIn_40 (by decide) ?_
          exact W.zret (v := 1) hx hb hr rfl (fun t ht hW => ⟨⟨1, (), rfl, (Or.inl ⟨rfl, l4k0_a1, u4k0_a1⟩), by rw [ht]; exact hP, va_K.moved hW.alike hK, hD⟩, hS.F ht⟩) hS.2.2 dX0_stepsIn_44
    · have gc17 := ai_ne c17
      refine lv_iconst (v := 0) hx hb dX0_stepsIn_20 zk_iconst_0 ?_
      exact W.zret (v := 0) hx hb hr rfl (fun t ht hW => ⟨⟨0, (), rfl, (Or.inr (rfl)), by rw [ht]; exact hP, va_K.moved hW.alike hK, hD⟩, hS.F ht⟩) hS.2.2 dX0_stepsIn_21
  · obtain ⟨hw, h4⟩ := hw
    subst hw
    refine lv_if_eq (tgt := 20) hx hb dX0_stepsIn_7 (by decide) (fun _ => ?_) (fun c7 => absurd (by decide +kernel) c7)
    refine lv_iconst (v := 0) hx hb dX0_stepsIn_20 zk_iconst_0 ?_
    exact W.zret (v := 0) hx hb hr rfl (fun t ht hW => ⟨⟨0, (), rfl, (Or.inr (rfl)), by rw [ht]; exact hP, va_K.moved hW.alike hK, hD⟩, hS.F ht⟩) hS.2.2 dX0_stepsIn_21

set_option maxHeartbeats 4000000 in
set_option maxRecDepth 100000 in
theorem c_X0_nearer (l : Launch) (dC : Nat → ClassId) (dI : Nat → Nat → Nat) (sz : Nat) (a0 : Nat) (a1 : Int32) (a0g_0 a0g_1 a0g_3 a0g_4 a0g_5 a0g_6 a0g_7 a0g_8 a0g_9 a0g_10 a0g_11 a0g_12 a0g_13 a0g_14 : Value) (a0_2 : Int32)  : zm l yX0_nearer wsX0_nearer ({ frames := 0, cells := 0, slots := 0, locals := 0 }) [.ref a0, .int a1] dC dI sz [(a0, .inr (0, [a0g_0, a0g_1, .int a0_2, a0g_3, a0g_4, a0g_5, a0g_6, a0g_7, a0g_8, a0g_9, a0g_10, a0g_11, a0g_12, a0g_13, a0g_14]))] [] (fun A _ => True) (fun A => va_Qi (fun (r : Int32) (_ : Unit) => True) (fun (_ : Unit) (t : State) => ax_B dC dI A [(a0, .inr (0, [a0g_0, a0g_1, .int a0_2, a0g_3, a0g_4, a0g_5, a0g_6, a0g_7, a0g_8, a0g_9, a0g_10, a0g_11, a0g_12, a0g_13, a0g_14]))] [] t) A) := by
  refine zh (cc := cX0_nearer) (maxL := 2) (ret := (some .int)) zn_RX0 rfl (Nat.le_of_ble_eq_true rfl) (fun p e s m below meth c A ls hx hb hml hr hts (hown : s.vm.findClass RX0 = some m.cls) hlocks hA hS hP hK hD hE (hl : lv_has ls 2 [(0, .ref a0), (1, .int a1)]) => ?_)
  refine lv_iload_n hx hb dX0_nearer_0 rfl (lv_at hl 1 rfl) ?_
  refine lv_aload_n hx hb dX0_nearer_1 rfl (lv_at hl 0 rfl) ?_
  refine va_get (D := (dC, dI)) (ci := 0) (v := .int a0_2) (C := RX0) (T := TX0) (N := 15) hx hb hts zi_X0_nearer_0 hown hK hP 0 rfl rfl 2 (by decide) (hts (.fieldLink RX0 51 "WaxTurns$Hall" "stairsPlace" "I") (List.mem_cons_of_mem _ (List.mem_append_left _ (List.mem_of_getElem? (i := 0) rfl)))) (fun _ h9 => h9) rfl dX0_nearer_2 ?_
  refine lv_icmp_ne (tgt := 10) hx hb dX0_nearer_5 (by decide) (fun c5 => ?_) (fun c5 => ?_)
  · have gc5 := ai_ne c5
    refine lv_iload_n hx hb dX0_nearer_10 rfl (lv_at hl 1 rfl) ?_
    refine lv_aload_n hx hb dX0_nearer_11 rfl (lv_at hl 0 rfl) ?_
    refine va_get (D := (dC, dI)) (ci := 0) (v := .int a0_2) (C := RX0) (T := TX0) (N := 15) hx hb hts zi_X0_nearer_0 hown hK hP 0 rfl rfl 2 (by decide) (hts (.fieldLink RX0 51 "WaxTurns$Hall" "stairsPlace" "I") (List.mem_cons_of_mem _ (List.mem_append_left _ (List.mem_of_getElem? (i := 0) rfl)))) (fun _ h9 => h9) rfl dX0_nearer_12 ?_
    refine lv_icmp_ge (tgt := 24) hx hb dX0_nearer_15 (by decide) (fun c15 => ?_) (fun c15 => ?_)
    · have gc15 := ai_le c15
      refine lv_iload_n hx hb dX0_nearer_24 rfl (lv_at hl 1 rfl) ?_
      refine lv_iconst (v := 1) hx hb dX0_nearer_25 zk_iconst_1 ?_
      refine lv_isub hx hb dX0_nearer_26 ?_
      refine lv_topi (fun x26 ex26 => ?_)
      exact W.iret (v := x26) hx hb hr (fun t ht hW => ⟨⟨x26, (), rfl, trivial, by rw [ht]; exact hP, va_K.moved hW.alike hK, hD⟩, hS.F ht⟩) hS.2.2 dX0_nearer_27
    · have gc15 := ai_nle c15
      have u15f_a1 : a1.toInt ≤ (2147483646 : Int) := ai_lthi gc15 (ai_max a0_2)
      have l15f_a0_2 : (-2147483647 : Int) ≤ a0_2.toInt := ai_ltlo gc15 (ai_min a1)
      refine lv_iload_n hx hb dX0_nearer_18 rfl (lv_at hl 1 rfl) ?_
      refine lv_iconst (v := 1) hx hb dX0_nearer_19 zk_iconst_1 ?_
      refine lv_iadd hx hb dX0_nearer_20 ?_
      refine lv_topi (fun x20 ex20 => ?_)
      have qx20 : x20.toInt = a1.toInt + (1 : Int32).toInt := ai_add ex20 ⟨(ai_min a1), u15f_a1⟩ ⟨zq1, zq0⟩ (by decide) (by decide)
      have bx20 : (-2147483647 : Int) ≤ x20.toInt ∧ x20.toInt ≤ 2147483647 := ⟨by rw [qx20]; exact Int.add_le_add (ai_min a1) zq1, by rw [qx20]; exact Int.add_le_add u15f_a1 zq0⟩
      have wx20 : x20.toInt = a1.toInt + 1 := qx20
      refine lv_goto (tgt := 27) hx hb dX0_nearer_21 (by decide) ?_
      exact W.iret (v := x20) hx hb hr (fun t ht hW => ⟨⟨x20, (), rfl, trivial, by rw [ht]; exact hP, va_K.moved hW.alike hK, hD⟩, hS.F ht⟩) hS.2.2 dX0_nearer_27
  · have gc5 := ai_eq c5
    refine lv_iload_n hx hb dX0_nearer_8 rfl (lv_at hl 1 rfl) ?_
    exact W.iret (v := a1) hx hb hr (fun t ht hW => ⟨⟨a1, (), rfl, trivial, by rw [ht]; exact hP, va_K.moved hW.alike hK, hD⟩, hS.F ht⟩) hS.2.2 dX0_nearer_9

set_option maxHeartbeats 4000000 in
set_option maxRecDepth 100000 in
theorem c_X0_step (l : Launch) (dC : Nat → ClassId) (dI : Nat → Nat → Nat) (sz : Nat) (a0 : Nat) (a1 : Nat) (a2 : Int32) (a3 : Nat) (a0g_0 a0g_1 a0g_3 a0g_4 a0g_5 a0g_6 a0g_7 a0g_8 a0g_9 a0g_10 a0g_11 a0g_12 a0g_13 a0g_14 : Value) (a0_2 : Int32) (a1_0 : Int32) (a1g_1 a1g_2 a1g_6 : Value) (a1_3 : Int32) (a1_4 : Int32) (a1_5 : Nat) (ka1_5 : ClassId) (fa1_5 : Nat → Int32) (a3_0 : Int32) (a3_1 : Int32) (a3_2 : Nat) (a3_3 : Nat) (ka3_3 : ClassId) (fa3_3 : Nat → Int32) (ka3_2 : ClassId) (fa3_2 : Nat → Int32) (ba2_l : (0 : Int) ≤ a2.toInt) (ba2_u : a2.toInt ≤ (8 : Int)) (ba3_0_l : (0 : Int) ≤ a3_0.toInt) (ba3_0_u : a3_0.toInt ≤ (3 : Int)) (bfa3_3 : (∀ k, (0 : Int) ≤ (fa3_3 k).toInt ∧ (fa3_3 k).toInt ≤ 80)) (bfa3_2 : (∀ k, (0 : Int) ≤ (fa3_2 k).toInt ∧ (fa3_2 k).toInt ≤ 80)) : zm l yX0_step wsX0_step ({ frames := 2, cells := 0, slots := 0, locals := 49 }) [.ref a0, .ref a1, .int a2, .ref a3] dC dI sz [(a0, .inr (0, [a0g_0, a0g_1, .int a0_2, a0g_3, a0g_4, a0g_5, a0g_6, a0g_7, a0g_8, a0g_9, a0g_10, a0g_11, a0g_12, a0g_13, a0g_14])), (a1, .inr (5, [.int a1_0, a1g_1, a1g_2, .int a1_3, .int a1_4, .ref a1_5, a1g_6])), (a1_5, .inl (ka1_5, 9, .inl (fa1_5))), (a3, .inr (6, [.int a3_0, .int a3_1, .ref a3_2, .ref a3_3])), (a3_3, .inl (ka3_3, 3, .inl (fa3_3))), (a3_2, .inl (ka3_2, 3, .inl (fa3_2)))] [(ka1_5, .int), (ka3_3, .int), (ka3_2, .int)] (fun A U => va_Nw (.methodLinkNest RX5 38 yX7_hasBit RX7) U ∧ va_Nw (.methodLinkNest RX0 129 yX7_hasBit RX7) U) (fun A => va_Qv (fun (_ : Unit) => True) (fun (_ : Unit) (t : State) => ∃ na1_3 : Int32, ∃ na1_4 : Int32, ∃ nfa1_5 : Nat → Int32, ax_B dC dI A [(a0, .inr (0, [a0g_0, a0g_1, .int a0_2, a0g_3, a0g_4, a0g_5, a0g_6, a0g_7, a0g_8, a0g_9, a0g_10, a0g_11, a0g_12, a0g_13, a0g_14])), (a1, .inr (5, [.int a1_0, a1g_1, a1g_2, .int na1_3, .int na1_4, .ref a1_5, a1g_6])), (a1_5, .inl (ka1_5, 9, .inl (nfa1_5))), (a3, .inr (6, [.int a3_0, .int a3_1, .ref a3_2, .ref a3_3])), (a3_3, .inl (ka3_3, 3, .inl (fa3_3))), (a3_2, .inl (ka3_2, 3, .inl (fa3_2)))] [(ka1_5, .int), (ka3_3, .int), (ka3_2, .int)] t) A) := by
  refine zh (cc := cX0_step) (maxL := 5) (ret := none) zn_RX0 rfl (Nat.le_of_ble_eq_true rfl) (fun p e s m below meth c A ls hx hb hml hr hts (hown : s.vm.findClass RX0 = some m.cls) hlocks hA hS hP hK hD hE (hl : lv_has ls 5 [(0, .ref a0), (1, .ref a1), (2, .int a2), (3, .ref a3)]) => ?_)
  obtain ⟨hE0, hE1⟩ := hE
  refine lv_aload_n hx hb dX0_step_0 rfl (lv_at hl 1 rfl) ?_
  refine lv_iload_n hx hb dX0_step_1 rfl (lv_at hl 2 rfl) ?_
  refine zc_cutc (wc := [(a1, .inr (5, [.int a1_0, a1g_1, a1g_2, .int a1_3, .int a1_4, .ref a1_5, a1g_6]))]) hP hD hS hA [1] (by decide +kernel) rfl (fun hPc hDc hFc hCc => ?_)
  have hKc := zp_K hK
  refine va_calli (va_runV (As := [.int a2]) (rest := []) ⟨hx, hb, hml, hown, hts⟩ (c_X5_isGone l dC dI s.heap.size a1 a2 (.int a1_0) a1g_1 a1g_2 (.int a1_4) (.ref a1_5) a1g_6 a1_3 ) (cwV 1 hts gX0_step_X5_isGone rfl rfl rfl zd_X5_isGone ⟨Nat.le_of_ble_eq_true rfl, Nat.le_of_ble_eq_true rfl⟩) ⟨ax_blind (fun _ _ _ _ hq => va_Nw.same rfl rfl (hq)), zr_5 hKc hPc (q0 := 0) rfl, ax_pre hPc hKc hDc (fun _ hW => va_Nw.warmM hW hE0)⟩ rfl rfl hl.1 rfl (lv_room (Nat.le_of_ble_eq_true rfl)) dX0_step_2 ⟨Nat.le_of_ble_eq_true rfl, Nat.le_of_ble_eq_true rfl⟩) hS (fun q _ h => hFc q h) hFc (fun r2 u t H locs ht hvm hw hB hz1 hk1 hS1 => zo hB ht hS1 (fun hP1 hK1 hD1 hS => ?_))
  refine zc_backc (w := [(a0, .inr (0, [a0g_0, a0g_1, .int a0_2, a0g_3, a0g_4, a0g_5, a0g_6, a0g_7, a0g_8, a0g_9, a0g_10, a0g_11, a0g_12, a0g_13, a0g_14])), (a1, .inr (5, [.int a1_0, a1g_1, a1g_2, .int a1_3, .int a1_4, .ref a1_5, a1g_6])), (a1_5, .inl (ka1_5, 9, .inl (fa1_5))), (a3, .inr (6, [.int a3_0, .int a3_1, .ref a3_2, .ref a3_3])), (a3_3, .inl (ka3_3, 3, .inl (fa3_3))), (a3_2, .inl (ka3_2, 3, .inl (fa3_2)))]) hP hD hCc hk1 hFc hP1 hD1 [.inl 0, .inr 0, .inl 2, .inl 3, .inl 4, .inl 5] (by decide +kernel) rfl (fun hP hD => ?_)
  rcases hw with hw | hw
  · subst hw
    refine lv_if_eq (tgt := 9) hx hb dX0_step_5 (by decide) (fun c5 => absurd c5 (by decide +kernel)) (fun _ => ?_)
    exact W.vret hx hb hr (fun t ht hW => ⟨⟨(), rfl, trivial, a1_3, a1_4, fa1_5, by rw [ht]; exact hP, va_K.moved hW.alike hK, hD⟩, hS.F ht⟩) hS.2.2 dX0_step_8
  · subst hw
    refine lv_if_eq (tgt := 9) hx hb dX0_step_5 (by decide) (fun _ => ?_) (fun c5 => absurd (by decide +kernel) c5)
    refine lv_aload_n hx hb dX0_step_9 rfl (lv_at hl 0 rfl) ?_
    refine lv_aload_n hx hb dX0_step_10 rfl (lv_at hl 1 rfl) ?_
    refine va_get (D := (dC, dI)) (ci := 5) (v := .ref a1_5) (C := RX5) (T := TX5) (N := 7) hx hb hts zi_X0_step_5 hown hK hP 1 rfl rfl 5 (by decide) (hts (.fieldLink RX0 99 "WaxTurns$Scene" "places" "[I") (zm_X0_step_r1 (List.mem_of_getElem? (i := 0) rfl))) (fun _ h9 => h9) rfl dX0_step_11 ?_
    refine lv_iload_n hx hb dX0_step_14 rfl (lv_at hl 2 rfl) ?_
    refine va_iald hx hb hK hP 2 0 rfl rfl (ai_in ba2_l ba2_u (by decide) (by decide)) dX0_step_15 ?_
    refine lv_topi (fun x15 ex15 => ?_)
    refine va_calli (va_runV (As := [.int x15]) (rest := []) ⟨hx, hb, hml, hown, hts⟩ (c_X0_nearer l dC dI H.size a0 x15 a0g_0 a0g_1 a0g_3 a0g_4 a0g_5 a0g_6 a0g_7 a0g_8 a0g_9 a0g_10 a0g_11 a0g_12 a0g_13 a0g_14 a0_2 ) (cwV 1 hts gX0_step_X0_nearer rfl rfl rfl zd_X0_nearer ⟨Nat.le_of_ble_eq_true rfl, Nat.le_of_ble_eq_true rfl⟩) ⟨ax_blind (fun _ _ _ _ _ => trivial), zr_0 (zp_K hK) (zp_P1 hP) (q0 := 0) rfl, ax_pre (zp_P1 hP) (zp_K hK) (zp_D1 hD) (fun _ _ => trivial)⟩ rfl rfl hl.1 rfl (lv_room (Nat.le_of_ble_eq_true rfl)) dX0_step_16 ⟨Nat.le_of_ble_eq_true rfl, Nat.le_of_ble_eq_true rfl⟩) hS (fun q _ h => zp_F1 hD hS hA q h) (zp_F1 hD hS hA) (fun r16 u t H locs ht hvm hw hB hz1 hk1 hS1 => zo1 hB ht hP hD hk1 (zp_F1 hD hS hA) hS1 (fun hP hK1 hD hS => ?_))
    refine lv_istore (lv' := [(4, .int r16), (0, .ref a0), (1, .ref a1), (2, .int a2), (3, .ref a3)]) hx hb dX0_step_19 hl (by decide) rfl (fun ls hl => ?_)
    refine lv_aload_n hx hb dX0_step_21 rfl (lv_at hl 4 rfl) ?_
    refine lv_aload_n hx hb dX0_step_22 rfl (lv_at hl 2 rfl) ?_
    refine va_get (D := (dC, dI)) (ci := 5) (v := .int a1_0) (C := RX5) (T := TX5) (N := 7) hx hb hts zi_X0_step_5 hown hK hP 1 rfl rfl 0 (by decide) (hts (.fieldLink RX0 102 "WaxTurns$Scene" "minute" "I") (zm_X0_step_r1 (List.mem_of_getElem? (i := 1) rfl))) (fun _ h9 => h9) rfl dX0_step_23 ?_
    refine zc_cutc (wc := [(a3, .inr (6, [.int a3_0, .int a3_1, .ref a3_2, .ref a3_3])), (a3_3, .inl (ka3_3, 3, .inl (fa3_3))), (a3_2, .inl (ka3_2, 3, .inl (fa3_2)))]) hP hD hS hA [3, 4, 5] (by decide +kernel) rfl (fun hPc hDc hFc hCc => ?_)
    have hKc := hK.sub (tys' := [(ka3_3, .int), (ka3_2, .int)]) [1, 2] rfl
    refine va_calli (va_runV (As := [.int a1_0]) (rest := []) ⟨hx, hb, hml, hown, hts⟩ (c_X6_placesIn l dC dI H.size a3 a1_0 a3_0 a3_1 a3_2 a3_3 ka3_3 fa3_3 ka3_2 fa3_2 ba3_0_l ba3_0_u bfa3_3 bfa3_2) (cwV 1 hts gX0_step_X6_placesIn rfl rfl rfl zd_X6_placesIn ⟨Nat.le_of_ble_eq_true rfl, Nat.le_of_ble_eq_true rfl⟩) ⟨ax_blind (fun _ _ _ _ _ => trivial), zr_6 hKc hPc (q0 := 0) rfl, ax_pre hPc hKc hDc (fun _ _ => trivial)⟩ rfl rfl hl.1 rfl (lv_room (Nat.le_of_ble_eq_true rfl)) dX0_step_26 ⟨Nat.le_of_ble_eq_true rfl, Nat.le_of_ble_eq_true rfl⟩) hS (fun q _ h => hFc q h) hFc (fun r26 u t H locs ht hvm hw hB hz1 hk1 hS1 => zo hB ht hS1 (fun hP1 hK1 hD1 hS => ?_))
    refine zc_backc (w := [(a0, .inr (0, [a0g_0, a0g_1, .int a0_2, a0g_3, a0g_4, a0g_5, a0g_6, a0g_7, a0g_8, a0g_9, a0g_10, a0g_11, a0g_12, a0g_13, a0g_14])), (a1, .inr (5, [.int a1_0, a1g_1, a1g_2, .int a1_3, .int a1_4, .ref a1_5, a1g_6])), (a1_5, .inl (ka1_5, 9, .inl (fa1_5))), (a3, .inr (6, [.int a3_0, .int a3_1, .ref a3_2, .ref a3_3])), (a3_3, .inl (ka3_3, 3, .inl (fa3_3))), (a3_2, .inl (ka3_2, 3, .inl (fa3_2)))]) hP hD hCc hk1 hFc hP1 hD1 [.inl 0, .inl 1, .inl 2, .inr 0, .inr 1, .inr 2] (by decide +kernel) rfl (fun hP hD => ?_)
    refine lv_iload hx hb dX0_step_29 (lv_at hl 0 rfl) ?_
    refine va_calli (va_runSN (As := [.int r26, .int r16]) (rest := []) ⟨hx, hb, hml, hown, hts⟩ (c_X7_hasBit l dC dI H.size r26 r16 ) ⟨va_cnB 2 hts gX0_step_X7_hasBit_n129 rfl rfl rfl hE1 (hts (.initialized RX7) (zm_X0_step_r1 (List.mem_of_getElem? (i := 12) rfl))) zd_X7_hasBit.2 ⟨Nat.le_of_ble_eq_true rfl, Nat.le_of_ble_eq_true rfl⟩, (hts (.static yX7_hasBit) (zm_X0_step_r1 (List.mem_of_getElem? (i := 11) rfl))), trivial⟩ ⟨ax_blind (fun _ _ _ _ _ => trivial), ax_pre (zp_P0 hP) (zp_K hK) (zp_D0 hD) (fun _ _ => trivial)⟩ rfl rfl hl.1 rfl (lv_room (Nat.le_of_ble_eq_true rfl)) dX0_step_31 ⟨Nat.le_of_ble_eq_true rfl, Nat.le_of_ble_eq_true rfl⟩) hS (fun q _ h => zp_F0 hD hS hA q h) (zp_F0 hD hS hA) (fun r31 u t H locs ht hvm hw hB hz1 hk1 hS1 => zo0 hB ht hP hD hk1 (zp_F0 hD hS hA) hS1 (fun hP hK1 hD hS => ?_))
    rcases hw with hw | hw
    · subst hw
      refine lv_if_eq (tgt := 53) hx hb dX0_step_34 (by decide) (fun c34 => absurd c34 (by decide +kernel)) (fun _ => ?_)
      refine lv_aload_n hx hb dX0_step_37 rfl (lv_at hl 2 rfl) ?_
      refine lv_dup hx hb dX0_step_38 rfl ?_
      refine va_get (D := (dC, dI)) (ci := 5) (v := .int a1_4) (C := RX5) (T := TX5) (N := 7) hx hb hts zi_X0_step_5 hown hK hP 1 rfl rfl 4 (by decide) (hts (.fieldLink RX0 132 "WaxTurns$Scene" "catchCount" "I") (zm_X0_step_r1 (List.mem_of_getElem? (i := 2) rfl))) (fun _ h9 => h9) rfl dX0_step_39 ?_
      refine lv_iconst (v := 1) hx hb dX0_step_42 zk_iconst_1 ?_
      refine lv_iadd hx hb dX0_step_43 ?_
      refine lv_topi (fun x43 ex43 => ?_)
      refine va_put (D := (dC, dI)) (ci := 5) (v := .int x43) (ty := .int) (C := RX5) (T := TX5) (N := 7) hx hb hts zi_X0_step_5 tyX5 tyX5_ok nmX5 hown hK hP hD hS 1 rfl rfl 4 (by decide) (hts (.fieldLink RX0 132 "WaxTurns$Scene" "catchCount" "I") (zm_X0_step_r1 (List.mem_of_getElem? (i := 2) rfl))) (fun _ h9 => h9) rfl (tyX5_ok 4 (by decide)) rfl rfl (Nat.le_of_ble_eq_true rfl) dX0_step_44 (fun H locs hP hD hS => ?_)
      refine zs_1 (y := (a1, .inr (5, [.int a1_0, a1g_1, a1g_2, .int a1_3, .int x43, .ref a1_5, a1g_6]))) hP hD rfl (fun hP hD => ?_)
      refine lv_iload_n hx hb dX0_step_47 rfl (lv_at hl 3 rfl) ?_
      refine lv_istore (lv' := [(4, .int a2), (0, .ref a0), (1, .ref a1), (2, .int a2), (3, .ref a3)]) hx hb dX0_step_48 hl (by decide) rfl (fun ls hl => ?_)
      refine lv_goto (tgt := 74) hx hb dX0_step_50 (by decide) ?_
      refine lv_aload_n hx hb dX0_step_74 rfl (lv_at hl 2 rfl) ?_
      refine va_get (D := (dC, dI)) (ci := 5) (v := .ref a1_5) (C := RX5) (T := TX5) (N := 7) hx hb hts zi_X0_step_5 hown hK hP 1 rfl rfl 5 (by decide) (hts (.fieldLink RX0 99 "WaxTurns$Scene" "places" "[I") (zm_X0_step_r1 (List.mem_of_getElem? (i := 0) rfl))) (fun _ h9 => h9) rfl dX0_step_75 ?_
      refine lv_iload_n hx hb dX0_step_78 rfl (lv_at hl 3 rfl) ?_
      refine lv_iload hx hb dX0_step_79 (lv_at hl 0 rfl) ?_
      refine va_iast hx hb hK hP hD hS 2 0 rfl rfl (ai_in ba2_l ba2_u (by decide) (by decide)) dX0_step_81 (fun H locs hP hD hS => ?_)
      obtain ⟨f81, hP, hD⟩ : ∃ f81 : Nat → Int32, va_P (dC, dI) vwCl [(a0, .inr (0, [a0g_0, a0g_1, .int a0_2, a0g_3, a0g_4, a0g_5, a0g_6, a0g_7, a0g_8, a0g_9, a0g_10, a0g_11, a0g_12, a0g_13, a0g_14])), (a1, .inr (5, [.int a1_0, a1g_1, a1g_2, .int a1_3, .int x43, .ref a1_5, a1g_6])), (a1_5, .inl (ka1_5, 9, .inl (f81))), (a3, .inr (6, [.int a3_0, .int a3_1, .ref a3_2, .ref a3_3])), (a3_3, .inl (ka3_3, 3, .inl (fa3_3))), (a3_2, .inl (ka3_2, 3, .inl (fa3_2)))] H ∧ va_D A [(a0, .inr (0, [a0g_0, a0g_1, .int a0_2, a0g_3, a0g_4, a0g_5, a0g_6, a0g_7, a0g_8, a0g_9, a0g_10, a0g_11, a0g_12, a0g_13, a0g_14])), (a1, .inr (5, [.int a1_0, a1g_1, a1g_2, .int a1_3, .int x43, .ref a1_5, a1g_6])), (a1_5, .inl (ka1_5, 9, .inl (f81))), (a3, .inr (6, [.int a3_0, .int a3_1, .ref a3_2, .ref a3_3])), (a3_3, .inl (ka3_3, 3, .inl (fa3_3))), (a3_2, .inl (ka3_2, 3, .inl (fa3_2)))] := ⟨_, hP, hD⟩
      exact W.vret hx hb hr (fun t ht hW => ⟨⟨(), rfl, trivial, a1_3, x43, f81, by rw [ht]; exact hP, va_K.moved hW.alike hK, hD⟩, hS.F ht⟩) hS.2.2 dX0_step_82
    · subst hw
      refine lv_if_eq (tgt := 53) hx hb dX0_step_34 (by decide) (fun _ => ?_) (fun c34 => absurd (by decide +kernel) c34)
      refine lv_iload hx hb dX0_step_53 (lv_at hl 0 rfl) ?_
      refine lv_aload_n hx hb dX0_step_55 rfl (lv_at hl 1 rfl) ?_
      refine va_get (D := (dC, dI)) (ci := 0) (v := .int a0_2) (C := RX0) (T := TX0) (N := 15) hx hb hts zi_X0_step_0 hown hK hP 0 rfl rfl 2 (by decide) (hts (.fieldLink RX0 51 "WaxTurns$Hall" "stairsPlace" "I") (zm_X0_step_r1 (List.mem_of_getElem? (i := 3) rfl))) (fun _ h9 => h9) rfl dX0_step_56 ?_
      refine lv_icmp_ne (tgt := 74) hx hb dX0_step_59 (by decide) (fun c59 => ?_) (fun c59 => ?_)
      · have gc59 := ai_ne c59
        refine lv_aload_n hx hb dX0_step_74 rfl (lv_at hl 2 rfl) ?_
        refine va_get (D := (dC, dI)) (ci := 5) (v := .ref a1_5) (C := RX5) (T := TX5) (N := 7) hx hb hts zi_X0_step_5 hown hK hP 1 rfl rfl 5 (by decide) (hts (.fieldLink RX0 99 "WaxTurns$Scene" "places" "[I") (zm_X0_step_r1 (List.mem_of_getElem? (i := 0) rfl))) (fun _ h9 => h9) rfl dX0_step_75 ?_
        refine lv_iload_n hx hb dX0_step_78 rfl (lv_at hl 3 rfl) ?_
        refine lv_iload hx hb dX0_step_79 (lv_at hl 0 rfl) ?_
        refine va_iast hx hb hK hP hD hS 2 0 rfl rfl (ai_in ba2_l ba2_u (by decide) (by decide)) dX0_step_81 (fun H locs hP hD hS => ?_)
        obtain ⟨f81, hP, hD⟩ : ∃ f81 : Nat → Int32, va_P (dC, dI) vwCl [(a0, .inr (0, [a0g_0, a0g_1, .int a0_2, a0g_3, a0g_4, a0g_5, a0g_6, a0g_7, a0g_8, a0g_9, a0g_10, a0g_11, a0g_12, a0g_13, a0g_14])), (a1, .inr (5, [.int a1_0, a1g_1, a1g_2, .int a1_3, .int a1_4, .ref a1_5, a1g_6])), (a1_5, .inl (ka1_5, 9, .inl (f81))), (a3, .inr (6, [.int a3_0, .int a3_1, .ref a3_2, .ref a3_3])), (a3_3, .inl (ka3_3, 3, .inl (fa3_3))), (a3_2, .inl (ka3_2, 3, .inl (fa3_2)))] H ∧ va_D A [(a0, .inr (0, [a0g_0, a0g_1, .int a0_2, a0g_3, a0g_4, a0g_5, a0g_6, a0g_7, a0g_8, a0g_9, a0g_10, a0g_11, a0g_12, a0g_13, a0g_14])), (a1, .inr (5, [.int a1_0, a1g_1, a1g_2, .int a1_3, .int a1_4, .ref a1_5, a1g_6])), (a1_5, .inl (ka1_5, 9, .inl (f81))), (a3, .inr (6, [.int a3_0, .int a3_1, .ref a3_2, .ref a3_3])), (a3_3, .inl (ka3_3, 3, .inl (fa3_3))), (a3_2, .inl (ka3_2, 3, .inl (fa3_2)))] := ⟨_, hP, hD⟩
        exact W.vret hx hb hr (fun t ht hW => ⟨⟨(), rfl, trivial, a1_3, a1_4, f81, by rw [ht]; exact hP, va_K.moved hW.alike hK, hD⟩, hS.F ht⟩) hS.2.2 dX0_step_82
      · have gc59 := ai_eq c59
        refine lv_aload_n hx hb dX0_step_62 rfl (lv_at hl 2 rfl) ?_
        refine lv_dup hx hb dX0_step_63 rfl ?_
        refine va_get (D := (dC, dI)) (ci := 5) (v := .int a1_3) (C := RX5) (T := TX5) (N := 7) hx hb hts zi_X0_step_5 hown hK hP 1 rfl rfl 3 (by decide) (hts (.fieldLink RX0 135 "WaxTurns$Scene" "goneBits" "I") (zm_X0_step_r1 (List.mem_of_getElem? (i := 4) rfl))) (fun _ h9 => h9) rfl dX0_step_64 ?_
        refine lv_iconst (v := 1) hx hb dX0_step_67 zk_iconst_1 ?_
        refine lv_iload_n hx hb dX0_step_68 rfl (lv_at hl 3 rfl) ?_
        refine lv_ishl hx hb dX0_step_69 ?_
        refine lv_topi (fun x69 ex69 => ?_)
        refine lv_ior hx hb dX0_step_70 ?_
        refine lv_topi (fun x70 ex70 => ?_)
        refine va_put (D := (dC, dI)) (ci := 5) (v := .int x70) (ty := .int) (C := RX5) (T := TX5) (N := 7) hx hb hts zi_X0_step_5 tyX5 tyX5_ok nmX5 hown hK hP hD hS 1 rfl rfl 3 (by decide) (hts (.fieldLink RX0 135 "WaxTurns$Scene" "goneBits" "I") (zm_X0_step_r1 (List.mem_of_getElem? (i := 4) rfl))) (fun _ h9 => h9) rfl (tyX5_ok 3 (by decide)) rfl rfl (Nat.le_of_ble_eq_true rfl) dX0_step_71 (fun H locs hP hD hS => ?_)
        refine zs_1 (y := (a1, .inr (5, [.int a1_0, a1g_1, a1g_2, .int x70, .int a1_4, .ref a1_5, a1g_6]))) hP hD rfl (fun hP hD => ?_)
        refine lv_aload_n hx hb dX0_step_74 rfl (lv_at hl 2 rfl) ?_
        refine va_get (D := (dC, dI)) (ci := 5) (v := .ref a1_5) (C := RX5) (T := TX5) (N := 7) hx hb hts zi_X0_step_5 hown hK hP 1 rfl rfl 5 (by decide) (hts (.fieldLink RX0 99 "WaxTurns$Scene" "places" "[I") (zm_X0_step_r1 (List.mem_of_getElem? (i := 0) rfl))) (fun _ h9 => h9) rfl dX0_step_75 ?_
        refine lv_iload_n hx hb dX0_step_78 rfl (lv_at hl 3 rfl) ?_
        refine lv_iload hx hb dX0_step_79 (lv_at hl 0 rfl) ?_
        refine va_iast hx hb hK hP hD hS 2 0 rfl rfl (ai_in ba2_l ba2_u (by decide) (by decide)) dX0_step_81 (fun H locs hP hD hS => ?_)
        obtain ⟨f81, hP, hD⟩ : ∃ f81 : Nat → Int32, va_P (dC, dI) vwCl [(a0, .inr (0, [a0g_0, a0g_1, .int a0_2, a0g_3, a0g_4, a0g_5, a0g_6, a0g_7, a0g_8, a0g_9, a0g_10, a0g_11, a0g_12, a0g_13, a0g_14])), (a1, .inr (5, [.int a1_0, a1g_1, a1g_2, .int x70, .int a1_4, .ref a1_5, a1g_6])), (a1_5, .inl (ka1_5, 9, .inl (f81))), (a3, .inr (6, [.int a3_0, .int a3_1, .ref a3_2, .ref a3_3])), (a3_3, .inl (ka3_3, 3, .inl (fa3_3))), (a3_2, .inl (ka3_2, 3, .inl (fa3_2)))] H ∧ va_D A [(a0, .inr (0, [a0g_0, a0g_1, .int a0_2, a0g_3, a0g_4, a0g_5, a0g_6, a0g_7, a0g_8, a0g_9, a0g_10, a0g_11, a0g_12, a0g_13, a0g_14])), (a1, .inr (5, [.int a1_0, a1g_1, a1g_2, .int x70, .int a1_4, .ref a1_5, a1g_6])), (a1_5, .inl (ka1_5, 9, .inl (f81))), (a3, .inr (6, [.int a3_0, .int a3_1, .ref a3_2, .ref a3_3])), (a3_3, .inl (ka3_3, 3, .inl (fa3_3))), (a3_2, .inl (ka3_2, 3, .inl (fa3_2)))] := ⟨_, hP, hD⟩
        exact W.vret hx hb hr (fun t ht hW => ⟨⟨(), rfl, trivial, x70, a1_4, f81, by rw [ht]; exact hP, va_K.moved hW.alike hK, hD⟩, hS.F ht⟩) hS.2.2 dX0_step_82
end P101_safe
section P102_safe
set_option maxHeartbeats 4000000 in
set_option maxRecDepth 100000 in
theorem c_X0_isHeardAt (l : Launch) (dC : Nat → ClassId) (dI : Nat → Nat → Nat) (sz : Nat) (a1 : Int32) (a2 : Int32)  : zm l yX0_isHeardAt wsX0_isHeardAt ({ frames := 0, cells := 0, slots := 0, locals := 0 }) [.int a1, .int a2] dC dI sz [] [] (fun A _ => True) (fun A => va_Qi (fun (r : Int32) (_ : Unit) => (r = 1) ∨ (r = 0)) (fun (_ : Unit) (t : State) => ax_B dC dI A [] [] t) A) := by
  refine zh (cc := cX0_isHeardAt) (maxL := 2) (ret := (some .boolean)) zn_RX0 rfl (Nat.le_of_ble_eq_true rfl) (fun p e s m below meth c A ls hx hb hml hr hts (hown : s.vm.findClass RX0 = some m.cls) hlocks hA hS hP hK hD hE (hl : lv_has ls 2 [(0, .int a1), (1, .int a2)]) => ?_)
  refine lv_iload_n hx hb dX0_isHeardAt_0 rfl (lv_at hl 1 rfl) ?_
  refine lv_bipush (v := 7) hx hb dX0_isHeardAt_1 zk_bipush_7 ?_
  refine lv_iload_n hx hb dX0_isHeardAt_3 rfl (lv_at hl 0 rfl) ?_
  refine lv_ishl hx hb dX0_isHeardAt_4 ?_
  refine lv_topi (fun x4 ex4 => ?_)
  refine lv_iconst (v := 1) hx hb dX0_isHeardAt_5 zk_iconst_1 ?_
  refine lv_ishr hx hb dX0_isHeardAt_6 ?_
  refine lv_topi (fun x6 ex6 => ?_)
  have qx6 : x6.toInt = x4.toInt / 2 := ai_shr1 ex6
  refine lv_iand hx hb dX0_isHeardAt_7 ?_
  refine lv_topi (fun x7 ex7 => ?_)
  refine lv_if_eq (tgt := 15) hx hb dX0_isHeardAt_8 (by decide) (fun c8 => ?_) (fun c8 => ?_)
  · have gc8 := ai_eq c8
    have u8t_x7 : x7.toInt ≤ (0 : Int) := Int.le_trans (Int.le_of_eq gc8) zq6
    have l8t_x7 : (0 : Int) ≤ x7.toInt := Int.le_trans zq5 (Int.le_of_eq gc8.symm)
    refine lv_iconst (v := 0) hx hb dX0_isHeardAt_15 zk_iconst_0 ?_
    exact W.zret (v := 0) hx hb hr rfl (fun t ht hW => ⟨⟨0, (), rfl, (Or.inr (rfl)), by rw [ht]; exact hP, va_K.moved hW.alike hK, hD⟩, hS.F ht⟩) hS.2.2 dX0_isHeardAt_16
  · have gc8 := ai_ne c8
    refine lv_iconst (v := 1) hx hb dX0_isHeardAt_11 zk_iconst_1 ?_
    refine lv_goto (tgt := 16) hx hb dX0_isHeardAt_12 (by decide) ?_
    exact W.zret (v := 1) hx hb hr rfl (fun t ht hW => ⟨⟨1, (), rfl, (Or.inl (rfl)), by rw [ht]; exact hP, va_K.moved hW.alike hK, hD⟩, hS.F ht⟩) hS.2.2 dX0_isHeardAt_16

set_option maxHeartbeats 4000000 in
set_option maxRecDepth 100000 in
theorem c_X0_partSaid (l : Launch) (dC : Nat → ClassId) (dI : Nat → Nat → Nat) (sz : Nat) (a0 : Nat) (a1 : Int32) (a2 : Int32) (a0g_0 a0g_1 a0g_2 a0g_3 a0g_4 a0g_5 a0g_6 a0g_7 a0g_8 a0g_9 a0g_12 a0g_13 a0g_14 : Value) (a0_10 : Nat) (a0_11 : Nat) (ka0_10 : ClassId) (fa0_10 : Nat → Int32) (ka0_11 : ClassId) (fa0_11 : Nat → Int32)  : zm l yX0_partSaid wsX0_partSaid ({ frames := 1, cells := 0, slots := 0, locals := 22 }) [.ref a0, .int a1, .int a2] dC dI sz [(a0, .inr (0, [a0g_0, a0g_1, a0g_2, a0g_3, a0g_4, a0g_5, a0g_6, a0g_7, a0g_8, a0g_9, .ref a0_10, .ref a0_11, a0g_12, a0g_13, a0g_14])), (a0_10, .inl (ka0_10, 9, .inl (fa0_10))), (a0_11, .inl (ka0_11, 9, .inl (fa0_11)))] [(ka0_10, .int), (ka0_11, .int)] (fun A U => va_Nw (.methodLinkNest RX0 118 yX7_within RX7) U) (fun A => va_Qi (fun (r : Int32) (_ : Unit) => True) (fun (_ : Unit) (t : State) => ax_B dC dI A [(a0, .inr (0, [a0g_0, a0g_1, a0g_2, a0g_3, a0g_4, a0g_5, a0g_6, a0g_7, a0g_8, a0g_9, .ref a0_10, .ref a0_11, a0g_12, a0g_13, a0g_14])), (a0_10, .inl (ka0_10, 9, .inl (fa0_10))), (a0_11, .inl (ka0_11, 9, .inl (fa0_11)))] [(ka0_10, .int), (ka0_11, .int)] t) A) := by
  refine zh (cc := cX0_partSaid) (maxL := 4) (ret := (some .int)) zn_RX0 rfl (Nat.le_of_ble_eq_true rfl) (fun p e s m below meth c A ls hx hb hml hr hts (hown : s.vm.findClass RX0 = some m.cls) hlocks hA hS hP hK hD hE (hl : lv_has ls 4 [(0, .ref a0), (1, .int a1), (2, .int a2)]) => ?_)
  have hE0 := hE
  refine lv_iload_n hx hb dX0_partSaid_0 rfl (lv_at hl 1 rfl) ?_
  refine lv_iconst (v := 0) hx hb dX0_partSaid_1 zk_iconst_0 ?_
  refine lv_bipush (v := 8) hx hb dX0_partSaid_2 zk_bipush_8 ?_
  refine va_calli (va_runSN (As := [.int a1, .int 0, .int 8]) (rest := []) ⟨hx, hb, hml, hown, hts⟩ (c_X7_within l dC dI s.heap.size a1 0 8 ) ⟨va_cnB 3 hts gX0_partSaid_X7_within_n118 rfl rfl rfl hE0 (hts (.initialized RX7) (List.mem_cons_of_mem _ (List.mem_append_left _ (List.mem_of_getElem? (i := 3) rfl)))) zd_X7_within.2 ⟨Nat.le_of_ble_eq_true rfl, Nat.le_of_ble_eq_true rfl⟩, (hts (.static yX7_within) (List.mem_cons_of_mem _ (List.mem_append_left _ (List.mem_of_getElem? (i := 2) rfl)))), trivial⟩ ⟨ax_blind (fun _ _ _ _ _ => trivial), ax_pre (zp_P0 hP) (zp_K hK) (zp_D0 hD) (fun _ _ => trivial)⟩ rfl rfl hl.1 rfl (lv_room (Nat.le_of_ble_eq_true rfl)) dX0_partSaid_4 ⟨Nat.le_of_ble_eq_true rfl, Nat.le_of_ble_eq_true rfl⟩) hS (fun q _ h => zp_F0 hD hS hA q h) (zp_F0 hD hS hA) (fun r4 u t H locs ht hvm hw hB hz1 hk1 hS1 => zo0 hB ht hP hD hk1 (zp_F0 hD hS hA) hS1 (fun hP hK1 hD hS => ?_))
  rcases hw with hw | hw
  · obtain ⟨hw, h4⟩ := hw
    subst hw
    have l4k0_a1 : (0 : Int) ≤ a1.toInt := Int.le_trans zq5 h4.1
    have u4k0_a1 : a1.toInt ≤ (8 : Int) := Int.le_trans h4.2 zq28
    refine lv_if_eq (tgt := 24) hx hb dX0_partSaid_7 (by decide) (fun c7 => absurd c7 (by decide +kernel)) (fun _ => ?_)
    refine lv_aload_n hx hb dX0_partSaid_10 rfl (lv_at hl 0 rfl) ?_
    refine va_get (D := (dC, dI)) (ci := 0) (v := .ref a0_10) (C := RX0) (T := TX0) (N := 15) hx hb hts zi_X0_partSaid_0 hown hK hP 0 rfl rfl 10 (by decide) (hts (.fieldLink RX0 9 "WaxTurns$Hall" "kinds" "[I") (List.mem_cons_of_mem _ (List.mem_append_left _ (List.mem_of_getElem? (i := 0) rfl)))) (fun _ h9 => h9) rfl dX0_partSaid_11 ?_
    refine lv_iload_n hx hb dX0_partSaid_14 rfl (lv_at hl 1 rfl) ?_
    refine va_iald hx hb hK hP 1 0 rfl rfl (ai_in l4k0_a1 u4k0_a1 (by decide) (by decide)) dX0_partSaid_15 ?_
    refine lv_topi (fun x15 ex15 => ?_)
    refine lv_iconst (v := 2) hx hb dX0_partSaid_16 zk_iconst_2 ?_
    refine lv_icmp_ne (tgt := 24) hx hb dX0_partSaid_17 (by decide) (fun c17 => ?_) (fun c17 => ?_)
    · have gc17 := ai_ne c17
      refine lv_iconst (v := 0) hx hb dX0_partSaid_24 zk_iconst_0 ?_
      refine lv_istore_n (lv' := [(3, .int 0), (0, .ref a0), (1, .int a1), (2, .int a2)]) hx hb dX0_partSaid_25 rfl hl (by decide) rfl (fun ls hl => ?_)
      refine lv_iload_n hx hb dX0_partSaid_26 rfl (lv_at hl 0 rfl) ?_
      refine lv_if_eq (tgt := 48) hx hb dX0_partSaid_27 (by decide) (fun _ => ?_) (fun c27 => absurd (by decide +kernel) c27)
      refine lv_iconst (v := 0) hx hb dX0_partSaid_48 zk_iconst_0 ?_
      exact W.iret (v := 0) hx hb hr (fun t ht hW => ⟨⟨0, (), rfl, trivial, by rw [ht]; exact hP, va_K.moved hW.alike hK, hD⟩, hS.F ht⟩) hS.2.2 dX0_partSaid_49
    · have gc17 := ai_eq c17
      have u17f_x15 : x15.toInt ≤ (2 : Int) := Int.le_trans (Int.le_of_eq gc17) zq13
      have l17f_x15 : (2 : Int) ≤ x15.toInt := Int.le_trans zq12 (Int.le_of_eq gc17.symm)
      refine lv_iconst (v := 1) hx hb dX0_partSaid_20 zk_iconst_1 ?_
      refine lv_goto (tgt := 25) hx hb dX0_partSaid_21 (by decide) ?_
      refine lv_istore_n (lv' := [(3, .int 1), (0, .ref a0), (1, .int a1), (2, .int a2)]) hx hb dX0_partSaid_25 rfl hl (by decide) rfl (fun ls hl => ?_)
      refine lv_iload_n hx hb dX0_partSaid_26 rfl (lv_at hl 0 rfl) ?_
      refine lv_if_eq (tgt := 48) hx hb dX0_partSaid_27 (by decide) (fun c27 => absurd c27 (by decide +kernel)) (fun _ => ?_)
      refine lv_iload_n hx hb dX0_partSaid_30 rfl (lv_at hl 3 rfl) ?_
      refine lv_aload_n hx hb dX0_partSaid_31 rfl (lv_at hl 1 rfl) ?_
      refine va_get (D := (dC, dI)) (ci := 0) (v := .ref a0_11) (C := RX0) (T := TX0) (N := 15) hx hb hts zi_X0_partSaid_0 hown hK hP 0 rfl rfl 11 (by decide) (hts (.fieldLink RX0 15 "WaxTurns$Hall" "measures" "[I") (List.mem_cons_of_mem _ (List.mem_append_left _ (List.mem_of_getElem? (i := 1) rfl)))) (fun _ h9 => h9) rfl dX0_partSaid_32 ?_
      refine lv_iload_n hx hb dX0_partSaid_35 rfl (lv_at hl 2 rfl) ?_
      refine va_iald hx hb hK hP 2 1 rfl rfl (ai_in l4k0_a1 u4k0_a1 (by decide) (by decide)) dX0_partSaid_36 ?_
      refine lv_topi (fun x36 ex36 => ?_)
      refine lv_icmp_gt (tgt := 48) hx hb dX0_partSaid_37 (by decide) (fun c37 => ?_) (fun c37 => ?_)
      · have gc37 := ai_lt c37
        have u37t_x36 : x36.toInt ≤ (2147483646 : Int) := ai_lthi gc37 (ai_max a2)
        have l37t_a2 : (-2147483647 : Int) ≤ a2.toInt := ai_ltlo gc37 (ai_min x36)
        refine lv_iconst (v := 0) hx hb dX0_partSaid_48 zk_iconst_0 ?_
        exact W.iret (v := 0) hx hb hr (fun t ht hW => ⟨⟨0, (), rfl, trivial, by rw [ht]; exact hP, va_K.moved hW.alike hK, hD⟩, hS.F ht⟩) hS.2.2 dX0_partSaid_49
      · have gc37 := ai_nlt c37
        refine lv_iconst (v := 1) hx hb dX0_partSaid_40 zk_iconst_1 ?_
        refine lv_iload_n hx hb dX0_partSaid_41 rfl (lv_at hl 3 rfl) ?_
        refine lv_iconst (v := 1) hx hb dX0_partSaid_42 zk_iconst_1 ?_
        refine lv_isub hx hb dX0_partSaid_43 ?_
        refine lv_topi (fun x43 ex43 => ?_)
        refine lv_ishl hx hb dX0_partSaid_44 ?_
        refine lv_topi (fun x44 ex44 => ?_)
        refine lv_goto (tgt := 49) hx hb dX0_partSaid_45 (by decide) ?_
        exact W.iret (v := x44) hx hb hr (fun t ht hW => ⟨⟨x44, (), rfl, trivial, by rw [ht]; exact hP, va_K.moved hW.alike hK, hD⟩, hS.F ht⟩) hS.2.2 dX0_partSaid_49
  · obtain ⟨hw, h4⟩ := hw
    subst hw
    refine lv_if_eq (tgt := 24) hx hb dX0_partSaid_7 (by decide) (fun _ => ?_) (fun c7 => absurd (by decide +kernel) c7)
    refine lv_iconst (v := 0) hx hb dX0_partSaid_24 zk_iconst_0 ?_
    refine lv_istore_n (lv' := [(3, .int 0), (0, .ref a0), (1, .int a1), (2, .int a2)]) hx hb dX0_partSaid_25 rfl hl (by decide) rfl (fun ls hl => ?_)
    refine lv_iload_n hx hb dX0_partSaid_26 rfl (lv_at hl 0 rfl) ?_
    refine lv_if_eq (tgt := 48) hx hb dX0_partSaid_27 (by decide) (fun _ => ?_) (fun c27 => absurd (by decide +kernel) c27)
    refine lv_iconst (v := 0) hx hb dX0_partSaid_48 zk_iconst_0 ?_
    exact W.iret (v := 0) hx hb hr (fun t ht hW => ⟨⟨0, (), rfl, trivial, by rw [ht]; exact hP, va_K.moved hW.alike hK, hD⟩, hS.F ht⟩) hS.2.2 dX0_partSaid_49

set_option maxHeartbeats 4000000 in
set_option maxRecDepth 100000 in
theorem c_X0_pass (l : Launch) (dC : Nat → ClassId) (dI : Nat → Nat → Nat) (sz : Nat) (a0 : Nat) (a1 : Nat) (a2 : Nat) (a0_0 : Int32) (a0_1 : Int32) (a0_2 : Int32) (a0g_3 a0g_4 a0g_7 a0g_8 a0g_9 a0g_12 a0g_13 a0g_14 : Value) (a0_5 : Int32) (a0_6 : Int32) (a0_10 : Nat) (a0_11 : Nat) (a1_0 : Int32) (a1_1 : Int32) (a1_2 : Int32) (a1_3 : Int32) (a1_4 : Int32) (a1_5 : Nat) (a1_6 : Nat) (ka0_10 : ClassId) (fa0_10 : Nat → Int32) (ka0_11 : ClassId) (fa0_11 : Nat → Int32) (ka1_5 : ClassId) (fa1_5 : Nat → Int32) (a2_0 : Int32) (a2_1 : Int32) (a2_2 : Nat) (a2_3 : Nat) (ka2_3 : ClassId) (fa2_3 : Nat → Int32) (ka2_2 : ClassId) (fa2_2 : Nat → Int32) (ka1_6 : ClassId) (fa1_6 : Nat → Int32) (ba0_0_l : (0 : Int) ≤ a0_0.toInt) (ba0_0_u : a0_0.toInt ≤ (9 : Int)) (ba0_5_l : (0 : Int) ≤ a0_5.toInt) (ba0_5_u : a0_5.toInt ≤ (8 : Int)) (ba0_6_l : (0 : Int) ≤ a0_6.toInt) (ba0_6_u : a0_6.toInt ≤ (8 : Int)) (ba1_1_l : (0 : Int) ≤ a1_1.toInt) (ba1_1_u : a1_1.toInt ≤ (8 : Int)) (ba2_0_l : (0 : Int) ≤ a2_0.toInt) (ba2_0_u : a2_0.toInt ≤ (3 : Int)) (bfa2_3 : (∀ k, (0 : Int) ≤ (fa2_3 k).toInt ∧ (fa2_3 k).toInt ≤ 80)) (bfa2_2 : (∀ k, (0 : Int) ≤ (fa2_2 k).toInt ∧ (fa2_2 k).toInt ≤ 80)) : zm l yX0_pass wsX0_pass ({ frames := 3, cells := 0, slots := 0, locals := 73 }) [.ref a0, .ref a1, .ref a2] dC dI sz [(a0, .inr (0, [.int a0_0, .int a0_1, .int a0_2, a0g_3, a0g_4, .int a0_5, .int a0_6, a0g_7, a0g_8, a0g_9, .ref a0_10, .ref a0_11, a0g_12, a0g_13, a0g_14])), (a1, .inr (5, [.int a1_0, .int a1_1, .int a1_2, .int a1_3, .int a1_4, .ref a1_5, .ref a1_6])), (a0_10, .inl (ka0_10, 9, .inl (fa0_10))), (a0_11, .inl (ka0_11, 9, .inl (fa0_11))), (a1_5, .inl (ka1_5, 9, .inl (fa1_5))), (a2, .inr (6, [.int a2_0, .int a2_1, .ref a2_2, .ref a2_3])), (a2_3, .inl (ka2_3, 3, .inl (fa2_3))), (a2_2, .inl (ka2_2, 3, .inl (fa2_2))), (a1_6, .inl (ka1_6, 9, .inl (fa1_6)))] [(ka0_10, .int), (ka0_11, .int), (ka1_5, .int), (ka2_3, .int), (ka2_2, .int), (ka1_6, .int)] (fun A U => va_Nw (.methodLinkNest RX0 118 yX7_within RX7) U ∧ va_Nw (.methodLinkNest RX5 38 yX7_hasBit RX7) U ∧ va_Nw (.methodLinkNest RX0 129 yX7_hasBit RX7) U) (fun A => va_Qv (fun (_ : Unit) => True) (fun (_ : Unit) (t : State) => ∃ na1_0 : Int32, ∃ na1_1 : Int32, ∃ na1_2 : Int32, ∃ na1_3 : Int32, ∃ na1_4 : Int32, ∃ nfa1_5 : Nat → Int32, ∃ nfa1_6 : Nat → Int32, ((0 : Int) ≤ na1_1.toInt ∧ na1_1.toInt ≤ 8) ∧ ax_B dC dI A [(a0, .inr (0, [.int a0_0, .int a0_1, .int a0_2, a0g_3, a0g_4, .int a0_5, .int a0_6, a0g_7, a0g_8, a0g_9, .ref a0_10, .ref a0_11, a0g_12, a0g_13, a0g_14])), (a1, .inr (5, [.int na1_0, .int na1_1, .int na1_2, .int na1_3, .int na1_4, .ref a1_5, .ref a1_6])), (a0_10, .inl (ka0_10, 9, .inl (fa0_10))), (a0_11, .inl (ka0_11, 9, .inl (fa0_11))), (a1_5, .inl (ka1_5, 9, .inl (nfa1_5))), (a2, .inr (6, [.int a2_0, .int a2_1, .ref a2_2, .ref a2_3])), (a2_3, .inl (ka2_3, 3, .inl (fa2_3))), (a2_2, .inl (ka2_2, 3, .inl (fa2_2))), (a1_6, .inl (ka1_6, 9, .inl (nfa1_6)))] [(ka0_10, .int), (ka0_11, .int), (ka1_5, .int), (ka2_3, .int), (ka2_2, .int), (ka1_6, .int)] t) A) := by
  refine zh (cc := cX0_pass) (maxL := 6) (ret := none) zn_RX0 rfl (Nat.le_of_ble_eq_true rfl) (fun p e s m below meth c A ls hx hb hml hr hts (hown : s.vm.findClass RX0 = some m.cls) hlocks hA hS hP hK hD hE (hl : lv_has ls 6 [(0, .ref a0), (1, .ref a1), (2, .ref a2)]) => ?_)
  obtain ⟨hE0, hE1, hE2⟩ := hE
  refine lv_aload_n hx hb dX0_pass_0 rfl (lv_at hl 1 rfl) ?_
  refine va_get (D := (dC, dI)) (ci := 5) (v := .int a1_1) (C := RX5) (T := TX5) (N := 7) hx hb hts zi_X0_pass_5 hown hK hP 1 rfl rfl 1 (by decide) (hts (.fieldLink RX0 79 "WaxTurns$Scene" "turn" "I") (zm_X0_pass_r1 (List.mem_of_getElem? (i := 0) rfl))) (fun _ h9 => h9) rfl dX0_pass_1 ?_
  refine lv_istore_n (lv' := [(3, .int a1_1), (0, .ref a0), (1, .ref a1), (2, .ref a2)]) hx hb dX0_pass_4 rfl hl (by decide) rfl (fun ls hl => ?_)
  refine lv_aload_n hx hb dX0_pass_5 rfl (lv_at hl 2 rfl) ?_
  refine va_get (D := (dC, dI)) (ci := 5) (v := .int a1_2) (C := RX5) (T := TX5) (N := 7) hx hb hts zi_X0_pass_5 hown hK hP 1 rfl rfl 2 (by decide) (hts (.fieldLink RX0 84 "WaxTurns$Scene" "spent" "I") (zm_X0_pass_r1 (List.mem_of_getElem? (i := 1) rfl))) (fun _ h9 => h9) rfl dX0_pass_6 ?_
  refine lv_iconst (v := 1) hx hb dX0_pass_9 zk_iconst_1 ?_
  refine lv_iadd hx hb dX0_pass_10 ?_
  refine lv_topi (fun x10 ex10 => ?_)
  refine lv_istore (lv' := [(4, .int x10), (3, .int a1_1), (0, .ref a0), (1, .ref a1), (2, .ref a2)]) hx hb dX0_pass_11 hl (by decide) rfl (fun ls hl => ?_)
  refine lv_aload_n hx hb dX0_pass_13 rfl (lv_at hl 2 rfl) ?_
  refine lv_iload_n hx hb dX0_pass_14 rfl (lv_at hl 1 rfl) ?_
  refine lv_iload hx hb dX0_pass_15 (lv_at hl 0 rfl) ?_
  refine zc_cutc (wc := [(a0, .inr (0, [.int a0_0, .int a0_1, .int a0_2, a0g_3, a0g_4, .int a0_5, .int a0_6, a0g_7, a0g_8, a0g_9, .ref a0_10, .ref a0_11, a0g_12, a0g_13, a0g_14])), (a0_10, .inl (ka0_10, 9, .inl (fa0_10))), (a0_11, .inl (ka0_11, 9, .inl (fa0_11)))]) hP hD hS hA [0, 2, 3] (by decide +kernel) rfl (fun hPc hDc hFc hCc => ?_)
  have hKc := hK.sub (tys' := [(ka0_10, .int), (ka0_11, .int)]) [0, 1] rfl
  refine va_calli (va_runV (As := [.int a1_1, .int x10]) (rest := []) ⟨hx, hb, hml, hown, hts⟩ (c_X0_stepsIn l dC dI s.heap.size a0 a1_1 x10 (.int a0_0) (.int a0_1) (.int a0_2) a0g_3 a0g_4 (.int a0_5) (.int a0_6) a0g_7 a0g_8 a0g_9 a0g_12 a0g_13 a0g_14 a0_10 a0_11 ka0_10 fa0_10 ka0_11 fa0_11 ) (cwV 2 hts gX0_pass_X0_stepsIn rfl rfl rfl zd_X0_stepsIn ⟨Nat.le_of_ble_eq_true rfl, Nat.le_of_ble_eq_true rfl⟩) ⟨ax_blind (fun _ _ _ _ hq => va_Nw.same rfl rfl (hq)), zr_0 hKc hPc (q0 := 0) rfl, ax_pre hPc hKc hDc (fun _ hW => va_Nw.warmM hW hE0)⟩ rfl rfl hl.1 rfl (lv_room (Nat.le_of_ble_eq_true rfl)) dX0_pass_17 ⟨Nat.le_of_ble_eq_true rfl, Nat.le_of_ble_eq_true rfl⟩) hS (fun q _ h => hFc q h) hFc (fun r17 u t H locs ht hvm hw hB hz1 hk1 hS1 => zo hB ht hS1 (fun hP1 hK1 hD1 hS => ?_))
  refine zc_backc (w := [(a0, .inr (0, [.int a0_0, .int a0_1, .int a0_2, a0g_3, a0g_4, .int a0_5, .int a0_6, a0g_7, a0g_8, a0g_9, .ref a0_10, .ref a0_11, a0g_12, a0g_13, a0g_14])), (a1, .inr (5, [.int a1_0, .int a1_1, .int a1_2, .int a1_3, .int a1_4, .ref a1_5, .ref a1_6])), (a0_10, .inl (ka0_10, 9, .inl (fa0_10))), (a0_11, .inl (ka0_11, 9, .inl (fa0_11))), (a1_5, .inl (ka1_5, 9, .inl (fa1_5))), (a2, .inr (6, [.int a2_0, .int a2_1, .ref a2_2, .ref a2_3])), (a2_3, .inl (ka2_3, 3, .inl (fa2_3))), (a2_2, .inl (ka2_2, 3, .inl (fa2_2))), (a1_6, .inl (ka1_6, 9, .inl (fa1_6)))]) hP hD hCc hk1 hFc hP1 hD1 [.inr 0, .inl 1, .inr 1, .inr 2, .inl 4, .inl 5, .inl 6, .inl 7, .inl 8] (by decide +kernel) rfl (fun hP hD => ?_)
  rcases hw with hw | hw
  · obtain ⟨hw, h17_0, h17_1⟩ := hw
    subst hw
    have l17k0_a1_1 : (0 : Int) ≤ a1_1.toInt := ba1_1_l
    have u17k0_a1_1 : a1_1.toInt ≤ (8 : Int) := ba1_1_u
    refine lv_if_eq (tgt := 30) hx hb dX0_pass_20 (by decide) (fun c20 => absurd c20 (by decide +kernel)) (fun _ => ?_)
    refine lv_aload_n hx hb dX0_pass_23 rfl (lv_at hl 2 rfl) ?_
    refine lv_aload_n hx hb dX0_pass_24 rfl (lv_at hl 3 rfl) ?_
    refine lv_iload_n hx hb dX0_pass_25 rfl (lv_at hl 1 rfl) ?_
    refine lv_aload_n hx hb dX0_pass_26 rfl (lv_at hl 4 rfl) ?_
    refine zc_cutc (wc := [(a0, .inr (0, [.int a0_0, .int a0_1, .int a0_2, a0g_3, a0g_4, .int a0_5, .int a0_6, a0g_7, a0g_8, a0g_9, .ref a0_10, .ref a0_11, a0g_12, a0g_13, a0g_14])), (a1, .inr (5, [.int a1_0, .int a1_1, .int a1_2, .int a1_3, .int a1_4, .ref a1_5, .ref a1_6])), (a1_5, .inl (ka1_5, 9, .inl (fa1_5))), (a2, .inr (6, [.int a2_0, .int a2_1, .ref a2_2, .ref a2_3])), (a2_3, .inl (ka2_3, 3, .inl (fa2_3))), (a2_2, .inl (ka2_2, 3, .inl (fa2_2)))]) hP hD hS hA [0, 1, 4, 5, 6, 7] (by decide +kernel) rfl (fun hPc hDc hFc hCc => ?_)
    have hKc := hK.sub (tys' := [(ka1_5, .int), (ka2_3, .int), (ka2_2, .int)]) [2, 3, 4] rfl
    refine va_callv (va_runV (As := [.ref a1, .int a1_1, .ref a2]) (rest := []) ⟨hx, hb, hml, hown, hts⟩ (c_X0_step l dC dI H.size a0 a1 a1_1 a2 (.int a0_0) (.int a0_1) a0g_3 a0g_4 (.int a0_5) (.int a0_6) a0g_7 a0g_8 a0g_9 (.ref a0_10) (.ref a0_11) a0g_12 a0g_13 a0g_14 a0_2 a1_0 (.int a1_1) (.int a1_2) (.ref a1_6) a1_3 a1_4 a1_5 ka1_5 fa1_5 a2_0 a2_1 a2_2 a2_3 ka2_3 fa2_3 ka2_2 fa2_2 l17k0_a1_1 u17k0_a1_1 ba2_0_l ba2_0_u bfa2_3 bfa2_2) (cwV 3 hts gX0_pass_X0_step rfl rfl rfl zd_X0_step ⟨Nat.le_of_ble_eq_true rfl, Nat.le_of_ble_eq_true rfl⟩) ⟨ax_blind (fun _ _ _ _ hq => ⟨va_Nw.same rfl rfl (hq.1), va_Nw.same rfl rfl (hq.2)⟩), zr_0 hKc hPc (q0 := 0) rfl, ax_pre hPc hKc hDc (fun _ hW => ⟨va_Nw.warmM hW hE1, va_Nw.warmM hW hE2⟩)⟩ rfl rfl hl.1 rfl (lv_room (Nat.le_of_ble_eq_true rfl)) dX0_pass_27 ⟨Nat.le_of_ble_eq_true rfl, Nat.le_of_ble_eq_true rfl⟩) hS (fun q _ h => hFc q h) hFc (fun u t H locs ht hvm hw => zx_3 (fun v27na1_3 v27na1_4 v27nfa1_5 hB hz1 hk1 hS1 => zo hB ht hS1 (fun hP1 hK1 hD1 hS => ?_)))
    refine zc_backc (w := [(a0, .inr (0, [.int a0_0, .int a0_1, .int a0_2, a0g_3, a0g_4, .int a0_5, .int a0_6, a0g_7, a0g_8, a0g_9, .ref a0_10, .ref a0_11, a0g_12, a0g_13, a0g_14])), (a1, .inr (5, [.int a1_0, .int a1_1, .int a1_2, .int v27na1_3, .int v27na1_4, .ref a1_5, .ref a1_6])), (a0_10, .inl (ka0_10, 9, .inl (fa0_10))), (a0_11, .inl (ka0_11, 9, .inl (fa0_11))), (a1_5, .inl (ka1_5, 9, .inl (v27nfa1_5))), (a2, .inr (6, [.int a2_0, .int a2_1, .ref a2_2, .ref a2_3])), (a2_3, .inl (ka2_3, 3, .inl (fa2_3))), (a2_2, .inl (ka2_2, 3, .inl (fa2_2))), (a1_6, .inl (ka1_6, 9, .inl (fa1_6)))]) hP hD hCc hk1 hFc hP1 hD1 [.inr 0, .inr 1, .inl 2, .inl 3, .inr 2, .inr 3, .inr 4, .inr 5, .inl 8] (by decide +kernel) rfl (fun hP hD => ?_)
    refine lv_aload_n hx hb dX0_pass_30 rfl (lv_at hl 2 rfl) ?_
    refine lv_iload_n hx hb dX0_pass_31 rfl (lv_at hl 1 rfl) ?_
    refine lv_iload hx hb dX0_pass_32 (lv_at hl 0 rfl) ?_
    refine zc_cutc (wc := [(a0, .inr (0, [.int a0_0, .int a0_1, .int a0_2, a0g_3, a0g_4, .int a0_5, .int a0_6, a0g_7, a0g_8, a0g_9, .ref a0_10, .ref a0_11, a0g_12, a0g_13, a0g_14])), (a0_10, .inl (ka0_10, 9, .inl (fa0_10))), (a0_11, .inl (ka0_11, 9, .inl (fa0_11)))]) hP hD hS hA [0, 2, 3] (by decide +kernel) rfl (fun hPc hDc hFc hCc => ?_)
    have hKc := hK.sub (tys' := [(ka0_10, .int), (ka0_11, .int)]) [0, 1] rfl
    refine va_calli (va_runV (As := [.int a1_1, .int x10]) (rest := []) ⟨hx, hb, hml, hown, hts⟩ (c_X0_partSaid l dC dI H.size a0 a1_1 x10 (.int a0_0) (.int a0_1) (.int a0_2) a0g_3 a0g_4 (.int a0_5) (.int a0_6) a0g_7 a0g_8 a0g_9 a0g_12 a0g_13 a0g_14 a0_10 a0_11 ka0_10 fa0_10 ka0_11 fa0_11 ) (cwV 2 hts gX0_pass_X0_partSaid rfl rfl rfl zd_X0_partSaid ⟨Nat.le_of_ble_eq_true rfl, Nat.le_of_ble_eq_true rfl⟩) ⟨ax_blind (fun _ _ _ _ hq => va_Nw.same rfl rfl (hq)), zr_0 hKc hPc (q0 := 0) rfl, ax_pre hPc hKc hDc (fun _ hW => va_Nw.warmM hW hE0)⟩ rfl rfl hl.1 rfl (lv_room (Nat.le_of_ble_eq_true rfl)) dX0_pass_34 ⟨Nat.le_of_ble_eq_true rfl, Nat.le_of_ble_eq_true rfl⟩) hS (fun q _ h => hFc q h) hFc (fun r34 u t H locs ht hvm hw hB hz1 hk1 hS1 => zo hB ht hS1 (fun hP1 hK1 hD1 hS => ?_))
    refine zc_backc (w := [(a0, .inr (0, [.int a0_0, .int a0_1, .int a0_2, a0g_3, a0g_4, .int a0_5, .int a0_6, a0g_7, a0g_8, a0g_9, .ref a0_10, .ref a0_11, a0g_12, a0g_13, a0g_14])), (a1, .inr (5, [.int a1_0, .int a1_1, .int a1_2, .int v27na1_3, .int v27na1_4, .ref a1_5, .ref a1_6])), (a0_10, .inl (ka0_10, 9, .inl (fa0_10))), (a0_11, .inl (ka0_11, 9, .inl (fa0_11))), (a1_5, .inl (ka1_5, 9, .inl (v27nfa1_5))), (a2, .inr (6, [.int a2_0, .int a2_1, .ref a2_2, .ref a2_3])), (a2_3, .inl (ka2_3, 3, .inl (fa2_3))), (a2_2, .inl (ka2_2, 3, .inl (fa2_2))), (a1_6, .inl (ka1_6, 9, .inl (fa1_6)))]) hP hD hCc hk1 hFc hP1 hD1 [.inr 0, .inl 1, .inr 1, .inr 2, .inl 4, .inl 5, .inl 6, .inl 7, .inl 8] (by decide +kernel) rfl (fun hP hD => ?_)
    refine lv_istore (lv' := [(5, .int r34), (4, .int x10), (3, .int a1_1), (0, .ref a0), (1, .ref a1), (2, .ref a2)]) hx hb dX0_pass_37 hl (by decide) rfl (fun ls hl => ?_)
    refine lv_iload hx hb dX0_pass_39 (lv_at hl 0 rfl) ?_
    refine lv_if_eq (tgt := 75) hx hb dX0_pass_41 (by decide) (fun c41 => ?_) (fun c41 => ?_)
    · have gc41 := ai_eq c41
      have u41t_r34 : r34.toInt ≤ (0 : Int) := Int.le_trans (Int.le_of_eq gc41) zq6
      have l41t_r34 : (0 : Int) ≤ r34.toInt := Int.le_trans zq5 (Int.le_of_eq gc41.symm)
      refine lv_aload_n hx hb dX0_pass_75 rfl (lv_at hl 4 rfl) ?_
      refine lv_dup hx hb dX0_pass_76 rfl ?_
      refine va_get (D := (dC, dI)) (ci := 5) (v := .int a1_0) (C := RX5) (T := TX5) (N := 7) hx hb hts zi_X0_pass_5 hown hK hP 1 rfl rfl 0 (by decide) (hts (.fieldLink RX0 102 "WaxTurns$Scene" "minute" "I") (zm_X0_pass_r1 (List.mem_of_getElem? (i := 3) rfl))) (fun _ h9 => h9) rfl dX0_pass_77 ?_
      refine lv_iconst (v := 1) hx hb dX0_pass_80 zk_iconst_1 ?_
      refine lv_iadd hx hb dX0_pass_81 ?_
      refine lv_topi (fun x81 ex81 => ?_)
      refine va_put (D := (dC, dI)) (ci := 5) (v := .int x81) (ty := .int) (C := RX5) (T := TX5) (N := 7) hx hb hts zi_X0_pass_5 tyX5 tyX5_ok nmX5 hown hK hP hD hS 1 rfl rfl 0 (by decide) (hts (.fieldLink RX0 102 "WaxTurns$Scene" "minute" "I") (zm_X0_pass_r1 (List.mem_of_getElem? (i := 3) rfl))) (fun _ h9 => h9) rfl (tyX5_ok 0 (by decide)) rfl rfl (Nat.le_of_ble_eq_true rfl) dX0_pass_82 (fun H locs hP hD hS => ?_)
      refine zs_1 (y := (a1, .inr (5, [.int x81, .int a1_1, .int a1_2, .int v27na1_3, .int v27na1_4, .ref a1_5, .ref a1_6]))) hP hD rfl (fun hP hD => ?_)
      refine lv_aload_n hx hb dX0_pass_85 rfl (lv_at hl 4 rfl) ?_
      refine lv_iload hx hb dX0_pass_86 (lv_at hl 1 rfl) ?_
      refine va_put (D := (dC, dI)) (ci := 5) (v := .int x10) (ty := .int) (C := RX5) (T := TX5) (N := 7) hx hb hts zi_X0_pass_5 tyX5 tyX5_ok nmX5 hown hK hP hD hS 1 rfl rfl 2 (by decide) (hts (.fieldLink RX0 84 "WaxTurns$Scene" "spent" "I") (zm_X0_pass_r1 (List.mem_of_getElem? (i := 1) rfl))) (fun _ h9 => h9) rfl (tyX5_ok 2 (by decide)) rfl rfl (Nat.le_of_ble_eq_true rfl) dX0_pass_88 (fun H locs hP hD hS => ?_)
      refine zs_1 (y := (a1, .inr (5, [.int x81, .int a1_1, .int x10, .int v27na1_3, .int v27na1_4, .ref a1_5, .ref a1_6]))) hP hD rfl (fun hP hD => ?_)
      refine lv_iload hx hb dX0_pass_91 (lv_at hl 1 rfl) ?_
      refine lv_aload_n hx hb dX0_pass_93 rfl (lv_at hl 3 rfl) ?_
      refine va_get (D := (dC, dI)) (ci := 0) (v := .int a0_1) (C := RX0) (T := TX0) (N := 15) hx hb hts zi_X0_pass_0 hown hK hP 0 rfl rfl 1 (by decide) (hts (.fieldLink RX0 48 "WaxTurns$Hall" "span" "I") (zm_X0_pass_r1 (List.mem_of_getElem? (i := 5) rfl))) (fun _ h9 => h9) rfl dX0_pass_94 ?_
      refine lv_icmp_lt (tgt := 109) hx hb dX0_pass_97 (by decide) (fun c97 => ?_) (fun c97 => ?_)
      · have gc97 := ai_lt c97
        have u97t_x10 : x10.toInt ≤ (2147483646 : Int) := ai_lthi gc97 (ai_max a0_1)
        have l97t_a0_1 : (-2147483647 : Int) ≤ a0_1.toInt := ai_ltlo gc97 (ai_min x10)
        exact W.vret hx hb hr (fun t ht hW => ⟨⟨(), rfl, trivial, x81, a1_1, x10, v27na1_3, v27na1_4, v27nfa1_5, fa1_6, ⟨l17k0_a1_1, u17k0_a1_1⟩, by rw [ht]; exact hP, va_K.moved hW.alike hK, hD⟩, hS.F ht⟩) hS.2.2 dX0_pass_109
      · have gc97 := ai_nlt c97
        refine lv_aload_n hx hb dX0_pass_100 rfl (lv_at hl 4 rfl) ?_
        refine lv_aload_n hx hb dX0_pass_101 rfl (lv_at hl 3 rfl) ?_
        refine lv_iload_n hx hb dX0_pass_102 rfl (lv_at hl 2 rfl) ?_
        refine va_calli (va_runV (As := [.int a1_1]) (rest := [.ref a1]) ⟨hx, hb, hml, hown, hts⟩ (c_X0_next l dC dI H.size a0 a1_1 a0_0 (.int a0_1) (.int a0_2) a0g_3 a0g_4 a0g_7 a0g_8 a0g_9 (.ref a0_10) (.ref a0_11) a0g_12 a0g_13 a0g_14 a0_5 a0_6 l17k0_a1_1 u17k0_a1_1 ba0_0_l ba0_0_u ba0_5_l ba0_5_u ba0_6_l ba0_6_u) (cwV 1 hts gX0_pass_X0_next rfl rfl rfl zd_X0_next ⟨Nat.le_of_ble_eq_true rfl, Nat.le_of_ble_eq_true rfl⟩) ⟨ax_blind (fun _ _ _ _ _ => trivial), zr_0 (zp_K hK) (zp_P1 hP) (q0 := 0) rfl, ax_pre (zp_P1 hP) (zp_K hK) (zp_D1 hD) (fun _ _ => trivial)⟩ rfl rfl hl.1 rfl (lv_room (Nat.le_of_ble_eq_true rfl)) dX0_pass_103 ⟨Nat.le_of_ble_eq_true rfl, Nat.le_of_ble_eq_true rfl⟩) hS (fun q _ h => zp_F1 hD hS hA q h) (zp_F1 hD hS hA) (fun r103 u t H locs ht hvm hw hB hz1 hk1 hS1 => zo1 hB ht hP hD hk1 (zp_F1 hD hS hA) hS1 (fun hP hK1 hD hS => ?_))
        have hw : (0 : Int) ≤ r103.toInt ∧ r103.toInt ≤ (8 : Int) := hw
        obtain ⟨h103_0, h103_1⟩ := hw
        refine zc_cutc (wc := [(a1, .inr (5, [.int x81, .int a1_1, .int x10, .int v27na1_3, .int v27na1_4, .ref a1_5, .ref a1_6]))]) hP hD hS hA [1] (by decide +kernel) rfl (fun hPc hDc hFc hCc => ?_)
        have hKc := zp_K hK
        refine va_callv (va_runV (As := [.int r103]) (rest := []) ⟨hx, hb, hml, hown, hts⟩ (c_X5_startTurn l dC dI H.size a1 r103 (.int x81) (.int v27na1_3) (.int v27na1_4) (.ref a1_5) (.ref a1_6) a1_1 x10 h103_0 h103_1 l17k0_a1_1 u17k0_a1_1) (cwV 1 hts gX0_pass_X5_startTurn rfl rfl rfl zd_X5_startTurn ⟨Nat.le_of_ble_eq_true rfl, Nat.le_of_ble_eq_true rfl⟩) ⟨ax_blind (fun _ _ _ _ _ => trivial), zr_5 hKc hPc (q0 := 0) rfl, ax_pre hPc hKc hDc (fun _ _ => trivial)⟩ rfl rfl hl.1 rfl (lv_room (Nat.le_of_ble_eq_true rfl)) dX0_pass_106 ⟨Nat.le_of_ble_eq_true rfl, Nat.le_of_ble_eq_true rfl⟩) hS (fun q _ h => hFc q h) hFc (fun u t H locs ht hvm hw => zx_2 (fun v106na0_1 v106na0_2 => zy_1 (fun bv106na0_1 hB hz1 hk1 hS1 => zo hB ht hS1 (fun hP1 hK1 hD1 hS => ?_))))
        refine zc_backc (w := [(a0, .inr (0, [.int a0_0, .int a0_1, .int a0_2, a0g_3, a0g_4, .int a0_5, .int a0_6, a0g_7, a0g_8, a0g_9, .ref a0_10, .ref a0_11, a0g_12, a0g_13, a0g_14])), (a1, .inr (5, [.int x81, .int v106na0_1, .int v106na0_2, .int v27na1_3, .int v27na1_4, .ref a1_5, .ref a1_6])), (a0_10, .inl (ka0_10, 9, .inl (fa0_10))), (a0_11, .inl (ka0_11, 9, .inl (fa0_11))), (a1_5, .inl (ka1_5, 9, .inl (v27nfa1_5))), (a2, .inr (6, [.int a2_0, .int a2_1, .ref a2_2, .ref a2_3])), (a2_3, .inl (ka2_3, 3, .inl (fa2_3))), (a2_2, .inl (ka2_2, 3, .inl (fa2_2))), (a1_6, .inl (ka1_6, 9, .inl (fa1_6)))]) hP hD hCc hk1 hFc hP1 hD1 [.inl 0, .inr 0, .inl 2, .inl 3, .inl 4, .inl 5, .inl 6, .inl 7, .inl 8] (by decide +kernel) rfl (fun hP hD => ?_)
        exact W.vret hx hb hr (fun t ht hW => ⟨⟨(), rfl, trivial, x81, v106na0_1, v106na0_2, v27na1_3, v27na1_4, v27nfa1_5, fa1_6, ⟨bv106na0_1.1, bv106na0_1.2⟩, by rw [ht]; exact hP, va_K.moved hW.alike hK, hD⟩, hS.F ht⟩) hS.2.2 dX0_pass_109
    · have gc41 := ai_ne c41
      refine lv_aload_n hx hb dX0_pass_44 rfl (lv_at hl 4 rfl) ?_
      refine va_get (D := (dC, dI)) (ci := 5) (v := .ref a1_5) (C := RX5) (T := TX5) (N := 7) hx hb hts zi_X0_pass_5 hown hK hP 1 rfl rfl 5 (by decide) (hts (.fieldLink RX0 99 "WaxTurns$Scene" "places" "[I") (zm_X0_pass_r1 (List.mem_of_getElem? (i := 2) rfl))) (fun _ h9 => h9) rfl dX0_pass_45 ?_
      refine lv_iload_n hx hb dX0_pass_48 rfl (lv_at hl 2 rfl) ?_
      refine va_iald hx hb hK hP 4 2 rfl rfl (ai_in l17k0_a1_1 u17k0_a1_1 (by decide) (by decide)) dX0_pass_49 ?_
      refine lv_topi (fun x49 ex49 => ?_)
      refine lv_aload_n hx hb dX0_pass_50 rfl (lv_at hl 5 rfl) ?_
      refine lv_aload_n hx hb dX0_pass_51 rfl (lv_at hl 4 rfl) ?_
      refine va_get (D := (dC, dI)) (ci := 5) (v := .int a1_0) (C := RX5) (T := TX5) (N := 7) hx hb hts zi_X0_pass_5 hown hK hP 1 rfl rfl 0 (by decide) (hts (.fieldLink RX0 102 "WaxTurns$Scene" "minute" "I") (zm_X0_pass_r1 (List.mem_of_getElem? (i := 3) rfl))) (fun _ h9 => h9) rfl dX0_pass_52 ?_
      refine zc_cutc (wc := [(a2, .inr (6, [.int a2_0, .int a2_1, .ref a2_2, .ref a2_3])), (a2_3, .inl (ka2_3, 3, .inl (fa2_3))), (a2_2, .inl (ka2_2, 3, .inl (fa2_2)))]) hP hD hS hA [5, 6, 7] (by decide +kernel) rfl (fun hPc hDc hFc hCc => ?_)
      have hKc := hK.sub (tys' := [(ka2_3, .int), (ka2_2, .int)]) [3, 4] rfl
      refine va_calli (va_runV (As := [.int a1_0]) (rest := [.int x49]) ⟨hx, hb, hml, hown, hts⟩ (c_X6_placesIn l dC dI H.size a2 a1_0 a2_0 a2_1 a2_2 a2_3 ka2_3 fa2_3 ka2_2 fa2_2 ba2_0_l ba2_0_u bfa2_3 bfa2_2) (cwV 1 hts gX0_pass_X6_placesIn rfl rfl rfl zd_X6_placesIn ⟨Nat.le_of_ble_eq_true rfl, Nat.le_of_ble_eq_true rfl⟩) ⟨ax_blind (fun _ _ _ _ _ => trivial), zr_6 hKc hPc (q0 := 0) rfl, ax_pre hPc hKc hDc (fun _ _ => trivial)⟩ rfl rfl hl.1 rfl (lv_room (Nat.le_of_ble_eq_true rfl)) dX0_pass_55 ⟨Nat.le_of_ble_eq_true rfl, Nat.le_of_ble_eq_true rfl⟩) hS (fun q _ h => hFc q h) hFc (fun r55 u t H locs ht hvm hw hB hz1 hk1 hS1 => zo hB ht hS1 (fun hP1 hK1 hD1 hS => ?_))
      refine zc_backc (w := [(a0, .inr (0, [.int a0_0, .int a0_1, .int a0_2, a0g_3, a0g_4, .int a0_5, .int a0_6, a0g_7, a0g_8, a0g_9, .ref a0_10, .ref a0_11, a0g_12, a0g_13, a0g_14])), (a1, .inr (5, [.int a1_0, .int a1_1, .int a1_2, .int v27na1_3, .int v27na1_4, .ref a1_5, .ref a1_6])), (a0_10, .inl (ka0_10, 9, .inl (fa0_10))), (a0_11, .inl (ka0_11, 9, .inl (fa0_11))), (a1_5, .inl (ka1_5, 9, .inl (v27nfa1_5))), (a2, .inr (6, [.int a2_0, .int a2_1, .ref a2_2, .ref a2_3])), (a2_3, .inl (ka2_3, 3, .inl (fa2_3))), (a2_2, .inl (ka2_2, 3, .inl (fa2_2))), (a1_6, .inl (ka1_6, 9, .inl (fa1_6)))]) hP hD hCc hk1 hFc hP1 hD1 [.inl 0, .inl 1, .inl 2, .inl 3, .inl 4, .inr 0, .inr 1, .inr 2, .inl 8] (by decide +kernel) rfl (fun hP hD => ?_)
      refine va_calli (va_runS (As := [.int x49, .int r55]) (rest := []) ⟨hx, hb, hml, hown, hts⟩ (c_X0_isHeardAt l dC dI H.size x49 r55 ) (va_cwS 2 hts gX0_pass_X0_isHeardAt rfl rfl rfl zd_X0_isHeardAt.2 ⟨Nat.le_of_ble_eq_true rfl, Nat.le_of_ble_eq_true rfl⟩) ⟨ax_blind (fun _ _ _ _ _ => trivial), ax_pre (zp_P0 hP) (zp_K hK) (zp_D0 hD) (fun _ _ => trivial)⟩ rfl rfl hl.1 rfl (lv_room (Nat.le_of_ble_eq_true rfl)) dX0_pass_58 ⟨Nat.le_of_ble_eq_true rfl, Nat.le_of_ble_eq_true rfl⟩) hS (fun q _ h => zp_F0 hD hS hA q h) (zp_F0 hD hS hA) (fun r58 u t H locs ht hvm hw hB hz1 hk1 hS1 => zo0 hB ht hP hD hk1 (zp_F0 hD hS hA) hS1 (fun hP hK1 hD hS => ?_))
      rcases hw with hw | hw
      · subst hw
        refine lv_if_eq (tgt := 75) hx hb dX0_pass_61 (by decide) (fun c61 => absurd c61 (by decide +kernel)) (fun _ => ?_)
        refine lv_aload_n hx hb dX0_pass_64 rfl (lv_at hl 4 rfl) ?_
        refine va_get (D := (dC, dI)) (ci := 5) (v := .ref a1_6) (C := RX5) (T := TX5) (N := 7) hx hb hts zi_X0_pass_5 hown hK hP 1 rfl rfl 6 (by decide) (hts (.fieldLink RX0 111 "WaxTurns$Scene" "heardBits" "[I") (zm_X0_pass_r1 (List.mem_of_getElem? (i := 4) rfl))) (fun _ h9 => h9) rfl dX0_pass_65 ?_
        refine lv_iload_n hx hb dX0_pass_68 rfl (lv_at hl 2 rfl) ?_
        refine lv_dup2_11 hx hb dX0_pass_69 rfl rfl ?_
        refine va_iald hx hb hK hP 8 5 rfl rfl (ai_in l17k0_a1_1 u17k0_a1_1 (by decide) (by decide)) dX0_pass_70 ?_
        refine lv_topi (fun x70 ex70 => ?_)
        refine lv_iload hx hb dX0_pass_71 (lv_at hl 0 rfl) ?_
        refine lv_ior hx hb dX0_pass_73 ?_
        refine lv_topi (fun x73 ex73 => ?_)
        refine va_iast hx hb hK hP hD hS 8 5 rfl rfl (ai_in l17k0_a1_1 u17k0_a1_1 (by decide) (by decide)) dX0_pass_74 (fun H locs hP hD hS => ?_)
        obtain ⟨f74, hP, hD⟩ : ∃ f74 : Nat → Int32, va_P (dC, dI) vwCl [(a0, .inr (0, [.int a0_0, .int a0_1, .int a0_2, a0g_3, a0g_4, .int a0_5, .int a0_6, a0g_7, a0g_8, a0g_9, .ref a0_10, .ref a0_11, a0g_12, a0g_13, a0g_14])), (a1, .inr (5, [.int a1_0, .int a1_1, .int a1_2, .int v27na1_3, .int v27na1_4, .ref a1_5, .ref a1_6])), (a0_10, .inl (ka0_10, 9, .inl (fa0_10))), (a0_11, .inl (ka0_11, 9, .inl (fa0_11))), (a1_5, .inl (ka1_5, 9, .inl (v27nfa1_5))), (a2, .inr (6, [.int a2_0, .int a2_1, .ref a2_2, .ref a2_3])), (a2_3, .inl (ka2_3, 3, .inl (fa2_3))), (a2_2, .inl (ka2_2, 3, .inl (fa2_2))), (a1_6, .inl (ka1_6, 9, .inl (f74)))] H ∧ va_D A [(a0, .inr (0, [.int a0_0, .int a0_1, .int a0_2, a0g_3, a0g_4, .int a0_5, .int a0_6, a0g_7, a0g_8, a0g_9, .ref a0_10, .ref a0_11, a0g_12, a0g_13, a0g_14])), (a1, .inr (5, [.int a1_0, .int a1_1, .int a1_2, .int v27na1_3, .int v27na1_4, .ref a1_5, .ref a1_6])), (a0_10, .inl (ka0_10, 9, .inl (fa0_10))), (a0_11, .inl (ka0_11, 9, .inl (fa0_11))), (a1_5, .inl (ka1_5, 9, .inl (v27nfa1_5))), (a2, .inr (6, [.int a2_0, .int a2_1, .ref a2_2, .ref a2_3])), (a2_3, .inl (ka2_3, 3, .inl (fa2_3))), (a2_2, .inl (ka2_2, 3, .inl (fa2_2))), (a1_6, .inl (ka1_6, 9, .inl (f74)))] := ⟨_, hP, hD⟩
        refine lv_aload_n hx hb dX0_pass_75 rfl (lv_at hl 4 rfl) ?_
        refine lv_dup hx hb dX0_pass_76 rfl ?_
        refine va_get (D := (dC, dI)) (ci := 5) (v := .int a1_0) (C := RX5) (T := TX5) (N := 7) hx hb hts zi_X0_pass_5 hown hK hP 1 rfl rfl 0 (by decide) (hts (.fieldLink RX0 102 "WaxTurns$Scene" "minute" "I") (zm_X0_pass_r1 (List.mem_of_getElem? (i := 3) rfl))) (fun _ h9 => h9) rfl dX0_pass_77 ?_
        refine lv_iconst (v := 1) hx hb dX0_pass_80 zk_iconst_1 ?_
        refine lv_iadd hx hb dX0_pass_81 ?_
        refine lv_topi (fun x81 ex81 => ?_)
        refine va_put (D := (dC, dI)) (ci := 5) (v := .int x81) (ty := .int) (C := RX5) (T := TX5) (N := 7) hx hb hts zi_X0_pass_5 tyX5 tyX5_ok nmX5 hown hK hP hD hS 1 rfl rfl 0 (by decide) (hts (.fieldLink RX0 102 "WaxTurns$Scene" "minute" "I") (zm_X0_pass_r1 (List.mem_of_getElem? (i := 3) rfl))) (fun _ h9 => h9) rfl (tyX5_ok 0 (by decide)) rfl rfl (Nat.le_of_ble_eq_true rfl) dX0_pass_82 (fun H locs hP hD hS => ?_)
        refine zs_1 (y := (a1, .inr (5, [.int x81, .int a1_1, .int a1_2, .int v27na1_3, .int v27na1_4, .ref a1_5, .ref a1_6]))) hP hD rfl (fun hP hD => ?_)
        refine lv_aload_n hx hb dX0_pass_85 rfl (lv_at hl 4 rfl) ?_
        refine lv_iload hx hb dX0_pass_86 (lv_at hl 1 rfl) ?_
        refine va_put (D := (dC, dI)) (ci := 5) (v := .int x10) (ty := .int) (C := RX5) (T := TX5) (N := 7) hx hb hts zi_X0_pass_5 tyX5 tyX5_ok nmX5 hown hK hP hD hS 1 rfl rfl 2 (by decide) (hts (.fieldLink RX0 84 "WaxTurns$Scene" "spent" "I") (zm_X0_pass_r1 (List.mem_of_getElem? (i := 1) rfl))) (fun _ h9 => h9) rfl (tyX5_ok 2 (by decide)) rfl rfl (Nat.le_of_ble_eq_true rfl) dX0_pass_88 (fun H locs hP hD hS => ?_)
        refine zs_1 (y := (a1, .inr (5, [.int x81, .int a1_1, .int x10, .int v27na1_3, .int v27na1_4, .ref a1_5, .ref a1_6]))) hP hD rfl (fun hP hD => ?_)
        refine lv_iload hx hb dX0_pass_91 (lv_at hl 1 rfl) ?_
        refine lv_aload_n hx hb dX0_pass_93 rfl (lv_at hl 3 rfl) ?_
        refine va_get (D := (dC, dI)) (ci := 0) (v := .int a0_1) (C := RX0) (T := TX0) (N := 15) hx hb hts zi_X0_pass_0 hown hK hP 0 rfl rfl 1 (by decide) (hts (.fieldLink RX0 48 "WaxTurns$Hall" "span" "I") (zm_X0_pass_r1 (List.mem_of_getElem? (i := 5) rfl))) (fun _ h9 => h9) rfl dX0_pass_94 ?_
        refine lv_icmp_lt (tgt := 109) hx hb dX0_pass_97 (by decide) (fun c97 => ?_) (fun c97 => ?_)
        · have gc97 := ai_lt c97
          have u97t_x10 : x10.toInt ≤ (2147483646 : Int) := ai_lthi gc97 (ai_max a0_1)
          have l97t_a0_1 : (-2147483647 : Int) ≤ a0_1.toInt := ai_ltlo gc97 (ai_min x10)
          exact W.vret hx hb hr (fun t ht hW => ⟨⟨(), rfl, trivial, x81, a1_1, x10, v27na1_3, v27na1_4, v27nfa1_5, f74, ⟨l17k0_a1_1, u17k0_a1_1⟩, by rw [ht]; exact hP, va_K.moved hW.alike hK, hD⟩, hS.F ht⟩) hS.2.2 dX0_pass_109
        · have gc97 := ai_nlt c97
          refine lv_aload_n hx hb dX0_pass_100 rfl (lv_at hl 4 rfl) ?_
          refine lv_aload_n hx hb dX0_pass_101 rfl (lv_at hl 3 rfl) ?_
          refine lv_iload_n hx hb dX0_pass_102 rfl (lv_at hl 2 rfl) ?_
          refine va_calli (va_runV (As := [.int a1_1]) (rest := [.ref a1]) ⟨hx, hb, hml, hown, hts⟩ (c_X0_next l dC dI H.size a0 a1_1 a0_0 (.int a0_1) (.int a0_2) a0g_3 a0g_4 a0g_7 a0g_8 a0g_9 (.ref a0_10) (.ref a0_11) a0g_12 a0g_13 a0g_14 a0_5 a0_6 l17k0_a1_1 u17k0_a1_1 ba0_0_l ba0_0_u ba0_5_l ba0_5_u ba0_6_l ba0_6_u) (cwV 1 hts gX0_pass_X0_next rfl rfl rfl zd_X0_next ⟨Nat.le_of_ble_eq_true rfl, Nat.le_of_ble_eq_true rfl⟩) ⟨ax_blind (fun _ _ _ _ _ => trivial), zr_0 (zp_K hK) (zp_P1 hP) (q0 := 0) rfl, ax_pre (zp_P1 hP) (zp_K hK) (zp_D1 hD) (fun _ _ => trivial)⟩ rfl rfl hl.1 rfl (lv_room (Nat.le_of_ble_eq_true rfl)) dX0_pass_103 ⟨Nat.le_of_ble_eq_true rfl, Nat.le_of_ble_eq_true rfl⟩) hS (fun q _ h => zp_F1 hD hS hA q h) (zp_F1 hD hS hA) (fun r103 u t H locs ht hvm hw hB hz1 hk1 hS1 => zo1 hB ht hP hD hk1 (zp_F1 hD hS hA) hS1 (fun hP hK1 hD hS => ?_))
          have hw : (0 : Int) ≤ r103.toInt ∧ r103.toInt ≤ (8 : Int) := hw
          obtain ⟨h103_0, h103_1⟩ := hw
          refine zc_cutc (wc := [(a1, .inr (5, [.int x81, .int a1_1, .int x10, .int v27na1_3, .int v27na1_4, .ref a1_5, .ref a1_6]))]) hP hD hS hA [1] (by decide +kernel) rfl (fun hPc hDc hFc hCc => ?_)
          have hKc := zp_K hK
          refine va_callv (va_runV (As := [.int r103]) (rest := []) ⟨hx, hb, hml, hown, hts⟩ (c_X5_startTurn l dC dI H.size a1 r103 (.int x81) (.int v27na1_3) (.int v27na1_4) (.ref a1_5) (.ref a1_6) a1_1 x10 h103_0 h103_1 l17k0_a1_1 u17k0_a1_1) (cwV 1 hts gX0_pass_X5_startTurn rfl rfl rfl zd_X5_startTurn ⟨Nat.le_of_ble_eq_true rfl, Nat.le_of_ble_eq_true rfl⟩) ⟨ax_blind (fun _ _ _ _ _ => trivial), zr_5 hKc hPc (q0 := 0) rfl, ax_pre hPc hKc hDc (fun _ _ => trivial)⟩ rfl rfl hl.1 rfl (lv_room (Nat.le_of_ble_eq_true rfl)) dX0_pass_106 ⟨Nat.le_of_ble_eq_true rfl, Nat.le_of_ble_eq_true rfl⟩) hS (fun q _ h => hFc q h) hFc (fun u t H locs ht hvm hw => zx_2 (fun v106na0_1 v106na0_2 => zy_1 (fun bv106na0_1 hB hz1 hk1 hS1 => zo hB ht hS1 (fun hP1 hK1 hD1 hS => ?_))))
          refine zc_backc (w := [(a0, .inr (0, [.int a0_0, .int a0_1, .int a0_2, a0g_3, a0g_4, .int a0_5, .int a0_6, a0g_7, a0g_8, a0g_9, .ref a0_10, .ref a0_11, a0g_12, a0g_13, a0g_14])), (a1, .inr (5, [.int x81, .int v106na0_1, .int v106na0_2, .int v27na1_3, .int v27na1_4, .ref a1_5, .ref a1_6])), (a0_10, .inl (ka0_10, 9, .inl (fa0_10))), (a0_11, .inl (ka0_11, 9, .inl (fa0_11))), (a1_5, .inl (ka1_5, 9, .inl (v27nfa1_5))), (a2, .inr (6, [.int a2_0, .int a2_1, .ref a2_2, .ref a2_3])), (a2_3, .inl (ka2_3, 3, .inl (fa2_3))), (a2_2, .inl (ka2_2, 3, .inl (fa2_2))), (a1_6, .inl (ka1_6, 9, .inl (f74)))]) hP hD hCc hk1 hFc hP1 hD1 [.inl 0, .inr 0, .inl 2, .inl 3, .inl 4, .inl 5, .inl 6, .inl 7, .inl 8] (by decide +kernel) rfl (fun hP hD => ?_)
          exact W.vret hx hb hr (fun t ht hW => ⟨⟨(), rfl, trivial, x81, v106na0_1, v106na0_2, v27na1_3, v27na1_4, v27nfa1_5, f74, ⟨bv106na0_1.1, bv106na0_1.2⟩, by rw [ht]; exact hP, va_K.moved hW.alike hK, hD⟩, hS.F ht⟩) hS.2.2 dX0_pass_109
      · subst hw
        refine lv_if_eq (tgt := 75) hx hb dX0_pass_61 (by decide) (fun _ => ?_) (fun c61 => absurd (by decide +kernel) c61)
        refine lv_aload_n hx hb dX0_pass_75 rfl (lv_at hl 4 rfl) ?_
        refine lv_dup hx hb dX0_pass_76 rfl ?_
        refine va_get (D := (dC, dI)) (ci := 5) (v := .int a1_0) (C := RX5) (T := TX5) (N := 7) hx hb hts zi_X0_pass_5 hown hK hP 1 rfl rfl 0 (by decide) (hts (.fieldLink RX0 102 "WaxTurns$Scene" "minute" "I") (zm_X0_pass_r1 (List.mem_of_getElem? (i := 3) rfl))) (fun _ h9 => h9) rfl dX0_pass_77 ?_
        refine lv_iconst (v := 1) hx hb dX0_pass_80 zk_iconst_1 ?_
        refine lv_iadd hx hb dX0_pass_81 ?_
        refine lv_topi (fun x81 ex81 => ?_)
        refine va_put (D := (dC, dI)) (ci := 5) (v := .int x81) (ty := .int) (C := RX5) (T := TX5) (N := 7) hx hb hts zi_X0_pass_5 tyX5 tyX5_ok nmX5 hown hK hP hD hS 1 rfl rfl 0 (by decide) (hts (.fieldLink RX0 102 "WaxTurns$Scene" "minute" "I") (zm_X0_pass_r1 (List.mem_of_getElem? (i := 3) rfl))) (fun _ h9 => h9) rfl (tyX5_ok 0 (by decide)) rfl rfl (Nat.le_of_ble_eq_true rfl) dX0_pass_82 (fun H locs hP hD hS => ?_)
        refine zs_1 (y := (a1, .inr (5, [.int x81, .int a1_1, .int a1_2, .int v27na1_3, .int v27na1_4, .ref a1_5, .ref a1_6]))) hP hD rfl (fun hP hD => ?_)
        refine lv_aload_n hx hb dX0_pass_85 rfl (lv_at hl 4 rfl) ?_
        refine lv_iload hx hb dX0_pass_86 (lv_at hl 1 rfl) ?_
        refine va_put (D := (dC, dI)) (ci := 5) (v := .int x10) (ty := .int) (C := RX5) (T := TX5) (N := 7) hx hb hts zi_X0_pass_5 tyX5 tyX5_ok nmX5 hown hK hP hD hS 1 rfl rfl 2 (by decide) (hts (.fieldLink RX0 84 "WaxTurns$Scene" "spent" "I") (zm_X0_pass_r1 (List.mem_of_getElem? (i := 1) rfl))) (fun _ h9 => h9) rfl (tyX5_ok 2 (by decide)) rfl rfl (Nat.le_of_ble_eq_true rfl) dX0_pass_88 (fun H locs hP hD hS => ?_)
        refine zs_1 (y := (a1, .inr (5, [.int x81, .int a1_1, .int x10, .int v27na1_3, .int v27na1_4, .ref a1_5, .ref a1_6]))) hP hD rfl (fun hP hD => ?_)
        refine lv_iload hx hb dX0_pass_91 (lv_at hl 1 rfl) ?_
        refine lv_aload_n hx hb dX0_pass_93 rfl (lv_at hl 3 rfl) ?_
        refine va_get (D := (dC, dI)) (ci := 0) (v := .int a0_1) (C := RX0) (T := TX0) (N := 15) hx hb hts zi_X0_pass_0 hown hK hP 0 rfl rfl 1 (by decide) (hts (.fieldLink RX0 48 "WaxTurns$Hall" "span" "I") (zm_X0_pass_r1 (List.mem_of_getElem? (i := 5) rfl))) (fun _ h9 => h9) rfl dX0_pass_94 ?_
        refine lv_icmp_lt (tgt := 109) hx hb dX0_pass_97 (by decide) (fun c97 => ?_) (fun c97 => ?_)
        · have gc97 := ai_lt c97
          have u97t_x10 : x10.toInt ≤ (2147483646 : Int) := ai_lthi gc97 (ai_max a0_1)
          have l97t_a0_1 : (-2147483647 : Int) ≤ a0_1.toInt := ai_ltlo gc97 (ai_min x10)
          exact W.vret hx hb hr (fun t ht hW => ⟨⟨(), rfl, trivial, x81, a1_1, x10, v27na1_3, v27na1_4, v27nfa1_5, fa1_6, ⟨l17k0_a1_1, u17k0_a1_1⟩, by rw [ht]; exact hP, va_K.moved hW.alike hK, hD⟩, hS.F ht⟩) hS.2.2 dX0_pass_109
        · have gc97 := ai_nlt c97
          refine lv_aload_n hx hb dX0_pass_100 rfl (lv_at hl 4 rfl) ?_
          refine lv_aload_n hx hb dX0_pass_101 rfl (lv_at hl 3 rfl) ?_
          refine lv_iload_n hx hb dX0_pass_102 rfl (lv_at hl 2 rfl) ?_
          refine va_calli (va_runV (As := [.int a1_1]) (rest := [.ref a1]) ⟨hx, hb, hml, hown, hts⟩ (c_X0_next l dC dI H.size a0 a1_1 a0_0 (.int a0_1) (.int a0_2) a0g_3 a0g_4 a0g_7 a0g_8 a0g_9 (.ref a0_10) (.ref a0_11) a0g_12 a0g_13 a0g_14 a0_5 a0_6 l17k0_a1_1 u17k0_a1_1 ba0_0_l ba0_0_u ba0_5_l ba0_5_u ba0_6_l ba0_6_u) (cwV 1 hts gX0_pass_X0_next rfl rfl rfl zd_X0_next ⟨Nat.le_of_ble_eq_true rfl, Nat.le_of_ble_eq_true rfl⟩) ⟨ax_blind (fun _ _ _ _ _ => trivial), zr_0 (zp_K hK) (zp_P1 hP) (q0 := 0) rfl, ax_pre (zp_P1 hP) (zp_K hK) (zp_D1 hD) (fun _ _ => trivial)⟩ rfl rfl hl.1 rfl (lv_room (Nat.le_of_ble_eq_true rfl)) dX0_pass_103 ⟨Nat.le_of_ble_eq_true rfl, Nat.le_of_ble_eq_true rfl⟩) hS (fun q _ h => zp_F1 hD hS hA q h) (zp_F1 hD hS hA) (fun r103 u t H locs ht hvm hw hB hz1 hk1 hS1 => zo1 hB ht hP hD hk1 (zp_F1 hD hS hA) hS1 (fun hP hK1 hD hS => ?_))
          have hw : (0 : Int) ≤ r103.toInt ∧ r103.toInt ≤ (8 : Int) := hw
          obtain ⟨h103_0, h103_1⟩ := hw
          refine zc_cutc (wc := [(a1, .inr (5, [.int x81, .int a1_1, .int x10, .int v27na1_3, .int v27na1_4, .ref a1_5, .ref a1_6]))]) hP hD hS hA [1] (by decide +kernel) rfl (fun hPc hDc hFc hCc => ?_)
          have hKc := zp_K hK
          refine va_callv (va_runV (As := [.int r103]) (rest := []) ⟨hx, hb, hml, hown, hts⟩ (c_X5_startTurn l dC dI H.size a1 r103 (.int x81) (.int v27na1_3) (.int v27na1_4) (.ref a1_5) (.ref a1_6) a1_1 x10 h103_0 h103_1 l17k0_a1_1 u17k0_a1_1) (cwV 1 hts gX0_pass_X5_startTurn rfl rfl rfl zd_X5_startTurn ⟨Nat.le_of_ble_eq_true rfl, Nat.le_of_ble_eq_true rfl⟩) ⟨ax_blind (fun _ _ _ _ _ => trivial), zr_5 hKc hPc (q0 := 0) rfl, ax_pre hPc hKc hDc (fun _ _ => trivial)⟩ rfl rfl hl.1 rfl (lv_room (Nat.le_of_ble_eq_true rfl)) dX0_pass_106 ⟨Nat.le_of_ble_eq_true rfl, Nat.le_of_ble_eq_true rfl⟩) hS (fun q _ h => hFc q h) hFc (fun u t H locs ht hvm hw => zx_2 (fun v106na0_1 v106na0_2 => zy_1 (fun bv106na0_1 hB hz1 hk1 hS1 => zo hB ht hS1 (fun hP1 hK1 hD1 hS => ?_))))
          refine zc_backc (w := [(a0, .inr (0, [.int a0_0, .int a0_1, .int a0_2, a0g_3, a0g_4, .int a0_5, .int a0_6, a0g_7, a0g_8, a0g_9, .ref a0_10, .ref a0_11, a0g_12, a0g_13, a0g_14])), (a1, .inr (5, [.int x81, .int v106na0_1, .int v106na0_2, .int v27na1_3, .int v27na1_4, .ref a1_5, .ref a1_6])), (a0_10, .inl (ka0_10, 9, .inl (fa0_10))), (a0_11, .inl (ka0_11, 9, .inl (fa0_11))), (a1_5, .inl (ka1_5, 9, .inl (v27nfa1_5))), (a2, .inr (6, [.int a2_0, .int a2_1, .ref a2_2, .ref a2_3])), (a2_3, .inl (ka2_3, 3, .inl (fa2_3))), (a2_2, .inl (ka2_2, 3, .inl (fa2_2))), (a1_6, .inl (ka1_6, 9, .inl (fa1_6)))]) hP hD hCc hk1 hFc hP1 hD1 [.inl 0, .inr 0, .inl 2, .inl 3, .inl 4, .inl 5, .inl 6, .inl 7, .inl 8] (by decide +kernel) rfl (fun hP hD => ?_)
          exact W.vret hx hb hr (fun t ht hW => ⟨⟨(), rfl, trivial, x81, v106na0_1, v106na0_2, v27na1_3, v27na1_4, v27nfa1_5, fa1_6, ⟨bv106na0_1.1, bv106na0_1.2⟩, by rw [ht]; exact hP, va_K.moved hW.alike hK, hD⟩, hS.F ht⟩) hS.2.2 dX0_pass_109
  · subst hw
    refine lv_if_eq (tgt := 30) hx hb dX0_pass_20 (by decide) (fun _ => ?_) (fun c20 => absurd (by decide +kernel) c20)
    refine lv_aload_n hx hb dX0_pass_30 rfl (lv_at hl 2 rfl) ?_
    refine lv_iload_n hx hb dX0_pass_31 rfl (lv_at hl 1 rfl) ?_
    refine lv_iload hx hb dX0_pass_32 (lv_at hl 0 rfl) ?_
    refine zc_cutc (wc := [(a0, .inr (0, [.int a0_0, .int a0_1, .int a0_2, a0g_3, a0g_4, .int a0_5, .int a0_6, a0g_7, a0g_8, a0g_9, .ref a0_10, .ref a0_11, a0g_12, a0g_13, a0g_14])), (a0_10, .inl (ka0_10, 9, .inl (fa0_10))), (a0_11, .inl (ka0_11, 9, .inl (fa0_11)))]) hP hD hS hA [0, 2, 3] (by decide +kernel) rfl (fun hPc hDc hFc hCc => ?_)
    have hKc := hK.sub (tys' := [(ka0_10, .int), (ka0_11, .int)]) [0, 1] rfl
    refine va_calli (va_runV (As := [.int a1_1, .int x10]) (rest := []) ⟨hx, hb, hml, hown, hts⟩ (c_X0_partSaid l dC dI H.size a0 a1_1 x10 (.int a0_0) (.int a0_1) (.int a0_2) a0g_3 a0g_4 (.int a0_5) (.int a0_6) a0g_7 a0g_8 a0g_9 a0g_12 a0g_13 a0g_14 a0_10 a0_11 ka0_10 fa0_10 ka0_11 fa0_11 ) (cwV 2 hts gX0_pass_X0_partSaid rfl rfl rfl zd_X0_partSaid ⟨Nat.le_of_ble_eq_true rfl, Nat.le_of_ble_eq_true rfl⟩) ⟨ax_blind (fun _ _ _ _ hq => va_Nw.same rfl rfl (hq)), zr_0 hKc hPc (q0 := 0) rfl, ax_pre hPc hKc hDc (fun _ hW => va_Nw.warmM hW hE0)⟩ rfl rfl hl.1 rfl (lv_room (Nat.le_of_ble_eq_true rfl)) dX0_pass_34 ⟨Nat.le_of_ble_eq_true rfl, Nat.le_of_ble_eq_true rfl⟩) hS (fun q _ h => hFc q h) hFc (fun r34 u t H locs ht hvm hw hB hz1 hk1 hS1 => zo hB ht hS1 (fun hP1 hK1 hD1 hS => ?_))
    refine zc_backc (w := [(a0, .inr (0, [.int a0_0, .int a0_1, .int a0_2, a0g_3, a0g_4, .int a0_5, .int a0_6, a0g_7, a0g_8, a0g_9, .ref a0_10, .ref a0_11, a0g_12, a0g_13, a0g_14])), (a1, .inr (5, [.int a1_0, .int a1_1, .int a1_2, .int a1_3, .int a1_4, .ref a1_5, .ref a1_6])), (a0_10, .inl (ka0_10, 9, .inl (fa0_10))), (a0_11, .inl (ka0_11, 9, .inl (fa0_11))), (a1_5, .inl (ka1_5, 9, .inl (fa1_5))), (a2, .inr (6, [.int a2_0, .int a2_1, .ref a2_2, .ref a2_3])), (a2_3, .inl (ka2_3, 3, .inl (fa2_3))), (a2_2, .inl (ka2_2, 3, .inl (fa2_2))), (a1_6, .inl (ka1_6, 9, .inl (fa1_6)))]) hP hD hCc hk1 hFc hP1 hD1 [.inr 0, .inl 1, .inr 1, .inr 2, .inl 4, .inl 5, .inl 6, .inl 7, .inl 8] (by decide +kernel) rfl (fun hP hD => ?_)
    refine lv_istore (lv' := [(5, .int r34), (4, .int x10), (3, .int a1_1), (0, .ref a0), (1, .ref a1), (2, .ref a2)]) hx hb dX0_pass_37 hl (by decide) rfl (fun ls hl => ?_)
    refine lv_iload hx hb dX0_pass_39 (lv_at hl 0 rfl) ?_
    refine lv_if_eq (tgt := 75) hx hb dX0_pass_41 (by decide) (fun c41 => ?_) (fun c41 => ?_)
    · have gc41 := ai_eq c41
      have u41t_r34 : r34.toInt ≤ (0 : Int) := Int.le_trans (Int.le_of_eq gc41) zq6
      have l41t_r34 : (0 : Int) ≤ r34.toInt := Int.le_trans zq5 (Int.le_of_eq gc41.symm)
      refine lv_aload_n hx hb dX0_pass_75 rfl (lv_at hl 4 rfl) ?_
      refine lv_dup hx hb dX0_pass_76 rfl ?_
      refine va_get (D := (dC, dI)) (ci := 5) (v := .int a1_0) (C := RX5) (T := TX5) (N := 7) hx hb hts zi_X0_pass_5 hown hK hP 1 rfl rfl 0 (by decide) (hts (.fieldLink RX0 102 "WaxTurns$Scene" "minute" "I") (zm_X0_pass_r1 (List.mem_of_getElem? (i := 3) rfl))) (fun _ h9 => h9) rfl dX0_pass_77 ?_
      refine lv_iconst (v := 1) hx hb dX0_pass_80 zk_iconst_1 ?_
      refine lv_iadd hx hb dX0_pass_81 ?_
      refine lv_topi (fun x81 ex81 => ?_)
      refine va_put (D := (dC, dI)) (ci := 5) (v := .int x81) (ty := .int) (C := RX5) (T := TX5) (N := 7) hx hb hts zi_X0_pass_5 tyX5 tyX5_ok nmX5 hown hK hP hD hS 1 rfl rfl 0 (by decide) (hts (.fieldLink RX0 102 "WaxTurns$Scene" "minute" "I") (zm_X0_pass_r1 (List.mem_of_getElem? (i := 3) rfl))) (fun _ h9 => h9) rfl (tyX5_ok 0 (by decide)) rfl rfl (Nat.le_of_ble_eq_true rfl) dX0_pass_82 (fun H locs hP hD hS => ?_)
      refine zs_1 (y := (a1, .inr (5, [.int x81, .int a1_1, .int a1_2, .int a1_3, .int a1_4, .ref a1_5, .ref a1_6]))) hP hD rfl (fun hP hD => ?_)
      refine lv_aload_n hx hb dX0_pass_85 rfl (lv_at hl 4 rfl) ?_
      refine lv_iload hx hb dX0_pass_86 (lv_at hl 1 rfl) ?_
      refine va_put (D := (dC, dI)) (ci := 5) (v := .int x10) (ty := .int) (C := RX5) (T := TX5) (N := 7) hx hb hts zi_X0_pass_5 tyX5 tyX5_ok nmX5 hown hK hP hD hS 1 rfl rfl 2 (by decide) (hts (.fieldLink RX0 84 "WaxTurns$Scene" "spent" "I") (zm_X0_pass_r1 (List.mem_of_getElem? (i := 1) rfl))) (fun _ h9 => h9) rfl (tyX5_ok 2 (by decide)) rfl rfl (Nat.le_of_ble_eq_true rfl) dX0_pass_88 (fun H locs hP hD hS => ?_)
      refine zs_1 (y := (a1, .inr (5, [.int x81, .int a1_1, .int x10, .int a1_3, .int a1_4, .ref a1_5, .ref a1_6]))) hP hD rfl (fun hP hD => ?_)
      refine lv_iload hx hb dX0_pass_91 (lv_at hl 1 rfl) ?_
      refine lv_aload_n hx hb dX0_pass_93 rfl (lv_at hl 3 rfl) ?_
      refine va_get (D := (dC, dI)) (ci := 0) (v := .int a0_1) (C := RX0) (T := TX0) (N := 15) hx hb hts zi_X0_pass_0 hown hK hP 0 rfl rfl 1 (by decide) (hts (.fieldLink RX0 48 "WaxTurns$Hall" "span" "I") (zm_X0_pass_r1 (List.mem_of_getElem? (i := 5) rfl))) (fun _ h9 => h9) rfl dX0_pass_94 ?_
      refine lv_icmp_lt (tgt := 109) hx hb dX0_pass_97 (by decide) (fun c97 => ?_) (fun c97 => ?_)
      · have gc97 := ai_lt c97
        have u97t_x10 : x10.toInt ≤ (2147483646 : Int) := ai_lthi gc97 (ai_max a0_1)
        have l97t_a0_1 : (-2147483647 : Int) ≤ a0_1.toInt := ai_ltlo gc97 (ai_min x10)
        exact W.vret hx hb hr (fun t ht hW => ⟨⟨(), rfl, trivial, x81, a1_1, x10, a1_3, a1_4, fa1_5, fa1_6, ⟨ba1_1_l, ba1_1_u⟩, by rw [ht]; exact hP, va_K.moved hW.alike hK, hD⟩, hS.F ht⟩) hS.2.2 dX0_pass_109
      · have gc97 := ai_nlt c97
        refine lv_aload_n hx hb dX0_pass_100 rfl (lv_at hl 4 rfl) ?_
        refine lv_aload_n hx hb dX0_pass_101 rfl (lv_at hl 3 rfl) ?_
        refine lv_iload_n hx hb dX0_pass_102 rfl (lv_at hl 2 rfl) ?_
        refine va_calli (va_runV (As := [.int a1_1]) (rest := [.ref a1]) ⟨hx, hb, hml, hown, hts⟩ (c_X0_next l dC dI H.size a0 a1_1 a0_0 (.int a0_1) (.int a0_2) a0g_3 a0g_4 a0g_7 a0g_8 a0g_9 (.ref a0_10) (.ref a0_11) a0g_12 a0g_13 a0g_14 a0_5 a0_6 ba1_1_l ba1_1_u ba0_0_l ba0_0_u ba0_5_l ba0_5_u ba0_6_l ba0_6_u) (cwV 1 hts gX0_pass_X0_next rfl rfl rfl zd_X0_next ⟨Nat.le_of_ble_eq_true rfl, Nat.le_of_ble_eq_true rfl⟩) ⟨ax_blind (fun _ _ _ _ _ => trivial), zr_0 (zp_K hK) (zp_P1 hP) (q0 := 0) rfl, ax_pre (zp_P1 hP) (zp_K hK) (zp_D1 hD) (fun _ _ => trivial)⟩ rfl rfl hl.1 rfl (lv_room (Nat.le_of_ble_eq_true rfl)) dX0_pass_103 ⟨Nat.le_of_ble_eq_true rfl, Nat.le_of_ble_eq_true rfl⟩) hS (fun q _ h => zp_F1 hD hS hA q h) (zp_F1 hD hS hA) (fun r103 u t H locs ht hvm hw hB hz1 hk1 hS1 => zo1 hB ht hP hD hk1 (zp_F1 hD hS hA) hS1 (fun hP hK1 hD hS => ?_))
        have hw : (0 : Int) ≤ r103.toInt ∧ r103.toInt ≤ (8 : Int) := hw
        obtain ⟨h103_0, h103_1⟩ := hw
        refine zc_cutc (wc := [(a1, .inr (5, [.int x81, .int a1_1, .int x10, .int a1_3, .int a1_4, .ref a1_5, .ref a1_6]))]) hP hD hS hA [1] (by decide +kernel) rfl (fun hPc hDc hFc hCc => ?_)
        have hKc := zp_K hK
        refine va_callv (va_runV (As := [.int r103]) (rest := []) ⟨hx, hb, hml, hown, hts⟩ (c_X5_startTurn l dC dI H.size a1 r103 (.int x81) (.int a1_3) (.int a1_4) (.ref a1_5) (.ref a1_6) a1_1 x10 h103_0 h103_1 ba1_1_l ba1_1_u) (cwV 1 hts gX0_pass_X5_startTurn rfl rfl rfl zd_X5_startTurn ⟨Nat.le_of_ble_eq_true rfl, Nat.le_of_ble_eq_true rfl⟩) ⟨ax_blind (fun _ _ _ _ _ => trivial), zr_5 hKc hPc (q0 := 0) rfl, ax_pre hPc hKc hDc (fun _ _ => trivial)⟩ rfl rfl hl.1 rfl (lv_room (Nat.le_of_ble_eq_true rfl)) dX0_pass_106 ⟨Nat.le_of_ble_eq_true rfl, Nat.le_of_ble_eq_true rfl⟩) hS (fun q _ h => hFc q h) hFc (fun u t H locs ht hvm hw => zx_2 (fun v106na0_1 v106na0_2 => zy_1 (fun bv106na0_1 hB hz1 hk1 hS1 => zo hB ht hS1 (fun hP1 hK1 hD1 hS => ?_))))
        refine zc_backc (w := [(a0, .inr (0, [.int a0_0, .int a0_1, .int a0_2, a0g_3, a0g_4, .int a0_5, .int a0_6, a0g_7, a0g_8, a0g_9, .ref a0_10, .ref a0_11, a0g_12, a0g_13, a0g_14])), (a1, .inr (5, [.int x81, .int v106na0_1, .int v106na0_2, .int a1_3, .int a1_4, .ref a1_5, .ref a1_6])), (a0_10, .inl (ka0_10, 9, .inl (fa0_10))), (a0_11, .inl (ka0_11, 9, .inl (fa0_11))), (a1_5, .inl (ka1_5, 9, .inl (fa1_5))), (a2, .inr (6, [.int a2_0, .int a2_1, .ref a2_2, .ref a2_3])), (a2_3, .inl (ka2_3, 3, .inl (fa2_3))), (a2_2, .inl (ka2_2, 3, .inl (fa2_2))), (a1_6, .inl (ka1_6, 9, .inl (fa1_6)))]) hP hD hCc hk1 hFc hP1 hD1 [.inl 0, .inr 0, .inl 2, .inl 3, .inl 4, .inl 5, .inl 6, .inl 7, .inl 8] (by decide +kernel) rfl (fun hP hD => ?_)
        exact W.vret hx hb hr (fun t ht hW => ⟨⟨(), rfl, trivial, x81, v106na0_1, v106na0_2, a1_3, a1_4, fa1_5, fa1_6, ⟨bv106na0_1.1, bv106na0_1.2⟩, by rw [ht]; exact hP, va_K.moved hW.alike hK, hD⟩, hS.F ht⟩) hS.2.2 dX0_pass_109
    · have gc41 := ai_ne c41
      refine lv_aload_n hx hb dX0_pass_44 rfl (lv_at hl 4 rfl) ?_
      refine va_get (D := (dC, dI)) (ci := 5) (v := .ref a1_5) (C := RX5) (T := TX5) (N := 7) hx hb hts zi_X0_pass_5 hown hK hP 1 rfl rfl 5 (by decide) (hts (.fieldLink RX0 99 "WaxTurns$Scene" "places" "[I") (zm_X0_pass_r1 (List.mem_of_getElem? (i := 2) rfl))) (fun _ h9 => h9) rfl dX0_pass_45 ?_
      refine lv_iload_n hx hb dX0_pass_48 rfl (lv_at hl 2 rfl) ?_
      refine va_iald hx hb hK hP 4 2 rfl rfl (ai_in ba1_1_l ba1_1_u (by decide) (by decide)) dX0_pass_49 ?_
      refine lv_topi (fun x49 ex49 => ?_)
      refine lv_aload_n hx hb dX0_pass_50 rfl (lv_at hl 5 rfl) ?_
      refine lv_aload_n hx hb dX0_pass_51 rfl (lv_at hl 4 rfl) ?_
      refine va_get (D := (dC, dI)) (ci := 5) (v := .int a1_0) (C := RX5) (T := TX5) (N := 7) hx hb hts zi_X0_pass_5 hown hK hP 1 rfl rfl 0 (by decide) (hts (.fieldLink RX0 102 "WaxTurns$Scene" "minute" "I") (zm_X0_pass_r1 (List.mem_of_getElem? (i := 3) rfl))) (fun _ h9 => h9) rfl dX0_pass_52 ?_
      refine zc_cutc (wc := [(a2, .inr (6, [.int a2_0, .int a2_1, .ref a2_2, .ref a2_3])), (a2_3, .inl (ka2_3, 3, .inl (fa2_3))), (a2_2, .inl (ka2_2, 3, .inl (fa2_2)))]) hP hD hS hA [5, 6, 7] (by decide +kernel) rfl (fun hPc hDc hFc hCc => ?_)
      have hKc := hK.sub (tys' := [(ka2_3, .int), (ka2_2, .int)]) [3, 4] rfl
      refine va_calli (va_runV (As := [.int a1_0]) (rest := [.int x49]) ⟨hx, hb, hml, hown, hts⟩ (c_X6_placesIn l dC dI H.size a2 a1_0 a2_0 a2_1 a2_2 a2_3 ka2_3 fa2_3 ka2_2 fa2_2 ba2_0_l ba2_0_u bfa2_3 bfa2_2) (cwV 1 hts gX0_pass_X6_placesIn rfl rfl rfl zd_X6_placesIn ⟨Nat.le_of_ble_eq_true rfl, Nat.le_of_ble_eq_true rfl⟩) ⟨ax_blind (fun _ _ _ _ _ => trivial), zr_6 hKc hPc (q0 := 0) rfl, ax_pre hPc hKc hDc (fun _ _ => trivial)⟩ rfl rfl hl.1 rfl (lv_room (Nat.le_of_ble_eq_true rfl)) dX0_pass_55 ⟨Nat.le_of_ble_eq_true rfl, Nat.le_of_ble_eq_true rfl⟩) hS (fun q _ h => hFc q h) hFc (fun r55 u t H locs ht hvm hw hB hz1 hk1 hS1 => zo hB ht hS1 (fun hP1 hK1 hD1 hS => ?_))
      refine zc_backc (w := [(a0, .inr (0, [.int a0_0, .int a0_1, .int a0_2, a0g_3, a0g_4, .int a0_5, .int a0_6, a0g_7, a0g_8, a0g_9, .ref a0_10, .ref a0_11, a0g_12, a0g_13, a0g_14])), (a1, .inr (5, [.int a1_0, .int a1_1, .int a1_2, .int a1_3, .int a1_4, .ref a1_5, .ref a1_6])), (a0_10, .inl (ka0_10, 9, .inl (fa0_10))), (a0_11, .inl (ka0_11, 9, .inl (fa0_11))), (a1_5, .inl (ka1_5, 9, .inl (fa1_5))), (a2, .inr (6, [.int a2_0, .int a2_1, .ref a2_2, .ref a2_3])), (a2_3, .inl (ka2_3, 3, .inl (fa2_3))), (a2_2, .inl (ka2_2, 3, .inl (fa2_2))), (a1_6, .inl (ka1_6, 9, .inl (fa1_6)))]) hP hD hCc hk1 hFc hP1 hD1 [.inl 0, .inl 1, .inl 2, .inl 3, .inl 4, .inr 0, .inr 1, .inr 2, .inl 8] (by decide +kernel) rfl (fun hP hD => ?_)
      refine va_calli (va_runS (As := [.int x49, .int r55]) (rest := []) ⟨hx, hb, hml, hown, hts⟩ (c_X0_isHeardAt l dC dI H.size x49 r55 ) (va_cwS 2 hts gX0_pass_X0_isHeardAt rfl rfl rfl zd_X0_isHeardAt.2 ⟨Nat.le_of_ble_eq_true rfl, Nat.le_of_ble_eq_true rfl⟩) ⟨ax_blind (fun _ _ _ _ _ => trivial), ax_pre (zp_P0 hP) (zp_K hK) (zp_D0 hD) (fun _ _ => trivial)⟩ rfl rfl hl.1 rfl (lv_room (Nat.le_of_ble_eq_true rfl)) dX0_pass_58 ⟨Nat.le_of_ble_eq_true rfl, Nat.le_of_ble_eq_true rfl⟩) hS (fun q _ h => zp_F0 hD hS hA q h) (zp_F0 hD hS hA) (fun r58 u t H locs ht hvm hw hB hz1 hk1 hS1 => zo0 hB ht hP hD hk1 (zp_F0 hD hS hA) hS1 (fun hP hK1 hD hS => ?_))
      rcases hw with hw | hw
      · subst hw
        refine lv_if_eq (tgt := 75) hx hb dX0_pass_61 (by decide) (fun c61 => absurd c61 (by decide +kernel)) (fun _ => ?_)
        refine lv_aload_n hx hb dX0_pass_64 rfl (lv_at hl 4 rfl) ?_
        refine va_get (D := (dC, dI)) (ci := 5) (v := .ref a1_6) (C := RX5) (T := TX5) (N := 7) hx hb hts zi_X0_pass_5 hown hK hP 1 rfl rfl 6 (by decide) (hts (.fieldLink RX0 111 "WaxTurns$Scene" "heardBits" "[I") (zm_X0_pass_r1 (List.mem_of_getElem? (i := 4) rfl))) (fun _ h9 => h9) rfl dX0_pass_65 ?_
        refine lv_iload_n hx hb dX0_pass_68 rfl (lv_at hl 2 rfl) ?_
        refine lv_dup2_11 hx hb dX0_pass_69 rfl rfl ?_
        refine va_iald hx hb hK hP 8 5 rfl rfl (ai_in ba1_1_l ba1_1_u (by decide) (by decide)) dX0_pass_70 ?_
        refine lv_topi (fun x70 ex70 => ?_)
        refine lv_iload hx hb dX0_pass_71 (lv_at hl 0 rfl) ?_
        refine lv_ior hx hb dX0_pass_73 ?_
        refine lv_topi (fun x73 ex73 => ?_)
        refine va_iast hx hb hK hP hD hS 8 5 rfl rfl (ai_in ba1_1_l ba1_1_u (by decide) (by decide)) dX0_pass_74 (fun H locs hP hD hS => ?_)
        obtain ⟨f74, hP, hD⟩ : ∃ f74 : Nat → Int32, va_P (dC, dI) vwCl [(a0, .inr (0, [.int a0_0, .int a0_1, .int a0_2, a0g_3, a0g_4, .int a0_5, .int a0_6, a0g_7, a0g_8, a0g_9, .ref a0_10, .ref a0_11, a0g_12, a0g_13, a0g_14])), (a1, .inr (5, [.int a1_0, .int a1_1, .int a1_2, .int a1_3, .int a1_4, .ref a1_5, .ref a1_6])), (a0_10, .inl (ka0_10, 9, .inl (fa0_10))), (a0_11, .inl (ka0_11, 9, .inl (fa0_11))), (a1_5, .inl (ka1_5, 9, .inl (fa1_5))), (a2, .inr (6, [.int a2_0, .int a2_1, .ref a2_2, .ref a2_3])), (a2_3, .inl (ka2_3, 3, .inl (fa2_3))), (a2_2, .inl (ka2_2, 3, .inl (fa2_2))), (a1_6, .inl (ka1_6, 9, .inl (f74)))] H ∧ va_D A [(a0, .inr (0, [.int a0_0, .int a0_1, .int a0_2, a0g_3, a0g_4, .int a0_5, .int a0_6, a0g_7, a0g_8, a0g_9, .ref a0_10, .ref a0_11, a0g_12, a0g_13, a0g_14])), (a1, .inr (5, [.int a1_0, .int a1_1, .int a1_2, .int a1_3, .int a1_4, .ref a1_5, .ref a1_6])), (a0_10, .inl (ka0_10, 9, .inl (fa0_10))), (a0_11, .inl (ka0_11, 9, .inl (fa0_11))), (a1_5, .inl (ka1_5, 9, .inl (fa1_5))), (a2, .inr (6, [.int a2_0, .int a2_1, .ref a2_2, .ref a2_3])), (a2_3, .inl (ka2_3, 3, .inl (fa2_3))), (a2_2, .inl (ka2_2, 3, .inl (fa2_2))), (a1_6, .inl (ka1_6, 9, .inl (f74)))] := ⟨_, hP, hD⟩
        refine lv_aload_n hx hb dX0_pass_75 rfl (lv_at hl 4 rfl) ?_
        refine lv_dup hx hb dX0_pass_76 rfl ?_
        refine va_get (D := (dC, dI)) (ci := 5) (v := .int a1_0) (C := RX5) (T := TX5) (N := 7) hx hb hts zi_X0_pass_5 hown hK hP 1 rfl rfl 0 (by decide) (hts (.fieldLink RX0 102 "WaxTurns$Scene" "minute" "I") (zm_X0_pass_r1 (List.mem_of_getElem? (i := 3) rfl))) (fun _ h9 => h9) rfl dX0_pass_77 ?_
        refine lv_iconst (v := 1) hx hb dX0_pass_80 zk_iconst_1 ?_
        refine lv_iadd hx hb dX0_pass_81 ?_
        refine lv_topi (fun x81 ex81 => ?_)
        refine va_put (D := (dC, dI)) (ci := 5) (v := .int x81) (ty := .int) (C := RX5) (T := TX5) (N := 7) hx hb hts zi_X0_pass_5 tyX5 tyX5_ok nmX5 hown hK hP hD hS 1 rfl rfl 0 (by decide) (hts (.fieldLink RX0 102 "WaxTurns$Scene" "minute" "I") (zm_X0_pass_r1 (List.mem_of_getElem? (i := 3) rfl))) (fun _ h9 => h9) rfl (tyX5_ok 0 (by decide)) rfl rfl (Nat.le_of_ble_eq_true rfl) dX0_pass_82 (fun H locs hP hD hS => ?_)
        refine zs_1 (y := (a1, .inr (5, [.int x81, .int a1_1, .int a1_2, .int a1_3, .int a1_4, .ref a1_5, .ref a1_6]))) hP hD rfl (fun hP hD => ?_)
        refine lv_aload_n hx hb dX0_pass_85 rfl (lv_at hl 4 rfl) ?_
        refine lv_iload hx hb dX0_pass_86 (lv_at hl 1 rfl) ?_
        refine va_put (D := (dC, dI)) (ci := 5) (v := .int x10) (ty := .int) (C := RX5) (T := TX5) (N := 7) hx hb hts zi_X0_pass_5 tyX5 tyX5_ok nmX5 hown hK hP hD hS 1 rfl rfl 2 (by decide) (hts (.fieldLink RX0 84 "WaxTurns$Scene" "spent" "I") (zm_X0_pass_r1 (List.mem_of_getElem? (i := 1) rfl))) (fun _ h9 => h9) rfl (tyX5_ok 2 (by decide)) rfl rfl (Nat.le_of_ble_eq_true rfl) dX0_pass_88 (fun H locs hP hD hS => ?_)
        refine zs_1 (y := (a1, .inr (5, [.int x81, .int a1_1, .int x10, .int a1_3, .int a1_4, .ref a1_5, .ref a1_6]))) hP hD rfl (fun hP hD => ?_)
        refine lv_iload hx hb dX0_pass_91 (lv_at hl 1 rfl) ?_
        refine lv_aload_n hx hb dX0_pass_93 rfl (lv_at hl 3 rfl) ?_
        refine va_get (D := (dC, dI)) (ci := 0) (v := .int a0_1) (C := RX0) (T := TX0) (N := 15) hx hb hts zi_X0_pass_0 hown hK hP 0 rfl rfl 1 (by decide) (hts (.fieldLink RX0 48 "WaxTurns$Hall" "span" "I") (zm_X0_pass_r1 (List.mem_of_getElem? (i := 5) rfl))) (fun _ h9 => h9) rfl dX0_pass_94 ?_
        refine lv_icmp_lt (tgt := 109) hx hb dX0_pass_97 (by decide) (fun c97 => ?_) (fun c97 => ?_)
        · have gc97 := ai_lt c97
          have u97t_x10 : x10.toInt ≤ (2147483646 : Int) := ai_lthi gc97 (ai_max a0_1)
          have l97t_a0_1 : (-2147483647 : Int) ≤ a0_1.toInt := ai_ltlo gc97 (ai_min x10)
          exact W.vret hx hb hr (fun t ht hW => ⟨⟨(), rfl, trivial, x81, a1_1, x10, a1_3, a1_4, fa1_5, f74, ⟨ba1_1_l, ba1_1_u⟩, by rw [ht]; exact hP, va_K.moved hW.alike hK, hD⟩, hS.F ht⟩) hS.2.2 dX0_pass_109
        · have gc97 := ai_nlt c97
          refine lv_aload_n hx hb dX0_pass_100 rfl (lv_at hl 4 rfl) ?_
          refine lv_aload_n hx hb dX0_pass_101 rfl (lv_at hl 3 rfl) ?_
          refine lv_iload_n hx hb dX0_pass_102 rfl (lv_at hl 2 rfl) ?_
          refine va_calli (va_runV (As := [.int a1_1]) (rest := [.ref a1]) ⟨hx, hb, hml, hown, hts⟩ (c_X0_next l dC dI H.size a0 a1_1 a0_0 (.int a0_1) (.int a0_2) a0g_3 a0g_4 a0g_7 a0g_8 a0g_9 (.ref a0_10) (.ref a0_11) a0g_12 a0g_13 a0g_14 a0_5 a0_6 ba1_1_l ba1_1_u ba0_0_l ba0_0_u ba0_5_l ba0_5_u ba0_6_l ba0_6_u) (cwV 1 hts gX0_pass_X0_next rfl rfl rfl zd_X0_next ⟨Nat.le_of_ble_eq_true rfl, Nat.le_of_ble_eq_true rfl⟩) ⟨ax_blind (fun _ _ _ _ _ => trivial), zr_0 (zp_K hK) (zp_P1 hP) (q0 := 0) rfl, ax_pre (zp_P1 hP) (zp_K hK) (zp_D1 hD) (fun _ _ => trivial)⟩ rfl rfl hl.1 rfl (lv_room (Nat.le_of_ble_eq_true rfl)) dX0_pass_103 ⟨Nat.le_of_ble_eq_true rfl, Nat.le_of_ble_eq_true rfl⟩) hS (fun q _ h => zp_F1 hD hS hA q h) (zp_F1 hD hS hA) (fun r103 u t H locs ht hvm hw hB hz1 hk1 hS1 => zo1 hB ht hP hD hk1 (zp_F1 hD hS hA) hS1 (fun hP hK1 hD hS => ?_))
          have hw : (0 : Int) ≤ r103.toInt ∧ r103.toInt ≤ (8 : Int) := hw
          obtain ⟨h103_0, h103_1⟩ := hw
          refine zc_cutc (wc := [(a1, .inr (5, [.int x81, .int a1_1, .int x10, .int a1_3, .int a1_4, .ref a1_5, .ref a1_6]))]) hP hD hS hA [1] (by decide +kernel) rfl (fun hPc hDc hFc hCc => ?_)
          have hKc := zp_K hK
          refine va_callv (va_runV (As := [.int r103]) (rest := []) ⟨hx, hb, hml, hown, hts⟩ (c_X5_startTurn l dC dI H.size a1 r103 (.int x81) (.int a1_3) (.int a1_4) (.ref a1_5) (.ref a1_6) a1_1 x10 h103_0 h103_1 ba1_1_l ba1_1_u) (cwV 1 hts gX0_pass_X5_startTurn rfl rfl rfl zd_X5_startTurn ⟨Nat.le_of_ble_eq_true rfl, Nat.le_of_ble_eq_true rfl⟩) ⟨ax_blind (fun _ _ _ _ _ => trivial), zr_5 hKc hPc (q0 := 0) rfl, ax_pre hPc hKc hDc (fun _ _ => trivial)⟩ rfl rfl hl.1 rfl (lv_room (Nat.le_of_ble_eq_true rfl)) dX0_pass_106 ⟨Nat.le_of_ble_eq_true rfl, Nat.le_of_ble_eq_true rfl⟩) hS (fun q _ h => hFc q h) hFc (fun u t H locs ht hvm hw => zx_2 (fun v106na0_1 v106na0_2 => zy_1 (fun bv106na0_1 hB hz1 hk1 hS1 => zo hB ht hS1 (fun hP1 hK1 hD1 hS => ?_))))
          refine zc_backc (w := [(a0, .inr (0, [.int a0_0, .int a0_1, .int a0_2, a0g_3, a0g_4, .int a0_5, .int a0_6, a0g_7, a0g_8, a0g_9, .ref a0_10, .ref a0_11, a0g_12, a0g_13, a0g_14])), (a1, .inr (5, [.int x81, .int v106na0_1, .int v106na0_2, .int a1_3, .int a1_4, .ref a1_5, .ref a1_6])), (a0_10, .inl (ka0_10, 9, .inl (fa0_10))), (a0_11, .inl (ka0_11, 9, .inl (fa0_11))), (a1_5, .inl (ka1_5, 9, .inl (fa1_5))), (a2, .inr (6, [.int a2_0, .int a2_1, .ref a2_2, .ref a2_3])), (a2_3, .inl (ka2_3, 3, .inl (fa2_3))), (a2_2, .inl (ka2_2, 3, .inl (fa2_2))), (a1_6, .inl (ka1_6, 9, .inl (f74)))]) hP hD hCc hk1 hFc hP1 hD1 [.inl 0, .inr 0, .inl 2, .inl 3, .inl 4, .inl 5, .inl 6, .inl 7, .inl 8] (by decide +kernel) rfl (fun hP hD => ?_)
          exact W.vret hx hb hr (fun t ht hW => ⟨⟨(), rfl, trivial, x81, v106na0_1, v106na0_2, a1_3, a1_4, fa1_5, f74, ⟨bv106na0_1.1, bv106na0_1.2⟩, by rw [ht]; exact hP, va_K.moved hW.alike hK, hD⟩, hS.F ht⟩) hS.2.2 dX0_pass_109
      · subst hw
        refine lv_if_eq (tgt := 75) hx hb dX0_pass_61 (by decide) (fun _ => ?_) (fun c61 => absurd (by decide +kernel) c61)
        refine lv_aload_n hx hb dX0_pass_75 rfl (lv_at hl 4 rfl) ?_
        refine lv_dup hx hb dX0_pass_76 rfl ?_
        refine va_get (D := (dC, dI)) (ci := 5) (v := .int a1_0) (C := RX5) (T := TX5) (N := 7) hx hb hts zi_X0_pass_5 hown hK hP 1 rfl rfl 0 (by decide) (hts (.fieldLink RX0 102 "WaxTurns$Scene" "minute" "I") (zm_X0_pass_r1 (List.mem_of_getElem? (i := 3) rfl))) (fun _ h9 => h9) rfl dX0_pass_77 ?_
        refine lv_iconst (v := 1) hx hb dX0_pass_80 zk_iconst_1 ?_
        refine lv_iadd hx hb dX0_pass_81 ?_
        refine lv_topi (fun x81 ex81 => ?_)
        refine va_put (D := (dC, dI)) (ci := 5) (v := .int x81) (ty := .int) (C := RX5) (T := TX5) (N := 7) hx hb hts zi_X0_pass_5 tyX5 tyX5_ok nmX5 hown hK hP hD hS 1 rfl rfl 0 (by decide) (hts (.fieldLink RX0 102 "WaxTurns$Scene" "minute" "I") (zm_X0_pass_r1 (List.mem_of_getElem? (i := 3) rfl))) (fun _ h9 => h9) rfl (tyX5_ok 0 (by decide)) rfl rfl (Nat.le_of_ble_eq_true rfl) dX0_pass_82 (fun H locs hP hD hS => ?_)
        refine zs_1 (y := (a1, .inr (5, [.int x81, .int a1_1, .int a1_2, .int a1_3, .int a1_4, .ref a1_5, .ref a1_6]))) hP hD rfl (fun hP hD => ?_)
        refine lv_aload_n hx hb dX0_pass_85 rfl (lv_at hl 4 rfl) ?_
        refine lv_iload hx hb dX0_pass_86 (lv_at hl 1 rfl) ?_
        refine va_put (D := (dC, dI)) (ci := 5) (v := .int x10) (ty := .int) (C := RX5) (T := TX5) (N := 7) hx hb hts zi_X0_pass_5 tyX5 tyX5_ok nmX5 hown hK hP hD hS 1 rfl rfl 2 (by decide) (hts (.fieldLink RX0 84 "WaxTurns$Scene" "spent" "I") (zm_X0_pass_r1 (List.mem_of_getElem? (i := 1) rfl))) (fun _ h9 => h9) rfl (tyX5_ok 2 (by decide)) rfl rfl (Nat.le_of_ble_eq_true rfl) dX0_pass_88 (fun H locs hP hD hS => ?_)
        refine zs_1 (y := (a1, .inr (5, [.int x81, .int a1_1, .int x10, .int a1_3, .int a1_4, .ref a1_5, .ref a1_6]))) hP hD rfl (fun hP hD => ?_)
        refine lv_iload hx hb dX0_pass_91 (lv_at hl 1 rfl) ?_
        refine lv_aload_n hx hb dX0_pass_93 rfl (lv_at hl 3 rfl) ?_
        refine va_get (D := (dC, dI)) (ci := 0) (v := .int a0_1) (C := RX0) (T := TX0) (N := 15) hx hb hts zi_X0_pass_0 hown hK hP 0 rfl rfl 1 (by decide) (hts (.fieldLink RX0 48 "WaxTurns$Hall" "span" "I") (zm_X0_pass_r1 (List.mem_of_getElem? (i := 5) rfl))) (fun _ h9 => h9) rfl dX0_pass_94 ?_
        refine lv_icmp_lt (tgt := 109) hx hb dX0_pass_97 (by decide) (fun c97 => ?_) (fun c97 => ?_)
        · have gc97 := ai_lt c97
          have u97t_x10 : x10.toInt ≤ (2147483646 : Int) := ai_lthi gc97 (ai_max a0_1)
          have l97t_a0_1 : (-2147483647 : Int) ≤ a0_1.toInt := ai_ltlo gc97 (ai_min x10)
          exact W.vret hx hb hr (fun t ht hW => ⟨⟨(), rfl, trivial, x81, a1_1, x10, a1_3, a1_4, fa1_5, fa1_6, ⟨ba1_1_l, ba1_1_u⟩, by rw [ht]; exact hP, va_K.moved hW.alike hK, hD⟩, hS.F ht⟩) hS.2.2 dX0_pass_109
        · have gc97 := ai_nlt c97
          refine lv_aload_n hx hb dX0_pass_100 rfl (lv_at hl 4 rfl) ?_
          refine lv_aload_n hx hb dX0_pass_101 rfl (lv_at hl 3 rfl) ?_
          refine lv_iload_n hx hb dX0_pass_102 rfl (lv_at hl 2 rfl) ?_
          refine va_calli (va_runV (As := [.int a1_1]) (rest := [.ref a1]) ⟨hx, hb, hml, hown, hts⟩ (c_X0_next l dC dI H.size a0 a1_1 a0_0 (.int a0_1) (.int a0_2) a0g_3 a0g_4 a0g_7 a0g_8 a0g_9 (.ref a0_10) (.ref a0_11) a0g_12 a0g_13 a0g_14 a0_5 a0_6 ba1_1_l ba1_1_u ba0_0_l ba0_0_u ba0_5_l ba0_5_u ba0_6_l ba0_6_u) (cwV 1 hts gX0_pass_X0_next rfl rfl rfl zd_X0_next ⟨Nat.le_of_ble_eq_true rfl, Nat.le_of_ble_eq_true rfl⟩) ⟨ax_blind (fun _ _ _ _ _ => trivial), zr_0 (zp_K hK) (zp_P1 hP) (q0 := 0) rfl, ax_pre (zp_P1 hP) (zp_K hK) (zp_D1 hD) (fun _ _ => trivial)⟩ rfl rfl hl.1 rfl (lv_room (Nat.le_of_ble_eq_true rfl)) dX0_pass_103 ⟨Nat.le_of_ble_eq_true rfl, Nat.le_of_ble_eq_true rfl⟩) hS (fun q _ h => zp_F1 hD hS hA q h) (zp_F1 hD hS hA) (fun r103 u t H locs ht hvm hw hB hz1 hk1 hS1 => zo1 hB ht hP hD hk1 (zp_F1 hD hS hA) hS1 (fun hP hK1 hD hS => ?_))
          have hw : (0 : Int) ≤ r103.toInt ∧ r103.toInt ≤ (8 : Int) := hw
          obtain ⟨h103_0, h103_1⟩ := hw
          refine zc_cutc (wc := [(a1, .inr (5, [.int x81, .int a1_1, .int x10, .int a1_3, .int a1_4, .ref a1_5, .ref a1_6]))]) hP hD hS hA [1] (by decide +kernel) rfl (fun hPc hDc hFc hCc => ?_)
          have hKc := zp_K hK
          refine va_callv (va_runV (As := [.int r103]) (rest := []) ⟨hx, hb, hml, hown, hts⟩ (c_X5_startTurn l dC dI H.size a1 r103 (.int x81) (.int a1_3) (.int a1_4) (.ref a1_5) (.ref a1_6) a1_1 x10 h103_0 h103_1 ba1_1_l ba1_1_u) (cwV 1 hts gX0_pass_X5_startTurn rfl rfl rfl zd_X5_startTurn ⟨Nat.le_of_ble_eq_true rfl, Nat.le_of_ble_eq_true rfl⟩) ⟨ax_blind (fun _ _ _ _ _ => trivial), zr_5 hKc hPc (q0 := 0) rfl, ax_pre hPc hKc hDc (fun _ _ => trivial)⟩ rfl rfl hl.1 rfl (lv_room (Nat.le_of_ble_eq_true rfl)) dX0_pass_106 ⟨Nat.le_of_ble_eq_true rfl, Nat.le_of_ble_eq_true rfl⟩) hS (fun q _ h => hFc q h) hFc (fun u t H locs ht hvm hw => zx_2 (fun v106na0_1 v106na0_2 => zy_1 (fun bv106na0_1 hB hz1 hk1 hS1 => zo hB ht hS1 (fun hP1 hK1 hD1 hS => ?_))))
          refine zc_backc (w := [(a0, .inr (0, [.int a0_0, .int a0_1, .int a0_2, a0g_3, a0g_4, .int a0_5, .int a0_6, a0g_7, a0g_8, a0g_9, .ref a0_10, .ref a0_11, a0g_12, a0g_13, a0g_14])), (a1, .inr (5, [.int x81, .int v106na0_1, .int v106na0_2, .int a1_3, .int a1_4, .ref a1_5, .ref a1_6])), (a0_10, .inl (ka0_10, 9, .inl (fa0_10))), (a0_11, .inl (ka0_11, 9, .inl (fa0_11))), (a1_5, .inl (ka1_5, 9, .inl (fa1_5))), (a2, .inr (6, [.int a2_0, .int a2_1, .ref a2_2, .ref a2_3])), (a2_3, .inl (ka2_3, 3, .inl (fa2_3))), (a2_2, .inl (ka2_2, 3, .inl (fa2_2))), (a1_6, .inl (ka1_6, 9, .inl (fa1_6)))]) hP hD hCc hk1 hFc hP1 hD1 [.inl 0, .inr 0, .inl 2, .inl 3, .inl 4, .inl 5, .inl 6, .inl 7, .inl 8] (by decide +kernel) rfl (fun hP hD => ?_)
          exact W.vret hx hb hr (fun t ht hW => ⟨⟨(), rfl, trivial, x81, v106na0_1, v106na0_2, a1_3, a1_4, fa1_5, fa1_6, ⟨bv106na0_1.1, bv106na0_1.2⟩, by rw [ht]; exact hP, va_K.moved hW.alike hK, hD⟩, hS.F ht⟩) hS.2.2 dX0_pass_109
end P102_safe
section P103_safe
set_option maxHeartbeats 4000000 in
set_option maxRecDepth 100000 in
theorem c_X2_addIfFit (l : Launch) (dC : Nat → ClassId) (dI : Nat → Nat → Nat) (sz : Nat) (a0 : Nat) (a1 : Nat) (a2 : Int32) (a0_0 : Int32) (a0g_1 a0g_2 a0g_4 a0g_5 a0g_6 : Value) (a0_3 : Nat) (a1_0 : Int32) (a1_1 : Int32) (a1g_2 a1g_3 a1g_4 a1g_5 a1g_6 a1g_7 a1g_8 a1g_10 a1g_11 a1g_14 : Value) (a1_9 : Int32) (a1_12 : Nat) (a1_13 : Nat) (ka0_3 : ClassId) (fa0_3 : Nat → Int32) (ka1_13 : ClassId) (fa1_13 : Nat → Int32) (ka1_12 : ClassId) (fa1_12 : Nat → Int32) (ba2_l : (0 : Int) ≤ a2.toInt) (ba2_u : a2.toInt ≤ (888 : Int)) (ba0_0_l : (0 : Int) ≤ a0_0.toInt) (ba0_0_u : a0_0.toInt ≤ (729 : Int)) (ba1_0_l : (0 : Int) ≤ a1_0.toInt) (ba1_0_u : a1_0.toInt ≤ (9 : Int)) (ba1_9_l : (0 : Int) ≤ a1_9.toInt) (ba1_9_u : a1_9.toInt ≤ (6 : Int)) (bfa0_3 : (∀ k, (0 : Int) ≤ (fa0_3 k).toInt ∧ (fa0_3 k).toInt ≤ 888 ∧ (fa0_3 k).toInt % 10 ≤ 8)) (bfa1_13 : (∀ k, (0 : Int) ≤ (fa1_13 k).toInt ∧ (fa1_13 k).toInt ≤ 999)) (m_a2 : a2.toInt % 10 ≤ 8) : zm l yX2_addIfFit wsX2_addIfFit ({ frames := 2, cells := 0, slots := 0, locals := 51 }) [.ref a0, .ref a1, .int a2] dC dI sz [(a0, .inr (2, [.int a0_0, a0g_1, a0g_2, .ref a0_3, a0g_4, a0g_5, a0g_6])), (a1, .inr (0, [.int a1_0, .int a1_1, a1g_2, a1g_3, a1g_4, a1g_5, a1g_6, a1g_7, a1g_8, .int a1_9, a1g_10, a1g_11, .ref a1_12, .ref a1_13, a1g_14])), (a0_3, .inl (ka0_3, 729, .inl (fa0_3))), (a1_13, .inl (ka1_13, 6, .inl (fa1_13))), (a1_12, .inl (ka1_12, 6, .inl (fa1_12)))] [(ka0_3, .int), (ka1_13, .int), (ka1_12, .int)] (fun A U => va_Nw (.methodLinkNest RX0 72 yX7_laterTurn RX7) U) (fun A => va_Qv (fun (_ : Unit) => True) (fun (_ : Unit) (t : State) => ∃ na0_0 : Int32, ∃ nfa0_3 : Nat → Int32, ((0 : Int) ≤ na0_0.toInt ∧ na0_0.toInt ≤ 729) ∧ (∀ k, (0 : Int) ≤ (nfa0_3 k).toInt ∧ (nfa0_3 k).toInt ≤ 888 ∧ (nfa0_3 k).toInt % 10 ≤ 8) ∧ ax_B dC dI A [(a0, .inr (2, [.int na0_0, a0g_1, a0g_2, .ref a0_3, a0g_4, a0g_5, a0g_6])), (a1, .inr (0, [.int a1_0, .int a1_1, a1g_2, a1g_3, a1g_4, a1g_5, a1g_6, a1g_7, a1g_8, .int a1_9, a1g_10, a1g_11, .ref a1_12, .ref a1_13, a1g_14])), (a0_3, .inl (ka0_3, 729, .inl (nfa0_3))), (a1_13, .inl (ka1_13, 6, .inl (fa1_13))), (a1_12, .inl (ka1_12, 6, .inl (fa1_12)))] [(ka0_3, .int), (ka1_13, .int), (ka1_12, .int)] t) A) := by
  refine zh (cc := cX2_addIfFit) (maxL := 4) (ret := none) zn_RX2 rfl (Nat.le_of_ble_eq_true rfl) (fun p e s m below meth c A ls hx hb hml hr hts (hown : s.vm.findClass RX2 = some m.cls) hlocks hA hS hP hK hD hE (hl : lv_has ls 4 [(0, .ref a0), (1, .ref a1), (2, .int a2)]) => ?_)
  have hE0 := hE
  refine ai_open (fun K hK0 => ?_)
  refine (hK0 _ _ _).mpr ?_
  refine lv_iconst (v := 0) hx hb dX2_addIfFit_0 zk_iconst_0 ?_
  refine lv_istore_n (lv' := [(3, .int 0), (0, .ref a0), (1, .ref a1), (2, .int a2)]) hx hb dX2_addIfFit_1 rfl hl (by decide) rfl (fun ls hl => ?_)
  have J2 : ∀ (n : Nat) (j2l3 : Int32) (H : Heap) (locs : List Loc) (ls : Array Slot), (7 : Int) - j2l3.toInt ≤ (n : Int) → (0 : Int) ≤ j2l3.toInt → j2l3.toInt ≤ (6 : Int) → va_P (dC, dI) vwCl [(a0, .inr (2, [.int a0_0, a0g_1, a0g_2, .ref a0_3, a0g_4, a0g_5, a0g_6])), (a1, .inr (0, [.int a1_0, .int a1_1, a1g_2, a1g_3, a1g_4, a1g_5, a1g_6, a1g_7, a1g_8, .int a1_9, a1g_10, a1g_11, .ref a1_12, .ref a1_13, a1g_14])), (a0_3, .inl (ka0_3, 729, .inl (fa0_3))), (a1_13, .inl (ka1_13, 6, .inl (fa1_13))), (a1_12, .inl (ka1_12, 6, .inl (fa1_12)))] H → va_D A [(a0, .inr (2, [.int a0_0, a0g_1, a0g_2, .ref a0_3, a0g_4, a0g_5, a0g_6])), (a1, .inr (0, [.int a1_0, .int a1_1, a1g_2, a1g_3, a1g_4, a1g_5, a1g_6, a1g_7, a1g_8, .int a1_9, a1g_10, a1g_11, .ref a1_12, .ref a1_13, a1g_14])), (a0_3, .inl (ka0_3, 729, .inl (fa0_3))), (a1_13, .inl (ka1_13, 6, .inl (fa1_13))), (a1_12, .inl (ka1_12, 6, .inl (fa1_12)))] → va_S A s.heap H locs → lv_has ls 4 [(0, .ref a0), (1, .ref a1), (2, .int a2), (3, .int j2l3)] → K H locs (F0 m 2 ls []) := by
    intro n
    induction n with
    | zero =>
      intro j2l3 H locs ls hm bj2l3_l bj2l3_u hP hD hS hl
      first | exact zg_0 hm bj2l3_u (by decide) | (have h8 := ai_min j2l3; have h9 := ai_max j2l3; exact absurd hm (by omega))
    | succ n ih2 =>
      intro j2l3 H locs ls hm bj2l3_l bj2l3_u hP hD hS hl
      refine (hK0 _ _ _).mpr ?_
      have hm2 := hm
      refine lv_iload_n hx hb dX2_addIfFit_2 rfl (lv_at hl 3 rfl) ?_
      refine lv_aload_n hx hb dX2_addIfFit_3 rfl (lv_at hl 1 rfl) ?_
      refine va_get (D := (dC, dI)) (ci := 0) (v := .int a1_9) (C := RX0) (T := TX0) (N := 15) hx hb hts zi_X2_addIfFit_0 hown hK hP 1 rfl rfl 9 (by decide) (hts (.fieldLink RX2 38 "WaxTurns$Hall" "seenCount" "I") (List.mem_cons_of_mem _ (List.mem_append_left _ (List.mem_append_left _ (List.mem_of_getElem? (i := 0) rfl))))) (fun _ h9 => h9) rfl dX2_addIfFit_4 ?_
      refine lv_icmp_ge (tgt := 37) hx hb dX2_addIfFit_7 (by decide) (fun c7 => ?_) (fun c7 => ?_)
      · have gc7 := ai_le c7
        have u7t_a1_9 : a1_9.toInt ≤ (6 : Int) := ba1_9_u
        have l7t_j2l3 : (0 : Int) ≤ j2l3.toInt := bj2l3_l
        refine lv_aload_n hx hb dX2_addIfFit_37 rfl (lv_at hl 0 rfl) ?_
        refine va_get (D := (dC, dI)) (ci := 2) (v := .int a0_0) (C := RX2) (T := TX2) (N := 7) hx hb hts zi_X2_addIfFit_2 hown hK hP 0 rfl rfl 0 (by decide) (hts (.fieldLink RX2 25 "WaxTurns$Laws" "fitCount" "I") (List.mem_cons_of_mem _ (List.mem_append_left _ (List.mem_append_left _ (List.mem_of_getElem? (i := 3) rfl))))) (fun _ h9 => h9) rfl dX2_addIfFit_38 ?_
        refine lv_sipush (v := 729) hx hb dX2_addIfFit_41 zk_sipush_729 ?_
        refine lv_icmp_ge (tgt := 67) hx hb dX2_addIfFit_44 (by decide) (fun c44 => ?_) (fun c44 => ?_)
        · have gc44 := ai_le c44
          have l44t_a0_0 : (729 : Int) ≤ a0_0.toInt := Int.le_trans zq29 gc44
          exact W.vret hx hb hr (fun t ht hW => ⟨⟨(), rfl, trivial, a0_0, fa0_3, ⟨Int.le_trans (by decide) l44t_a0_0, ba0_0_u⟩, bfa0_3, by rw [ht]; exact hP, va_K.moved hW.alike hK, hD⟩, hS.F ht⟩) hS.2.2 dX2_addIfFit_67
        · have gc44 := ai_nle c44
          have u44f_a0_0 : a0_0.toInt ≤ (728 : Int) := ai_lthi gc44 zq30
          refine lv_aload_n hx hb dX2_addIfFit_47 rfl (lv_at hl 0 rfl) ?_
          refine va_get (D := (dC, dI)) (ci := 2) (v := .ref a0_3) (C := RX2) (T := TX2) (N := 7) hx hb hts zi_X2_addIfFit_2 hown hK hP 0 rfl rfl 3 (by decide) (hts (.fieldLink RX2 9 "WaxTurns$Laws" "fitting" "[I") (List.mem_cons_of_mem _ (List.mem_append_left _ (List.mem_append_left _ (List.mem_of_getElem? (i := 4) rfl))))) (fun _ h9 => h9) rfl dX2_addIfFit_48 ?_
          refine lv_aload_n hx hb dX2_addIfFit_51 rfl (lv_at hl 0 rfl) ?_
          refine va_get (D := (dC, dI)) (ci := 2) (v := .int a0_0) (C := RX2) (T := TX2) (N := 7) hx hb hts zi_X2_addIfFit_2 hown hK hP 0 rfl rfl 0 (by decide) (hts (.fieldLink RX2 25 "WaxTurns$Laws" "fitCount" "I") (List.mem_cons_of_mem _ (List.mem_append_left _ (List.mem_append_left _ (List.mem_of_getElem? (i := 3) rfl))))) (fun _ h9 => h9) rfl dX2_addIfFit_52 ?_
          refine lv_iload_n hx hb dX2_addIfFit_55 rfl (lv_at hl 2 rfl) ?_
          refine va_iast hx hb hK hP hD hS 2 0 rfl rfl (ai_in ba0_0_l u44f_a0_0 (by decide) (by decide)) dX2_addIfFit_56 (fun H locs hP hD hS => ?_)
          obtain ⟨f56, bf56, hP, hD⟩ : ∃ f56 : Nat → Int32, (∀ k, (0 : Int) ≤ (f56 k).toInt ∧ (f56 k).toInt ≤ 888 ∧ (f56 k).toInt % 10 ≤ 8) ∧ va_P (dC, dI) vwCl [(a0, .inr (2, [.int a0_0, a0g_1, a0g_2, .ref a0_3, a0g_4, a0g_5, a0g_6])), (a1, .inr (0, [.int a1_0, .int a1_1, a1g_2, a1g_3, a1g_4, a1g_5, a1g_6, a1g_7, a1g_8, .int a1_9, a1g_10, a1g_11, .ref a1_12, .ref a1_13, a1g_14])), (a0_3, .inl (ka0_3, 729, .inl (f56))), (a1_13, .inl (ka1_13, 6, .inl (fa1_13))), (a1_12, .inl (ka1_12, 6, .inl (fa1_12)))] H ∧ va_D A [(a0, .inr (2, [.int a0_0, a0g_1, a0g_2, .ref a0_3, a0g_4, a0g_5, a0g_6])), (a1, .inr (0, [.int a1_0, .int a1_1, a1g_2, a1g_3, a1g_4, a1g_5, a1g_6, a1g_7, a1g_8, .int a1_9, a1g_10, a1g_11, .ref a1_12, .ref a1_13, a1g_14])), (a0_3, .inl (ka0_3, 729, .inl (f56))), (a1_13, .inl (ka1_13, 6, .inl (fa1_13))), (a1_12, .inl (ka1_12, 6, .inl (fa1_12)))] := ⟨_, ai_updm bfa0_3 _ ⟨ba2_l, ba2_u, m_a2⟩, hP, hD⟩
          refine lv_aload_n hx hb dX2_addIfFit_57 rfl (lv_at hl 0 rfl) ?_
          refine lv_dup hx hb dX2_addIfFit_58 rfl ?_
          refine va_get (D := (dC, dI)) (ci := 2) (v := .int a0_0) (C := RX2) (T := TX2) (N := 7) hx hb hts zi_X2_addIfFit_2 hown hK hP 0 rfl rfl 0 (by decide) (hts (.fieldLink RX2 25 "WaxTurns$Laws" "fitCount" "I") (List.mem_cons_of_mem _ (List.mem_append_left _ (List.mem_append_left _ (List.mem_of_getElem? (i := 3) rfl))))) (fun _ h9 => h9) rfl dX2_addIfFit_59 ?_
          refine lv_iconst (v := 1) hx hb dX2_addIfFit_62 zk_iconst_1 ?_
          refine lv_iadd hx hb dX2_addIfFit_63 ?_
          refine lv_topi (fun x63 ex63 => ?_)
          have qx63 : x63.toInt = a0_0.toInt + (1 : Int32).toInt := ai_add ex63 ⟨ba0_0_l, u44f_a0_0⟩ ⟨zq1, zq0⟩ (by decide) (by decide)
          have bx63 : (1 : Int) ≤ x63.toInt ∧ x63.toInt ≤ 729 := ⟨by rw [qx63]; exact Int.add_le_add ba0_0_l zq1, by rw [qx63]; exact Int.add_le_add u44f_a0_0 zq0⟩
          have wx63 : x63.toInt = a0_0.toInt + 1 := qx63
          refine va_put (D := (dC, dI)) (ci := 2) (v := .int x63) (ty := .int) (C := RX2) (T := TX2) (N := 7) hx hb hts zi_X2_addIfFit_2 tyX2 tyX2_ok nmX2 hown hK hP hD hS 0 rfl rfl 0 (by decide) (hts (.fieldLink RX2 25 "WaxTurns$Laws" "fitCount" "I") (List.mem_cons_of_mem _ (List.mem_append_left _ (List.mem_append_left _ (List.mem_of_getElem? (i := 3) rfl))))) (fun _ h9 => h9) rfl (tyX2_ok 0 (by decide)) rfl rfl (Nat.le_of_ble_eq_true rfl) dX2_addIfFit_64 (fun H locs hP hD hS => ?_)
          refine zs_0 (y := (a0, .inr (2, [.int x63, a0g_1, a0g_2, .ref a0_3, a0g_4, a0g_5, a0g_6]))) hP hD rfl (fun hP hD => ?_)
          exact W.vret hx hb hr (fun t ht hW => ⟨⟨(), rfl, trivial, x63, f56, ⟨Int.le_trans (by decide) bx63.1, bx63.2⟩, bf56, by rw [ht]; exact hP, va_K.moved hW.alike hK, hD⟩, hS.F ht⟩) hS.2.2 dX2_addIfFit_67
      · have gc7 := ai_nle c7
        have u7f_j2l3 : j2l3.toInt ≤ (5 : Int) := ai_lthi gc7 ba1_9_u
        have l7f_a1_9 : (1 : Int) ≤ a1_9.toInt := ai_ltlo gc7 bj2l3_l
        refine lv_aload_n hx hb dX2_addIfFit_10 rfl (lv_at hl 1 rfl) ?_
        refine lv_iload_n hx hb dX2_addIfFit_11 rfl (lv_at hl 2 rfl) ?_
        refine lv_aload_n hx hb dX2_addIfFit_12 rfl (lv_at hl 1 rfl) ?_
        refine va_get (D := (dC, dI)) (ci := 0) (v := .ref a1_13) (C := RX0) (T := TX0) (N := 15) hx hb hts zi_X2_addIfFit_0 hown hK hP 1 rfl rfl 13 (by decide) (hts (.fieldLink RX2 41 "WaxTurns$Hall" "seenMinutes" "[I") (List.mem_cons_of_mem _ (List.mem_append_left _ (List.mem_append_left _ (List.mem_of_getElem? (i := 1) rfl))))) (fun _ h9 => h9) rfl dX2_addIfFit_13 ?_
        refine lv_iload_n hx hb dX2_addIfFit_16 rfl (lv_at hl 3 rfl) ?_
        refine va_iald hx hb hK hP 3 1 rfl rfl (ai_in bj2l3_l u7f_j2l3 (by decide) (by decide)) dX2_addIfFit_17 ?_
        refine lv_topi (fun x17 ex17 => ?_)
        have bx17 : (0 : Int) ≤ x17.toInt ∧ x17.toInt ≤ 999 := by rw [ex17]; exact bfa1_13 _
        refine zc_cutc (wc := [(a1, .inr (0, [.int a1_0, .int a1_1, a1g_2, a1g_3, a1g_4, a1g_5, a1g_6, a1g_7, a1g_8, .int a1_9, a1g_10, a1g_11, .ref a1_12, .ref a1_13, a1g_14]))]) hP hD hS hA [1] (by decide +kernel) rfl (fun hPc hDc hFc hCc => ?_)
        have hKc := zp_K hK
        refine va_calli (va_runV (As := [.int a2, .int x17]) (rest := []) ⟨hx, hb, hml, hown, hts⟩ (c_X0_aliveByLaw l dC dI H.size a1 a2 x17 a1_0 a1_1 a1g_2 a1g_3 a1g_4 a1g_5 a1g_6 a1g_7 a1g_8 (.int a1_9) a1g_10 a1g_11 (.ref a1_12) (.ref a1_13) a1g_14 ba2_l (Int.le_trans ba2_u zq31) bx17.1 bx17.2 ba1_0_l ba1_0_u) (cwV 2 hts gX2_addIfFit_X0_aliveByLaw rfl rfl rfl zd_X0_aliveByLaw ⟨Nat.le_of_ble_eq_true rfl, Nat.le_of_ble_eq_true rfl⟩) ⟨ax_blind (fun _ _ _ _ hq => va_Nw.same rfl rfl (hq)), zr_0 hKc hPc (q0 := 0) rfl, ax_pre hPc hKc hDc (fun _ hW => va_Nw.warmM hW hE0)⟩ rfl rfl hl.1 rfl (lv_room (Nat.le_of_ble_eq_true rfl)) dX2_addIfFit_18 ⟨Nat.le_of_ble_eq_true rfl, Nat.le_of_ble_eq_true rfl⟩) hS (fun q _ h => hFc q h) hFc (fun r18 u t H locs ht hvm hw hB hz1 hk1 hS1 => zo hB ht hS1 (fun hP1 hK1 hD1 hS => ?_))
        refine zc_backc (w := [(a0, .inr (2, [.int a0_0, a0g_1, a0g_2, .ref a0_3, a0g_4, a0g_5, a0g_6])), (a1, .inr (0, [.int a1_0, .int a1_1, a1g_2, a1g_3, a1g_4, a1g_5, a1g_6, a1g_7, a1g_8, .int a1_9, a1g_10, a1g_11, .ref a1_12, .ref a1_13, a1g_14])), (a0_3, .inl (ka0_3, 729, .inl (fa0_3))), (a1_13, .inl (ka1_13, 6, .inl (fa1_13))), (a1_12, .inl (ka1_12, 6, .inl (fa1_12)))]) hP hD hCc hk1 hFc hP1 hD1 [.inl 0, .inr 0, .inl 2, .inl 3, .inl 4] (by decide +kernel) rfl (fun hP hD => ?_)
        have hw : (0 : Int) ≤ r18.toInt ∧ r18.toInt ≤ (9 : Int) := hw
        obtain ⟨h18_0, h18_1⟩ := hw
        refine lv_aload_n hx hb dX2_addIfFit_21 rfl (lv_at hl 1 rfl) ?_
        refine va_get (D := (dC, dI)) (ci := 0) (v := .ref a1_12) (C := RX0) (T := TX0) (N := 15) hx hb hts zi_X2_addIfFit_0 hown hK hP 1 rfl rfl 12 (by decide) (hts (.fieldLink RX2 48 "WaxTurns$Hall" "seenFigures" "[I") (List.mem_cons_of_mem _ (List.mem_append_left _ (List.mem_append_left _ (List.mem_of_getElem? (i := 2) rfl))))) (fun _ h9 => h9) rfl dX2_addIfFit_22 ?_
        refine lv_iload_n hx hb dX2_addIfFit_25 rfl (lv_at hl 3 rfl) ?_
        refine va_iald hx hb hK hP 4 2 rfl rfl (ai_in bj2l3_l u7f_j2l3 (by decide) (by decide)) dX2_addIfFit_26 ?_
        refine lv_topi (fun x26 ex26 => ?_)
        refine lv_icmp_eq (tgt := 31) hx hb dX2_addIfFit_27 (by decide) (fun c27 => ?_) (fun c27 => ?_)
        · have gc27 := ai_eq c27
          have u27t_x26 : x26.toInt ≤ (9 : Int) := Int.le_trans (Int.le_of_eq gc27.symm) h18_1
          have l27t_x26 : (0 : Int) ≤ x26.toInt := Int.le_trans h18_0 (Int.le_of_eq gc27)
          obtain ⟨x31, ex31⟩ : ∃ y : Int32, y = j2l3 + Int32.ofInt 1 := ⟨_, rfl⟩
          have qx31 : x31.toInt = j2l3.toInt + 1 := ai_inc ex31 (by decide) (by decide) u7f_j2l3 (by decide)
          have bx31 : (1 : Int) ≤ x31.toInt ∧ x31.toInt ≤ 6 := ⟨by rw [qx31]; exact Int.add_le_add bj2l3_l (Int.le_refl _), by rw [qx31]; exact Int.add_le_add u7f_j2l3 (Int.le_refl _)⟩
          refine lv_iinc (v := x31) (lv' := [(3, .int x31), (0, .ref a0), (1, .ref a1), (2, .int a2)]) hx hb dX2_addIfFit_31 hl (k := 3) rfl ex31.symm (by decide) rfl (fun ls hl => ?_)
          refine lv_goto (tgt := 2) hx hb dX2_addIfFit_34 (by decide) ?_
          exact (hK0 _ _ _).mp (ih2 x31 _ _ _ (by first | exact zg_s hm2 qx31 | (have h0 := qx31; omega)) (Int.le_trans zq4 bx31.1) bx31.2 hP hD hS (lv_sub hl [1, 2, 3, 0] rfl))
        · have gc27 := ai_ne c27
          exact W.vret hx hb hr (fun t ht hW => ⟨⟨(), rfl, trivial, a0_0, fa0_3, ⟨ba0_0_l, ba0_0_u⟩, bfa0_3, by rw [ht]; exact hP, va_K.moved hW.alike hK, hD⟩, hS.F ht⟩) hS.2.2 dX2_addIfFit_30
  exact (hK0 _ _ _).mp (J2 7 0 _ _ _ (by first | decide +kernel | (have h1 : (0 : Int) ≤ (0 : Int32).toInt := zq5; have h2 : (0 : Int32).toInt ≤ (0 : Int) := zq6; omega)) zq5 (Int.le_trans zq6 zq17) hP hD hS (lv_sub hl [1, 2, 3, 0] rfl))

set_option maxHeartbeats 4000000 in
set_option maxRecDepth 100000 in
theorem c_X2_list (l : Launch) (dC : Nat → ClassId) (dI : Nat → Nat → Nat) (sz : Nat) (a0 : Nat) (a1 : Nat) (a0_0 : Int32) (a0g_1 a0g_2 a0g_4 a0g_6 : Value) (a0_3 : Nat) (a0_5 : Int32) (a1_0 : Int32) (a1_1 : Int32) (a1g_2 a1g_3 a1g_4 a1g_5 a1g_6 a1g_7 a1g_8 a1g_10 a1g_11 a1g_14 : Value) (a1_9 : Int32) (a1_12 : Nat) (a1_13 : Nat) (ka0_3 : ClassId) (fa0_3 : Nat → Int32) (ka1_13 : ClassId) (fa1_13 : Nat → Int32) (ka1_12 : ClassId) (fa1_12 : Nat → Int32) (ba0_0_l : (0 : Int) ≤ a0_0.toInt) (ba0_0_u : a0_0.toInt ≤ (729 : Int)) (ba0_5_l : (0 : Int) ≤ a0_5.toInt) (ba0_5_u : a0_5.toInt ≤ (1 : Int)) (ba1_0_l : (0 : Int) ≤ a1_0.toInt) (ba1_0_u : a1_0.toInt ≤ (9 : Int)) (ba1_9_l : (0 : Int) ≤ a1_9.toInt) (ba1_9_u : a1_9.toInt ≤ (6 : Int)) (bfa0_3 : (∀ k, (0 : Int) ≤ (fa0_3 k).toInt ∧ (fa0_3 k).toInt ≤ 888 ∧ (fa0_3 k).toInt % 10 ≤ 8)) (bfa1_13 : (∀ k, (0 : Int) ≤ (fa1_13 k).toInt ∧ (fa1_13 k).toInt ≤ 999)) : zm l yX2_list wsX2_list ({ frames := 3, cells := 0, slots := 0, locals := 74 }) [.ref a0, .ref a1] dC dI sz [(a0, .inr (2, [.int a0_0, a0g_1, a0g_2, .ref a0_3, a0g_4, .int a0_5, a0g_6])), (a1, .inr (0, [.int a1_0, .int a1_1, a1g_2, a1g_3, a1g_4, a1g_5, a1g_6, a1g_7, a1g_8, .int a1_9, a1g_10, a1g_11, .ref a1_12, .ref a1_13, a1g_14])), (a0_3, .inl (ka0_3, 729, .inl (fa0_3))), (a1_13, .inl (ka1_13, 6, .inl (fa1_13))), (a1_12, .inl (ka1_12, 6, .inl (fa1_12)))] [(ka0_3, .int), (ka1_13, .int), (ka1_12, .int)] (fun A U => va_Nw (.methodLinkNest RX0 72 yX7_laterTurn RX7) U) (fun A => va_Qv (fun (_ : Unit) => True) (fun (_ : Unit) (t : State) => ∃ na0_0 : Int32, ∃ na0_5 : Int32, ∃ nfa0_3 : Nat → Int32, ((0 : Int) ≤ na0_0.toInt ∧ na0_0.toInt ≤ 729) ∧ ((0 : Int) ≤ na0_5.toInt ∧ na0_5.toInt ≤ 1) ∧ (∀ k, (0 : Int) ≤ (nfa0_3 k).toInt ∧ (nfa0_3 k).toInt ≤ 888 ∧ (nfa0_3 k).toInt % 10 ≤ 8) ∧ ax_B dC dI A [(a0, .inr (2, [.int na0_0, a0g_1, a0g_2, .ref a0_3, a0g_4, .int na0_5, a0g_6])), (a1, .inr (0, [.int a1_0, .int a1_1, a1g_2, a1g_3, a1g_4, a1g_5, a1g_6, a1g_7, a1g_8, .int a1_9, a1g_10, a1g_11, .ref a1_12, .ref a1_13, a1g_14])), (a0_3, .inl (ka0_3, 729, .inl (nfa0_3))), (a1_13, .inl (ka1_13, 6, .inl (fa1_13))), (a1_12, .inl (ka1_12, 6, .inl (fa1_12)))] [(ka0_3, .int), (ka1_13, .int), (ka1_12, .int)] t) A) := by
  refine zh (cc := cX2_list) (maxL := 5) (ret := none) zn_RX2 rfl (Nat.le_of_ble_eq_true rfl) (fun p e s m below meth c A ls hx hb hml hr hts (hown : s.vm.findClass RX2 = some m.cls) hlocks hA hS hP hK hD hE (hl : lv_has ls 5 [(0, .ref a0), (1, .ref a1)]) => ?_)
  have hE0 := hE
  refine ai_open (fun K hK0 => ?_)
  refine (hK0 _ _ _).mpr ?_
  refine lv_aload_n hx hb dX2_list_0 rfl (lv_at hl 0 rfl) ?_
  refine va_get (D := (dC, dI)) (ci := 2) (v := .int a0_5) (C := RX2) (T := TX2) (N := 7) hx hb hts zi_X2_list_2 hown hK hP 0 rfl rfl 5 (by decide) (hts (.fieldLink RX2 18 "WaxTurns$Laws" "listed" "Z") (List.mem_cons_of_mem _ (List.mem_append_left _ (List.mem_append_left _ (List.mem_of_getElem? (i := 0) rfl))))) (fun _ h9 => h9) rfl dX2_list_1 ?_
  refine lv_if_eq (tgt := 8) hx hb dX2_list_4 (by decide) (fun c4 => ?_) (fun c4 => ?_)
  · have gc4 := ai_eq c4
    have u4t_a0_5 : a0_5.toInt ≤ (0 : Int) := Int.le_trans (Int.le_of_eq gc4) zq6
    have l4t_a0_5 : (0 : Int) ≤ a0_5.toInt := ba0_5_l
    refine lv_aload_n hx hb dX2_list_8 rfl (lv_at hl 0 rfl) ?_
    refine lv_iconst (v := 1) hx hb dX2_list_9 zk_iconst_1 ?_
    refine va_put (D := (dC, dI)) (ci := 2) (v := .int 1) (ty := .boolean) (C := RX2) (T := TX2) (N := 7) hx hb hts zi_X2_list_2 tyX2 tyX2_ok nmX2 hown hK hP hD hS 0 rfl rfl 5 (by decide) (hts (.fieldLink RX2 18 "WaxTurns$Laws" "listed" "Z") (List.mem_cons_of_mem _ (List.mem_append_left _ (List.mem_append_left _ (List.mem_of_getElem? (i := 0) rfl))))) (fun _ h9 => h9) rfl (tyX2_ok 5 (by decide)) rfl rfl (Nat.le_of_ble_eq_true rfl) dX2_list_10 (fun H locs hP hD hS => ?_)
    refine zs_0 (y := (a0, .inr (2, [.int a0_0, a0g_1, a0g_2, .ref a0_3, a0g_4, .int 1, a0g_6]))) hP hD rfl (fun hP hD => ?_)
    refine lv_aload_n hx hb dX2_list_13 rfl (lv_at hl 0 rfl) ?_
    refine lv_iconst (v := 0) hx hb dX2_list_14 zk_iconst_0 ?_
    refine va_put (D := (dC, dI)) (ci := 2) (v := .int 0) (ty := .int) (C := RX2) (T := TX2) (N := 7) hx hb hts zi_X2_list_2 tyX2 tyX2_ok nmX2 hown hK hP hD hS 0 rfl rfl 0 (by decide) (hts (.fieldLink RX2 25 "WaxTurns$Laws" "fitCount" "I") (List.mem_cons_of_mem _ (List.mem_append_left _ (List.mem_append_left _ (List.mem_of_getElem? (i := 1) rfl))))) (fun _ h9 => h9) rfl (tyX2_ok 0 (by decide)) rfl rfl (Nat.le_of_ble_eq_true rfl) dX2_list_15 (fun H locs hP hD hS => ?_)
    refine zs_0 (y := (a0, .inr (2, [.int 0, a0g_1, a0g_2, .ref a0_3, a0g_4, .int 1, a0g_6]))) hP hD rfl (fun hP hD => ?_)
    refine lv_iconst (v := 0) hx hb dX2_list_18 zk_iconst_0 ?_
    refine lv_istore_n (lv' := [(2, .int 0), (0, .ref a0), (1, .ref a1)]) hx hb dX2_list_19 rfl hl (by decide) rfl (fun ls hl => ?_)
    have J20 : ∀ (n : Nat) (j20l2 : Int32) (j20a0_0 : Int32) (j20a0_3_a : Nat → Int32) (H : Heap) (locs : List Loc) (ls : Array Slot), (10 : Int) - j20l2.toInt ≤ (n : Int) → (0 : Int) ≤ j20l2.toInt → j20l2.toInt ≤ (9 : Int) → (0 : Int) ≤ j20a0_0.toInt → j20a0_0.toInt ≤ (729 : Int) → (∀ k, (0 : Int) ≤ (j20a0_3_a k).toInt ∧ (j20a0_3_a k).toInt ≤ 888 ∧ (j20a0_3_a k).toInt % 10 ≤ 8) → va_P (dC, dI) vwCl [(a0, .inr (2, [.int j20a0_0, a0g_1, a0g_2, .ref a0_3, a0g_4, .int 1, a0g_6])), (a1, .inr (0, [.int a1_0, .int a1_1, a1g_2, a1g_3, a1g_4, a1g_5, a1g_6, a1g_7, a1g_8, .int a1_9, a1g_10, a1g_11, .ref a1_12, .ref a1_13, a1g_14])), (a0_3, .inl (ka0_3, 729, .inl (j20a0_3_a))), (a1_13, .inl (ka1_13, 6, .inl (fa1_13))), (a1_12, .inl (ka1_12, 6, .inl (fa1_12)))] H → va_D A [(a0, .inr (2, [.int j20a0_0, a0g_1, a0g_2, .ref a0_3, a0g_4, .int 1, a0g_6])), (a1, .inr (0, [.int a1_0, .int a1_1, a1g_2, a1g_3, a1g_4, a1g_5, a1g_6, a1g_7, a1g_8, .int a1_9, a1g_10, a1g_11, .ref a1_12, .ref a1_13, a1g_14])), (a0_3, .inl (ka0_3, 729, .inl (j20a0_3_a))), (a1_13, .inl (ka1_13, 6, .inl (fa1_13))), (a1_12, .inl (ka1_12, 6, .inl (fa1_12)))] → va_S A s.heap H locs → lv_has ls 5 [(0, .ref a0), (1, .ref a1), (2, .int j20l2)] → K H locs (F0 m 20 ls []) := by
      intro n
      induction n with
      | zero =>
        intro j20l2 j20a0_0 j20a0_3_a H locs ls hm bj20l2_l bj20l2_u bj20a0_0_l bj20a0_0_u bj20a0_3_a hP hD hS hl
        first | exact zg_0 hm bj20l2_u (by decide) | (have h8 := ai_min j20l2; have h9 := ai_max j20l2; exact absurd hm (by omega))
      | succ n ih20 =>
        intro j20l2 j20a0_0 j20a0_3_a H locs ls hm bj20l2_l bj20l2_u bj20a0_0_l bj20a0_0_u bj20a0_3_a hP hD hS hl
        refine (hK0 _ _ _).mpr ?_
        have hm20 := hm
        refine lv_iload_n hx hb dX2_list_20 rfl (lv_at hl 2 rfl) ?_
        refine lv_aload_n hx hb dX2_list_21 rfl (lv_at hl 1 rfl) ?_
        refine va_get (D := (dC, dI)) (ci := 0) (v := .int a1_0) (C := RX0) (T := TX0) (N := 15) hx hb hts zi_X2_list_0 hown hK hP 1 rfl rfl 0 (by decide) (hts (.fieldLink RX2 29 "WaxTurns$Hall" "figures" "I") (List.mem_cons_of_mem _ (List.mem_append_left _ (List.mem_append_left _ (List.mem_of_getElem? (i := 2) rfl))))) (fun _ h9 => h9) rfl dX2_list_22 ?_
        refine lv_icmp_ge (tgt := 85) hx hb dX2_list_25 (by decide) (fun c25 => ?_) (fun c25 => ?_)
        · have gc25 := ai_le c25
          have u25t_a1_0 : a1_0.toInt ≤ (9 : Int) := ba1_0_u
          have l25t_j20l2 : (0 : Int) ≤ j20l2.toInt := bj20l2_l
          exact W.vret hx hb hr (fun t ht hW => ⟨⟨(), rfl, trivial, j20a0_0, 1, j20a0_3_a, ⟨bj20a0_0_l, bj20a0_0_u⟩, ⟨Int.le_trans (by decide) zq1, zq0⟩, bj20a0_3_a, by rw [ht]; exact hP, va_K.moved hW.alike hK, hD⟩, hS.F ht⟩) hS.2.2 dX2_list_85
        · have gc25 := ai_nle c25
          have u25f_j20l2 : j20l2.toInt ≤ (8 : Int) := ai_lthi gc25 ba1_0_u
          have l25f_a1_0 : (1 : Int) ≤ a1_0.toInt := ai_ltlo gc25 bj20l2_l
          refine lv_iconst (v := 0) hx hb dX2_list_28 zk_iconst_0 ?_
          refine lv_istore_n (lv' := [(3, .int 0), (0, .ref a0), (1, .ref a1), (2, .int j20l2)]) hx hb dX2_list_29 rfl hl (by decide) rfl (fun ls hl => ?_)
          have J30 : ∀ (n : Nat) (j30l3 : Int32) (j30a0_0 : Int32) (j30a0_3_a : Nat → Int32) (H : Heap) (locs : List Loc) (ls : Array Slot), (10 : Int) - j30l3.toInt ≤ (n : Int) → (0 : Int) ≤ j30l3.toInt → j30l3.toInt ≤ (9 : Int) → (0 : Int) ≤ j30a0_0.toInt → j30a0_0.toInt ≤ (729 : Int) → (∀ k, (0 : Int) ≤ (j30a0_3_a k).toInt ∧ (j30a0_3_a k).toInt ≤ 888 ∧ (j30a0_3_a k).toInt % 10 ≤ 8) → va_P (dC, dI) vwCl [(a0, .inr (2, [.int j30a0_0, a0g_1, a0g_2, .ref a0_3, a0g_4, .int 1, a0g_6])), (a1, .inr (0, [.int a1_0, .int a1_1, a1g_2, a1g_3, a1g_4, a1g_5, a1g_6, a1g_7, a1g_8, .int a1_9, a1g_10, a1g_11, .ref a1_12, .ref a1_13, a1g_14])), (a0_3, .inl (ka0_3, 729, .inl (j30a0_3_a))), (a1_13, .inl (ka1_13, 6, .inl (fa1_13))), (a1_12, .inl (ka1_12, 6, .inl (fa1_12)))] H → va_D A [(a0, .inr (2, [.int j30a0_0, a0g_1, a0g_2, .ref a0_3, a0g_4, .int 1, a0g_6])), (a1, .inr (0, [.int a1_0, .int a1_1, a1g_2, a1g_3, a1g_4, a1g_5, a1g_6, a1g_7, a1g_8, .int a1_9, a1g_10, a1g_11, .ref a1_12, .ref a1_13, a1g_14])), (a0_3, .inl (ka0_3, 729, .inl (j30a0_3_a))), (a1_13, .inl (ka1_13, 6, .inl (fa1_13))), (a1_12, .inl (ka1_12, 6, .inl (fa1_12)))] → va_S A s.heap H locs → lv_has ls 5 [(0, .ref a0), (1, .ref a1), (2, .int j20l2), (3, .int j30l3)] → K H locs (F0 m 30 ls []) := by
            intro n
            induction n with
            | zero =>
              intro j30l3 j30a0_0 j30a0_3_a H locs ls hm bj30l3_l bj30l3_u bj30a0_0_l bj30a0_0_u bj30a0_3_a hP hD hS hl
              first | exact zg_0 hm bj30l3_u (by decide) | (have h8 := ai_min j30l3; have h9 := ai_max j30l3; exact absurd hm (by omega))
            | succ n ih30 =>
              intro j30l3 j30a0_0 j30a0_3_a H locs ls hm bj30l3_l bj30l3_u bj30a0_0_l bj30a0_0_u bj30a0_3_a hP hD hS hl
              refine (hK0 _ _ _).mpr ?_
              have hm30 := hm
              refine lv_iload_n hx hb dX2_list_30 rfl (lv_at hl 3 rfl) ?_
              refine lv_aload_n hx hb dX2_list_31 rfl (lv_at hl 1 rfl) ?_
              refine va_get (D := (dC, dI)) (ci := 0) (v := .int a1_0) (C := RX0) (T := TX0) (N := 15) hx hb hts zi_X2_list_0 hown hK hP 1 rfl rfl 0 (by decide) (hts (.fieldLink RX2 29 "WaxTurns$Hall" "figures" "I") (List.mem_cons_of_mem _ (List.mem_append_left _ (List.mem_append_left _ (List.mem_of_getElem? (i := 2) rfl))))) (fun _ h9 => h9) rfl dX2_list_32 ?_
              refine lv_icmp_ge (tgt := 79) hx hb dX2_list_35 (by decide) (fun c35 => ?_) (fun c35 => ?_)
              · have gc35 := ai_le c35
                have u35t_a1_0 : a1_0.toInt ≤ (9 : Int) := ba1_0_u
                have l35t_j30l3 : (1 : Int) ≤ j30l3.toInt := Int.le_trans l25f_a1_0 gc35
                obtain ⟨x79, ex79⟩ : ∃ y : Int32, y = j20l2 + Int32.ofInt 1 := ⟨_, rfl⟩
                have qx79 : x79.toInt = j20l2.toInt + 1 := ai_inc ex79 (by decide) (by decide) u25f_j20l2 (by decide)
                have bx79 : (1 : Int) ≤ x79.toInt ∧ x79.toInt ≤ 9 := ⟨by rw [qx79]; exact Int.add_le_add bj20l2_l (Int.le_refl _), by rw [qx79]; exact Int.add_le_add u25f_j20l2 (Int.le_refl _)⟩
                refine lv_iinc (v := x79) (lv' := [(2, .int x79), (0, .ref a0), (1, .ref a1), (3, .int j30l3)]) hx hb dX2_list_79 hl (k := 2) rfl ex79.symm (by decide) rfl (fun ls hl => ?_)
                refine lv_goto (tgt := 20) hx hb dX2_list_82 (by decide) ?_
                exact (hK0 _ _ _).mp (ih20 x79 j30a0_0 j30a0_3_a _ _ _ (by first | exact zg_s hm20 qx79 | (have h0 := qx79; omega)) (Int.le_trans zq4 bx79.1) bx79.2 bj30a0_0_l bj30a0_0_u bj30a0_3_a hP hD hS (lv_sub hl [1, 2, 0] rfl))
              · have gc35 := ai_nle c35
                have u35f_j30l3 : j30l3.toInt ≤ (8 : Int) := ai_lthi gc35 ba1_0_u
                have l35f_a1_0 : (1 : Int) ≤ a1_0.toInt := l25f_a1_0
                refine lv_iconst (v := 0) hx hb dX2_list_38 zk_iconst_0 ?_
                refine lv_istore (lv' := [(4, .int 0), (0, .ref a0), (1, .ref a1), (2, .int j20l2), (3, .int j30l3)]) hx hb dX2_list_39 hl (by decide) rfl (fun ls hl => ?_)
                have J41 : ∀ (n : Nat) (j41l4 : Int32) (j41a0_0 : Int32) (j41a0_3_a : Nat → Int32) (H : Heap) (locs : List Loc) (ls : Array Slot), (10 : Int) - j41l4.toInt ≤ (n : Int) → (0 : Int) ≤ j41l4.toInt → j41l4.toInt ≤ (9 : Int) → (0 : Int) ≤ j41a0_0.toInt → j41a0_0.toInt ≤ (729 : Int) → (∀ k, (0 : Int) ≤ (j41a0_3_a k).toInt ∧ (j41a0_3_a k).toInt ≤ 888 ∧ (j41a0_3_a k).toInt % 10 ≤ 8) → va_P (dC, dI) vwCl [(a0, .inr (2, [.int j41a0_0, a0g_1, a0g_2, .ref a0_3, a0g_4, .int 1, a0g_6])), (a1, .inr (0, [.int a1_0, .int a1_1, a1g_2, a1g_3, a1g_4, a1g_5, a1g_6, a1g_7, a1g_8, .int a1_9, a1g_10, a1g_11, .ref a1_12, .ref a1_13, a1g_14])), (a0_3, .inl (ka0_3, 729, .inl (j41a0_3_a))), (a1_13, .inl (ka1_13, 6, .inl (fa1_13))), (a1_12, .inl (ka1_12, 6, .inl (fa1_12)))] H → va_D A [(a0, .inr (2, [.int j41a0_0, a0g_1, a0g_2, .ref a0_3, a0g_4, .int 1, a0g_6])), (a1, .inr (0, [.int a1_0, .int a1_1, a1g_2, a1g_3, a1g_4, a1g_5, a1g_6, a1g_7, a1g_8, .int a1_9, a1g_10, a1g_11, .ref a1_12, .ref a1_13, a1g_14])), (a0_3, .inl (ka0_3, 729, .inl (j41a0_3_a))), (a1_13, .inl (ka1_13, 6, .inl (fa1_13))), (a1_12, .inl (ka1_12, 6, .inl (fa1_12)))] → va_S A s.heap H locs → lv_has ls 5 [(0, .ref a0), (1, .ref a1), (2, .int j20l2), (3, .int j30l3), (4, .int j41l4)] → K H locs (F0 m 41 ls []) := by
                  intro n
                  induction n with
                  | zero =>
                    intro j41l4 j41a0_0 j41a0_3_a H locs ls hm bj41l4_l bj41l4_u bj41a0_0_l bj41a0_0_u bj41a0_3_a hP hD hS hl
                    first | exact zg_0 hm bj41l4_u (by decide) | (have h8 := ai_min j41l4; have h9 := ai_max j41l4; exact absurd hm (by omega))
                  | succ n ih41 =>
                    intro j41l4 j41a0_0 j41a0_3_a H locs ls hm bj41l4_l bj41l4_u bj41a0_0_l bj41a0_0_u bj41a0_3_a hP hD hS hl
                    refine (hK0 _ _ _).mpr ?_
                    have hm41 := hm
                    refine lv_iload hx hb dX2_list_41 (lv_at hl 4 rfl) ?_
                    refine lv_aload_n hx hb dX2_list_43 rfl (lv_at hl 1 rfl) ?_
                    refine va_get (D := (dC, dI)) (ci := 0) (v := .int a1_0) (C := RX0) (T := TX0) (N := 15) hx hb hts zi_X2_list_0 hown hK hP 1 rfl rfl 0 (by decide) (hts (.fieldLink RX2 29 "WaxTurns$Hall" "figures" "I") (List.mem_cons_of_mem _ (List.mem_append_left _ (List.mem_append_left _ (List.mem_of_getElem? (i := 2) rfl))))) (fun _ h9 => h9) rfl dX2_list_44 ?_
                    refine lv_icmp_ge (tgt := 73) hx hb dX2_list_47 (by decide) (fun c47 => ?_) (fun c47 => ?_)
                    · have gc47 := ai_le c47
                      have u47t_a1_0 : a1_0.toInt ≤ (9 : Int) := ba1_0_u
                      have l47t_j41l4 : (1 : Int) ≤ j41l4.toInt := Int.le_trans l35f_a1_0 gc47
                      obtain ⟨x73, ex73⟩ : ∃ y : Int32, y = j30l3 + Int32.ofInt 1 := ⟨_, rfl⟩
                      have qx73 : x73.toInt = j30l3.toInt + 1 := ai_inc ex73 (by decide) (by decide) u35f_j30l3 (by decide)
                      have bx73 : (1 : Int) ≤ x73.toInt ∧ x73.toInt ≤ 9 := ⟨by rw [qx73]; exact Int.add_le_add bj30l3_l (Int.le_refl _), by rw [qx73]; exact Int.add_le_add u35f_j30l3 (Int.le_refl _)⟩
                      refine lv_iinc (v := x73) (lv' := [(3, .int x73), (0, .ref a0), (1, .ref a1), (2, .int j20l2), (4, .int j41l4)]) hx hb dX2_list_73 hl (k := 3) rfl ex73.symm (by decide) rfl (fun ls hl => ?_)
                      refine lv_goto (tgt := 30) hx hb dX2_list_76 (by decide) ?_
                      exact (hK0 _ _ _).mp (ih30 x73 j41a0_0 j41a0_3_a _ _ _ (by first | exact zg_s hm30 qx73 | (have h0 := qx73; omega)) (Int.le_trans zq4 bx73.1) bx73.2 bj41a0_0_l bj41a0_0_u bj41a0_3_a hP hD hS (lv_sub hl [1, 2, 3, 0] rfl))
                    · have gc47 := ai_nle c47
                      have u47f_j41l4 : j41l4.toInt ≤ (8 : Int) := ai_lthi gc47 ba1_0_u
                      have l47f_a1_0 : (1 : Int) ≤ a1_0.toInt := l35f_a1_0
                      refine lv_aload_n hx hb dX2_list_50 rfl (lv_at hl 0 rfl) ?_
                      refine lv_aload_n hx hb dX2_list_51 rfl (lv_at hl 1 rfl) ?_
                      refine lv_bipush (v := 100) hx hb dX2_list_52 zk_bipush_100 ?_
                      refine lv_iload_n hx hb dX2_list_54 rfl (lv_at hl 2 rfl) ?_
                      refine lv_imul hx hb dX2_list_55 ?_
                      refine lv_topi (fun x55 ex55 => ?_)
                      have qx55 : x55.toInt = (100 : Int32).toInt * j20l2.toInt ∧ (0 : Int) ≤ x55.toInt ∧ x55.toInt ≤ 800 := ai_mul ex55 ⟨zq24, zq32⟩ ⟨bj20l2_l, u25f_j20l2⟩ (by decide) (by decide) zq33
                      have wx55 : x55.toInt = 100 * j20l2.toInt := qx55.1
                      refine lv_bipush (v := 10) hx hb dX2_list_56 zk_bipush_10 ?_
                      refine lv_iload_n hx hb dX2_list_58 rfl (lv_at hl 3 rfl) ?_
                      refine lv_imul hx hb dX2_list_59 ?_
                      refine lv_topi (fun x59 ex59 => ?_)
                      have qx59 : x59.toInt = (10 : Int32).toInt * j30l3.toInt ∧ (0 : Int) ≤ x59.toInt ∧ x59.toInt ≤ 80 := ai_mul ex59 ⟨zq26, zq27⟩ ⟨bj30l3_l, u35f_j30l3⟩ (by decide) (by decide) zq34
                      have wx59 : x59.toInt = 10 * j30l3.toInt := qx59.1
                      refine lv_iadd hx hb dX2_list_60 ?_
                      refine lv_topi (fun x60 ex60 => ?_)
                      have qx60 : x60.toInt = x55.toInt + x59.toInt := ai_add ex60 ⟨qx55.2.1, qx55.2.2⟩ ⟨qx59.2.1, qx59.2.2⟩ (by decide) (by decide)
                      have bx60 : (0 : Int) ≤ x60.toInt ∧ x60.toInt ≤ 880 := ⟨by rw [qx60]; exact Int.add_le_add qx55.2.1 qx59.2.1, by rw [qx60]; exact Int.add_le_add qx55.2.2 qx59.2.2⟩
                      refine lv_iload hx hb dX2_list_61 (lv_at hl 4 rfl) ?_
                      refine lv_iadd hx hb dX2_list_63 ?_
                      refine lv_topi (fun x63 ex63 => ?_)
                      have qx63 : x63.toInt = x60.toInt + j41l4.toInt := ai_add ex63 ⟨bx60.1, bx60.2⟩ ⟨bj41l4_l, u47f_j41l4⟩ (by decide) (by decide)
                      have bx63 : (0 : Int) ≤ x63.toInt ∧ x63.toInt ≤ 888 := ⟨by rw [qx63]; exact Int.add_le_add bx60.1 bj41l4_l, by rw [qx63]; exact Int.add_le_add bx60.2 u47f_j41l4⟩
                      have hKc := hK.sub (tys' := [(ka0_3, .int), (ka1_13, .int), (ka1_12, .int)]) [0, 1, 2] rfl
                      refine va_callv (va_runV (As := [.ref a1, .int x63]) (rest := []) ⟨hx, hb, hml, hown, hts⟩ (c_X2_addIfFit l dC dI H.size a0 a1 x63 j41a0_0 a0g_1 a0g_2 a0g_4 (.int 1) a0g_6 a0_3 a1_0 a1_1 a1g_2 a1g_3 a1g_4 a1g_5 a1g_6 a1g_7 a1g_8 a1g_10 a1g_11 a1g_14 a1_9 a1_12 a1_13 ka0_3 j41a0_3_a ka1_13 fa1_13 ka1_12 fa1_12 bx63.1 bx63.2 bj41a0_0_l bj41a0_0_u (Int.le_trans zq4 l47f_a1_0) ba1_0_u ba1_9_l ba1_9_u bj41a0_3_a bfa1_13 (by omega)) (cwV 2 hts gX2_list_X2_addIfFit rfl rfl rfl zd_X2_addIfFit ⟨Nat.le_of_ble_eq_true rfl, Nat.le_of_ble_eq_true rfl⟩) ⟨ax_blind (fun _ _ _ _ hq => va_Nw.same rfl rfl (hq)), zr_2 hKc (zp_P5 hP) (q0 := 0) rfl, ax_pre (zp_P5 hP) hKc (zp_D5 hD) (fun _ hW => va_Nw.warmM hW hE0)⟩ rfl rfl hl.1 rfl (lv_room (Nat.le_of_ble_eq_true rfl)) dX2_list_64 ⟨Nat.le_of_ble_eq_true rfl, Nat.le_of_ble_eq_true rfl⟩) hS (fun q _ h => zp_F5 hD hS hA q h) (zp_F5 hD hS hA) (fun u t H locs ht hvm hw => zx_2 (fun v64na0_0 v64nfa0_3 => zy_2 (fun bv64na0_0 bv64nfa0_3 hB hz1 hk1 hS1 => zo5 hB ht hP hD hk1 (zp_F5 hD hS hA) hS1 (fun hP hK1 hD hS => ?_))))
                      obtain ⟨x67, ex67⟩ : ∃ y : Int32, y = j41l4 + Int32.ofInt 1 := ⟨_, rfl⟩
                      have qx67 : x67.toInt = j41l4.toInt + 1 := ai_inc ex67 (by decide) (by decide) u47f_j41l4 (by decide)
                      have bx67 : (1 : Int) ≤ x67.toInt ∧ x67.toInt ≤ 9 := ⟨by rw [qx67]; exact Int.add_le_add bj41l4_l (Int.le_refl _), by rw [qx67]; exact Int.add_le_add u47f_j41l4 (Int.le_refl _)⟩
                      refine lv_iinc (v := x67) (lv' := [(4, .int x67), (0, .ref a0), (1, .ref a1), (2, .int j20l2), (3, .int j30l3)]) hx hb dX2_list_67 hl (k := 4) rfl ex67.symm (by decide) rfl (fun ls hl => ?_)
                      refine lv_goto (tgt := 41) hx hb dX2_list_70 (by decide) ?_
                      exact (hK0 _ _ _).mp (ih41 x67 v64na0_0 v64nfa0_3 _ _ _ (by first | exact zg_s hm41 qx67 | (have h0 := qx67; omega)) (Int.le_trans zq4 bx67.1) bx67.2 bv64na0_0.1 bv64na0_0.2 bv64nfa0_3 hP hD hS (lv_sub hl [1, 2, 3, 4, 0] rfl))
                exact (hK0 _ _ _).mp (J41 10 0 j30a0_0 j30a0_3_a _ _ _ (by first | decide +kernel | (have h1 : (0 : Int) ≤ (0 : Int32).toInt := zq5; have h2 : (0 : Int32).toInt ≤ (0 : Int) := zq6; omega)) zq5 (Int.le_trans zq6 zq7) bj30a0_0_l bj30a0_0_u bj30a0_3_a hP hD hS (lv_sub hl [1, 2, 3, 4, 0] rfl))
          exact (hK0 _ _ _).mp (J30 10 0 j20a0_0 j20a0_3_a _ _ _ (by first | decide +kernel | (have h1 : (0 : Int) ≤ (0 : Int32).toInt := zq5; have h2 : (0 : Int32).toInt ≤ (0 : Int) := zq6; omega)) zq5 (Int.le_trans zq6 zq7) bj20a0_0_l bj20a0_0_u bj20a0_3_a hP hD hS (lv_sub hl [1, 2, 3, 0] rfl))
    exact (hK0 _ _ _).mp (J20 10 0 0 fa0_3 _ _ _ (by first | decide +kernel | (have h1 : (0 : Int) ≤ (0 : Int32).toInt := zq5; have h2 : (0 : Int32).toInt ≤ (0 : Int) := zq6; omega)) zq5 (Int.le_trans zq6 zq7) zq5 (Int.le_trans zq6 zq35) bfa0_3 hP hD hS (lv_sub hl [1, 2, 0] rfl))
  · have gc4 := ai_ne c4
    have l4f_a0_5 : (1 : Int) ≤ a0_5.toInt := (by first | exact zg_l ba0_5_l gc4 (by decide) (by decide) | (have h1 := ba0_5_l; have h2 : (0 : Int32).toInt = 0 := (by decide); rw [h2] at gc4; omega))
    exact W.vret hx hb hr (fun t ht hW => ⟨⟨(), rfl, trivial, a0_0, a0_5, fa0_3, ⟨ba0_0_l, ba0_0_u⟩, ⟨Int.le_trans (by decide) l4f_a0_5, ba0_5_u⟩, bfa0_3, by rw [ht]; exact hP, va_K.moved hW.alike hK, hD⟩, hS.F ht⟩) hS.2.2 dX2_list_7

set_option maxHeartbeats 4000000 in
set_option maxRecDepth 100000 in
theorem c_X2_mostOf (l : Launch) (dC : Nat → ClassId) (dI : Nat → Nat → Nat) (sz : Nat) (a0 : Nat) (a1 : Int32) (a0g_0 a0g_1 a0g_2 a0g_3 a0g_5 a0g_6 : Value) (a0_4 : Nat) (ka0_4 : ClassId) (fa0_4 : Nat → Int32) (ba1_l : (0 : Int) ≤ a1.toInt) (ba1_u : a1.toInt ≤ (99 : Int)) : zm l yX2_mostOf wsX2_mostOf ({ frames := 1, cells := 0, slots := 0, locals := 24 }) [.ref a0, .int a1] dC dI sz [(a0, .inr (2, [a0g_0, a0g_1, a0g_2, a0g_3, .ref a0_4, a0g_5, a0g_6])), (a0_4, .inl (ka0_4, 900, .inl (fa0_4)))] [(ka0_4, .int)] (fun A _ => True) (fun A => va_Qi (fun (r : Int32) (_ : Unit) => True) (fun (_ : Unit) (t : State) => ax_B dC dI A [(a0, .inr (2, [a0g_0, a0g_1, a0g_2, a0g_3, .ref a0_4, a0g_5, a0g_6])), (a0_4, .inl (ka0_4, 900, .inl (fa0_4)))] [(ka0_4, .int)] t) A) := by
  refine zh (cc := cX2_mostOf) (maxL := 4) (ret := (some .int)) zn_RX2 rfl (Nat.le_of_ble_eq_true rfl) (fun p e s m below meth c A ls hx hb hml hr hts (hown : s.vm.findClass RX2 = some m.cls) hlocks hA hS hP hK hD hE (hl : lv_has ls 4 [(0, .ref a0), (1, .int a1)]) => ?_)
  refine ai_open (fun K hK0 => ?_)
  refine (hK0 _ _ _).mpr ?_
  refine lv_iconst (v := 0) hx hb dX2_mostOf_0 zk_iconst_0 ?_
  refine lv_istore_n (lv' := [(2, .int 0), (0, .ref a0), (1, .int a1)]) hx hb dX2_mostOf_1 rfl hl (by decide) rfl (fun ls hl => ?_)
  refine lv_iconst (v := 0) hx hb dX2_mostOf_2 zk_iconst_0 ?_
  refine lv_istore_n (lv' := [(3, .int 0), (2, .int 0), (0, .ref a0), (1, .int a1)]) hx hb dX2_mostOf_3 rfl hl (by decide) rfl (fun ls hl => ?_)
  have J4 : ∀ (n : Nat) (j4l3 : Int32) (j4l2 : Int32) (H : Heap) (locs : List Loc) (ls : Array Slot), (10 : Int) - j4l3.toInt ≤ (n : Int) → (0 : Int) ≤ j4l3.toInt → j4l3.toInt ≤ (9 : Int) → va_P (dC, dI) vwCl [(a0, .inr (2, [a0g_0, a0g_1, a0g_2, a0g_3, .ref a0_4, a0g_5, a0g_6])), (a0_4, .inl (ka0_4, 900, .inl (fa0_4)))] H → va_D A [(a0, .inr (2, [a0g_0, a0g_1, a0g_2, a0g_3, .ref a0_4, a0g_5, a0g_6])), (a0_4, .inl (ka0_4, 900, .inl (fa0_4)))] → va_S A s.heap H locs → lv_has ls 4 [(0, .ref a0), (1, .int a1), (2, .int j4l2), (3, .int j4l3)] → K H locs (F0 m 4 ls []) := by
    intro n
    induction n with
    | zero =>
      intro j4l3 j4l2 H locs ls hm bj4l3_l bj4l3_u hP hD hS hl
      first | exact zg_0 hm bj4l3_u (by decide) | (have h8 := ai_min j4l3; have h9 := ai_max j4l3; exact absurd hm (by omega))
    | succ n ih4 =>
      intro j4l3 j4l2 H locs ls hm bj4l3_l bj4l3_u hP hD hS hl
      refine (hK0 _ _ _).mpr ?_
      have hm4 := hm
      refine lv_iload_n hx hb dX2_mostOf_4 rfl (lv_at hl 3 rfl) ?_
      refine lv_bipush (v := 9) hx hb dX2_mostOf_5 zk_bipush_9 ?_
      refine lv_icmp_ge (tgt := 32) hx hb dX2_mostOf_7 (by decide) (fun c7 => ?_) (fun c7 => ?_)
      · have gc7 := ai_le c7
        have l7t_j4l3 : (9 : Int) ≤ j4l3.toInt := Int.le_trans zq2 gc7
        refine lv_iload_n hx hb dX2_mostOf_32 rfl (lv_at hl 2 rfl) ?_
        exact W.iret (v := j4l2) hx hb hr (fun t ht hW => ⟨⟨j4l2, (), rfl, trivial, by rw [ht]; exact hP, va_K.moved hW.alike hK, hD⟩, hS.F ht⟩) hS.2.2 dX2_mostOf_33
      · have gc7 := ai_nle c7
        have u7f_j4l3 : j4l3.toInt ≤ (8 : Int) := ai_lthi gc7 zq3
        refine lv_iload_n hx hb dX2_mostOf_10 rfl (lv_at hl 2 rfl) ?_
        refine lv_aload_n hx hb dX2_mostOf_11 rfl (lv_at hl 0 rfl) ?_
        refine va_get (D := (dC, dI)) (ci := 2) (v := .ref a0_4) (C := RX2) (T := TX2) (N := 7) hx hb hts zi_X2_mostOf_2 hown hK hP 0 rfl rfl 4 (by decide) (hts (.fieldLink RX2 15 "WaxTurns$Laws" "tallies" "[I") (List.mem_cons_of_mem _ (List.mem_append_left _ (List.mem_of_getElem? (i := 0) rfl)))) (fun _ h9 => h9) rfl dX2_mostOf_12 ?_
        refine lv_iload_n hx hb dX2_mostOf_15 rfl (lv_at hl 1 rfl) ?_
        refine lv_bipush (v := 9) hx hb dX2_mostOf_16 zk_bipush_9 ?_
        refine lv_imul hx hb dX2_mostOf_18 ?_
        refine lv_topi (fun x18 ex18 => ?_)
        have qx18 : x18.toInt = a1.toInt * (9 : Int32).toInt ∧ (0 : Int) ≤ x18.toInt ∧ x18.toInt ≤ 891 := ai_mul ex18 ⟨ba1_l, ba1_u⟩ ⟨zq2, zq3⟩ (by decide) (by decide) zq36
        have wx18 : x18.toInt = a1.toInt * 9 := qx18.1
        refine lv_iload_n hx hb dX2_mostOf_19 rfl (lv_at hl 3 rfl) ?_
        refine lv_iadd hx hb dX2_mostOf_20 ?_
        refine lv_topi (fun x20 ex20 => ?_)
        have qx20 : x20.toInt = x18.toInt + j4l3.toInt := ai_add ex20 ⟨qx18.2.1, qx18.2.2⟩ ⟨bj4l3_l, u7f_j4l3⟩ (by decide) (by decide)
        have bx20 : (0 : Int) ≤ x20.toInt ∧ x20.toInt ≤ 899 := ⟨by rw [qx20]; exact Int.add_le_add qx18.2.1 bj4l3_l, by rw [qx20]; exact Int.add_le_add qx18.2.2 u7f_j4l3⟩
        refine va_iald hx hb hK hP 1 0 rfl rfl (ai_in bx20.1 bx20.2 (by decide) (by decide)) dX2_mostOf_21 ?_
        refine lv_topi (fun x21 ex21 => ?_)
        refine va_mmax hx hb (by rw [hml]; exact hl.1.symm) hown (hts (.methodLink RX2 72 Lib.Math.max.name) (List.mem_cons_of_mem _ (List.mem_append_left _ (List.mem_of_getElem? (i := 1) rfl)))) (hts (.static Lib.Math.max.name) (List.mem_cons_of_mem _ (List.mem_append_left _ (List.mem_of_getElem? (i := 2) rfl)))) (hts (.initialized "java/lang/Math") (List.mem_cons_of_mem _ (List.mem_append_left _ (List.mem_of_getElem? (i := 3) rfl)))) (hts _ mxX2_mostOf) (Nat.le_of_ble_eq_true rfl) (Nat.le_of_ble_eq_true rfl) (Nat.le_of_ble_eq_true rfl) (Nat.le_of_ble_eq_true rfl) dX2_mostOf_22 ?_
        refine lv_topi (fun x22 ex22 => ?_)
        refine lv_istore_n (lv' := [(2, .int x22), (0, .ref a0), (1, .int a1), (3, .int j4l3)]) hx hb dX2_mostOf_25 rfl hl (by decide) rfl (fun ls hl => ?_)
        obtain ⟨x26, ex26⟩ : ∃ y : Int32, y = j4l3 + Int32.ofInt 1 := ⟨_, rfl⟩
        have qx26 : x26.toInt = j4l3.toInt + 1 := ai_inc ex26 (by decide) (by decide) u7f_j4l3 (by decide)
        have bx26 : (1 : Int) ≤ x26.toInt ∧ x26.toInt ≤ 9 := ⟨by rw [qx26]; exact Int.add_le_add bj4l3_l (Int.le_refl _), by rw [qx26]; exact Int.add_le_add u7f_j4l3 (Int.le_refl _)⟩
        refine lv_iinc (v := x26) (lv' := [(3, .int x26), (2, .int x22), (0, .ref a0), (1, .int a1)]) hx hb dX2_mostOf_26 hl (k := 3) rfl ex26.symm (by decide) rfl (fun ls hl => ?_)
        refine lv_goto (tgt := 4) hx hb dX2_mostOf_29 (by decide) ?_
        exact (hK0 _ _ _).mp (ih4 x26 x22 _ _ _ (by first | exact zg_s hm4 qx26 | (have h0 := qx26; omega)) (Int.le_trans zq4 bx26.1) bx26.2 hP hD hS (lv_sub hl [2, 3, 1, 0] rfl))
  exact (hK0 _ _ _).mp (J4 10 0 0 _ _ _ (by first | decide +kernel | (have h1 : (0 : Int) ≤ (0 : Int32).toInt := zq5; have h2 : (0 : Int32).toInt ≤ (0 : Int) := zq6; omega)) zq5 (Int.le_trans zq6 zq7) hP hD hS (lv_sub hl [2, 3, 1, 0] rfl))

set_option maxHeartbeats 4000000 in
set_option maxRecDepth 100000 in
theorem c_X2_tally (l : Launch) (dC : Nat → ClassId) (dI : Nat → Nat → Nat) (sz : Nat) (a0 : Nat) (a1 : Int32) (a2 : Int32) (a0_0 : Int32) (a0g_1 a0g_2 a0g_5 a0g_6 : Value) (a0_3 : Nat) (a0_4 : Nat) (ka0_4 : ClassId) (fa0_4 : Nat → Int32) (ka0_3 : ClassId) (fa0_3 : Nat → Int32) (ba1_l : (0 : Int) ≤ a1.toInt) (ba1_u : a1.toInt ≤ (9 : Int)) (ba0_0_l : (0 : Int) ≤ a0_0.toInt) (ba0_0_u : a0_0.toInt ≤ (729 : Int)) (bfa0_3 : (∀ k, (0 : Int) ≤ (fa0_3 k).toInt ∧ (fa0_3 k).toInt ≤ 888 ∧ (fa0_3 k).toInt % 10 ≤ 8)) : zm l yX2_tally wsX2_tally ({ frames := 0, cells := 0, slots := 0, locals := 0 }) [.ref a0, .int a1, .int a2] dC dI sz [(a0, .inr (2, [.int a0_0, a0g_1, a0g_2, .ref a0_3, .ref a0_4, a0g_5, a0g_6])), (a0_4, .inl (ka0_4, 900, .inl (fa0_4))), (a0_3, .inl (ka0_3, 729, .inl (fa0_3)))] [(ka0_4, .int), (ka0_3, .int)] (fun A _ => True) (fun A => va_Qv (fun (_ : Unit) => True) (fun (_ : Unit) (t : State) => ∃ nfa0_4 : Nat → Int32, ax_B dC dI A [(a0, .inr (2, [.int a0_0, a0g_1, a0g_2, .ref a0_3, .ref a0_4, a0g_5, a0g_6])), (a0_4, .inl (ka0_4, 900, .inl (nfa0_4))), (a0_3, .inl (ka0_3, 729, .inl (fa0_3)))] [(ka0_4, .int), (ka0_3, .int)] t) A) := by
  refine zh (cc := cX2_tally) (maxL := 8) (ret := none) zn_RX2 rfl (Nat.le_of_ble_eq_true rfl) (fun p e s m below meth c A ls hx hb hml hr hts (hown : s.vm.findClass RX2 = some m.cls) hlocks hA hS hP hK hD hE (hl : lv_has ls 8 [(0, .ref a0), (1, .int a1), (2, .int a2)]) => ?_)
  refine ai_open (fun K hK0 => ?_)
  refine (hK0 _ _ _).mpr ?_
  refine lv_iconst (v := 0) hx hb dX2_tally_0 zk_iconst_0 ?_
  refine lv_istore_n (lv' := [(3, .int 0), (0, .ref a0), (1, .int a1), (2, .int a2)]) hx hb dX2_tally_1 rfl hl (by decide) rfl (fun ls hl => ?_)
  have J2 : ∀ (n : Nat) (j2l3 : Int32) (j2a0_4_a : Nat → Int32) (H : Heap) (locs : List Loc) (ls : Array Slot), (901 : Int) - j2l3.toInt ≤ (n : Int) → (0 : Int) ≤ j2l3.toInt → j2l3.toInt ≤ (900 : Int) → va_P (dC, dI) vwCl [(a0, .inr (2, [.int a0_0, a0g_1, a0g_2, .ref a0_3, .ref a0_4, a0g_5, a0g_6])), (a0_4, .inl (ka0_4, 900, .inl (j2a0_4_a))), (a0_3, .inl (ka0_3, 729, .inl (fa0_3)))] H → va_D A [(a0, .inr (2, [.int a0_0, a0g_1, a0g_2, .ref a0_3, .ref a0_4, a0g_5, a0g_6])), (a0_4, .inl (ka0_4, 900, .inl (j2a0_4_a))), (a0_3, .inl (ka0_3, 729, .inl (fa0_3)))] → va_S A s.heap H locs → lv_has ls 8 [(0, .ref a0), (1, .int a1), (2, .int a2), (3, .int j2l3)] → K H locs (F0 m 2 ls []) := by
    intro n
    induction n with
    | zero =>
      intro j2l3 j2a0_4_a H locs ls hm bj2l3_l bj2l3_u hP hD hS hl
      first | exact zg_0 hm bj2l3_u (by decide) | (have h8 := ai_min j2l3; have h9 := ai_max j2l3; exact absurd hm (by omega))
    | succ n ih2 =>
      intro j2l3 j2a0_4_a H locs ls hm bj2l3_l bj2l3_u hP hD hS hl
      refine (hK0 _ _ _).mpr ?_
      have hm2 := hm
      refine lv_iload_n hx hb dX2_tally_2 rfl (lv_at hl 3 rfl) ?_
      refine lv_aload_n hx hb dX2_tally_3 rfl (lv_at hl 0 rfl) ?_
      refine va_get (D := (dC, dI)) (ci := 2) (v := .ref a0_4) (C := RX2) (T := TX2) (N := 7) hx hb hts zi_X2_tally_2 hown hK hP 0 rfl rfl 4 (by decide) (hts (.fieldLink RX2 15 "WaxTurns$Laws" "tallies" "[I") (List.mem_cons_of_mem _ (List.mem_append_left _ (List.mem_of_getElem? (i := 0) rfl)))) (fun _ h9 => h9) rfl dX2_tally_4 ?_
      refine va_alen hx hb hK hP 1 0 rfl rfl (v := 900) rfl dX2_tally_7 ?_
      refine lv_icmp_ge (tgt := 24) hx hb dX2_tally_8 (by decide) (fun c8 => ?_) (fun c8 => ?_)
      · have gc8 := ai_le c8
        have l8t_j2l3 : (900 : Int) ≤ j2l3.toInt := Int.le_trans zq37 gc8
        refine lv_iload_n hx hb dX2_tally_24 rfl (lv_at hl 1 rfl) ?_
        refine lv_if_le (tgt := 34) hx hb dX2_tally_25 (by decide) (fun c25 => ?_) (fun c25 => ?_)
        · have gc25 := ai_le c25
          have u25t_a1 : a1.toInt ≤ (0 : Int) := Int.le_trans gc25 zq6
          exact W.vret hx hb hr (fun t ht hW => ⟨⟨(), rfl, trivial, j2a0_4_a, by rw [ht]; exact hP, va_K.moved hW.alike hK, hD⟩, hS.F ht⟩) hS.2.2 dX2_tally_34
        · have gc25 := ai_nle c25
          have l25f_a1 : (1 : Int) ≤ a1.toInt := ai_ltlo gc25 zq5
          refine lv_iload_n hx hb dX2_tally_28 rfl (lv_at hl 2 rfl) ?_
          refine lv_bipush (v := 100) hx hb dX2_tally_29 zk_bipush_100 ?_
          refine lv_icmp_le (tgt := 35) hx hb dX2_tally_31 (by decide) (fun c31 => ?_) (fun c31 => ?_)
          · have gc31 := ai_le c31
            have u31t_a2 : a2.toInt ≤ (100 : Int) := Int.le_trans gc31 zq32
            refine lv_iconst (v := 0) hx hb dX2_tally_35 zk_iconst_0 ?_
            refine lv_istore_n (lv' := [(3, .int 0), (0, .ref a0), (1, .int a1), (2, .int a2)]) hx hb dX2_tally_36 rfl hl (by decide) rfl (fun ls hl => ?_)
            have J37 : ∀ (n : Nat) (j37l3 : Int32) (j37a0_4_a : Nat → Int32) (H : Heap) (locs : List Loc) (ls : Array Slot), (730 : Int) - j37l3.toInt ≤ (n : Int) → (0 : Int) ≤ j37l3.toInt → j37l3.toInt ≤ (729 : Int) → va_P (dC, dI) vwCl [(a0, .inr (2, [.int a0_0, a0g_1, a0g_2, .ref a0_3, .ref a0_4, a0g_5, a0g_6])), (a0_4, .inl (ka0_4, 900, .inl (j37a0_4_a))), (a0_3, .inl (ka0_3, 729, .inl (fa0_3)))] H → va_D A [(a0, .inr (2, [.int a0_0, a0g_1, a0g_2, .ref a0_3, .ref a0_4, a0g_5, a0g_6])), (a0_4, .inl (ka0_4, 900, .inl (j37a0_4_a))), (a0_3, .inl (ka0_3, 729, .inl (fa0_3)))] → va_S A s.heap H locs → lv_has ls 8 [(0, .ref a0), (1, .int a1), (2, .int a2), (3, .int j37l3)] → K H locs (F0 m 37 ls []) := by
              intro n
              induction n with
              | zero =>
                intro j37l3 j37a0_4_a H locs ls hm bj37l3_l bj37l3_u hP hD hS hl
                first | exact zg_0 hm bj37l3_u (by decide) | (have h8 := ai_min j37l3; have h9 := ai_max j37l3; exact absurd hm (by omega))
              | succ n ih37 =>
                intro j37l3 j37a0_4_a H locs ls hm bj37l3_l bj37l3_u hP hD hS hl
                refine (hK0 _ _ _).mpr ?_
                have hm37 := hm
                refine lv_iload_n hx hb dX2_tally_37 rfl (lv_at hl 3 rfl) ?_
                refine lv_aload_n hx hb dX2_tally_38 rfl (lv_at hl 0 rfl) ?_
                refine va_get (D := (dC, dI)) (ci := 2) (v := .int a0_0) (C := RX2) (T := TX2) (N := 7) hx hb hts zi_X2_tally_2 hown hK hP 0 rfl rfl 0 (by decide) (hts (.fieldLink RX2 25 "WaxTurns$Laws" "fitCount" "I") (List.mem_cons_of_mem _ (List.mem_append_left _ (List.mem_of_getElem? (i := 1) rfl)))) (fun _ h9 => h9) rfl dX2_tally_39 ?_
                refine lv_icmp_ge (tgt := 131) hx hb dX2_tally_42 (by decide) (fun c42 => ?_) (fun c42 => ?_)
                · have gc42 := ai_le c42
                  have u42t_a0_0 : a0_0.toInt ≤ (729 : Int) := ba0_0_u
                  have l42t_j37l3 : (0 : Int) ≤ j37l3.toInt := bj37l3_l
                  exact W.vret hx hb hr (fun t ht hW => ⟨⟨(), rfl, trivial, j37a0_4_a, by rw [ht]; exact hP, va_K.moved hW.alike hK, hD⟩, hS.F ht⟩) hS.2.2 dX2_tally_131
                · have gc42 := ai_nle c42
                  have u42f_j37l3 : j37l3.toInt ≤ (728 : Int) := ai_lthi gc42 ba0_0_u
                  have l42f_a0_0 : (1 : Int) ≤ a0_0.toInt := ai_ltlo gc42 bj37l3_l
                  refine lv_aload_n hx hb dX2_tally_45 rfl (lv_at hl 0 rfl) ?_
                  refine va_get (D := (dC, dI)) (ci := 2) (v := .ref a0_3) (C := RX2) (T := TX2) (N := 7) hx hb hts zi_X2_tally_2 hown hK hP 0 rfl rfl 3 (by decide) (hts (.fieldLink RX2 9 "WaxTurns$Laws" "fitting" "[I") (List.mem_cons_of_mem _ (List.mem_append_left _ (List.mem_of_getElem? (i := 2) rfl)))) (fun _ h9 => h9) rfl dX2_tally_46 ?_
                  refine lv_iload_n hx hb dX2_tally_49 rfl (lv_at hl 3 rfl) ?_
                  refine va_iald hx hb hK hP 2 1 rfl rfl (ai_in bj37l3_l u42f_j37l3 (by decide) (by decide)) dX2_tally_50 ?_
                  refine lv_topi (fun x50 ex50 => ?_)
                  have bx50 : (0 : Int) ≤ x50.toInt ∧ x50.toInt ≤ 888 ∧ x50.toInt % 10 ≤ 8 := by rw [ex50]; exact bfa0_3 _
                  refine lv_bipush (v := 100) hx hb dX2_tally_51 zk_bipush_100 ?_
                  refine lv_idiv hx hb dX2_tally_53 (by decide +kernel) ?_
                  refine lv_topi (fun x53 ex53 => ?_)
                  have qx53 := ai_div ex53 ⟨bx50.1, bx50.2.1⟩ (Int.lt_of_lt_of_le zq23 zq24)
                  have u53z_x53 : x53.toInt ≤ (8 : Int) := (by have h1 := qx53.1; have h2 := bx50.2.1; have h3 : (100 : Int32).toInt = 100 := (by decide); rw [h3] at h1; omega)
                  refine lv_istore (lv' := [(4, .int x53), (0, .ref a0), (1, .int a1), (2, .int a2), (3, .int j37l3)]) hx hb dX2_tally_54 hl (by decide) rfl (fun ls hl => ?_)
                  refine lv_aload_n hx hb dX2_tally_56 rfl (lv_at hl 1 rfl) ?_
                  refine va_get (D := (dC, dI)) (ci := 2) (v := .ref a0_3) (C := RX2) (T := TX2) (N := 7) hx hb hts zi_X2_tally_2 hown hK hP 0 rfl rfl 3 (by decide) (hts (.fieldLink RX2 9 "WaxTurns$Laws" "fitting" "[I") (List.mem_cons_of_mem _ (List.mem_append_left _ (List.mem_of_getElem? (i := 2) rfl)))) (fun _ h9 => h9) rfl dX2_tally_57 ?_
                  refine lv_iload_n hx hb dX2_tally_60 rfl (lv_at hl 4 rfl) ?_
                  refine va_iald hx hb hK hP 2 1 rfl rfl (ai_in bj37l3_l u42f_j37l3 (by decide) (by decide)) dX2_tally_61 ?_
                  refine ax_ti x50 ex50.symm ?_
                  refine lv_bipush (v := 10) hx hb dX2_tally_62 zk_bipush_10 ?_
                  refine lv_idiv hx hb dX2_tally_64 (by decide +kernel) ?_
                  refine lv_topi (fun x64 ex64 => ?_)
                  have qx64 := ai_div ex64 ⟨bx50.1, bx50.2.1⟩ (Int.lt_of_lt_of_le zq25 zq26)
                  have u64z_x64 : x64.toInt ≤ (88 : Int) := (by have h1 := qx64.1; have h2 := bx50.2.1; have h3 : (10 : Int32).toInt = 10 := (by decide); rw [h3] at h1; omega)
                  refine lv_bipush (v := 10) hx hb dX2_tally_65 zk_bipush_10 ?_
                  refine lv_irem hx hb dX2_tally_67 (by decide +kernel) ?_
                  refine lv_topi (fun x67 ex67 => ?_)
                  have qx67 := ai_rem2 ex67 qx64.2.1 (Int.lt_of_lt_of_le zq25 zq26) zq27
                  have wx67 : x67.toInt = x64.toInt % 10 := qx67.1
                  refine lv_istore (lv' := [(5, .int x67), (4, .int x53), (0, .ref a0), (1, .int a1), (2, .int a2), (3, .int j37l3)]) hx hb dX2_tally_68 hl (by decide) rfl (fun ls hl => ?_)
                  refine lv_aload_n hx hb dX2_tally_70 rfl (lv_at hl 2 rfl) ?_
                  refine va_get (D := (dC, dI)) (ci := 2) (v := .ref a0_3) (C := RX2) (T := TX2) (N := 7) hx hb hts zi_X2_tally_2 hown hK hP 0 rfl rfl 3 (by decide) (hts (.fieldLink RX2 9 "WaxTurns$Laws" "fitting" "[I") (List.mem_cons_of_mem _ (List.mem_append_left _ (List.mem_of_getElem? (i := 2) rfl)))) (fun _ h9 => h9) rfl dX2_tally_71 ?_
                  refine lv_iload_n hx hb dX2_tally_74 rfl (lv_at hl 5 rfl) ?_
                  refine va_iald hx hb hK hP 2 1 rfl rfl (ai_in bj37l3_l u42f_j37l3 (by decide) (by decide)) dX2_tally_75 ?_
                  refine ax_ti x50 ex50.symm ?_
                  refine lv_bipush (v := 10) hx hb dX2_tally_76 zk_bipush_10 ?_
                  refine lv_irem hx hb dX2_tally_78 (by decide +kernel) ?_
                  refine lv_topi (fun x78 ex78 => ?_)
                  have qx78 := ai_rem2 ex78 bx50.1 (Int.lt_of_lt_of_le zq25 zq26) zq27
                  have wx78 : x78.toInt = x50.toInt % 10 := qx78.1
                  have u78z_x78 : x78.toInt ≤ (8 : Int) := by rw [wx78]; exact bx50.2.2
                  refine lv_istore (lv' := [(6, .int x78), (5, .int x67), (4, .int x53), (0, .ref a0), (1, .int a1), (2, .int a2), (3, .int j37l3)]) hx hb dX2_tally_79 hl (by decide) rfl (fun ls hl => ?_)
                  refine lv_iconst (v := 0) hx hb dX2_tally_81 zk_iconst_0 ?_
                  refine lv_istore (lv' := [(7, .int 0), (6, .int x78), (5, .int x67), (4, .int x53), (0, .ref a0), (1, .int a1), (2, .int a2), (3, .int j37l3)]) hx hb dX2_tally_82 hl (by decide) rfl (fun ls hl => ?_)
                  have J84 : ∀ (n : Nat) (j84l7 : Int32) (j84l6 : Int32) (j84a0_4_a : Nat → Int32) (H : Heap) (locs : List Loc) (ls : Array Slot), (101 : Int) - j84l7.toInt ≤ (n : Int) → (0 : Int) ≤ j84l7.toInt → j84l7.toInt ≤ (100 : Int) → (0 : Int) ≤ j84l6.toInt → j84l6.toInt ≤ (8 : Int) → va_P (dC, dI) vwCl [(a0, .inr (2, [.int a0_0, a0g_1, a0g_2, .ref a0_3, .ref a0_4, a0g_5, a0g_6])), (a0_4, .inl (ka0_4, 900, .inl (j84a0_4_a))), (a0_3, .inl (ka0_3, 729, .inl (fa0_3)))] H → va_D A [(a0, .inr (2, [.int a0_0, a0g_1, a0g_2, .ref a0_3, .ref a0_4, a0g_5, a0g_6])), (a0_4, .inl (ka0_4, 900, .inl (j84a0_4_a))), (a0_3, .inl (ka0_3, 729, .inl (fa0_3)))] → va_S A s.heap H locs → lv_has ls 8 [(0, .ref a0), (1, .int a1), (2, .int a2), (3, .int j37l3), (4, .int x53), (5, .int x67), (6, .int j84l6), (7, .int j84l7)] → K H locs (F0 m 84 ls []) := by
                    intro n
                    induction n with
                    | zero =>
                      intro j84l7 j84l6 j84a0_4_a H locs ls hm bj84l7_l bj84l7_u bj84l6_l bj84l6_u hP hD hS hl
                      first | exact zg_0 hm bj84l7_u (by decide) | (have h8 := ai_min j84l7; have h9 := ai_max j84l7; exact absurd hm (by omega))
                    | succ n ih84 =>
                      intro j84l7 j84l6 j84a0_4_a H locs ls hm bj84l7_l bj84l7_u bj84l6_l bj84l6_u hP hD hS hl
                      refine (hK0 _ _ _).mpr ?_
                      have hm84 := hm
                      refine lv_iload hx hb dX2_tally_84 (lv_at hl 7 rfl) ?_
                      refine lv_iload_n hx hb dX2_tally_86 rfl (lv_at hl 2 rfl) ?_
                      refine lv_icmp_ge (tgt := 125) hx hb dX2_tally_87 (by decide) (fun c87 => ?_) (fun c87 => ?_)
                      · have gc87 := ai_le c87
                        have u87t_a2 : a2.toInt ≤ (100 : Int) := u31t_a2
                        obtain ⟨x125, ex125⟩ : ∃ y : Int32, y = j37l3 + Int32.ofInt 1 := ⟨_, rfl⟩
                        have qx125 : x125.toInt = j37l3.toInt + 1 := ai_inc ex125 (by decide) (by decide) u42f_j37l3 (by decide)
                        have bx125 : (1 : Int) ≤ x125.toInt ∧ x125.toInt ≤ 729 := ⟨by rw [qx125]; exact Int.add_le_add bj37l3_l (Int.le_refl _), by rw [qx125]; exact Int.add_le_add u42f_j37l3 (Int.le_refl _)⟩
                        refine lv_iinc (v := x125) (lv' := [(3, .int x125), (0, .ref a0), (1, .int a1), (2, .int a2), (4, .int x53), (5, .int x67), (6, .int j84l6), (7, .int j84l7)]) hx hb dX2_tally_125 hl (k := 3) rfl ex125.symm (by decide) rfl (fun ls hl => ?_)
                        refine lv_goto (tgt := 37) hx hb dX2_tally_128 (by decide) ?_
                        exact (hK0 _ _ _).mp (ih37 x125 j84a0_4_a _ _ _ (by first | exact zg_s hm37 qx125 | (have h0 := qx125; omega)) (Int.le_trans zq4 bx125.1) bx125.2 hP hD hS (lv_sub hl [1, 2, 3, 0] rfl))
                      · have gc87 := ai_nle c87
                        have u87f_j84l7 : j84l7.toInt ≤ (99 : Int) := ai_lthi gc87 u31t_a2
                        have l87f_a2 : (1 : Int) ≤ a2.toInt := ai_ltlo gc87 bj84l7_l
                        refine lv_aload_n hx hb dX2_tally_90 rfl (lv_at hl 0 rfl) ?_
                        refine va_get (D := (dC, dI)) (ci := 2) (v := .ref a0_4) (C := RX2) (T := TX2) (N := 7) hx hb hts zi_X2_tally_2 hown hK hP 0 rfl rfl 4 (by decide) (hts (.fieldLink RX2 15 "WaxTurns$Laws" "tallies" "[I") (List.mem_cons_of_mem _ (List.mem_append_left _ (List.mem_of_getElem? (i := 0) rfl)))) (fun _ h9 => h9) rfl dX2_tally_91 ?_
                        refine lv_iload hx hb dX2_tally_94 (lv_at hl 7 rfl) ?_
                        refine lv_bipush (v := 9) hx hb dX2_tally_96 zk_bipush_9 ?_
                        refine lv_imul hx hb dX2_tally_98 ?_
                        refine lv_topi (fun x98 ex98 => ?_)
                        have qx98 : x98.toInt = j84l7.toInt * (9 : Int32).toInt ∧ (0 : Int) ≤ x98.toInt ∧ x98.toInt ≤ 891 := ai_mul ex98 ⟨bj84l7_l, u87f_j84l7⟩ ⟨zq2, zq3⟩ (by decide) (by decide) zq36
                        have wx98 : x98.toInt = j84l7.toInt * 9 := qx98.1
                        refine lv_iload hx hb dX2_tally_99 (lv_at hl 6 rfl) ?_
                        refine lv_iadd hx hb dX2_tally_101 ?_
                        refine lv_topi (fun x101 ex101 => ?_)
                        have qx101 : x101.toInt = x98.toInt + j84l6.toInt := ai_add ex101 ⟨qx98.2.1, qx98.2.2⟩ ⟨bj84l6_l, bj84l6_u⟩ (by decide) (by decide)
                        have bx101 : (0 : Int) ≤ x101.toInt ∧ x101.toInt ≤ 899 := ⟨by rw [qx101]; exact Int.add_le_add qx98.2.1 bj84l6_l, by rw [qx101]; exact Int.add_le_add qx98.2.2 bj84l6_u⟩
                        refine lv_dup2_11 hx hb dX2_tally_102 rfl rfl ?_
                        refine va_iald hx hb hK hP 1 0 rfl rfl (ai_in bx101.1 bx101.2 (by decide) (by decide)) dX2_tally_103 ?_
                        refine lv_topi (fun x103 ex103 => ?_)
                        refine lv_iconst (v := 1) hx hb dX2_tally_104 zk_iconst_1 ?_
                        refine lv_iadd hx hb dX2_tally_105 ?_
                        refine lv_topi (fun x105 ex105 => ?_)
                        refine va_iast hx hb hK hP hD hS 1 0 rfl rfl (ai_in bx101.1 bx101.2 (by decide) (by decide)) dX2_tally_106 (fun H locs hP hD hS => ?_)
                        obtain ⟨f106, hP, hD⟩ : ∃ f106 : Nat → Int32, va_P (dC, dI) vwCl [(a0, .inr (2, [.int a0_0, a0g_1, a0g_2, .ref a0_3, .ref a0_4, a0g_5, a0g_6])), (a0_4, .inl (ka0_4, 900, .inl (f106))), (a0_3, .inl (ka0_3, 729, .inl (fa0_3)))] H ∧ va_D A [(a0, .inr (2, [.int a0_0, a0g_1, a0g_2, .ref a0_3, .ref a0_4, a0g_5, a0g_6])), (a0_4, .inl (ka0_4, 900, .inl (f106))), (a0_3, .inl (ka0_3, 729, .inl (fa0_3)))] := ⟨_, hP, hD⟩
                        refine lv_iload hx hb dX2_tally_107 (lv_at hl 6 rfl) ?_
                        refine lv_iload hx hb dX2_tally_109 (lv_at hl 4 rfl) ?_
                        refine lv_imul hx hb dX2_tally_111 ?_
                        refine lv_topi (fun x111 ex111 => ?_)
                        have qx111 : x111.toInt = j84l6.toInt * x53.toInt ∧ (0 : Int) ≤ x111.toInt ∧ x111.toInt ≤ 64 := ai_mul ex111 ⟨bj84l6_l, bj84l6_u⟩ ⟨qx53.2.1, u53z_x53⟩ (by decide) (by decide) zq18
                        refine lv_iload hx hb dX2_tally_112 (lv_at hl 5 rfl) ?_
                        refine lv_iadd hx hb dX2_tally_114 ?_
                        refine lv_topi (fun x114 ex114 => ?_)
                        have qx114 : x114.toInt = x111.toInt + x67.toInt := ai_add ex114 ⟨qx111.2.1, qx111.2.2⟩ ⟨qx67.2.1, qx67.2.2⟩ (by decide) (by decide)
                        have bx114 : (0 : Int) ≤ x114.toInt ∧ x114.toInt ≤ 73 := ⟨by rw [qx114]; exact Int.add_le_add qx111.2.1 qx67.2.1, by rw [qx114]; exact Int.add_le_add qx111.2.2 qx67.2.2⟩
                        refine lv_iload_n hx hb dX2_tally_115 rfl (lv_at hl 1 rfl) ?_
                        refine lv_irem hx hb dX2_tally_116 (ai_nz l25f_a1 (by decide)) ?_
                        refine lv_topi (fun x116 ex116 => ?_)
                        have qx116 := ai_rem2 ex116 bx114.1 (Int.lt_of_lt_of_le zq19 l25f_a1) ba1_u
                        refine lv_istore (lv' := [(6, .int x116), (0, .ref a0), (1, .int a1), (2, .int a2), (3, .int j37l3), (4, .int x53), (5, .int x67), (7, .int j84l7)]) hx hb dX2_tally_117 hl (by decide) rfl (fun ls hl => ?_)
                        obtain ⟨x119, ex119⟩ : ∃ y : Int32, y = j84l7 + Int32.ofInt 1 := ⟨_, rfl⟩
                        have qx119 : x119.toInt = j84l7.toInt + 1 := ai_inc ex119 (by decide) (by decide) u87f_j84l7 (by decide)
                        have bx119 : (1 : Int) ≤ x119.toInt ∧ x119.toInt ≤ 100 := ⟨by rw [qx119]; exact Int.add_le_add bj84l7_l (Int.le_refl _), by rw [qx119]; exact Int.add_le_add u87f_j84l7 (Int.le_refl _)⟩
                        refine lv_iinc (v := x119) (lv' := [(7, .int x119), (6, .int x116), (0, .ref a0), (1, .int a1), (2, .int a2), (3, .int j37l3), (4, .int x53), (5, .int x67)]) hx hb dX2_tally_119 hl (k := 7) rfl ex119.symm (by decide) rfl (fun ls hl => ?_)
                        refine lv_goto (tgt := 84) hx hb dX2_tally_122 (by decide) ?_
                        exact (hK0 _ _ _).mp (ih84 x119 x116 f106 _ _ _ (by first | exact zg_s hm84 qx119 | (have h0 := qx119; omega)) (Int.le_trans zq4 bx119.1) bx119.2 qx116.2.1 qx116.2.2 hP hD hS (lv_sub hl [2, 3, 4, 5, 6, 7, 1, 0] rfl))
                  exact (hK0 _ _ _).mp (J84 101 0 x78 j37a0_4_a _ _ _ (by first | decide +kernel | (have h1 : (0 : Int) ≤ (0 : Int32).toInt := zq5; have h2 : (0 : Int32).toInt ≤ (0 : Int) := zq6; omega)) zq5 (Int.le_trans zq6 zq38) qx78.2.1 u78z_x78 hP hD hS (lv_sub hl [4, 5, 6, 7, 3, 2, 1, 0] rfl))
            exact (hK0 _ _ _).mp (J37 730 0 j2a0_4_a _ _ _ (by first | decide +kernel | (have h1 : (0 : Int) ≤ (0 : Int32).toInt := zq5; have h2 : (0 : Int32).toInt ≤ (0 : Int) := zq6; omega)) zq5 (Int.le_trans zq6 zq35) hP hD hS (lv_sub hl [1, 2, 3, 0] rfl))
          · have gc31 := ai_nle c31
            have l31f_a2 : (101 : Int) ≤ a2.toInt := ai_ltlo gc31 zq24
            exact W.vret hx hb hr (fun t ht hW => ⟨⟨(), rfl, trivial, j2a0_4_a, by rw [ht]; exact hP, va_K.moved hW.alike hK, hD⟩, hS.F ht⟩) hS.2.2 dX2_tally_34
      · have gc8 := ai_nle c8
        have u8f_j2l3 : j2l3.toInt ≤ (899 : Int) := ai_lthi gc8 zq39
        refine lv_aload_n hx hb dX2_tally_11 rfl (lv_at hl 0 rfl) ?_
        refine va_get (D := (dC, dI)) (ci := 2) (v := .ref a0_4) (C := RX2) (T := TX2) (N := 7) hx hb hts zi_X2_tally_2 hown hK hP 0 rfl rfl 4 (by decide) (hts (.fieldLink RX2 15 "WaxTurns$Laws" "tallies" "[I") (List.mem_cons_of_mem _ (List.mem_append_left _ (List.mem_of_getElem? (i := 0) rfl)))) (fun _ h9 => h9) rfl dX2_tally_12 ?_
        refine lv_iload_n hx hb dX2_tally_15 rfl (lv_at hl 3 rfl) ?_
        refine lv_iconst (v := 0) hx hb dX2_tally_16 zk_iconst_0 ?_
        refine va_iast hx hb hK hP hD hS 1 0 rfl rfl (ai_in bj2l3_l u8f_j2l3 (by decide) (by decide)) dX2_tally_17 (fun H locs hP hD hS => ?_)
        obtain ⟨f17, hP, hD⟩ : ∃ f17 : Nat → Int32, va_P (dC, dI) vwCl [(a0, .inr (2, [.int a0_0, a0g_1, a0g_2, .ref a0_3, .ref a0_4, a0g_5, a0g_6])), (a0_4, .inl (ka0_4, 900, .inl (f17))), (a0_3, .inl (ka0_3, 729, .inl (fa0_3)))] H ∧ va_D A [(a0, .inr (2, [.int a0_0, a0g_1, a0g_2, .ref a0_3, .ref a0_4, a0g_5, a0g_6])), (a0_4, .inl (ka0_4, 900, .inl (f17))), (a0_3, .inl (ka0_3, 729, .inl (fa0_3)))] := ⟨_, hP, hD⟩
        obtain ⟨x18, ex18⟩ : ∃ y : Int32, y = j2l3 + Int32.ofInt 1 := ⟨_, rfl⟩
        have qx18 : x18.toInt = j2l3.toInt + 1 := ai_inc ex18 (by decide) (by decide) u8f_j2l3 (by decide)
        have bx18 : (1 : Int) ≤ x18.toInt ∧ x18.toInt ≤ 900 := ⟨by rw [qx18]; exact Int.add_le_add bj2l3_l (Int.le_refl _), by rw [qx18]; exact Int.add_le_add u8f_j2l3 (Int.le_refl _)⟩
        refine lv_iinc (v := x18) (lv' := [(3, .int x18), (0, .ref a0), (1, .int a1), (2, .int a2)]) hx hb dX2_tally_18 hl (k := 3) rfl ex18.symm (by decide) rfl (fun ls hl => ?_)
        refine lv_goto (tgt := 2) hx hb dX2_tally_21 (by decide) ?_
        exact (hK0 _ _ _).mp (ih2 x18 f17 _ _ _ (by first | exact zg_s hm2 qx18 | (have h0 := qx18; omega)) (Int.le_trans zq4 bx18.1) bx18.2 hP hD hS (lv_sub hl [1, 2, 3, 0] rfl))
  exact (hK0 _ _ _).mp (J2 901 0 fa0_4 _ _ _ (by first | decide +kernel | (have h1 : (0 : Int) ≤ (0 : Int32).toInt := zq5; have h2 : (0 : Int32).toInt ≤ (0 : Int) := zq6; omega)) zq5 (Int.le_trans zq6 zq40) hP hD hS (lv_sub hl [1, 2, 3, 0] rfl))

set_option maxHeartbeats 4000000 in
set_option maxRecDepth 100000 in
theorem c_X2_chooseLook (l : Launch) (dC : Nat → ClassId) (dI : Nat → Nat → Nat) (sz : Nat) (a0 : Nat) (a1 : Nat) (a0_0 : Int32) (a0_1 : Int32) (a0_2 : Int32) (a0_3 : Nat) (a0_4 : Nat) (a0_5 : Int32) (a0_6 : Int32) (a1_0 : Int32) (a1_1 : Int32) (a1g_2 a1g_3 a1g_4 a1g_5 a1g_6 a1g_7 a1g_8 a1g_10 a1g_11 a1g_14 : Value) (a1_9 : Int32) (a1_12 : Nat) (a1_13 : Nat) (ka0_3 : ClassId) (fa0_3 : Nat → Int32) (ka1_13 : ClassId) (fa1_13 : Nat → Int32) (ka1_12 : ClassId) (fa1_12 : Nat → Int32) (ka0_4 : ClassId) (fa0_4 : Nat → Int32) (ba0_0_l : (0 : Int) ≤ a0_0.toInt) (ba0_0_u : a0_0.toInt ≤ (729 : Int)) (ba0_5_l : (0 : Int) ≤ a0_5.toInt) (ba0_5_u : a0_5.toInt ≤ (1 : Int)) (ba0_6_l : (0 : Int) ≤ a0_6.toInt) (ba0_6_u : a0_6.toInt ≤ (1 : Int)) (ba1_0_l : (0 : Int) ≤ a1_0.toInt) (ba1_0_u : a1_0.toInt ≤ (9 : Int)) (ba1_9_l : (0 : Int) ≤ a1_9.toInt) (ba1_9_u : a1_9.toInt ≤ (6 : Int)) (bfa0_3 : (∀ k, (0 : Int) ≤ (fa0_3 k).toInt ∧ (fa0_3 k).toInt ≤ 888 ∧ (fa0_3 k).toInt % 10 ≤ 8)) (bfa1_13 : (∀ k, (0 : Int) ≤ (fa1_13 k).toInt ∧ (fa1_13 k).toInt ≤ 999)) : zm l yX2_chooseLook wsX2_chooseLook ({ frames := 4, cells := 0, slots := 0, locals := 98 }) [.ref a0, .ref a1] dC dI sz [(a0, .inr (2, [.int a0_0, .int a0_1, .int a0_2, .ref a0_3, .ref a0_4, .int a0_5, .int a0_6])), (a1, .inr (0, [.int a1_0, .int a1_1, a1g_2, a1g_3, a1g_4, a1g_5, a1g_6, a1g_7, a1g_8, .int a1_9, a1g_10, a1g_11, .ref a1_12, .ref a1_13, a1g_14])), (a0_3, .inl (ka0_3, 729, .inl (fa0_3))), (a1_13, .inl (ka1_13, 6, .inl (fa1_13))), (a1_12, .inl (ka1_12, 6, .inl (fa1_12))), (a0_4, .inl (ka0_4, 900, .inl (fa0_4)))] [(ka0_3, .int), (ka1_13, .int), (ka1_12, .int), (ka0_4, .int)] (fun A U => va_Nw (.methodLinkNest RX0 72 yX7_laterTurn RX7) U) (fun A => va_Qv (fun (_ : Unit) => True) (fun (_ : Unit) (t : State) => ∃ na0_0 : Int32, ∃ na0_1 : Int32, ∃ na0_2 : Int32, ∃ na0_5 : Int32, ∃ na0_6 : Int32, ∃ nfa0_3 : Nat → Int32, ∃ nfa0_4 : Nat → Int32, ((0 : Int) ≤ na0_0.toInt ∧ na0_0.toInt ≤ 729) ∧ ((0 : Int) ≤ na0_5.toInt ∧ na0_5.toInt ≤ 1) ∧ ((0 : Int) ≤ na0_6.toInt ∧ na0_6.toInt ≤ 1) ∧ (∀ k, (0 : Int) ≤ (nfa0_3 k).toInt ∧ (nfa0_3 k).toInt ≤ 888 ∧ (nfa0_3 k).toInt % 10 ≤ 8) ∧ ax_B dC dI A [(a0, .inr (2, [.int na0_0, .int na0_1, .int na0_2, .ref a0_3, .ref a0_4, .int na0_5, .int na0_6])), (a1, .inr (0, [.int a1_0, .int a1_1, a1g_2, a1g_3, a1g_4, a1g_5, a1g_6, a1g_7, a1g_8, .int a1_9, a1g_10, a1g_11, .ref a1_12, .ref a1_13, a1g_14])), (a0_3, .inl (ka0_3, 729, .inl (nfa0_3))), (a1_13, .inl (ka1_13, 6, .inl (fa1_13))), (a1_12, .inl (ka1_12, 6, .inl (fa1_12))), (a0_4, .inl (ka0_4, 900, .inl (nfa0_4)))] [(ka0_3, .int), (ka1_13, .int), (ka1_12, .int), (ka0_4, .int)] t) A) := by
  refine zh (cc := cX2_chooseLook) (maxL := 5) (ret := none) zn_RX2 rfl (Nat.le_of_ble_eq_true rfl) (fun p e s m below meth c A ls hx hb hml hr hts (hown : s.vm.findClass RX2 = some m.cls) hlocks hA hS hP hK hD hE (hl : lv_has ls 5 [(0, .ref a0), (1, .ref a1)]) => ?_)
  have hE0 := hE
  refine ai_open (fun K hK0 => ?_)
  refine (hK0 _ _ _).mpr ?_
  refine lv_aload_n hx hb dX2_chooseLook_0 rfl (lv_at hl 0 rfl) ?_
  refine va_get (D := (dC, dI)) (ci := 2) (v := .int a0_6) (C := RX2) (T := TX2) (N := 7) hx hb hts zi_X2_chooseLook_2 hown hK hP 0 rfl rfl 6 (by decide) (hts (.fieldLink RX2 22 "WaxTurns$Laws" "looked" "Z") (zm_X2_chooseLook_r1 (List.mem_of_getElem? (i := 0) rfl))) (fun _ h9 => h9) rfl dX2_chooseLook_1 ?_
  refine lv_if_eq (tgt := 8) hx hb dX2_chooseLook_4 (by decide) (fun c4 => ?_) (fun c4 => ?_)
  · have gc4 := ai_eq c4
    have u4t_a0_6 : a0_6.toInt ≤ (0 : Int) := Int.le_trans (Int.le_of_eq gc4) zq6
    have l4t_a0_6 : (0 : Int) ≤ a0_6.toInt := ba0_6_l
    refine lv_aload_n hx hb dX2_chooseLook_8 rfl (lv_at hl 0 rfl) ?_
    refine lv_aload_n hx hb dX2_chooseLook_9 rfl (lv_at hl 1 rfl) ?_
    have hKc := hK.sub (tys' := [(ka0_3, .int), (ka1_13, .int), (ka1_12, .int)]) [0, 1, 2] rfl
    refine va_callv (va_runV (As := [.ref a1]) (rest := []) ⟨hx, hb, hml, hown, hts⟩ (c_X2_list l dC dI s.heap.size a0 a1 a0_0 (.int a0_1) (.int a0_2) (.ref a0_4) (.int a0_6) a0_3 a0_5 a1_0 a1_1 a1g_2 a1g_3 a1g_4 a1g_5 a1g_6 a1g_7 a1g_8 a1g_10 a1g_11 a1g_14 a1_9 a1_12 a1_13 ka0_3 fa0_3 ka1_13 fa1_13 ka1_12 fa1_12 ba0_0_l ba0_0_u ba0_5_l ba0_5_u ba1_0_l ba1_0_u ba1_9_l ba1_9_u bfa0_3 bfa1_13) (cwV 1 hts gX2_chooseLook_X2_list rfl rfl rfl zd_X2_list ⟨Nat.le_of_ble_eq_true rfl, Nat.le_of_ble_eq_true rfl⟩) ⟨ax_blind (fun _ _ _ _ hq => va_Nw.same rfl rfl (hq)), zr_2 hKc (zp_P5 hP) (q0 := 0) rfl, ax_pre (zp_P5 hP) hKc (zp_D5 hD) (fun _ hW => va_Nw.warmM hW hE0)⟩ rfl rfl hl.1 rfl (lv_room (Nat.le_of_ble_eq_true rfl)) dX2_chooseLook_10 ⟨Nat.le_of_ble_eq_true rfl, Nat.le_of_ble_eq_true rfl⟩) hS (fun q _ h => zp_F5 hD hS hA q h) (zp_F5 hD hS hA) (fun u t H locs ht hvm hw => zx_3 (fun v10na0_0 v10na0_5 v10nfa0_3 => zy_3 (fun bv10na0_0 bv10na0_5 bv10nfa0_3 hB hz1 hk1 hS1 => zo5 hB ht hP hD hk1 (zp_F5 hD hS hA) hS1 (fun hP hK1 hD hS => ?_))))
    refine lv_aload_n hx hb dX2_chooseLook_13 rfl (lv_at hl 0 rfl) ?_
    refine lv_iconst (v := 1) hx hb dX2_chooseLook_14 zk_iconst_1 ?_
    refine va_put (D := (dC, dI)) (ci := 2) (v := .int 1) (ty := .boolean) (C := RX2) (T := TX2) (N := 7) hx hb hts zi_X2_chooseLook_2 tyX2 tyX2_ok nmX2 hown hK hP hD hS 0 rfl rfl 6 (by decide) (hts (.fieldLink RX2 22 "WaxTurns$Laws" "looked" "Z") (zm_X2_chooseLook_r1 (List.mem_of_getElem? (i := 0) rfl))) (fun _ h9 => h9) rfl (tyX2_ok 6 (by decide)) rfl rfl (Nat.le_of_ble_eq_true rfl) dX2_chooseLook_15 (fun H locs hP hD hS => ?_)
    refine zs_0 (y := (a0, .inr (2, [.int v10na0_0, .int a0_1, .int a0_2, .ref a0_3, .ref a0_4, .int v10na0_5, .int 1]))) hP hD rfl (fun hP hD => ?_)
    refine lv_aload_n hx hb dX2_chooseLook_18 rfl (lv_at hl 0 rfl) ?_
    refine lv_bipush (v := (-2)) hx hb dX2_chooseLook_19 zk_bipush_n2 ?_
    refine va_put (D := (dC, dI)) (ci := 2) (v := .int (-2)) (ty := .int) (C := RX2) (T := TX2) (N := 7) hx hb hts zi_X2_chooseLook_2 tyX2 tyX2_ok nmX2 hown hK hP hD hS 0 rfl rfl 1 (by decide) (hts (.fieldLink RX2 55 "WaxTurns$Laws" "lookMinute" "I") (zm_X2_chooseLook_r1 (List.mem_of_getElem? (i := 1) rfl))) (fun _ h9 => h9) rfl (tyX2_ok 1 (by decide)) rfl rfl (Nat.le_of_ble_eq_true rfl) dX2_chooseLook_21 (fun H locs hP hD hS => ?_)
    refine zs_0 (y := (a0, .inr (2, [.int v10na0_0, .int (-2), .int a0_2, .ref a0_3, .ref a0_4, .int v10na0_5, .int 1]))) hP hD rfl (fun hP hD => ?_)
    refine lv_aload_n hx hb dX2_chooseLook_24 rfl (lv_at hl 0 rfl) ?_
    refine lv_bipush (v := (-2)) hx hb dX2_chooseLook_25 zk_bipush_n2 ?_
    refine va_put (D := (dC, dI)) (ci := 2) (v := .int (-2)) (ty := .int) (C := RX2) (T := TX2) (N := 7) hx hb hts zi_X2_chooseLook_2 tyX2 tyX2_ok nmX2 hown hK hP hD hS 0 rfl rfl 2 (by decide) (hts (.fieldLink RX2 58 "WaxTurns$Laws" "lookMost" "I") (zm_X2_chooseLook_r1 (List.mem_of_getElem? (i := 2) rfl))) (fun _ h9 => h9) rfl (tyX2_ok 2 (by decide)) rfl rfl (Nat.le_of_ble_eq_true rfl) dX2_chooseLook_27 (fun H locs hP hD hS => ?_)
    refine zs_0 (y := (a0, .inr (2, [.int v10na0_0, .int (-2), .int (-2), .ref a0_3, .ref a0_4, .int v10na0_5, .int 1]))) hP hD rfl (fun hP hD => ?_)
    refine lv_aload_n hx hb dX2_chooseLook_30 rfl (lv_at hl 0 rfl) ?_
    refine va_get (D := (dC, dI)) (ci := 2) (v := .int v10na0_0) (C := RX2) (T := TX2) (N := 7) hx hb hts zi_X2_chooseLook_2 hown hK hP 0 rfl rfl 0 (by decide) (hts (.fieldLink RX2 25 "WaxTurns$Laws" "fitCount" "I") (zm_X2_chooseLook_r1 (List.mem_of_getElem? (i := 3) rfl))) (fun _ h9 => h9) rfl dX2_chooseLook_31 ?_
    refine lv_if_eq (tgt := 44) hx hb dX2_chooseLook_34 (by decide) (fun c34 => ?_) (fun c34 => ?_)
    · have gc34 := ai_eq c34
      have u34t_v10na0_0 : v10na0_0.toInt ≤ (0 : Int) := Int.le_trans (Int.le_of_eq gc34) zq6
      have l34t_v10na0_0 : (0 : Int) ≤ v10na0_0.toInt := bv10na0_0.1
      exact W.vret hx hb hr (fun t ht hW => ⟨⟨(), rfl, trivial, v10na0_0, (-2), (-2), v10na0_5, 1, v10nfa0_3, fa0_4, ⟨l34t_v10na0_0, Int.le_trans u34t_v10na0_0 (by decide)⟩, ⟨bv10na0_5.1, bv10na0_5.2⟩, ⟨Int.le_trans (by decide) zq1, zq0⟩, bv10nfa0_3, by rw [ht]; exact hP, va_K.moved hW.alike hK, hD⟩, hS.F ht⟩) hS.2.2 dX2_chooseLook_44
    · have gc34 := ai_ne c34
      have l34f_v10na0_0 : (1 : Int) ≤ v10na0_0.toInt := (by first | exact zg_l bv10na0_0.1 gc34 (by decide) (by decide) | (have h1 := bv10na0_0.1; have h2 : (0 : Int32).toInt = 0 := (by decide); rw [h2] at gc34; omega))
      refine lv_aload_n hx hb dX2_chooseLook_37 rfl (lv_at hl 1 rfl) ?_
      refine va_get (D := (dC, dI)) (ci := 0) (v := .int a1_1) (C := RX0) (T := TX0) (N := 15) hx hb hts zi_X2_chooseLook_0 hown hK hP 1 rfl rfl 1 (by decide) (hts (.fieldLink RX2 61 "WaxTurns$Hall" "span" "I") (zm_X2_chooseLook_r1 (List.mem_of_getElem? (i := 4) rfl))) (fun _ h9 => h9) rfl dX2_chooseLook_38 ?_
      refine lv_if_gt (tgt := 45) hx hb dX2_chooseLook_41 (by decide) (fun c41 => ?_) (fun c41 => ?_)
      · have gc41 := ai_lt c41
        have l41t_a1_1 : (1 : Int) ≤ a1_1.toInt := ai_ltlo gc41 zq5
        refine lv_bipush (v := 99) hx hb dX2_chooseLook_45 zk_bipush_99 ?_
        refine lv_aload_n hx hb dX2_chooseLook_47 rfl (lv_at hl 1 rfl) ?_
        refine va_get (D := (dC, dI)) (ci := 0) (v := .int a1_1) (C := RX0) (T := TX0) (N := 15) hx hb hts zi_X2_chooseLook_0 hown hK hP 1 rfl rfl 1 (by decide) (hts (.fieldLink RX2 61 "WaxTurns$Hall" "span" "I") (zm_X2_chooseLook_r1 (List.mem_of_getElem? (i := 4) rfl))) (fun _ h9 => h9) rfl dX2_chooseLook_48 ?_
        refine lv_idiv hx hb dX2_chooseLook_51 (ai_nz l41t_a1_1 (by decide)) ?_
        refine lv_topi (fun x51 ex51 => ?_)
        have qx51 := ai_div ex51 ⟨(Int.le_trans zq41 zq42), zq43⟩ (Int.lt_of_lt_of_le zq19 l41t_a1_1)
        refine lv_iconst (v := 1) hx hb dX2_chooseLook_52 zk_iconst_1 ?_
        refine lv_iadd hx hb dX2_chooseLook_53 ?_
        refine lv_topi (fun x53 ex53 => ?_)
        have qx53 : x53.toInt = x51.toInt + (1 : Int32).toInt := ai_add ex53 ⟨qx51.2.1, qx51.2.2⟩ ⟨zq1, zq0⟩ (by decide) (by decide)
        have bx53 : (1 : Int) ≤ x53.toInt ∧ x53.toInt ≤ 100 := ⟨by rw [qx53]; exact Int.add_le_add qx51.2.1 zq1, by rw [qx53]; exact Int.add_le_add qx51.2.2 zq0⟩
        have wx53 : x53.toInt = x51.toInt + 1 := qx53
        refine lv_istore_n (lv' := [(2, .int x53), (0, .ref a0), (1, .ref a1)]) hx hb dX2_chooseLook_54 rfl hl (by decide) rfl (fun ls hl => ?_)
        refine lv_aload_n hx hb dX2_chooseLook_55 rfl (lv_at hl 1 rfl) ?_
        refine lv_aload_n hx hb dX2_chooseLook_56 rfl (lv_at hl 2 rfl) ?_
        refine va_get (D := (dC, dI)) (ci := 0) (v := .int a1_0) (C := RX0) (T := TX0) (N := 15) hx hb hts zi_X2_chooseLook_0 hown hK hP 1 rfl rfl 0 (by decide) (hts (.fieldLink RX2 29 "WaxTurns$Hall" "figures" "I") (zm_X2_chooseLook_r1 (List.mem_of_getElem? (i := 5) rfl))) (fun _ h9 => h9) rfl dX2_chooseLook_57 ?_
        refine lv_iload_n hx hb dX2_chooseLook_60 rfl (lv_at hl 0 rfl) ?_
        refine zc_cutc (wc := [(a0, .inr (2, [.int v10na0_0, .int (-2), .int (-2), .ref a0_3, .ref a0_4, .int v10na0_5, .int 1])), (a0_4, .inl (ka0_4, 900, .inl (fa0_4))), (a0_3, .inl (ka0_3, 729, .inl (v10nfa0_3)))]) hP hD hS hA [0, 5, 2] (by decide +kernel) rfl (fun hPc hDc hFc hCc => ?_)
        have hKc := hK.sub (tys' := [(ka0_4, .int), (ka0_3, .int)]) [3, 0] rfl
        refine va_callv (va_runV (As := [.int a1_0, .int x53]) (rest := []) ⟨hx, hb, hml, hown, hts⟩ (c_X2_tally l dC dI H.size a0 a1_0 x53 v10na0_0 (.int (-2)) (.int (-2)) (.int v10na0_5) (.int 1) a0_3 a0_4 ka0_4 fa0_4 ka0_3 v10nfa0_3 ba1_0_l ba1_0_u (Int.le_trans zq4 l34f_v10na0_0) bv10na0_0.2 bv10nfa0_3) (cwV 2 hts gX2_chooseLook_X2_tally rfl rfl rfl zd_X2_tally ⟨Nat.le_of_ble_eq_true rfl, Nat.le_of_ble_eq_true rfl⟩) ⟨ax_blind (fun _ _ _ _ _ => trivial), zr_2 hKc hPc (q0 := 0) rfl, ax_pre hPc hKc hDc (fun _ _ => trivial)⟩ rfl rfl hl.1 rfl (lv_room (Nat.le_of_ble_eq_true rfl)) dX2_chooseLook_61 ⟨Nat.le_of_ble_eq_true rfl, Nat.le_of_ble_eq_true rfl⟩) hS (fun q _ h => hFc q h) hFc (fun u t H locs ht hvm hw => zx_1 (fun v61nfa0_4 hB hz1 hk1 hS1 => zo hB ht hS1 (fun hP1 hK1 hD1 hS => ?_)))
        refine zc_backc (w := [(a0, .inr (2, [.int v10na0_0, .int (-2), .int (-2), .ref a0_3, .ref a0_4, .int v10na0_5, .int 1])), (a1, .inr (0, [.int a1_0, .int a1_1, a1g_2, a1g_3, a1g_4, a1g_5, a1g_6, a1g_7, a1g_8, .int a1_9, a1g_10, a1g_11, .ref a1_12, .ref a1_13, a1g_14])), (a0_3, .inl (ka0_3, 729, .inl (v10nfa0_3))), (a1_13, .inl (ka1_13, 6, .inl (fa1_13))), (a1_12, .inl (ka1_12, 6, .inl (fa1_12))), (a0_4, .inl (ka0_4, 900, .inl (v61nfa0_4)))]) hP hD hCc hk1 hFc hP1 hD1 [.inr 0, .inl 1, .inr 2, .inl 3, .inl 4, .inr 1] (by decide +kernel) rfl (fun hP hD => ?_)
        refine lv_iconst (v := 0) hx hb dX2_chooseLook_64 zk_iconst_0 ?_
        refine lv_istore_n (lv' := [(3, .int 0), (2, .int x53), (0, .ref a0), (1, .ref a1)]) hx hb dX2_chooseLook_65 rfl hl (by decide) rfl (fun ls hl => ?_)
        have J66 : ∀ (n : Nat) (j66l3 : Int32) (j66a0_1 : Int32) (j66a0_2 : Int32) (H : Heap) (locs : List Loc) (ls : Array Slot), (101 : Int) - j66l3.toInt ≤ (n : Int) → (0 : Int) ≤ j66l3.toInt → j66l3.toInt ≤ (100 : Int) → va_P (dC, dI) vwCl [(a0, .inr (2, [.int v10na0_0, .int j66a0_1, .int j66a0_2, .ref a0_3, .ref a0_4, .int v10na0_5, .int 1])), (a1, .inr (0, [.int a1_0, .int a1_1, a1g_2, a1g_3, a1g_4, a1g_5, a1g_6, a1g_7, a1g_8, .int a1_9, a1g_10, a1g_11, .ref a1_12, .ref a1_13, a1g_14])), (a0_3, .inl (ka0_3, 729, .inl (v10nfa0_3))), (a1_13, .inl (ka1_13, 6, .inl (fa1_13))), (a1_12, .inl (ka1_12, 6, .inl (fa1_12))), (a0_4, .inl (ka0_4, 900, .inl (v61nfa0_4)))] H → va_D A [(a0, .inr (2, [.int v10na0_0, .int j66a0_1, .int j66a0_2, .ref a0_3, .ref a0_4, .int v10na0_5, .int 1])), (a1, .inr (0, [.int a1_0, .int a1_1, a1g_2, a1g_3, a1g_4, a1g_5, a1g_6, a1g_7, a1g_8, .int a1_9, a1g_10, a1g_11, .ref a1_12, .ref a1_13, a1g_14])), (a0_3, .inl (ka0_3, 729, .inl (v10nfa0_3))), (a1_13, .inl (ka1_13, 6, .inl (fa1_13))), (a1_12, .inl (ka1_12, 6, .inl (fa1_12))), (a0_4, .inl (ka0_4, 900, .inl (v61nfa0_4)))] → va_S A s.heap H locs → lv_has ls 5 [(0, .ref a0), (1, .ref a1), (2, .int x53), (3, .int j66l3)] → K H locs (F0 m 66 ls []) := by
          intro n
          induction n with
          | zero =>
            intro j66l3 j66a0_1 j66a0_2 H locs ls hm bj66l3_l bj66l3_u hP hD hS hl
            first | exact zg_0 hm bj66l3_u (by decide) | (have h8 := ai_min j66l3; have h9 := ai_max j66l3; exact absurd hm (by omega))
          | succ n ih66 =>
            intro j66l3 j66a0_1 j66a0_2 H locs ls hm bj66l3_l bj66l3_u hP hD hS hl
            refine (hK0 _ _ _).mpr ?_
            have hm66 := hm
            refine lv_iload_n hx hb dX2_chooseLook_66 rfl (lv_at hl 3 rfl) ?_
            refine lv_iload_n hx hb dX2_chooseLook_67 rfl (lv_at hl 2 rfl) ?_
            refine lv_icmp_ge (tgt := 118) hx hb dX2_chooseLook_68 (by decide) (fun c68 => ?_) (fun c68 => ?_)
            · have gc68 := ai_le c68
              have u68t_x53 : x53.toInt ≤ (100 : Int) := bx53.2
              have l68t_j66l3 : (1 : Int) ≤ j66l3.toInt := Int.le_trans bx53.1 gc68
              exact W.vret hx hb hr (fun t ht hW => ⟨⟨(), rfl, trivial, v10na0_0, j66a0_1, j66a0_2, v10na0_5, 1, v10nfa0_3, v61nfa0_4, ⟨Int.le_trans (by decide) l34f_v10na0_0, bv10na0_0.2⟩, ⟨bv10na0_5.1, bv10na0_5.2⟩, ⟨Int.le_trans (by decide) zq1, zq0⟩, bv10nfa0_3, by rw [ht]; exact hP, va_K.moved hW.alike hK, hD⟩, hS.F ht⟩) hS.2.2 dX2_chooseLook_118
            · have gc68 := ai_nle c68
              have u68f_j66l3 : j66l3.toInt ≤ (99 : Int) := ai_lthi gc68 bx53.2
              have l68f_x53 : (1 : Int) ≤ x53.toInt := bx53.1
              refine lv_aload_n hx hb dX2_chooseLook_71 rfl (lv_at hl 0 rfl) ?_
              refine lv_iload_n hx hb dX2_chooseLook_72 rfl (lv_at hl 3 rfl) ?_
              refine zc_cutc (wc := [(a0, .inr (2, [.int v10na0_0, .int j66a0_1, .int j66a0_2, .ref a0_3, .ref a0_4, .int v10na0_5, .int 1])), (a0_4, .inl (ka0_4, 900, .inl (v61nfa0_4)))]) hP hD hS hA [0, 5] (by decide +kernel) rfl (fun hPc hDc hFc hCc => ?_)
              have hKc := hK.sub (tys' := [(ka0_4, .int)]) [3] rfl
              refine va_calli (va_runV (As := [.int j66l3]) (rest := []) ⟨hx, hb, hml, hown, hts⟩ (c_X2_mostOf l dC dI H.size a0 j66l3 (.int v10na0_0) (.int j66a0_1) (.int j66a0_2) (.ref a0_3) (.int v10na0_5) (.int 1) a0_4 ka0_4 v61nfa0_4 bj66l3_l u68f_j66l3) (cwV 1 hts gX2_chooseLook_X2_mostOf rfl rfl rfl zd_X2_mostOf ⟨Nat.le_of_ble_eq_true rfl, Nat.le_of_ble_eq_true rfl⟩) ⟨ax_blind (fun _ _ _ _ _ => trivial), zr_2 hKc hPc (q0 := 0) rfl, ax_pre hPc hKc hDc (fun _ _ => trivial)⟩ rfl rfl hl.1 rfl (lv_room (Nat.le_of_ble_eq_true rfl)) dX2_chooseLook_73 ⟨Nat.le_of_ble_eq_true rfl, Nat.le_of_ble_eq_true rfl⟩) hS (fun q _ h => hFc q h) hFc (fun r73 u t H locs ht hvm hw hB hz1 hk1 hS1 => zo hB ht hS1 (fun hP1 hK1 hD1 hS => ?_))
              refine zc_backc (w := [(a0, .inr (2, [.int v10na0_0, .int j66a0_1, .int j66a0_2, .ref a0_3, .ref a0_4, .int v10na0_5, .int 1])), (a1, .inr (0, [.int a1_0, .int a1_1, a1g_2, a1g_3, a1g_4, a1g_5, a1g_6, a1g_7, a1g_8, .int a1_9, a1g_10, a1g_11, .ref a1_12, .ref a1_13, a1g_14])), (a0_3, .inl (ka0_3, 729, .inl (v10nfa0_3))), (a1_13, .inl (ka1_13, 6, .inl (fa1_13))), (a1_12, .inl (ka1_12, 6, .inl (fa1_12))), (a0_4, .inl (ka0_4, 900, .inl (v61nfa0_4)))]) hP hD hCc hk1 hFc hP1 hD1 [.inr 0, .inl 1, .inl 2, .inl 3, .inl 4, .inr 1] (by decide +kernel) rfl (fun hP hD => ?_)
              refine lv_istore (lv' := [(4, .int r73), (0, .ref a0), (1, .ref a1), (2, .int x53), (3, .int j66l3)]) hx hb dX2_chooseLook_76 hl (by decide) rfl (fun ls hl => ?_)
              refine lv_aload_n hx hb dX2_chooseLook_78 rfl (lv_at hl 1 rfl) ?_
              refine va_get (D := (dC, dI)) (ci := 2) (v := .int j66a0_2) (C := RX2) (T := TX2) (N := 7) hx hb hts zi_X2_chooseLook_2 hown hK hP 0 rfl rfl 2 (by decide) (hts (.fieldLink RX2 58 "WaxTurns$Laws" "lookMost" "I") (zm_X2_chooseLook_r1 (List.mem_of_getElem? (i := 2) rfl))) (fun _ h9 => h9) rfl dX2_chooseLook_79 ?_
              refine lv_bipush (v := (-2)) hx hb dX2_chooseLook_82 zk_bipush_n2 ?_
              have J112 : ∀ (j112a0_1 : Int32) (j112a0_2 : Int32) (H : Heap) (locs : List Loc) (ls : Array Slot), va_P (dC, dI) vwCl [(a0, .inr (2, [.int v10na0_0, .int j112a0_1, .int j112a0_2, .ref a0_3, .ref a0_4, .int v10na0_5, .int 1])), (a1, .inr (0, [.int a1_0, .int a1_1, a1g_2, a1g_3, a1g_4, a1g_5, a1g_6, a1g_7, a1g_8, .int a1_9, a1g_10, a1g_11, .ref a1_12, .ref a1_13, a1g_14])), (a0_3, .inl (ka0_3, 729, .inl (v10nfa0_3))), (a1_13, .inl (ka1_13, 6, .inl (fa1_13))), (a1_12, .inl (ka1_12, 6, .inl (fa1_12))), (a0_4, .inl (ka0_4, 900, .inl (v61nfa0_4)))] H → va_D A [(a0, .inr (2, [.int v10na0_0, .int j112a0_1, .int j112a0_2, .ref a0_3, .ref a0_4, .int v10na0_5, .int 1])), (a1, .inr (0, [.int a1_0, .int a1_1, a1g_2, a1g_3, a1g_4, a1g_5, a1g_6, a1g_7, a1g_8, .int a1_9, a1g_10, a1g_11, .ref a1_12, .ref a1_13, a1g_14])), (a0_3, .inl (ka0_3, 729, .inl (v10nfa0_3))), (a1_13, .inl (ka1_13, 6, .inl (fa1_13))), (a1_12, .inl (ka1_12, 6, .inl (fa1_12))), (a0_4, .inl (ka0_4, 900, .inl (v61nfa0_4)))] → va_S A s.heap H locs → lv_has ls 5 [(0, .ref a0), (1, .ref a1), (2, .int x53), (3, .int j66l3)] → K H locs (F0 m 112 ls []) := by
                intro j112a0_1 j112a0_2 H locs ls   hP hD hS hl
                refine (hK0 _ _ _).mpr ?_
                obtain ⟨x112, ex112⟩ : ∃ y : Int32, y = j66l3 + Int32.ofInt 1 := ⟨_, rfl⟩
                have qx112 : x112.toInt = j66l3.toInt + 1 := ai_inc ex112 (by decide) (by decide) u68f_j66l3 (by decide)
                have bx112 : (1 : Int) ≤ x112.toInt ∧ x112.toInt ≤ 100 := ⟨by rw [qx112]; exact Int.add_le_add bj66l3_l (Int.le_refl _), by rw [qx112]; exact Int.add_le_add u68f_j66l3 (Int.le_refl _)⟩
                refine lv_iinc (v := x112) (lv' := [(3, .int x112), (0, .ref a0), (1, .ref a1), (2, .int x53)]) hx hb dX2_chooseLook_112 hl (k := 3) rfl ex112.symm (by decide) rfl (fun ls hl => ?_)
                refine lv_goto (tgt := 66) hx hb dX2_chooseLook_115 (by decide) ?_
                exact (hK0 _ _ _).mp (ih66 x112 j112a0_1 j112a0_2 _ _ _ (by first | exact zg_s hm66 qx112 | (have h0 := qx112; omega)) (Int.le_trans zq4 bx112.1) bx112.2 hP hD hS (lv_sub hl [1, 2, 3, 0] rfl))
              have J96 : ∀ (H : Heap) (locs : List Loc) (ls : Array Slot), va_P (dC, dI) vwCl [(a0, .inr (2, [.int v10na0_0, .int j66a0_1, .int j66a0_2, .ref a0_3, .ref a0_4, .int v10na0_5, .int 1])), (a1, .inr (0, [.int a1_0, .int a1_1, a1g_2, a1g_3, a1g_4, a1g_5, a1g_6, a1g_7, a1g_8, .int a1_9, a1g_10, a1g_11, .ref a1_12, .ref a1_13, a1g_14])), (a0_3, .inl (ka0_3, 729, .inl (v10nfa0_3))), (a1_13, .inl (ka1_13, 6, .inl (fa1_13))), (a1_12, .inl (ka1_12, 6, .inl (fa1_12))), (a0_4, .inl (ka0_4, 900, .inl (v61nfa0_4)))] H → va_D A [(a0, .inr (2, [.int v10na0_0, .int j66a0_1, .int j66a0_2, .ref a0_3, .ref a0_4, .int v10na0_5, .int 1])), (a1, .inr (0, [.int a1_0, .int a1_1, a1g_2, a1g_3, a1g_4, a1g_5, a1g_6, a1g_7, a1g_8, .int a1_9, a1g_10, a1g_11, .ref a1_12, .ref a1_13, a1g_14])), (a0_3, .inl (ka0_3, 729, .inl (v10nfa0_3))), (a1_13, .inl (ka1_13, 6, .inl (fa1_13))), (a1_12, .inl (ka1_12, 6, .inl (fa1_12))), (a0_4, .inl (ka0_4, 900, .inl (v61nfa0_4)))] → va_S A s.heap H locs → lv_has ls 5 [(0, .ref a0), (1, .ref a1), (2, .int x53), (3, .int j66l3), (4, .int r73)] → K H locs (F0 m 96 ls []) := by
                intro  H locs ls   hP hD hS hl
                refine (hK0 _ _ _).mpr ?_
                refine lv_aload_n hx hb dX2_chooseLook_96 rfl (lv_at hl 0 rfl) ?_
                refine lv_iload hx hb dX2_chooseLook_97 (lv_at hl 4 rfl) ?_
                refine va_put (D := (dC, dI)) (ci := 2) (v := .int r73) (ty := .int) (C := RX2) (T := TX2) (N := 7) hx hb hts zi_X2_chooseLook_2 tyX2 tyX2_ok nmX2 hown hK hP hD hS 0 rfl rfl 2 (by decide) (hts (.fieldLink RX2 58 "WaxTurns$Laws" "lookMost" "I") (zm_X2_chooseLook_r1 (List.mem_of_getElem? (i := 2) rfl))) (fun _ h9 => h9) rfl (tyX2_ok 2 (by decide)) rfl rfl (Nat.le_of_ble_eq_true rfl) dX2_chooseLook_99 (fun H locs hP hD hS => ?_)
                refine zs_0 (y := (a0, .inr (2, [.int v10na0_0, .int j66a0_1, .int r73, .ref a0_3, .ref a0_4, .int v10na0_5, .int 1]))) hP hD rfl (fun hP hD => ?_)
                refine lv_aload_n hx hb dX2_chooseLook_102 rfl (lv_at hl 0 rfl) ?_
                refine lv_iload_n hx hb dX2_chooseLook_103 rfl (lv_at hl 3 rfl) ?_
                refine lv_aload_n hx hb dX2_chooseLook_104 rfl (lv_at hl 1 rfl) ?_
                refine va_get (D := (dC, dI)) (ci := 0) (v := .int a1_1) (C := RX0) (T := TX0) (N := 15) hx hb hts zi_X2_chooseLook_0 hown hK hP 1 rfl rfl 1 (by decide) (hts (.fieldLink RX2 61 "WaxTurns$Hall" "span" "I") (zm_X2_chooseLook_r1 (List.mem_of_getElem? (i := 4) rfl))) (fun _ h9 => h9) rfl dX2_chooseLook_105 ?_
                refine lv_imul hx hb dX2_chooseLook_108 ?_
                refine lv_topi (fun x108 ex108 => ?_)
                refine va_put (D := (dC, dI)) (ci := 2) (v := .int x108) (ty := .int) (C := RX2) (T := TX2) (N := 7) hx hb hts zi_X2_chooseLook_2 tyX2 tyX2_ok nmX2 hown hK hP hD hS 0 rfl rfl 1 (by decide) (hts (.fieldLink RX2 55 "WaxTurns$Laws" "lookMinute" "I") (zm_X2_chooseLook_r1 (List.mem_of_getElem? (i := 1) rfl))) (fun _ h9 => h9) rfl (tyX2_ok 1 (by decide)) rfl rfl (Nat.le_of_ble_eq_true rfl) dX2_chooseLook_109 (fun H locs hP hD hS => ?_)
                refine zs_0 (y := (a0, .inr (2, [.int v10na0_0, .int x108, .int r73, .ref a0_3, .ref a0_4, .int v10na0_5, .int 1]))) hP hD rfl (fun hP hD => ?_)
                exact (hK0 _ _ _).mp (J112 x108 r73 _ _ _   hP hD hS (lv_sub hl [0, 1, 2, 3] rfl))
              refine lv_icmp_eq (tgt := 96) hx hb dX2_chooseLook_84 (by decide) (fun c84 => ?_) (fun c84 => ?_)
              · have gc84 := ai_eq c84
                have u84t_j66a0_2 : j66a0_2.toInt ≤ (-2 : Int) := Int.le_trans (Int.le_of_eq gc84) zq44
                have l84t_j66a0_2 : (-2 : Int) ≤ j66a0_2.toInt := Int.le_trans zq45 (Int.le_of_eq gc84.symm)
                exact (hK0 _ _ _).mp (J96  _ _ _   hP hD hS (lv_sub hl [1, 2, 3, 4, 0] rfl))
              · have gc84 := ai_ne c84
                refine lv_iload hx hb dX2_chooseLook_87 (lv_at hl 0 rfl) ?_
                refine lv_aload_n hx hb dX2_chooseLook_89 rfl (lv_at hl 1 rfl) ?_
                refine va_get (D := (dC, dI)) (ci := 2) (v := .int j66a0_2) (C := RX2) (T := TX2) (N := 7) hx hb hts zi_X2_chooseLook_2 hown hK hP 0 rfl rfl 2 (by decide) (hts (.fieldLink RX2 58 "WaxTurns$Laws" "lookMost" "I") (zm_X2_chooseLook_r1 (List.mem_of_getElem? (i := 2) rfl))) (fun _ h9 => h9) rfl dX2_chooseLook_90 ?_
                refine lv_icmp_ge (tgt := 112) hx hb dX2_chooseLook_93 (by decide) (fun c93 => ?_) (fun c93 => ?_)
                · have gc93 := ai_le c93
                  exact (hK0 _ _ _).mp (J112 j66a0_1 j66a0_2 _ _ _   hP hD hS (lv_sub hl [1, 2, 3, 4] rfl))
                · have gc93 := ai_nle c93
                  have u93f_r73 : r73.toInt ≤ (2147483646 : Int) := ai_lthi gc93 (ai_max j66a0_2)
                  have l93f_j66a0_2 : (-2147483647 : Int) ≤ j66a0_2.toInt := ai_ltlo gc93 (ai_min r73)
                  exact (hK0 _ _ _).mp (J96  _ _ _   hP hD hS (lv_sub hl [1, 2, 3, 4, 0] rfl))
        exact (hK0 _ _ _).mp (J66 101 0 (-2) (-2) _ _ _ (by first | decide +kernel | (have h1 : (0 : Int) ≤ (0 : Int32).toInt := zq5; have h2 : (0 : Int32).toInt ≤ (0 : Int) := zq6; omega)) zq5 (Int.le_trans zq6 zq38) hP hD hS (lv_sub hl [2, 3, 1, 0] rfl))
      · have gc41 := ai_nlt c41
        have u41f_a1_1 : a1_1.toInt ≤ (0 : Int) := Int.le_trans gc41 zq6
        exact W.vret hx hb hr (fun t ht hW => ⟨⟨(), rfl, trivial, v10na0_0, (-2), (-2), v10na0_5, 1, v10nfa0_3, fa0_4, ⟨Int.le_trans (by decide) l34f_v10na0_0, bv10na0_0.2⟩, ⟨bv10na0_5.1, bv10na0_5.2⟩, ⟨Int.le_trans (by decide) zq1, zq0⟩, bv10nfa0_3, by rw [ht]; exact hP, va_K.moved hW.alike hK, hD⟩, hS.F ht⟩) hS.2.2 dX2_chooseLook_44
  · have gc4 := ai_ne c4
    have l4f_a0_6 : (1 : Int) ≤ a0_6.toInt := (by first | exact zg_l ba0_6_l gc4 (by decide) (by decide) | (have h1 := ba0_6_l; have h2 : (0 : Int32).toInt = 0 := (by decide); rw [h2] at gc4; omega))
    exact W.vret hx hb hr (fun t ht hW => ⟨⟨(), rfl, trivial, a0_0, a0_1, a0_2, a0_5, a0_6, fa0_3, fa0_4, ⟨ba0_0_l, ba0_0_u⟩, ⟨ba0_5_l, ba0_5_u⟩, ⟨Int.le_trans (by decide) l4f_a0_6, ba0_6_u⟩, bfa0_3, by rw [ht]; exact hP, va_K.moved hW.alike hK, hD⟩, hS.F ht⟩) hS.2.2 dX2_chooseLook_7
end P103_safe
