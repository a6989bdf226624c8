section P0922470_pure70
section PUH0
def rp_pc (n : Nat) : Nat := (n >>> 0) % 2 + (n >>> 1) % 2 + (n >>> 2) % 2 + (n >>> 3) % 2 + (n >>> 4) % 2 + (n >>> 5) % 2 + (n >>> 6) % 2 + (n >>> 7) % 2 + (n >>> 8) % 2
set_option maxRecDepth 20000 in
theorem rp_z1 : ∀ n : Fin 512, ∀ g : Fin 9, Ff_X7_hasBit (n.val : Int) (g.val : Int) = if (n.val >>> g.val) % 2 = 1 then 1 else 0 := by decide +kernel
set_option maxRecDepth 20000 in
theorem rp_z2 : ∀ tb : Fin 512, ∀ f : Fin 9, fl_or (tb.val : Int) (fl_shl 1 (f.val : Int)) = ((tb.val ||| (1 <<< f.val) : Nat) : Int) := by decide +kernel
set_option maxRecDepth 20000 in
theorem rp_z3 : ∀ tb : Fin 512, ∀ f : Fin 9, (tb.val ||| (1 <<< f.val)) < 512 ∧ ((tb.val >>> f.val) % 2 = 1 ∨ rp_pc (tb.val ||| (1 <<< f.val)) = rp_pc tb.val + 1) ∧ ∀ g : Fin 9, (((tb.val ||| (1 <<< f.val)) >>> g.val) % 2 = 1 ↔ ((tb.val >>> g.val) % 2 = 1 ∨ g.val = f.val)) := by decide +kernel
set_option maxRecDepth 20000 in
theorem rp_z4 : ∀ n : Fin 512, Ff_J6_bitCount_0f7a4 (n.val : Int) = ((rp_pc n.val : Nat) : Int) := by decide +kernel
theorem rp_zi {p : Prop} [Decidable p] : ((if p then (1 : Int) else 0) = 1) ↔ p := by
  by_cases h : p
  · rw [if_pos h]; exact ⟨fun _ => h, fun _ => rfl⟩
  · rw [if_neg h]; exact ⟨fun q => absurd q (by decide), fun q => absurd q h⟩
theorem rp_bits : ∀ tb : Fin 512, ∀ f : Fin 9, (0 ≤ fl_or (tb.val : Int) (fl_shl 1 (f.val : Int)) ∧ fl_or (tb.val : Int) (fl_shl 1 (f.val : Int)) ≤ 511) ∧ (Ff_X7_hasBit (tb.val : Int) (f.val : Int) = 1 ∨ Ff_J6_bitCount_0f7a4 (fl_or (tb.val : Int) (fl_shl 1 (f.val : Int))) = Ff_J6_bitCount_0f7a4 (tb.val : Int) + 1) ∧ ∀ g : Fin 9, (Ff_X7_hasBit (fl_or (tb.val : Int) (fl_shl 1 (f.val : Int))) (g.val : Int) = 1 ↔ (Ff_X7_hasBit (tb.val : Int) (g.val : Int) = 1 ∨ g.val = f.val)) := by
  intro tb f
  obtain ⟨h1, h2, h3⟩ := rp_z3 tb f
  have e1 := rp_z1 ⟨tb.val ||| (1 <<< f.val), h1⟩
  have e4 := rp_z4 ⟨tb.val ||| (1 <<< f.val), h1⟩
  have h5 : ∀ q : Nat, q < 512 → (0 : Int) ≤ (q : Int) ∧ (q : Int) ≤ 511 := fun q h => by omega
  rw [rp_z2 tb f]
  refine ⟨h5 _ h1, ?_, fun g => ?_⟩
  · rw [rp_z1 tb f, rp_zi]
    rcases h2 with h2 | h2
    · exact Or.inl h2
    · right
      have e5 : Ff_J6_bitCount_0f7a4 ((tb.val ||| (1 <<< f.val) : Nat) : Int) = ((rp_pc (tb.val ||| (1 <<< f.val)) : Nat) : Int) := e4
      rw [e5, rp_z4 tb, h2]
      rfl
  · have e5 : Ff_X7_hasBit ((tb.val ||| (1 <<< f.val) : Nat) : Int) (g.val : Int) = if ((tb.val ||| (1 <<< f.val)) >>> g.val) % 2 = 1 then 1 else 0 := e1 g
    rw [e5, rp_z1 tb g, rp_zi, rp_zi]
    exact h3 g
end PUH0
end P0922470_pure70
section P092248_pure8
section PUH

/-- figure: readFigure and figureLine -/
theorem rp_fig {tp tm : Nat → Int} {e be wd wh : Int} (hT : rp_T tp tm e) (he : e ≤ 900) {st1 be1 tk1 wd1 wh1 at1 en1 tk3 wm1 ns1 : Int} {lt1 : Nat → Int} (a1 : Ff_X3_advance e be wd wh tp = (st1, be1, tk1, wd1, wh1)) (a3 : rp_K e st1 be1 tk1 wd1 wh1 at1 en1 tk3 wm1 ns1 lt1)
    {fg sp sa sh lw ti pu fi tb sc wc c : Int} {kd me sf sm wf wt nm fr : Nat → Int} (hD : rp_D fg sp sa sh lw ti pu fi tb sc wc c kd me sf sm wf wt nm fr) (hw : fr 4 < 9) (hT11 : ¬ fr 11 = 0) (fn fp ta fa pl : Int) :
    (∃ c' ta' tb' kd' me' nm' fr' st2 be2 tk4 wd2 wh2 at2 en2 tk5 wm2 ns2 lt2, Ff_X3_readFigure fn fp c e be wd wh ta tp nm fg tb kd me = (1, fn, fp, c', st2, be2, tk4, wd2, wh2, ta', nm', tb', kd', me') ∧ FfG_X8_figureLine e at1 en1 tk3 wm1 ns1 fa pl fr lt1 tm = (at2, en2, tk5, wm2, ns2, fa, pl, 0, fr', lt2) ∧ rp_K e st2 be2 tk4 wd2 wh2 at2 en2 tk5 wm2 ns2 lt2 ∧ st1 < st2 ∧ rp_D fg sp sa sh lw ti pu fi tb' sc wc c' kd' me' sf sm wf wt nm' fr') ∨
    (∃ q p, rp_fc (Ff_X3_readFigure fn fp c e be wd wh ta tp nm fg tb kd me) q p ∧ rp_fm (FfG_X8_figureLine e at1 en1 tk3 wm1 ns1 fa pl fr lt1 tm) q p) := by
  obtain ⟨hh, ⟨f1, f2, f3, f4, f5, f6⟩, hw', hs, n1, n2, n3⟩ := hD
  have hw2 := hw'
  obtain ⟨w1, w2, w3, -⟩ := hw2
  have hfg : fg = fr 0 := hh.1.1
  have hfg9 : 2 ≤ fg ∧ fg ≤ 9 := by
    have h1 := hh.1.2.1
    have h2 := hh.1.2.2.2 (by omega)
    omega
  have ea : fr 4 = (((fr 4).toNat : Nat) : Int) := by omega
  have hslot : fr (48 + (fr 4).toNat) = 0 := by
    have h1 := (n2.1 (fr 4).toNat (by omega)).1
    by_cases h0 : 0 < fr (48 + (fr 4).toNat)
    · have := n3 _ (by omega) h0; omega
    · omega
  rcases rp_nn hT he a3 n2 (a := (fr 4).toNat) (by omega) hslot (by omega) (by omega) fn fp fa pl with ⟨nm1, st2, be2, tk4, wd2, wh2, at2, en2, tk5, wm2, ns2, lt2, fr1, z, b1, b2, b3, b4, b5, b6, b7, b8, b9⟩ | ⟨q, st2, be2, tk4, wd2, wh2, nm1, c1, at2, en2, tk5, wm2, ns2, lt2, fr1, b1, b2⟩
  rotate_left
  · rw [← ea] at b2
    refine Or.inr ⟨q, st1, ?_, ?_⟩
    · simp only [Ff_X3_readFigure, a1, b1, fl_lt, fl_c2, fl_c3, fl_c4, fl_c5, fl_c6, fl_c7, fl_c8, fl_c9, fl_c10, reduceIte, Int.reduceEq]; exact ⟨rfl, rfl, rfl⟩
    · simp only [FfG_X8_figureLine, b2, fl_lt, fl_c2, fl_c3, fl_c4, fl_c5, fl_c6, fl_c7, fl_c8, fl_c9, fl_c10, reduceIte, Int.reduceEq]; exact ⟨rfl, rfl, rfl⟩
  rw [← ea] at b2
  have la : Ff_X8_last fr1 = fg - 1 := by rw [hfg, ← b7 0 (by omega)]; rfl
  rcases rp_tkw hT he b3 (nn := 2) (by decide) (by decide) rp_sw_is fn fp fa pl with ⟨st3, be3, tk6, wd3, wh3, at3, en3, tk7, wm3, ns3, lt3, c1, c2, c3, c4, c5⟩ | ⟨c1, c2⟩
  rotate_left
  · refine Or.inr ⟨1, st2, ?_, ?_⟩
    · simp only [Ff_X3_readFigure, a1, b1, c1, fl_lt, fl_c2, fl_c3, fl_c4, fl_c5, fl_c6, fl_c7, fl_c8, fl_c9, fl_c10, reduceIte, Int.reduceEq]; exact ⟨rfl, rfl, rfl⟩
    · simp only [FfG_X8_figureLine, b2, c2, fl_lt, fl_c2, fl_c3, fl_c4, fl_c5, fl_c6, fl_c7, fl_c8, fl_c9, fl_c10, reduceIte, Int.reduceEq]; exact ⟨rfl, rfl, rfl⟩
  rcases rp_iww c3 0 (fg - 1) fn fp fa pl with ⟨d1, d2, -, d4, d5, d6, d7, d8, d9, d10⟩ | ⟨q, d1, d2⟩
  rotate_left
  · refine Or.inr ⟨q, st3, ?_, ?_⟩
    · simp only [Ff_X3_readFigure, a1, b1, c1, d1, fl_lt, fl_c2, fl_c3, fl_c4, fl_c5, fl_c6, fl_c7, fl_c8, fl_c9, fl_c10, reduceIte, Int.reduceEq]; exact ⟨rfl, rfl, rfl⟩
    · simp only [FfG_X8_figureLine, b2, c2, la, d2, fl_lt, fl_c2, fl_c3, fl_c4, fl_c5, fl_c6, fl_c7, fl_c8, fl_c9, fl_c10, reduceIte, Int.reduceEq]; exact ⟨rfl, rfl, rfl⟩
  have hwh : wh3 = ((wh3.toNat : Nat) : Int) := by omega
  have ix : (12 + 2 * wh3).toNat = 12 + 2 * wh3.toNat := by omega
  have ix2 : (12 + 2 * wh3 + 1).toNat = 13 + 2 * wh3.toNat := by omega
  obtain ⟨g1, g2, g3, g4⟩ := f3 wh3.toNat (by omega)
  rw [← hwh] at g4
  have hst3 : st3 = at3 := c3.1
  by_cases htold : 0 < fr (12 + 2 * wh3.toNat)
  · have hb : Ff_X7_hasBit tb wh3 = 1 := g4.mpr htold
    have hn : ¬ fr1 (12 + 2 * wh3.toNat) ≤ 0 := by rw [b7 _ (by omega)]; omega
    refine Or.inr ⟨3, st3, ?_, ?_⟩
    · simp only [Ff_X3_readFigure, a1, b1, c1, d1, hb, Ff_X3_fails, fl_lt, fl_c2, fl_c3, fl_c4, fl_c5, fl_c6, fl_c7, fl_c8, fl_c9, fl_c10, reduceIte, Int.reduceEq]; exact ⟨rfl, rfl, rfl⟩
    · simp only [FfG_X8_figureLine, b2, c2, la, d2, ix, if_neg hn, FfG_X8_wrong, fl_lt, fl_c2, fl_c3, fl_c4, fl_c5, fl_c6, fl_c7, fl_c8, fl_c9, fl_c10, reduceIte, Int.reduceEq]; exact ⟨rfl, hst3.symm, rfl⟩
  have hb : ¬ Ff_X7_hasBit tb wh3 = 1 := fun h => htold (g4.mp h)
  have hp : fr1 (12 + 2 * wh3.toNat) ≤ 0 := by rw [b7 _ (by omega)]; omega
  have hbe3 := d7
  obtain ⟨st4, be4, tk8, wd4, wh4, at4, en4, tk9, wm4, ns4, lt4, k1, k2, k3, k4⟩ := rp_adv hT he be3 wd3 wh3 lt3 c3.2.2.2.1 c3.2.2.2.2.1
  rw [d7] at k2
  have hst4 : st4 = at4 := k3.1
  have hb40 : 0 ≤ be4 := k3.2.2.2.1
  have hb41 : be4 ≤ e := k3.2.2.2.2.1
  have kq : FfG_X8_pass e en3 tm lt3 = (at4, en4, tk9, wm4, ns4, lt4) := by simp only [FfG_X8_pass, k2, fl_c6]
  -- what is left, for either kind
  have fin : ∀ (kind : Int) (nn : Int) (csi csj : Nat) (hk : kind = 1 ∨ kind = 2) (hn0 : 0 ≤ nn) (hn8 : nn ≤ 8) (hd : ∀ k : Nat, k < 8 → (k : Int) < nn → 97 ≤ (fl_A (sxc csi)) k ∧ (fl_A (sxc csi)) k ≤ 122 ∧ (fl_A (sxc csj)) k = (fl_A (sxc csi)) k)
      (hc : Ff_X3_isWord tk8 wd4 nn (fl_A (sxc csi)) = 1) (hbe4 : be4 = en4) (hlt4 : st4 < be4)
      (uc : Ff_X3_readFigure fn fp c e be wd wh ta tp nm fg tb kd me = fl_c9 (Ff_X3_takeWhole 1 20 fn fp e st4 be4 tk8 wd4 wh4 ta tp nn (fl_A (sxc csi))) (fun r99 v1 v2 v8 v9 v10 v11 v12 v13 => if r99 = 1 then (fl_c3 (Ff_X0_addFigure wh3 kind v13 tb kd me) (fun y8 y10 y11 => (1, v1, v2, c + 1, v8, v9, v10, v11, v12, v13, nm1, y8, y10, y11))) else (0, v1, v2, c + 1, v8, v9, v10, v11, v12, v13, nm1, tb, kd, me)))
      (um : FfG_X8_figureLine e at1 en1 tk3 wm1 ns1 fa pl fr lt1 tm = fl_c6 (FfG_X8_pass e en4 tm lt4) (fun x4 x5 x6 x7 x8 x12 => fl_c10 (FfG_X8_number 1 20 e x4 x5 x6 x7 x8 fa pl tm x12) (fun r117 y4 y5 y6 y7 y8 y9 y10 y13 y12 => if y13 = 1 then (y4, y5, y6, y7, y8, y9, y10, 1, fr1, y12) else (y4, y5, y6, y7, y8, y9, y10, 0, fl_up (fl_up (fl_up fr1 (12 + 2 * wh3.toNat) kind) (13 + 2 * wh3.toNat) r117) 4 ((fl_up (fl_up fr1 (12 + 2 * wh3.toNat) kind) (13 + 2 * wh3.toNat) r117) 4 + 1), y12)))),
      (∃ c' ta' tb' kd' me' nm' fr' st2 be2 tk4 wd2 wh2 at2 en2 tk5 wm2 ns2 lt2, Ff_X3_readFigure fn fp c e be wd wh ta tp nm fg tb kd me = (1, fn, fp, c', st2, be2, tk4, wd2, wh2, ta', nm', tb', kd', me') ∧ FfG_X8_figureLine e at1 en1 tk3 wm1 ns1 fa pl fr lt1 tm = (at2, en2, tk5, wm2, ns2, fa, pl, 0, fr', lt2) ∧ rp_K e st2 be2 tk4 wd2 wh2 at2 en2 tk5 wm2 ns2 lt2 ∧ st1 < st2 ∧ rp_D fg sp sa sh lw ti pu fi tb' sc wc c' kd' me' sf sm wf wt nm' fr') ∨
      (∃ q p, rp_fc (Ff_X3_readFigure fn fp c e be wd wh ta tp nm fg tb kd me) q p ∧ rp_fm (FfG_X8_figureLine e at1 en1 tk3 wm1 ns1 fa pl fr lt1 tm) q p) := by
    intro kind nn csi csj hk hn0 hn8 hd hc hbe4 hlt4 uc um
    obtain ⟨st5, be5, tk10, wd5, wh5, at5, en5, tk11, wm5, ns5, lt5, m1, m2, m3, m4⟩ := rp_adv hT he be4 wd4 wh4 lt4 hb40 hb41
    rw [hbe4] at m2
    have mq : FfG_X8_pass e en4 tm lt4 = (at5, en5, tk11, wm5, ns5, lt5) := by simp only [FfG_X8_pass, m2, fl_c6]
    rcases rp_num hT he m3 1 20 fn fp fa pl with ⟨st6, be6, tk12, wd6, wh6, at6, en6, tk13, wm6, ns6, lt6, p1, p2, p3, p4, p5, p6, p7, p8, p9, p10⟩ | ⟨q, p1, p2⟩
    · have et : Ff_X3_takeWhole 1 20 fn fp e st4 be4 tk8 wd4 wh4 ta tp nn (fl_A (sxc csi)) = (1, fn, fp, st6, be6, tk12, wd6, wh6, wh5) := by
        simp only [Ff_X3_takeWhole, hc, m1, p1, p2, fl_lt, fl_c2, fl_c3, fl_c4, fl_c5, fl_c6, fl_c7, fl_c8, fl_c9, fl_c10, reduceIte, Int.reduceEq]
      have eadd : Ff_X0_addFigure wh3 kind wh5 tb kd me = (fl_or tb (fl_shl 1 wh3), fl_up kd wh3.toNat kind, fl_up me wh3.toNat wh5) := by
        unfold Ff_X0_addFigure; rw [if_neg (by omega), if_neg (by omega)]; rfl
      have x4 : (fl_up (fl_up fr1 (12 + 2 * wh3.toNat) kind) (13 + 2 * wh3.toNat) wh5) 4 = fr 4 := by
        rw [rp_up_ne _ _ (by omega), rp_up_ne _ _ (by omega), b7 4 (by omega)]
      refine Or.inl ⟨c + 1, wh5, fl_or tb (fl_shl 1 wh3), fl_up kd wh3.toNat kind, fl_up me wh3.toNat wh5, nm1, fl_up (fl_up (fl_up fr1 (12 + 2 * wh3.toNat) kind) (13 + 2 * wh3.toNat) wh5) 4 (fr 4 + 1), st6, be6, tk12, wd6, wh6, at6, en6, tk13, wm6, ns6, lt6, ?_, ?_, p4, by omega, ?_⟩
      · rw [uc]; simp only [et, eadd, fl_lt, fl_c2, fl_c3, fl_c4, fl_c5, fl_c6, fl_c7, fl_c8, fl_c9, fl_c10, reduceIte, Int.reduceEq]
      · rw [um]; simp only [mq, p3, x4, fl_lt, fl_c2, fl_c3, fl_c4, fl_c5, fl_c6, fl_c7, fl_c8, fl_c9, fl_c10, reduceIte, Int.reduceEq]
      · have g : ∀ i : Nat, i ≠ 4 → i ≠ 12 + 2 * wh3.toNat → i ≠ 13 + 2 * wh3.toNat → (fl_up (fl_up (fl_up fr1 (12 + 2 * wh3.toNat) kind) (13 + 2 * wh3.toNat) wh5) 4 (fr 4 + 1)) i = fr1 i := fun i i1 i2 i3 => by
          rw [rp_up_ne _ _ i1, rp_up_ne _ _ i3, rp_up_ne _ _ i2]
        have g0 : ∀ i : Nat, i < 48 → i ≠ 4 → i ≠ 12 + 2 * wh3.toNat → i ≠ 13 + 2 * wh3.toNat → (fl_up (fl_up (fl_up fr1 (12 + 2 * wh3.toNat) kind) (13 + 2 * wh3.toNat) wh5) 4 (fr 4 + 1)) i = fr i := fun i i0 i1 i2 i3 => by rw [g i i1 i2 i3, b7 i i0]
        have hbits := rp_bits ⟨tb.toNat, by omega⟩ ⟨wh3.toNat, by omega⟩
        simp only [Int.toNat_of_nonneg f1, Int.toNat_of_nonneg d9] at hbits
        obtain ⟨⟨t1, t2⟩, t3, t4⟩ := hbits
        refine ⟨?_, ⟨t1, t2, ?_, ?_, ?_, ?_⟩, rp_Dw_cg hw' (fun i hi => g0 i (by omega) (by omega) (by omega) (by omega)), rp_Ds_cg hs (fun i hi => g0 i (by omega) (by omega) (by omega) (by omega)), ?_, ?_, ?_⟩
        · obtain ⟨⟨k1, k2, k3, k4⟩, k5, k6, k7⟩ := hh
          unfold rp_Dh
          rw [g0 0 (by omega) (by omega) (by omega) (by omega), g0 1 (by omega) (by omega) (by omega) (by omega), g0 2 (by omega) (by omega) (by omega) (by omega), g0 3 (by omega) (by omega) (by omega) (by omega), g0 5 (by omega) (by omega) (by omega) (by omega), g0 6 (by omega) (by omega) (by omega) (by omega), g0 7 (by omega) (by omega) (by omega) (by omega), g0 8 (by omega) (by omega) (by omega) (by omega), g0 9 (by omega) (by omega) (by omega) (by omega), g0 10 (by omega) (by omega) (by omega) (by omega), g0 11 (by omega) (by omega) (by omega) (by omega), rp_up_eq]
          exact ⟨⟨k1, k2, fun h => absurd h hT11, k4⟩, k5, k6, k7⟩
        · intro f hf
          have hq := t4 ⟨f, hf⟩
          simp only at hq
          by_cases q : f = wh3.toNat
          · subst q
            rw [rp_up_eq, rp_up_eq, rp_up_ne _ _ (by omega), rp_up_ne _ _ (by omega), rp_up_eq, rp_up_ne _ _ (by omega), rp_up_eq]
            refine ⟨rfl, rfl, by omega, ?_⟩
            rw [hq]
            exact ⟨fun _ => by omega, fun _ => Or.inr rfl⟩
          · rw [rp_up_ne _ _ q, rp_up_ne _ _ q, g0 _ (by omega) (by omega) (by omega) (by omega), g0 _ (by omega) (by omega) (by omega) (by omega)]
            obtain ⟨o1, o2, o3, o4⟩ := f3 f hf
            refine ⟨o1, o2, o3, ?_⟩
            rw [hq, ← o4]
            exact ⟨fun h => h.elim id (fun h => absurd h q), Or.inl⟩
        · rw [rp_up_eq]
          rcases t3 with t3 | t3
          · exact absurd t3 hb
          · rw [t3, f4]
        · rw [rp_up_eq]; omega
        · rw [rp_up_eq]; omega
        · rw [g0 5 (by omega) (by omega) (by omega) (by omega), rp_up_eq]; omega
        · exact rp_N_cg b6 (fun i hi => g i (by omega) (by omega) (by omega))
        · intro s hs2 h0
          rw [g (48 + s) (by omega) (by omega) (by omega), b8 s hs2] at h0
          rw [g0 5 (by omega) (by omega) (by omega) (by omega), rp_up_eq]
          by_cases q : s = (fr 4).toNat
          · left; omega
          · rw [if_neg q] at h0
            have := n3 s hs2 h0; omega
    · have et : Ff_X3_takeWhole 1 20 fn fp e st4 be4 tk8 wd4 wh4 ta tp nn (fl_A (sxc csi)) = (0, q, st5, st5, be5, tk10, wd5, wh5, ta) := by
        simp only [Ff_X3_takeWhole, hc, m1, p1, fl_lt, fl_c2, fl_c3, fl_c4, fl_c5, fl_c6, fl_c7, fl_c8, fl_c9, fl_c10, reduceIte, Int.reduceEq]
      refine Or.inr ⟨q, st5, ?_, ?_⟩
      · rw [uc]; simp only [et, fl_lt, fl_c2, fl_c3, fl_c4, fl_c5, fl_c6, fl_c7, fl_c8, fl_c9, fl_c10, reduceIte, Int.reduceEq]; exact ⟨rfl, rfl, rfl⟩
      · rw [um]; simp only [mq, p2, fl_lt, fl_c2, fl_c3, fl_c4, fl_c5, fl_c6, fl_c7, fl_c8, fl_c9, fl_c10, reduceIte, Int.reduceEq]; exact ⟨rfl, rfl, rfl⟩
  rcases rp_isw k3 (nn := 5) (by decide) (by decide) rp_sw_walks with ⟨o1, o2⟩ | ⟨o1, o2, -, -, o5, o6⟩
  · rcases rp_isw k3 (nn := 6) (by decide) (by decide) rp_sw_speaks with ⟨u1, u2⟩ | ⟨u1, u2, -, -, u5, u6⟩
    · have et : Ff_X3_takeWhole 1 20 fn fp e st4 be4 tk8 wd4 wh4 ta tp 6 (fl_A (sxc 14)) = (0, 1, st4, st4, be4, tk8, wd4, wh4, ta) := by
        simp only [Ff_X3_takeWhole, u1, fl_lt, fl_c2, fl_c3, fl_c4, fl_c5, fl_c6, fl_c7, fl_c8, fl_c9, fl_c10, reduceIte, Int.reduceEq]; rfl
      refine Or.inr ⟨1, st4, ?_, ?_⟩
      · simp only [Ff_X3_readFigure, a1, b1, c1, d1, if_neg hb, k1, o1, et, fl_lt, fl_c2, fl_c3, fl_c4, fl_c5, fl_c6, fl_c7, fl_c8, fl_c9, fl_c10, reduceIte, Int.reduceEq]; exact ⟨rfl, rfl, rfl⟩
      · simp only [FfG_X8_figureLine, b2, c2, la, d2, ix, if_pos hp, kq, o2, u2, FfG_X8_wrong, fl_lt, fl_c2, fl_c3, fl_c4, fl_c5, fl_c6, fl_c7, fl_c8, fl_c9, fl_c10, reduceIte, Int.reduceEq]; exact ⟨rfl, hst4.symm, rfl⟩
    · refine fin 2 6 14 32 (Or.inr rfl) (by decide) (by decide) rp_sw_speaks u1 u5 u6 ?_ ?_
      · simp only [Ff_X3_readFigure, a1, b1, c1, d1, if_neg hb, k1, o1, fl_lt, fl_c2, fl_c3, fl_c4, fl_c5, fl_c6, fl_c7, fl_c8, fl_c9, fl_c10, reduceIte, Int.reduceEq]
      · simp only [FfG_X8_figureLine, b2, c2, la, d2, ix, ix2, if_pos hp, kq, o2, u2, fl_lt, fl_c2, fl_c3, fl_c4, fl_c5, fl_c6, fl_c7, fl_c8, fl_c9, fl_c10, reduceIte, Int.reduceEq]
  · refine fin 1 5 13 31 (Or.inl rfl) (by decide) (by decide) rp_sw_walks o1 o5 o6 ?_ ?_
    · simp only [Ff_X3_readFigure, a1, b1, c1, d1, if_neg hb, k1, o1, fl_lt, fl_c2, fl_c3, fl_c4, fl_c5, fl_c6, fl_c7, fl_c8, fl_c9, fl_c10, reduceIte, Int.reduceEq]
    · simp only [FfG_X8_figureLine, b2, c2, la, d2, ix, ix2, if_pos hp, kq, o2, fl_lt, fl_c2, fl_c3, fl_c4, fl_c5, fl_c6, fl_c7, fl_c8, fl_c9, fl_c10, reduceIte, Int.reduceEq]
end PUH
end P092248_pure8
section P092249_pure9
section PUI

theorem rp_sec {mi sc : Int} {sm : Nat → Int} (h0 : 0 ≤ sc) (h6 : sc ≤ 6) : ((∃ i : Nat, (i : Int) < sc ∧ sm i = mi) ∧ Ff_X0_isSeenMinute mi sc sm = 1) ∨ ((∀ i : Nat, (i : Int) < sc → sm i ≠ mi) ∧ Ff_X0_isSeenMinute mi sc sm = 0) := by
  have main : ∀ (m : Nat) (j : Int), sc + 1 - j ≤ (m : Int) → 0 ≤ j → j ≤ sc → (∀ i : Nat, (i : Int) < j → sm i ≠ mi) → ((∃ i : Nat, (i : Int) < sc ∧ sm i = mi) ∧ fl_wh (Sf_X0_isSeenMinute_2_1 mi sc sm) 0 m j = 1) ∨ ((∀ i : Nat, (i : Int) < sc → sm i ≠ mi) ∧ fl_wh (Sf_X0_isSeenMinute_2_1 mi sc sm) 0 m j = 0) := by
    intro m
    induction m with
    | zero => intro j h1 h2 h3; omega
    | succ m ih =>
      intro j h1 h2 h3 h4
      by_cases hj : sc ≤ j
      · have hs : Sf_X0_isSeenMinute_2_1 mi sc sm j = .inr 0 := by unfold Sf_X0_isSeenMinute_2_1; rw [if_pos hj]
        rw [fl_wh_r hs]
        exact Or.inr ⟨fun i hi => h4 i (by omega), rfl⟩
      · by_cases q : sm j.toNat = mi
        · have hs : Sf_X0_isSeenMinute_2_1 mi sc sm j = .inr 1 := by simp only [Sf_X0_isSeenMinute_2_1, fl_lt]; rw [if_neg hj, if_pos q]
          rw [fl_wh_r hs]
          exact Or.inl ⟨⟨j.toNat, by omega, q⟩, rfl⟩
        · have hs : Sf_X0_isSeenMinute_2_1 mi sc sm j = .inl (j + 1) := by simp only [Sf_X0_isSeenMinute_2_1, fl_lt]; rw [if_neg hj, if_neg q]
          rw [fl_wh_l hs]
          refine ih (j + 1) (by omega) (by omega) (by omega) (fun i hi => ?_)
          by_cases hi2 : i = j.toNat
          · rw [hi2]; exact q
          · exact h4 i (by omega)
  exact main 7 0 (by omega) (by omega) h0 (fun i hi => by omega)
theorem rp_s2 : SfG_X8_seenLine_49_2 = SfG_X8_seenLine_49_1 := rfl
theorem rp_s3 : SfG_X8_seenLine_49_3 = SfG_X8_seenLine_49_1 := rfl
theorem rp_s4 : SfG_X8_seenLine_49_4 = SfG_X8_seenLine_49_1 := rfl
theorem rp_sm1 {e x r27 mi at_ en tk wm ns fa pl : Int} {fr tm lt : Nat → Int} : ∀ (m : Nat) (k : Int), fr 6 + 1 - k ≤ (m : Int) → k ≤ fr 6 →
    fl_wh (fun t9 => SfG_X8_seenLine_49_1 e fr tm x r27 t9.1 t9.2.1 t9.2.2.1 t9.2.2.2.1 t9.2.2.2.2.1 t9.2.2.2.2.2.1 t9.2.2.2.2.2.2.1 t9.2.2.2.2.2.2.2.1 t9.2.2.2.2.2.2.2.2.1 t9.2.2.2.2.2.2.2.2.2.1 t9.2.2.2.2.2.2.2.2.2.2) (0, 0, 0, 0, 0, 0, 0, 0, (fun _ => 0), (fun _ => 0)) m (k, mi, at_, en, tk, wm, ns, fa, pl, 1, lt) = (at_, en, tk, wm, ns, fa, pl, 1, fr, lt) := by
  intro m
  induction m with
  | zero => intro k h1 h2; omega
  | succ m ih =>
    intro k h1 h2
    by_cases hk : fr 6 ≤ k
    · have hs : SfG_X8_seenLine_49_1 e fr tm x r27 k mi at_ en tk wm ns fa pl 1 lt = .inr (at_, en, tk, wm, ns, fa, pl, 1, fr, lt) := by
        unfold SfG_X8_seenLine_49_1
        rw [if_neg (show ¬ (1 : Int) = 0 by decide), fl_lt_eq rfl, if_pos hk]
      rw [fl_wh_r (step := (fun t9 : Int × Int × Int × Int × Int × Int × Int × Int × Int × Int × (Nat → Int) => SfG_X8_seenLine_49_1 e fr tm x r27 t9.1 t9.2.1 t9.2.2.1 t9.2.2.2.1 t9.2.2.2.2.1 t9.2.2.2.2.2.1 t9.2.2.2.2.2.2.1 t9.2.2.2.2.2.2.2.1 t9.2.2.2.2.2.2.2.2.1 t9.2.2.2.2.2.2.2.2.2.1 t9.2.2.2.2.2.2.2.2.2.2)) (s := (k, mi, at_, en, tk, wm, ns, fa, pl, 1, lt)) hs]
    · have hs : SfG_X8_seenLine_49_1 e fr tm x r27 k mi at_ en tk wm ns fa pl 1 lt = .inl (k + 1, mi, at_, en, tk, wm, ns, fa, pl, 1, lt) := by
        unfold SfG_X8_seenLine_49_1
        rw [if_neg (show ¬ (1 : Int) = 0 by decide), fl_lt_eq rfl, if_neg hk]; rfl
      rw [fl_wh_l (step := (fun t9 : Int × Int × Int × Int × Int × Int × Int × Int × Int × Int × (Nat → Int) => SfG_X8_seenLine_49_1 e fr tm x r27 t9.1 t9.2.1 t9.2.2.1 t9.2.2.2.1 t9.2.2.2.2.1 t9.2.2.2.2.2.1 t9.2.2.2.2.2.2.1 t9.2.2.2.2.2.2.2.1 t9.2.2.2.2.2.2.2.2.1 t9.2.2.2.2.2.2.2.2.2.1 t9.2.2.2.2.2.2.2.2.2.2)) (s := (k, mi, at_, en, tk, wm, ns, fa, pl, 1, lt)) hs]
      exact ih (k + 1) (by omega) (by omega)
theorem rp_sm0 {e x r27 mi at_ en tk wm ns fa pl : Int} {fr tm lt : Nat → Int} : ∀ (m : Nat) (k : Int), fr 6 + 1 - k ≤ (m : Int) → 0 ≤ k → k ≤ fr 6 → (∀ i : Nat, (i : Int) < k → fr (37 + 2 * i) ≠ mi) →
    ((∃ i : Nat, (i : Int) < fr 6 ∧ fr (37 + 2 * i) = mi) ∧ fl_wh (fun t9 => SfG_X8_seenLine_49_1 e fr tm x r27 t9.1 t9.2.1 t9.2.2.1 t9.2.2.2.1 t9.2.2.2.2.1 t9.2.2.2.2.2.1 t9.2.2.2.2.2.2.1 t9.2.2.2.2.2.2.2.1 t9.2.2.2.2.2.2.2.2.1 t9.2.2.2.2.2.2.2.2.2.1 t9.2.2.2.2.2.2.2.2.2.2) (0, 0, 0, 0, 0, 0, 0, 0, (fun _ => 0), (fun _ => 0)) m (k, mi, at_, en, tk, wm, ns, fa, pl, 0, lt) = (at_, en, tk, wm, ns, 3, at_, 1, fr, lt)) ∨
    ((∀ i : Nat, (i : Int) < fr 6 → fr (37 + 2 * i) ≠ mi) ∧ fl_wh (fun t9 => SfG_X8_seenLine_49_1 e fr tm x r27 t9.1 t9.2.1 t9.2.2.1 t9.2.2.2.1 t9.2.2.2.2.1 t9.2.2.2.2.2.1 t9.2.2.2.2.2.2.1 t9.2.2.2.2.2.2.2.1 t9.2.2.2.2.2.2.2.2.1 t9.2.2.2.2.2.2.2.2.2.1 t9.2.2.2.2.2.2.2.2.2.2) (0, 0, 0, 0, 0, 0, 0, 0, (fun _ => 0), (fun _ => 0)) m (k, mi, at_, en, tk, wm, ns, fa, pl, 0, lt) = fl_c6 (FfG_X8_pass e en tm lt) (fun y4 y5 y6 y7 y8 y12 => (y4, y5, y6, y7, y8, fa, pl, 0, fl_up (fl_up (fl_up fr x.toNat r27) (x + 1).toNat mi) 6 ((fl_up (fl_up fr x.toNat r27) (x + 1).toNat mi) 6 + 1), y12))) := by
  intro m
  induction m with
  | zero => intro k h1 h2 h3; omega
  | succ m ih =>
    intro k h1 h2 h3 h4
    by_cases hk : fr 6 ≤ k
    · have hs : SfG_X8_seenLine_49_1 e fr tm x r27 k mi at_ en tk wm ns fa pl 0 lt = .inr (fl_c6 (FfG_X8_pass e en tm lt) (fun y4 y5 y6 y7 y8 y12 => (y4, y5, y6, y7, y8, fa, pl, 0, fl_up (fl_up (fl_up fr x.toNat r27) (x + 1).toNat mi) 6 ((fl_up (fl_up fr x.toNat r27) (x + 1).toNat mi) 6 + 1), y12))) := by
        unfold SfG_X8_seenLine_49_1
        rw [if_pos (show (0 : Int) = 0 from rfl), fl_lt_eq rfl, if_pos hk]; rfl
      rw [fl_wh_r (step := (fun t9 : Int × Int × Int × Int × Int × Int × Int × Int × Int × Int × (Nat → Int) => SfG_X8_seenLine_49_1 e fr tm x r27 t9.1 t9.2.1 t9.2.2.1 t9.2.2.2.1 t9.2.2.2.2.1 t9.2.2.2.2.2.1 t9.2.2.2.2.2.2.1 t9.2.2.2.2.2.2.2.1 t9.2.2.2.2.2.2.2.2.1 t9.2.2.2.2.2.2.2.2.2.1 t9.2.2.2.2.2.2.2.2.2.2)) (s := (k, mi, at_, en, tk, wm, ns, fa, pl, 0, lt)) hs]
      exact Or.inr ⟨fun i hi => h4 i (by omega), rfl⟩
    · have ix : (36 + 2 * k + 1).toNat = 37 + 2 * k.toNat := by omega
      by_cases q : fr (37 + 2 * k.toNat) = mi
      · have hs : SfG_X8_seenLine_49_1 e fr tm x r27 k mi at_ en tk wm ns fa pl 0 lt = .inl (k + 1, mi, at_, en, tk, wm, ns, 3, at_, 1, lt) := by
          unfold SfG_X8_seenLine_49_1
          rw [if_pos (show (0 : Int) = 0 from rfl), fl_lt_eq rfl, if_neg hk, fl_lt_eq rfl, fl_lt_eq rfl, fl_lt_eq rfl, ix, fl_lt_eq rfl, if_pos q]; rfl
        rw [fl_wh_l (step := (fun t9 : Int × Int × Int × Int × Int × Int × Int × Int × Int × Int × (Nat → Int) => SfG_X8_seenLine_49_1 e fr tm x r27 t9.1 t9.2.1 t9.2.2.1 t9.2.2.2.1 t9.2.2.2.2.1 t9.2.2.2.2.2.1 t9.2.2.2.2.2.2.1 t9.2.2.2.2.2.2.2.1 t9.2.2.2.2.2.2.2.2.1 t9.2.2.2.2.2.2.2.2.2.1 t9.2.2.2.2.2.2.2.2.2.2)) (s := (k, mi, at_, en, tk, wm, ns, fa, pl, 0, lt)) hs]
        exact Or.inl ⟨⟨k.toNat, by omega, q⟩, rp_sm1 m (k + 1) (by omega) (by omega)⟩
      · have hs : SfG_X8_seenLine_49_1 e fr tm x r27 k mi at_ en tk wm ns fa pl 0 lt = .inl (k + 1, mi, at_, en, tk, wm, ns, fa, pl, 0, lt) := by
          unfold SfG_X8_seenLine_49_1
          rw [if_pos (show (0 : Int) = 0 from rfl), fl_lt_eq rfl, if_neg hk, fl_lt_eq rfl, fl_lt_eq rfl, fl_lt_eq rfl, ix, fl_lt_eq rfl, if_neg q]; rfl
        rw [fl_wh_l (step := (fun t9 : Int × Int × Int × Int × Int × Int × Int × Int × Int × Int × (Nat → Int) => SfG_X8_seenLine_49_1 e fr tm x r27 t9.1 t9.2.1 t9.2.2.1 t9.2.2.2.1 t9.2.2.2.2.1 t9.2.2.2.2.2.1 t9.2.2.2.2.2.2.1 t9.2.2.2.2.2.2.2.1 t9.2.2.2.2.2.2.2.2.1 t9.2.2.2.2.2.2.2.2.2.1 t9.2.2.2.2.2.2.2.2.2.2)) (s := (k, mi, at_, en, tk, wm, ns, fa, pl, 0, lt)) hs]
        refine ih (k + 1) (by omega) (by omega) (by omega) (fun i hi => ?_)
        by_cases hi2 : i = k.toNat
        · rw [hi2]; exact q
        · exact h4 i (by omega)
/-- seen: readSeen and seenLine -/
theorem rp_seen {tp tm : Nat → Int} {e st be tk wd wh : Int} (hT : rp_T tp tm e) (he : e ≤ 900) {st1 be1 tk1 wd1 wh1 at1 en1 tk3 wm1 ns1 : Int} {lt1 : Nat → Int} (w0 : Ff_X3_isWord tk wd 4 (fl_A (sxc 4)) = 1) (a1 : Ff_X3_advance e be wd wh tp = (st1, be1, tk1, wd1, wh1)) (a3 : rp_K e st1 be1 tk1 wd1 wh1 at1 en1 tk3 wm1 ns1 lt1)
    {fg sp sa sh lw ti pu fi tb sc wc c : Int} {kd me sf sm wf wt nm fr : Nat → Int} (hD : rp_D fg sp sa sh lw ti pu fi tb sc wc c kd me sf sm wf wt nm fr) (hw : sc < 6) (hT11 : ¬ fr 11 = 0) (fn fp ta fa pl : Int) :
    (∃ ta' sc' sm' sf' fr' st2 be2 tk4 wd2 wh2 at2 en2 tk5 wm2 ns2 lt2, Ff_X3_readSeen fn fp e st be tk wd wh ta fg sc tp sm sf = (1, fn, fp, st2, be2, tk4, wd2, wh2, ta', sc', sm', sf') ∧ FfG_X8_seenLine e at1 en1 tk3 wm1 ns1 fa pl fr tm lt1 = (at2, en2, tk5, wm2, ns2, fa, pl, 0, fr', lt2) ∧ rp_K e st2 be2 tk4 wd2 wh2 at2 en2 tk5 wm2 ns2 lt2 ∧ st1 < st2 ∧ rp_D fg sp sa sh lw ti pu fi tb sc' wc c kd me sf' sm' wf wt nm fr') ∨
    (∃ q p, rp_fc (Ff_X3_readSeen fn fp e st be tk wd wh ta fg sc tp sm sf) q p ∧ rp_fm (FfG_X8_seenLine e at1 en1 tk3 wm1 ns1 fa pl fr tm lt1) q p) := by
  obtain ⟨hh, hf, hw', ⟨s1, s2, s3, s4⟩, hn⟩ := hD
  have hfg : fg = fr 0 := hh.1.1
  have la : Ff_X8_last fr = fg - 1 := by rw [hfg]; rfl
  have sk : ∀ (mi at_ en tk wm ns fa pl x r27 : Int) (lt : Nat → Int), fl_wh (fun t9 => SfG_X8_seenLine_49_1 e fr tm x r27 t9.1 t9.2.1 t9.2.2.1 t9.2.2.2.1 t9.2.2.2.2.1 t9.2.2.2.2.2.1 t9.2.2.2.2.2.2.1 t9.2.2.2.2.2.2.2.1 t9.2.2.2.2.2.2.2.2.1 t9.2.2.2.2.2.2.2.2.2.1 t9.2.2.2.2.2.2.2.2.2.2) (0, 0, 0, 0, 0, 0, 0, 0, (fun _ => 0), (fun _ => 0)) 6 (0, mi, at_, en, tk, wm, ns, fa, pl, 1, lt) = (at_, en, tk, wm, ns, fa, pl, 1, fr, lt) := fun mi at_ en tk wm ns fa pl x r27 lt => rp_sm1 6 0 (by omega) (by omega)
  rcases rp_num hT he a3 0 (fg - 1) fn fp fa pl with ⟨st2, be2, tk4, wd2, wh2, at2, en2, tk5, wm2, ns2, lt2, b1, b2, b3, b4, b5, b6, b7, b8, b9, b10⟩ | ⟨q, b1, b2⟩
  rotate_left
  · have et : Ff_X3_takeWhole 0 (fg - 1) fn fp e st be tk wd wh ta tp 4 (fl_A (sxc 4)) = (0, q, st1, st1, be1, tk1, wd1, wh1, ta) := by
      simp only [Ff_X3_takeWhole, w0, a1, b1, fl_lt, fl_c2, fl_c3, fl_c4, fl_c5, fl_c6, fl_c7, fl_c8, fl_c9, fl_c10, reduceIte, Int.reduceEq]
    refine Or.inr ⟨q, st1, ?_, ?_⟩
    · simp only [Ff_X3_readSeen, et, fl_lt, fl_c2, fl_c3, fl_c4, fl_c5, fl_c6, fl_c7, fl_c8, fl_c9, fl_c10, reduceIte, Int.reduceEq]; exact ⟨rfl, rfl, rfl⟩
    · simp only [FfG_X8_seenLine, la, b2, sk, fl_lt, fl_c2, fl_c3, fl_c4, fl_c5, fl_c6, fl_c7, fl_c8, fl_c9, fl_c10, reduceIte, Int.reduceEq]; exact ⟨rfl, rfl, rfl⟩
  have et : Ff_X3_takeWhole 0 (fg - 1) fn fp e st be tk wd wh ta tp 4 (fl_A (sxc 4)) = (1, fn, fp, st2, be2, tk4, wd2, wh2, wh1) := by
    simp only [Ff_X3_takeWhole, w0, a1, b1, b2, fl_lt, fl_c2, fl_c3, fl_c4, fl_c5, fl_c6, fl_c7, fl_c8, fl_c9, fl_c10, reduceIte, Int.reduceEq]
  rcases rp_tkw hT he b4 (nn := 2) (by decide) (by decide) rp_sw_at fn fp fa pl with ⟨st3, be3, tk6, wd3, wh3, at3, en3, tk7, wm3, ns3, lt3, c1, c2, c3, c4, c5⟩ | ⟨c1, c2⟩
  rotate_left
  · refine Or.inr ⟨1, st2, ?_, ?_⟩
    · simp only [Ff_X3_readSeen, et, c1, fl_lt, fl_c2, fl_c3, fl_c4, fl_c5, fl_c6, fl_c7, fl_c8, fl_c9, fl_c10, reduceIte, Int.reduceEq]; exact ⟨rfl, rfl, rfl⟩
    · simp only [FfG_X8_seenLine, la, b3, c2, rp_s2, sk, fl_lt, fl_c2, fl_c3, fl_c4, fl_c5, fl_c6, fl_c7, fl_c8, fl_c9, fl_c10, reduceIte, Int.reduceEq]; exact ⟨rfl, rfl, rfl⟩
  rcases rp_iww c3 0 999 fn fp fa pl with ⟨d1, d2, -, d4, d5, d6, d7, d8, d9, d10⟩ | ⟨q, d1, d2⟩
  rotate_left
  · refine Or.inr ⟨q, st3, ?_, ?_⟩
    · simp only [Ff_X3_readSeen, et, c1, d1, fl_lt, fl_c2, fl_c3, fl_c4, fl_c5, fl_c6, fl_c7, fl_c8, fl_c9, fl_c10, reduceIte, Int.reduceEq]; exact ⟨rfl, rfl, rfl⟩
    · simp only [FfG_X8_seenLine, la, b3, c2, d2, rp_s3, sk, fl_lt, fl_c2, fl_c3, fl_c4, fl_c5, fl_c6, fl_c7, fl_c8, fl_c9, fl_c10, reduceIte, Int.reduceEq]; exact ⟨rfl, rfl, rfl⟩
  have hst3 : st3 = at3 := c3.1
  have ix : (36 + 2 * fr 6).toNat = 36 + 2 * sc.toNat := by omega
  have ix2 : (36 + 2 * fr 6 + 1).toNat = 37 + 2 * sc.toNat := by omega
  rcases rp_sm0 (e := e) (x := 36 + 2 * fr 6) (r27 := wh1) (mi := wh3) (at_ := at3) (en := en3) (tk := tk7) (wm := wm3) (ns := ns3) (fa := fa) (pl := pl) (fr := fr) (tm := tm) (lt := lt3) 6 0 (by omega) (by omega) (by omega) (fun i hi => by omega) with ⟨⟨i, i1, i2⟩, g⟩ | ⟨hno, g⟩
  · have gc : Ff_X0_isSeenMinute wh3 sc sm = 1 := by
      rcases rp_sec (mi := wh3) (sc := sc) (sm := sm) s2 (by omega) with ⟨-, h⟩ | ⟨h, -⟩
      · exact h
      · exact absurd ((s4 i (by omega)).2.trans i2) (h i (by omega))
    refine Or.inr ⟨3, st3, ?_, ?_⟩
    · simp only [Ff_X3_readSeen, et, c1, d1, gc, Ff_X3_fails, fl_lt, fl_c2, fl_c3, fl_c4, fl_c5, fl_c6, fl_c7, fl_c8, fl_c9, fl_c10, reduceIte, Int.reduceEq]; exact ⟨rfl, rfl, rfl⟩
    · simp only [FfG_X8_seenLine, la, b3, c2, d2, rp_s4, g, fl_lt, fl_c2, fl_c3, fl_c4, fl_c5, fl_c6, fl_c7, fl_c8, fl_c9, fl_c10, reduceIte, Int.reduceEq]; exact ⟨rfl, hst3.symm, rfl⟩
  · have gc : Ff_X0_isSeenMinute wh3 sc sm = 0 := by
      rcases rp_sec (mi := wh3) (sc := sc) (sm := sm) s2 (by omega) with ⟨⟨i, i1, i2⟩, -⟩ | ⟨-, h⟩
      · exact absurd (((s4 i i1).2.symm).trans i2) (hno i (by omega))
      · exact h
    obtain ⟨st4, be4, tk8, wd4, wh4, at4, en4, tk9, wm4, ns4, lt4, k1, k2, k3, k4⟩ := rp_adv hT he be3 wd3 wh3 lt3 c3.2.2.2.1 c3.2.2.2.2.1
    rw [d7] at k2
    have kq : FfG_X8_pass e en3 tm lt3 = (at4, en4, tk9, wm4, ns4, lt4) := by simp only [FfG_X8_pass, k2, fl_c6]
    have hadd : Ff_X0_addSeen wh1 wh3 sc sf sm = (sc + 1, fl_up sf sc.toNat wh1, fl_up sm sc.toNat wh3) := by
      unfold Ff_X0_addSeen; rw [if_neg (by omega)]; rfl
    have x6 : (fl_up (fl_up fr (36 + 2 * sc.toNat) wh1) (37 + 2 * sc.toNat) wh3) 6 = fr 6 := by
      rw [rp_up_ne _ _ (by omega), rp_up_ne _ _ (by omega)]
    rw [ix, ix2, x6] at g
    refine Or.inl ⟨wh1, sc + 1, fl_up sm sc.toNat wh3, fl_up sf sc.toNat wh1, fl_up (fl_up (fl_up fr (36 + 2 * sc.toNat) wh1) (37 + 2 * sc.toNat) wh3) 6 (fr 6 + 1), st4, be4, tk8, wd4, wh4, at4, en4, tk9, wm4, ns4, lt4, ?_, ?_, k3, by omega, ?_⟩
    · simp only [Ff_X3_readSeen, et, c1, d1, gc, hadd, k1, fl_lt, fl_c2, fl_c3, fl_c4, fl_c5, fl_c6, fl_c7, fl_c8, fl_c9, fl_c10, reduceIte, Int.reduceEq]
    · simp only [FfG_X8_seenLine, la, b3, c2, d2, rp_s4, g, kq, fl_lt, fl_c2, fl_c3, fl_c4, fl_c5, fl_c6, fl_c7, fl_c8, fl_c9, fl_c10, reduceIte, Int.reduceEq]
    · have g0 : ∀ i : Nat, i ≠ 6 → i ≠ 36 + 2 * sc.toNat → i ≠ 37 + 2 * sc.toNat → (fl_up (fl_up (fl_up fr (36 + 2 * sc.toNat) wh1) (37 + 2 * sc.toNat) wh3) 6 (fr 6 + 1)) i = fr i := fun i i1 i2 i3 => by
        rw [rp_up_ne _ _ i1, rp_up_ne _ _ i3, rp_up_ne _ _ i2]
      refine ⟨?_, rp_Df_cg hf (fun i hi => g0 i (by omega) (by omega) (by omega)), rp_Dw_cg hw' (fun i hi => g0 i (by omega) (by omega) (by omega)), ⟨?_, by omega, by omega, ?_⟩, rp_Dn_cg hn (fun i hi => g0 i (by omega) (by omega) (by omega))⟩
      · obtain ⟨⟨k1, k2, k3, k4⟩, k5, k6, k7⟩ := hh
        unfold rp_Dh
        rw [g0 0 (by omega) (by omega) (by omega), g0 1 (by omega) (by omega) (by omega), g0 2 (by omega) (by omega) (by omega), g0 3 (by omega) (by omega) (by omega), g0 4 (by omega) (by omega) (by omega), g0 5 (by omega) (by omega) (by omega), g0 7 (by omega) (by omega) (by omega), g0 8 (by omega) (by omega) (by omega), g0 9 (by omega) (by omega) (by omega), g0 10 (by omega) (by omega) (by omega), g0 11 (by omega) (by omega) (by omega), rp_up_eq]
        exact ⟨⟨k1, k2, fun h => absurd h hT11, k4⟩, k5, k6, k7⟩
      · rw [rp_up_eq]; omega
      · intro i hi
        by_cases q : i = sc.toNat
        · subst q
          rw [rp_up_eq, rp_up_eq]
          constructor
          · rw [rp_up_ne _ _ (by omega), rp_up_ne _ _ (by omega), rp_up_eq]
          · rw [rp_up_ne _ _ (by omega), rp_up_eq]
        · rw [rp_up_ne _ _ q, rp_up_ne _ _ q, g0 _ (by omega) (by omega) (by omega), g0 _ (by omega) (by omega) (by omega)]
          exact s4 i (by omega)
end PUI
end P092249_pure9
