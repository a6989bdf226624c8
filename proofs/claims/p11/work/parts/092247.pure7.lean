section PUG

def rp_Df (tb : Int) (kd me fr : Nat → Int) : Prop := 0 ≤ tb ∧ tb ≤ 511 ∧ (∀ f : Nat, f < 9 → kd f = fr (12 + 2 * f) ∧ me f = fr (13 + 2 * f) ∧ 0 ≤ fr (12 + 2 * f) ∧ (Ff_X7_hasBit tb (f : Int) = 1 ↔ 0 < fr (12 + 2 * f))) ∧ Ff_J6_bitCount_0f7a4 tb = fr 4 ∧ 0 ≤ fr 4 ∧ fr 4 ≤ 9
def rp_Dw (wc : Int) (wf wt fr : Nat → Int) : Prop := wc = fr 5 ∧ 0 ≤ wc ∧ wc ≤ 3 ∧ ∀ w : Nat, (w : Int) < wc → wf w = fr (30 + 2 * w) ∧ wt w = fr (31 + 2 * w)
def rp_Ds (sc : Int) (sf sm fr : Nat → Int) : Prop := sc = fr 6 ∧ 0 ≤ sc ∧ sc ≤ 6 ∧ ∀ i : Nat, (i : Int) < sc → sf i = fr (36 + 2 * i) ∧ sm i = fr (37 + 2 * i)
def rp_Dn (c : Int) (nm fr : Nat → Int) : Prop := c = fr 4 + fr 5 ∧ rp_N nm c fr ∧ ∀ s : Nat, s < 12 → 0 < fr (48 + s) → (s : Int) < fr 4 ∨ (9 ≤ s ∧ (s : Int) < 9 + fr 5)
def rp_Dh (fg sp sa sh lw ti pu fi : Int) (fr : Nat → Int) : Prop :=
  (fg = fr 0 ∧ (fr 11 = 0 ∨ fr 11 = 1) ∧ (fr 11 = 0 → fr 0 = 0 ∧ fr 10 = 0 ∧ fr 4 = 0 ∧ fr 5 = 0 ∧ fr 6 = 0) ∧ (fr 11 = 1 → 2 ≤ fr 0 ∧ fr 0 ≤ 9 ∧ sp = fr 1 ∧ sa = fr 2 ∧ sh = fr 3)) ∧
  lw = fr 10 ∧ (lw = 0 ∨ lw = 1) ∧ (lw = 1 → ti = fr 7 ∧ pu = fr 8 ∧ fi = fr 9 ∧ (0 ≤ fi ∧ fi ≤ fg - 1))
/-- what is told so far, here and there -/
def rp_D (fg sp sa sh lw ti pu fi tb sc wc c : Int) (kd me sf sm wf wt nm fr : Nat → Int) : Prop :=
  rp_Dh fg sp sa sh lw ti pu fi fr ∧ rp_Df tb kd me fr ∧ rp_Dw wc wf wt fr ∧ rp_Ds sc sf sm fr ∧ rp_Dn c nm fr
theorem rp_Df_cg {tb : Int} {kd me fr fr' : Nat → Int} (h : rp_Df tb kd me fr) (q : ∀ i : Nat, (12 ≤ i ∧ i < 30) ∨ i = 4 → fr' i = fr i) : rp_Df tb kd me fr' := by
  obtain ⟨a, b, c, d, e, f⟩ := h
  have q4 := q 4 (Or.inr rfl)
  refine ⟨a, b, fun k hk => ?_, by rw [q4]; exact d, by omega, by omega⟩
  rw [q (12 + 2 * k) (Or.inl (by omega)), q (13 + 2 * k) (Or.inl (by omega))]
  exact c k hk
theorem rp_Dw_cg {wc : Int} {wf wt fr fr' : Nat → Int} (h : rp_Dw wc wf wt fr) (q : ∀ i : Nat, (30 ≤ i ∧ i < 36) ∨ i = 5 → fr' i = fr i) : rp_Dw wc wf wt fr' := by
  obtain ⟨a, b, c, d⟩ := h
  have q5 := q 5 (Or.inr rfl)
  refine ⟨by omega, b, c, fun k hk => ?_⟩
  rw [q (30 + 2 * k) (Or.inl (by omega)), q (31 + 2 * k) (Or.inl (by omega))]
  exact d k hk
theorem rp_Ds_cg {sc : Int} {sf sm fr fr' : Nat → Int} (h : rp_Ds sc sf sm fr) (q : ∀ i : Nat, (36 ≤ i ∧ i < 48) ∨ i = 6 → fr' i = fr i) : rp_Ds sc sf sm fr' := by
  obtain ⟨a, b, c, d⟩ := h
  have q6 := q 6 (Or.inr rfl)
  refine ⟨by omega, b, c, fun k hk => ?_⟩
  rw [q (36 + 2 * k) (Or.inl (by omega)), q (37 + 2 * k) (Or.inl (by omega))]
  exact d k hk
theorem rp_N_cg {nm : Nat → Int} {c : Int} {fr fr' : Nat → Int} (h : rp_N nm c fr) (q : ∀ i : Nat, 48 ≤ i ∧ i < 156 → fr' i = fr i) : rp_N nm c fr' := by
  obtain ⟨a, b, d⟩ := h
  have z : ∀ s : Nat, s < 12 → fr' (48 + s) = fr (48 + s) := fun s hs => q _ (by omega)
  have y : ∀ s : Nat, s < 12 → ∀ k : Nat, k < (fr (48 + s)).toNat → fr (60 + 8 * s + k) = fr' (60 + 8 * s + k) := fun s hs k hk => by
    have h1 := (a s hs).2.1
    exact (q _ (by omega)).symm
  refine ⟨fun s hs => ?_, fun i hi => ?_, fun s hs h0 => ?_⟩
  · rw [z s hs]
    refine ⟨(a s hs).1, (a s hs).2.1, fun k hk => ?_⟩
    show 97 ≤ fr' (60 + 8 * s + k) ∧ fr' (60 + 8 * s + k) ≤ 122
    rw [← y s hs k hk]; exact (a s hs).2.2 k hk
  · obtain ⟨s, s1, s2, s3⟩ := b i hi
    refine ⟨s, s1, by rw [z s s1]; exact s2, ?_⟩
    rw [z s s1, s3]; exact rp_pk_cg (y s s1)
  · rw [z s hs] at h0
    obtain ⟨i, i1, i2⟩ := d s hs h0
    refine ⟨i, i1, ?_⟩
    rw [z s hs, i2]; exact rp_pk_cg (y s hs)
theorem rp_Dn_cg {c : Int} {nm fr fr' : Nat → Int} (h : rp_Dn c nm fr) (q : ∀ i : Nat, (48 ≤ i ∧ i < 156) ∨ i = 4 ∨ i = 5 → fr' i = fr i) : rp_Dn c nm fr' := by
  obtain ⟨a, b, d⟩ := h
  have q4 := q 4 (Or.inr (Or.inl rfl))
  have q5 := q 5 (Or.inr (Or.inr rfl))
  refine ⟨by omega, rp_N_cg b (fun i hi => q i (Or.inl hi)), fun s hs h0 => ?_⟩
  rw [q (48 + s) (Or.inl (by omega))] at h0
  rw [q4, q5]; exact d s hs h0
/-- watcher: readWatcher and watcherLine -/
theorem rp_watch {tp tm : Nat → Int} {e be wd wh : Int} (hT : rp_T tp tm e) (he : e ≤ 900) {st1 be1 tk1 wd1 wh1 at1 en1 tk3 wm1 ns1 : Int} {lt1 : Nat → Int} (a1 : Ff_X3_advance e be wd wh tp = (st1, be1, tk1, wd1, wh1)) (a3 : rp_K e st1 be1 tk1 wd1 wh1 at1 en1 tk3 wm1 ns1 lt1)
    {fg sp sa sh lw ti pu fi tb sc wc c : Int} {kd me sf sm wf wt nm fr : Nat → Int} (hD : rp_D fg sp sa sh lw ti pu fi tb sc wc c kd me sf sm wf wt nm fr) (hw : wc < 3) (hT11 : ¬ fr 11 = 0) (fn fp ta fa pl : Int) :
    (∃ c' ta' wc' wf' wt' nm' fr' st2 be2 tk4 wd2 wh2 at2 en2 tk5 wm2 ns2 lt2, Ff_X3_readWatcher fn fp c e be wd wh ta tp nm fg wc wf wt = (1, fn, fp, c', st2, be2, tk4, wd2, wh2, ta', nm', wc', wf', wt') ∧ FfG_X8_watcherLine e at1 en1 tk3 wm1 ns1 fa pl fr lt1 tm = (at2, en2, tk5, wm2, ns2, fa, pl, 0, fr', lt2) ∧ rp_K e st2 be2 tk4 wd2 wh2 at2 en2 tk5 wm2 ns2 lt2 ∧ st1 < st2 ∧ rp_D fg sp sa sh lw ti pu fi tb sc wc' c' kd me sf sm wf' wt' nm' fr') ∨
    (∃ q p, rp_fc (Ff_X3_readWatcher fn fp c e be wd wh ta tp nm fg wc wf wt) q p ∧ rp_fm (FfG_X8_watcherLine e at1 en1 tk3 wm1 ns1 fa pl fr lt1 tm) q p) := by
  obtain ⟨hh, hf, ⟨w1, w2, w3, w4⟩, hs, n1, n2, n3⟩ := hD
  have hf' := hf
  obtain ⟨-, -, -, -, f4, f9⟩ := hf'
  have ea : (9 + fr 5) = ((9 + wc.toNat : Nat) : Int) := by omega
  have hslot : fr (48 + (9 + wc.toNat)) = 0 := by
    have h1 := (n2.1 (9 + wc.toNat) (by omega)).1
    by_cases h0 : 0 < fr (48 + (9 + wc.toNat))
    · have := n3 _ (by omega) h0; omega
    · omega
  rcases rp_nn hT he a3 n2 (a := 9 + wc.toNat) (by omega) hslot (by omega) (by omega) fn fp fa pl with ⟨nm1, st2, be2, tk4, wd2, wh2, at2, en2, tk5, wm2, ns2, lt2, fr1, z, b1, b2, b3, b4, b5, b6, b7, b8, b9⟩ | ⟨q, st2, be2, tk4, wd2, wh2, nm1, c1, at2, en2, tk5, wm2, ns2, lt2, fr1, b1, b2⟩
  rotate_left
  · rw [← ea] at b2
    refine Or.inr ⟨q, st1, ?_, ?_⟩
    · simp only [Ff_X3_readWatcher, a1, b1, fl_lt, fl_c2, fl_c3, fl_c4, fl_c5, fl_c6, fl_c7, fl_c8, fl_c9, fl_c10, reduceIte, Int.reduceEq]; exact ⟨rfl, rfl, rfl⟩
    · simp only [FfG_X8_watcherLine, b2, fl_lt, fl_c2, fl_c3, fl_c4, fl_c5, fl_c6, fl_c7, fl_c8, fl_c9, fl_c10, reduceIte, Int.reduceEq]; exact ⟨rfl, rfl, rfl⟩
  rw [← ea] at b2
  have hfg : fg = fr 0 := hh.1.1
  have la : Ff_X8_last fr1 = fg - 1 := by rw [hfg, ← b7 0 (by omega)]; rfl
  rcases rp_tw hT he b3 (nn := 4) (by decide) (by decide) rp_sw_from 0 (fg - 1) fn fp ta fa pl with ⟨v1, st3, be3, tk6, wd3, wh3, at3, en3, tk7, wm3, ns3, lt3, c1, c2, c3, c4, c5, c6, c7, c8, c9⟩ | ⟨q, p, st3, be3, tk6, wd3, wh3, ta3, at3, en3, tk7, wm3, ns3, lt3, c1, c2⟩
  rotate_left
  · refine Or.inr ⟨q, p, ?_, ?_⟩
    · simp only [Ff_X3_readWatcher, a1, b1, c1, fl_lt, fl_c2, fl_c3, fl_c4, fl_c5, fl_c6, fl_c7, fl_c8, fl_c9, fl_c10, reduceIte, Int.reduceEq]; exact ⟨rfl, rfl, rfl⟩
    · simp only [FfG_X8_watcherLine, b2, la, c2, fl_lt, fl_c2, fl_c3, fl_c4, fl_c5, fl_c6, fl_c7, fl_c8, fl_c9, fl_c10, reduceIte, Int.reduceEq]; exact ⟨rfl, rfl, rfl⟩
  have ix : (30 + 2 * fr 5).toNat = 30 + 2 * wc.toNat := by omega
  have ix2 : (30 + 2 * fr 5 + 1).toNat = 31 + 2 * wc.toNat := by omega
  have lb : Ff_X8_last (fl_up fr1 (30 + 2 * wc.toNat) v1) = fg - 1 := by
    rw [← la]; unfold Ff_X8_last; rw [rp_up_ne _ _ (by omega)]
  rcases rp_tw hT he c3 (nn := 2) (by decide) (by decide) rp_sw_to 0 (fg - 1) fn fp v1 fa pl with ⟨v2, st4, be4, tk8, wd4, wh4, at4, en4, tk9, wm4, ns4, lt4, d1, d2, d3, d4, d5, d6, d7, d8, d9⟩ | ⟨q, p, st4, be4, tk8, wd4, wh4, ta4, at4, en4, tk9, wm4, ns4, lt4, d1, d2⟩
  rotate_left
  · refine Or.inr ⟨q, p, ?_, ?_⟩
    · simp only [Ff_X3_readWatcher, a1, b1, c1, d1, fl_lt, fl_c2, fl_c3, fl_c4, fl_c5, fl_c6, fl_c7, fl_c8, fl_c9, fl_c10, reduceIte, Int.reduceEq]; exact ⟨rfl, rfl, rfl⟩
    · simp only [FfG_X8_watcherLine, b2, la, c2, ix, lb, d2, fl_lt, fl_c2, fl_c3, fl_c4, fl_c5, fl_c6, fl_c7, fl_c8, fl_c9, fl_c10, reduceIte, Int.reduceEq]; exact ⟨rfl, rfl, rfl⟩
  have hadd : Ff_X6_add v1 v2 wc wf wt = (wc + 1, fl_up wf wc.toNat v1, fl_up wt wc.toNat v2) := by
    unfold Ff_X6_add; rw [if_neg (by omega)]; rfl
  have x5 : (fl_up (fl_up fr1 (30 + 2 * wc.toNat) v1) (31 + 2 * wc.toNat) v2) 5 = fr 5 := by
    rw [rp_up_ne _ _ (by omega), rp_up_ne _ _ (by omega), b7 5 (by omega)]
  refine Or.inl ⟨c + 1, v2, wc + 1, fl_up wf wc.toNat v1, fl_up wt wc.toNat v2, nm1, fl_up (fl_up (fl_up fr1 (30 + 2 * wc.toNat) v1) (31 + 2 * wc.toNat) v2) 5 (fr 5 + 1), st4, be4, tk8, wd4, wh4, at4, en4, tk9, wm4, ns4, lt4, ?_, ?_, d3, by omega, ?_⟩
  · simp only [Ff_X3_readWatcher, a1, b1, c1, d1, hadd, fl_lt, fl_c2, fl_c3, fl_c4, fl_c5, fl_c6, fl_c7, fl_c8, fl_c9, fl_c10, reduceIte, Int.reduceEq]
  · simp only [FfG_X8_watcherLine, b2, la, c2, ix, ix2, lb, d2, x5, fl_lt, fl_c2, fl_c3, fl_c4, fl_c5, fl_c6, fl_c7, fl_c8, fl_c9, fl_c10, reduceIte, Int.reduceEq]
  · have g : ∀ i : Nat, i ≠ 5 → i ≠ 30 + 2 * wc.toNat → i ≠ 31 + 2 * wc.toNat → (fl_up (fl_up (fl_up fr1 (30 + 2 * wc.toNat) v1) (31 + 2 * wc.toNat) v2) 5 (fr 5 + 1)) i = fr1 i := fun i i1 i2 i3 => by
      rw [rp_up_ne _ _ i1, rp_up_ne _ _ i3, rp_up_ne _ _ i2]
    have g0 : ∀ i : Nat, i < 48 → i ≠ 5 → i ≠ 30 + 2 * wc.toNat → i ≠ 31 + 2 * wc.toNat → (fl_up (fl_up (fl_up fr1 (30 + 2 * wc.toNat) v1) (31 + 2 * wc.toNat) v2) 5 (fr 5 + 1)) i = fr i := fun i i0 i1 i2 i3 => by rw [g i i1 i2 i3, b7 i i0]
    refine ⟨?_, rp_Df_cg hf (fun i hi => g0 i (by omega) (by omega) (by omega) (by omega)), ⟨?_, by omega, by omega, ?_⟩, rp_Ds_cg hs (fun i hi => g0 i (by omega) (by omega) (by omega) (by omega)), ?_, ?_, ?_⟩
    · obtain ⟨⟨k1, k2, k3, k4⟩, k5, k6, k7⟩ := hh
      unfold rp_Dh
      rw [g0 0 (by omega) (by omega) (by omega) (by omega), g0 1 (by omega) (by omega) (by omega) (by omega), g0 2 (by omega) (by omega) (by omega) (by omega), g0 3 (by omega) (by omega) (by omega) (by omega), g0 4 (by omega) (by omega) (by omega) (by omega), g0 6 (by omega) (by omega) (by omega) (by omega), g0 7 (by omega) (by omega) (by omega) (by omega), g0 8 (by omega) (by omega) (by omega) (by omega), g0 9 (by omega) (by omega) (by omega) (by omega), g0 10 (by omega) (by omega) (by omega) (by omega), g0 11 (by omega) (by omega) (by omega) (by omega), rp_up_eq]
      refine ⟨⟨k1, k2, fun h => ?_, k4⟩, k5, k6, k7⟩
      exact absurd h hT11
    · rw [rp_up_eq]; omega
    · intro w hw2
      by_cases q : w = wc.toNat
      · subst q
        rw [rp_up_eq, rp_up_eq]
        constructor
        · rw [rp_up_ne _ _ (by omega), rp_up_ne _ _ (by omega), rp_up_eq]
        · rw [rp_up_ne _ _ (by omega), rp_up_eq]
      · rw [rp_up_ne _ _ q, rp_up_ne _ _ q, g0 _ (by omega) (by omega) (by omega) (by omega), g0 _ (by omega) (by omega) (by omega) (by omega)]
        exact w4 w (by omega)
    · rw [g0 4 (by omega) (by omega) (by omega) (by omega), rp_up_eq]; omega
    · exact rp_N_cg b6 (fun i hi => g i (by omega) (by omega) (by omega))
    · intro s hs2 h0
      rw [g (48 + s) (by omega) (by omega) (by omega), b8 s hs2] at h0
      rw [g0 4 (by omega) (by omega) (by omega) (by omega), rp_up_eq]
      by_cases q : s = 9 + wc.toNat
      · right; omega
      · rw [if_neg q] at h0
        have := n3 s hs2 h0; omega
end PUG
