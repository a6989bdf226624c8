section PUE
theorem rp_sw_gallery : ∀ k : Nat, k < 8 → (k : Int) < 7 → 97 ≤ (fl_A (sxc 0)) k ∧ (fl_A (sxc 0)) k ≤ 122 ∧ (fl_A (sxc 18)) k = (fl_A (sxc 0)) k := by decide +kernel
theorem rp_sw_law : ∀ k : Nat, k < 8 → (k : Int) < 3 → 97 ≤ (fl_A (sxc 1)) k ∧ (fl_A (sxc 1)) k ≤ 122 ∧ (fl_A (sxc 19)) k = (fl_A (sxc 1)) k := by decide +kernel
theorem rp_sw_figure : ∀ k : Nat, k < 8 → (k : Int) < 6 → 97 ≤ (fl_A (sxc 2)) k ∧ (fl_A (sxc 2)) k ≤ 122 ∧ (fl_A (sxc 20)) k = (fl_A (sxc 2)) k := by decide +kernel
theorem rp_sw_watcher : ∀ k : Nat, k < 8 → (k : Int) < 7 → 97 ≤ (fl_A (sxc 3)) k ∧ (fl_A (sxc 3)) k ≤ 122 ∧ (fl_A (sxc 21)) k = (fl_A (sxc 3)) k := by decide +kernel
theorem rp_sw_seen : ∀ k : Nat, k < 8 → (k : Int) < 4 → 97 ≤ (fl_A (sxc 4)) k ∧ (fl_A (sxc 4)) k ≤ 122 ∧ (fl_A (sxc 22)) k = (fl_A (sxc 4)) k := by decide +kernel
theorem rp_sw_figures : ∀ k : Nat, k < 8 → (k : Int) < 7 → 97 ≤ (fl_A (sxc 5)) k ∧ (fl_A (sxc 5)) k ≤ 122 ∧ (fl_A (sxc 23)) k = (fl_A (sxc 5)) k := by decide +kernel
theorem rp_sw_span : ∀ k : Nat, k < 8 → (k : Int) < 4 → 97 ≤ (fl_A (sxc 6)) k ∧ (fl_A (sxc 6)) k ≤ 122 ∧ (fl_A (sxc 24)) k = (fl_A (sxc 6)) k := by decide +kernel
theorem rp_sw_stairs : ∀ k : Nat, k < 8 → (k : Int) < 6 → 97 ≤ (fl_A (sxc 7)) k ∧ (fl_A (sxc 7)) k ≤ 122 ∧ (fl_A (sxc 25)) k = (fl_A (sxc 7)) k := by decide +kernel
theorem rp_sw_shut : ∀ k : Nat, k < 8 → (k : Int) < 4 → 97 ≤ (fl_A (sxc 8)) k ∧ (fl_A (sxc 8)) k ≤ 122 ∧ (fl_A (sxc 26)) k = (fl_A (sxc 8)) k := by decide +kernel
theorem rp_sw_times : ∀ k : Nat, k < 8 → (k : Int) < 5 → 97 ≤ (fl_A (sxc 9)) k ∧ (fl_A (sxc 9)) k ≤ 122 ∧ (fl_A (sxc 27)) k = (fl_A (sxc 9)) k := by decide +kernel
theorem rp_sw_plus : ∀ k : Nat, k < 8 → (k : Int) < 4 → 97 ≤ (fl_A (sxc 10)) k ∧ (fl_A (sxc 10)) k ≤ 122 ∧ (fl_A (sxc 28)) k = (fl_A (sxc 10)) k := by decide +kernel
theorem rp_sw_first : ∀ k : Nat, k < 8 → (k : Int) < 5 → 97 ≤ (fl_A (sxc 11)) k ∧ (fl_A (sxc 11)) k ≤ 122 ∧ (fl_A (sxc 29)) k = (fl_A (sxc 11)) k := by decide +kernel
theorem rp_sw_is : ∀ k : Nat, k < 8 → (k : Int) < 2 → 97 ≤ (fl_A (sxc 12)) k ∧ (fl_A (sxc 12)) k ≤ 122 ∧ (fl_A (sxc 30)) k = (fl_A (sxc 12)) k := by decide +kernel
theorem rp_sw_walks : ∀ k : Nat, k < 8 → (k : Int) < 5 → 97 ≤ (fl_A (sxc 13)) k ∧ (fl_A (sxc 13)) k ≤ 122 ∧ (fl_A (sxc 31)) k = (fl_A (sxc 13)) k := by decide +kernel
theorem rp_sw_speaks : ∀ k : Nat, k < 8 → (k : Int) < 6 → 97 ≤ (fl_A (sxc 14)) k ∧ (fl_A (sxc 14)) k ≤ 122 ∧ (fl_A (sxc 32)) k = (fl_A (sxc 14)) k := by decide +kernel
theorem rp_sw_from : ∀ k : Nat, k < 8 → (k : Int) < 4 → 97 ≤ (fl_A (sxc 15)) k ∧ (fl_A (sxc 15)) k ≤ 122 ∧ (fl_A (sxc 33)) k = (fl_A (sxc 15)) k := by decide +kernel
theorem rp_sw_to : ∀ k : Nat, k < 8 → (k : Int) < 2 → 97 ≤ (fl_A (sxc 16)) k ∧ (fl_A (sxc 16)) k ≤ 122 ∧ (fl_A (sxc 34)) k = (fl_A (sxc 16)) k := by decide +kernel
theorem rp_sw_at : ∀ k : Nat, k < 8 → (k : Int) < 2 → 97 ≤ (fl_A (sxc 17)) k ∧ (fl_A (sxc 17)) k ≤ 122 ∧ (fl_A (sxc 35)) k = (fl_A (sxc 17)) k := by decide +kernel

/-- the names told, here and there -/
def rp_N (nm : Nat → Int) (c : Int) (fr : Nat → Int) : Prop :=
  (∀ s : Nat, s < 12 → 0 ≤ fr (48 + s) ∧ fr (48 + s) ≤ 8 ∧ rp_dg (fun k => fr (60 + 8 * s + k)) (fr (48 + s)).toNat) ∧
  (∀ i : Nat, (i : Int) < c → ∃ s : Nat, s < 12 ∧ 0 < fr (48 + s) ∧ nm i = rp_pk (fun k => fr (60 + 8 * s + k)) (fr (48 + s)).toNat) ∧
  (∀ s : Nat, s < 12 → 0 < fr (48 + s) → ∃ i : Nat, (i : Int) < c ∧ nm i = rp_pk (fun k => fr (60 + 8 * s + k)) (fr (48 + s)).toNat)
theorem rp_knc {fn fp c e st be tk wd wh : Int} {nm tp : Nat → Int} (hc0 : 0 ≤ c) (hc : c ≤ 12) : ∀ (m : Nat) (j : Int), c + 1 - j ≤ (m : Int) → 0 ≤ j → j ≤ c → (∀ i : Nat, (i : Int) < j → nm i ≠ wd) →
    ((∃ i : Nat, (i : Int) < c ∧ nm i = wd) ∧ fl_wh (Sf_X3_takeName_61_1 fn fp c e st be tk wd wh nm tp) (0, 0, 0, 0, 0, 0, 0, 0, 0, (fun _ => 0)) m j = (0, 3, st, c, st, be, tk, wd, wh, nm)) ∨
    ((∀ i : Nat, (i : Int) < c → nm i ≠ wd) ∧ fl_wh (Sf_X3_takeName_61_1 fn fp c e st be tk wd wh nm tp) (0, 0, 0, 0, 0, 0, 0, 0, 0, (fun _ => 0)) m j = if 12 ≤ c then Gf_X3_takeName_127_1 fn fp e be wd wh tp c nm else Gf_X3_takeName_127_1 fn fp e be wd wh tp (c + 1) (fl_up nm c.toNat wd)) := by
  intro m
  induction m with
  | zero => intro j h1 h2 h3; omega
  | succ m ih =>
    intro j h1 h2 h3 h4
    by_cases hj : c ≤ j
    · have hs : Sf_X3_takeName_61_1 fn fp c e st be tk wd wh nm tp j = .inr (if 12 ≤ c then Gf_X3_takeName_127_1 fn fp e be wd wh tp c nm else Gf_X3_takeName_127_1 fn fp e be wd wh tp (c + 1) (fl_up nm c.toNat wd)) := by
        simp only [Sf_X3_takeName_61_1, fl_lt]; rw [if_pos hj]
      rw [fl_wh_r hs]
      exact Or.inr ⟨fun i hi => h4 i (by omega), rfl⟩
    · by_cases q : nm j.toNat = wd
      · have hs : Sf_X3_takeName_61_1 fn fp c e st be tk wd wh nm tp j = .inr (0, 3, st, c, st, be, tk, wd, wh, nm) := by
          simp only [Sf_X3_takeName_61_1, fl_lt]; rw [if_neg hj, if_pos (rp_cmp0.mpr q)]; rfl
        rw [fl_wh_r hs]
        exact Or.inl ⟨⟨j.toNat, by omega, q⟩, rfl⟩
      · have hs : Sf_X3_takeName_61_1 fn fp c e st be tk wd wh nm tp j = .inl (j + 1) := by
          simp only [Sf_X3_takeName_61_1, fl_lt]; rw [if_neg hj, if_neg (fun h => q (rp_cmp0.mp h))]
        rw [fl_wh_l hs]
        refine ih (j + 1) (by omega) (by omega) (by omega) (fun i hi => ?_)
        by_cases hi2 : i = j.toNat
        · rw [hi2]; exact q
        · exact h4 i (by omega)
theorem rp_kin {ns : Int} {fr lt : Nat → Int} {s : Nat} (hn0 : 0 ≤ ns) : ∀ (m : Nat) (k : Int), ns + 1 - k ≤ (m : Int) → 0 ≤ k → k ≤ ns → (∀ i : Nat, i < k.toNat → fr (60 + 8 * s + i) = lt i) →
    ((∀ i : Nat, i < ns.toNat → fr (60 + 8 * s + i) = lt i) ∧ fl_wh (fun t9 => Sf_X8_isKnown_44_1 ns fr lt (s : Int) t9.1 t9.2) (Sum.inr 0) m (k, 1) = Sum.inr 1) ∨
    ((¬ ∀ i : Nat, i < ns.toNat → fr (60 + 8 * s + i) = lt i) ∧ fl_wh (fun t9 => Sf_X8_isKnown_44_1 ns fr lt (s : Int) t9.1 t9.2) (Sum.inr 0) m (k, 1) = Sum.inl ((s : Int) + 1)) := by
  intro m
  induction m with
  | zero => intro k h1 h2 h3; omega
  | succ m ih =>
    intro k h1 h2 h3 h4
    by_cases hk : ns ≤ k
    · have hs : Sf_X8_isKnown_44_1 ns fr lt (s : Int) k 1 = .inr (Sum.inr 1) := by
        unfold Sf_X8_isKnown_44_1; rw [if_pos hk]; rfl
      rw [fl_wh_r (step := fun t9 : Int × Int => Sf_X8_isKnown_44_1 ns fr lt (s : Int) t9.1 t9.2) (s := (k, 1)) hs]
      exact Or.inl ⟨fun i hi => h4 i (by omega), rfl⟩
    · have ix : (60 + 8 * (s : Int) + k).toNat = 60 + 8 * s + k.toNat := by omega
      by_cases q : fr (60 + 8 * s + k.toNat) = lt k.toNat
      · have hs : Sf_X8_isKnown_44_1 ns fr lt (s : Int) k 1 = .inl (k + 1, 1) := by
          simp only [Sf_X8_isKnown_44_1, fl_lt]; rw [if_neg hk, if_neg (by decide), ix, if_pos q]; rfl
        rw [fl_wh_l (step := fun t9 : Int × Int => Sf_X8_isKnown_44_1 ns fr lt (s : Int) t9.1 t9.2) (s := (k, 1)) hs]
        refine ih (k + 1) (by omega) (by omega) (by omega) (fun i hi => ?_)
        by_cases hi2 : i = k.toNat
        · rw [hi2]; exact q
        · exact h4 i (by omega)
      · have hs : Sf_X8_isKnown_44_1 ns fr lt (s : Int) k 1 = .inl (k + 1, 0) := by
          simp only [Sf_X8_isKnown_44_1, fl_lt]; rw [if_neg hk, if_neg (by decide), ix, if_neg q]; rfl
        rw [fl_wh_l (step := fun t9 : Int × Int => Sf_X8_isKnown_44_1 ns fr lt (s : Int) t9.1 t9.2) (s := (k, 1)) hs]
        refine Or.inr ⟨fun h => q (h k.toNat (by omega)), ?_⟩
        cases m with
        | zero => omega
        | succ m =>
          have hs2 : Sf_X8_isKnown_44_1 ns fr lt (s : Int) (k + 1) 0 = .inr (Sum.inl ((s : Int) + 1)) := by
            unfold Sf_X8_isKnown_44_1
            by_cases hk2 : ns ≤ k + 1
            · rw [if_pos hk2]; rfl
            · rw [if_neg hk2, if_pos rfl]; rfl
          rw [fl_wh_r (step := fun t9 : Int × Int => Sf_X8_isKnown_44_1 ns fr lt (s : Int) t9.1 t9.2) (s := (k + 1, 0)) hs2]
theorem rp_kn0 {ns : Int} {fr lt : Nat → Int} {s : Nat} : Gf_X8_isKnown_40_1 ns fr lt (s : Int) = Sum.inl ((s : Int) + 1) := by
  have hs2 : Sf_X8_isKnown_44_1 ns fr lt (s : Int) 0 0 = .inr (Sum.inl ((s : Int) + 1)) := by
    unfold Sf_X8_isKnown_44_1
    by_cases hk2 : ns ≤ 0
    · rw [if_pos hk2]; rfl
    · rw [if_neg hk2, if_pos rfl]; rfl
  exact fl_wh_r (n := 8) (d := Sum.inr 0) (step := fun t9 : Int × Int => Sf_X8_isKnown_44_1 ns fr lt (s : Int) t9.1 t9.2) (s := (0, 0)) hs2
/-- is the name known, there -/
theorem rp_knm {ns : Int} {fr lt : Nat → Int} (hn0 : 0 ≤ ns) (hn8 : ns ≤ 8) :
    ((∃ s : Nat, s < 12 ∧ 0 < fr (48 + s) ∧ fr (48 + s) = ns ∧ ∀ i : Nat, i < ns.toNat → fr (60 + 8 * s + i) = lt i) ∧ Ff_X8_isKnown ns fr lt = 1) ∨
    ((∀ s : Nat, s < 12 → 0 < fr (48 + s) → fr (48 + s) = ns → ¬ ∀ i : Nat, i < ns.toNat → fr (60 + 8 * s + i) = lt i) ∧ Ff_X8_isKnown ns fr lt = 0) := by
  have main : ∀ (m : Nat) (j : Nat), 13 ≤ m + j → j ≤ 12 → (∀ s : Nat, s < j → 0 < fr (48 + s) → fr (48 + s) = ns → ¬ ∀ i : Nat, i < ns.toNat → fr (60 + 8 * s + i) = lt i) →
      ((∃ s : Nat, s < 12 ∧ 0 < fr (48 + s) ∧ fr (48 + s) = ns ∧ ∀ i : Nat, i < ns.toNat → fr (60 + 8 * s + i) = lt i) ∧ fl_wh (Sf_X8_isKnown_2_1 ns fr lt) 0 m (j : Int) = 1) ∨
      ((∀ s : Nat, s < 12 → 0 < fr (48 + s) → fr (48 + s) = ns → ¬ ∀ i : Nat, i < ns.toNat → fr (60 + 8 * s + i) = lt i) ∧ fl_wh (Sf_X8_isKnown_2_1 ns fr lt) 0 m (j : Int) = 0) := by
    intro m
    induction m with
    | zero => intro j h1 h2; omega
    | succ m ih =>
      intro j h1 h2 h3
      by_cases hj : 12 ≤ (j : Int)
      · have hs : Sf_X8_isKnown_2_1 ns fr lt (j : Int) = .inr 0 := by
          unfold Sf_X8_isKnown_2_1; rw [if_pos hj]
        rw [fl_wh_r hs]
        exact Or.inr ⟨fun s hs2 => h3 s (by omega), rfl⟩
      · have ix : (48 + (j : Int)).toNat = 48 + j := by omega
        have next : Sf_X8_isKnown_2_1 ns fr lt (j : Int) = .inl ((j : Int) + 1) → (0 < fr (48 + j) → fr (48 + j) = ns → ¬ ∀ i : Nat, i < ns.toNat → fr (60 + 8 * j + i) = lt i) →
            ((∃ s : Nat, s < 12 ∧ 0 < fr (48 + s) ∧ fr (48 + s) = ns ∧ ∀ i : Nat, i < ns.toNat → fr (60 + 8 * s + i) = lt i) ∧ fl_wh (Sf_X8_isKnown_2_1 ns fr lt) 0 (m + 1) (j : Int) = 1) ∨
            ((∀ s : Nat, s < 12 → 0 < fr (48 + s) → fr (48 + s) = ns → ¬ ∀ i : Nat, i < ns.toNat → fr (60 + 8 * s + i) = lt i) ∧ fl_wh (Sf_X8_isKnown_2_1 ns fr lt) 0 (m + 1) (j : Int) = 0) := by
          intro hs hno
          rw [fl_wh_l hs]
          have := ih (j + 1) (by omega) (by omega) (fun s hs2 => by
            by_cases e : s = j
            · subst e; exact hno
            · exact h3 s (by omega))
          rw [show ((j + 1 : Nat) : Int) = (j : Int) + 1 by omega] at this
          exact this
        by_cases h0 : fr (48 + j) ≤ 0
        · refine next ?_ (fun q => by omega)
          simp only [Sf_X8_isKnown_2_1, fl_lt]; rw [if_neg hj, ix, if_pos h0]; exact rp_kn0
        · by_cases hq : fr (48 + j) = ns
          · have hun : Sf_X8_isKnown_2_1 ns fr lt (j : Int) = Gf_X8_isKnown_41_1 ns fr lt (j : Int) 1 := by
              simp only [Sf_X8_isKnown_2_1, fl_lt]; rw [if_neg hj, ix, if_neg h0, if_pos hq]
            rcases rp_kin (ns := ns) (fr := fr) (lt := lt) (s := j) hn0 9 0 (by omega) (by omega) hn0 (fun i hi => by omega) with ⟨a, b⟩ | ⟨a, b⟩
            · rw [fl_wh_r (hun.trans b)]
              exact Or.inl ⟨⟨j, by omega, by omega, hq, a⟩, rfl⟩
            · exact next (hun.trans b) (fun _ _ => a)
          · refine next ?_ (fun _ q => absurd q hq)
            simp only [Sf_X8_isKnown_2_1, fl_lt]; rw [if_neg hj, ix, if_neg h0, if_neg hq]; exact rp_kn0
  exact main 13 0 (by omega) (by omega) (fun s hs => by omega)

theorem rp_nnl {a : Nat} {e en ns fa pl : Int} {lt tm fr : Nat → Int} (hn0 : 0 ≤ ns) : ∀ (m : Nat) (j : Int) (f : Nat → Int), ns + 1 - j ≤ (m : Int) → 0 ≤ j → j ≤ ns → (∀ i : Nat, f i = if 60 + 8 * a ≤ i ∧ i < 60 + 8 * a + j.toNat then lt (i - (60 + 8 * a)) else fr i) →
    ∃ frL : Nat → Int, (∀ i : Nat, frL i = if 60 + 8 * a ≤ i ∧ i < 60 + 8 * a + ns.toNat then lt (i - (60 + 8 * a)) else fr i) ∧
      fl_wh (fun t9 => SfG_X8_newName_103_1 (a : Int) e en ns fa pl lt tm t9.1 t9.2) (0, 0, 0, 0, 0, 0, 0, 0, (fun _ => 0), (fun _ => 0)) m (j, f) = fl_c6 (Ff_X8_next e en tm lt) (fun x1 x2 x3 x4 x5 x6 => (x1, x2, x3, x4, x5, fa, pl, 0, x6, fl_up frL (48 + a) ns)) := by
  intro m
  induction m with
  | zero => intro j f h1 h2 h3; omega
  | succ m ih =>
    intro j f h1 h2 h3 h4
    by_cases hj : ns ≤ j
    · have ix : (48 + (a : Int)).toNat = 48 + a := by omega
      have ej : j = ns := by omega
      have hs : SfG_X8_newName_103_1 (a : Int) e en ns fa pl lt tm j f = .inr (fl_c6 (Ff_X8_next e en tm lt) (fun x1 x2 x3 x4 x5 x6 => (x1, x2, x3, x4, x5, fa, pl, 0, x6, fl_up f (48 + a) ns))) := by
        simp only [SfG_X8_newName_103_1, fl_lt]; rw [if_pos hj, ix]
      rw [fl_wh_r (step := fun t9 : Int × (Nat → Int) => SfG_X8_newName_103_1 (a : Int) e en ns fa pl lt tm t9.1 t9.2) (s := (j, f)) hs]
      exact ⟨f, by rw [← ej]; exact h4, rfl⟩
    · have ix : (60 + 8 * (a : Int) + j).toNat = 60 + 8 * a + j.toNat := by omega
      have hs : SfG_X8_newName_103_1 (a : Int) e en ns fa pl lt tm j f = .inl (j + 1, fl_up f (60 + 8 * a + j.toNat) (lt j.toNat)) := by
        simp only [SfG_X8_newName_103_1, fl_lt]; rw [if_neg hj, ix]
      rw [fl_wh_l (step := fun t9 : Int × (Nat → Int) => SfG_X8_newName_103_1 (a : Int) e en ns fa pl lt tm t9.1 t9.2) (s := (j, f)) hs]
      refine ih (j + 1) _ (by omega) (by omega) (by omega) (fun i => ?_)
      unfold fl_up
      by_cases hi : i = 60 + 8 * a + j.toNat
      · rw [if_pos hi, if_pos (by omega)]; exact congrArg lt (by omega)
      · rw [if_neg hi, h4 i]
        by_cases hi2 : 60 + 8 * a ≤ i ∧ i < 60 + 8 * a + j.toNat
        · rw [if_pos hi2, if_pos (by omega)]
        · rw [if_neg hi2, if_neg (by omega)]
/-- a new name: takeName and newName -/
theorem rp_nn {tp tm : Nat → Int} {e st be tk wd wh at_ en tk2 wm ns c : Int} {lt nm fr : Nat → Int} {a : Nat} (hT : rp_T tp tm e) (he : e ≤ 900) (hK : rp_K e st be tk wd wh at_ en tk2 wm ns lt) (hN : rp_N nm c fr) (ha : a < 12) (hfa : fr (48 + a) = 0) (hc0 : 0 ≤ c) (hc : c ≤ 11) (fn fp fa pl : Int) :
    (∃ nm1 st1 be1 tk1 wd1 wh1 at1 en1 tk3 wm1 ns1 lt1 fr1 z, Ff_X3_takeName fn fp c e st be tk wd wh nm tp = (1, fn, fp, c + 1, st1, be1, tk1, wd1, wh1, nm1) ∧ FfG_X8_newName (a : Int) e at_ en tk2 wm ns fa pl lt fr tm = (at1, en1, tk3, wm1, ns1, fa, pl, 0, lt1, fr1) ∧ rp_K e st1 be1 tk1 wd1 wh1 at1 en1 tk3 wm1 ns1 lt1 ∧ be ≤ st1 ∧ st < be ∧ rp_N nm1 (c + 1) fr1 ∧ (∀ i : Nat, i < 48 → fr1 i = fr i) ∧ (∀ s : Nat, s < 12 → fr1 (48 + s) = if s = a then z else fr (48 + s)) ∧ 0 ≤ z) ∨
    (∃ q st1 be1 tk1 wd1 wh1 nm1 c1 at1 en1 tk3 wm1 ns1 lt1 fr1, Ff_X3_takeName fn fp c e st be tk wd wh nm tp = (0, q, st, c1, st1, be1, tk1, wd1, wh1, nm1) ∧ FfG_X8_newName (a : Int) e at_ en tk2 wm ns fa pl lt fr tm = (at1, en1, tk3, wm1, ns1, q, st, 1, lt1, fr1)) := by
  have hst : st = at_ := hK.1
  have hb0 : 0 ≤ be := hK.2.2.2.1
  have hb1 : be ≤ e := hK.2.2.2.2.1
  have bad : ∀ (h1 : Ff_X3_takeName fn fp c e st be tk wd wh nm tp = Gf_X3_takeName_53_1 c st be tk wd wh nm) (h2 : FfG_X8_newName (a : Int) e at_ en tk2 wm ns fa pl lt fr tm = fl_c2 (FfG_X8_wrong 1 at_) (fun x y => (at_, en, tk2, wm, ns, x, y, 1, lt, fr))), (∃ q st1 be1 tk1 wd1 wh1 nm1 c1 at1 en1 tk3 wm1 ns1 lt1 fr1, Ff_X3_takeName fn fp c e st be tk wd wh nm tp = (0, q, st, c1, st1, be1, tk1, wd1, wh1, nm1) ∧ FfG_X8_newName (a : Int) e at_ en tk2 wm ns fa pl lt fr tm = (at1, en1, tk3, wm1, ns1, q, st, 1, lt1, fr1)) := by
    intro h1 h2
    refine ⟨1, st, be, tk, wd, wh, nm, c, at_, en, tk2, wm, ns, lt, fr, h1, ?_⟩
    rw [h2, hst]; rfl
  by_cases htk : tk = 1
  · have hK' := hK
    obtain ⟨-, -, -, -, -, h6⟩ := hK'
    have h7 : tk2 = 2 ∧ be = en ∧ st < be ∧ 1 ≤ ns ∧ ns ≤ 8 ∧ rp_dg lt ns.toNat ∧ wd = rp_pk lt ns.toNat := by
      rcases h6 with ⟨x, -⟩ | ⟨x, -⟩ | ⟨x, -⟩ | ⟨x, y⟩ | ⟨x, -⟩
      · omega
      · omega
      · omega
      · exact y
      · omega
    obtain ⟨h8, hbe, hlt, hn1, hn8, hdg, hwd⟩ := h7
    have hn0 : 0 ≤ ns := by omega
    have w1 := rp_isw hK (nn := 7) (by decide) (by decide) rp_sw_gallery
    have w2 := rp_isw hK (nn := 3) (by decide) (by decide) rp_sw_law
    have w3 := rp_isw hK (nn := 6) (by decide) (by decide) rp_sw_figure
    have w4 := rp_isw hK (nn := 7) (by decide) (by decide) rp_sw_watcher
    have w5 := rp_isw hK (nn := 4) (by decide) (by decide) rp_sw_seen
    have uc : Ff_X3_takeName fn fp c e st be tk wd wh nm tp = if Ff_X3_isWord tk wd 7 (fl_A (sxc 0)) = 1 then Gf_X3_takeName_53_1 c st be tk wd wh nm else if Ff_X3_isWord tk wd 3 (fl_A (sxc 1)) = 1 then Gf_X3_takeName_53_1 c st be tk wd wh nm else if Ff_X3_isWord tk wd 6 (fl_A (sxc 2)) = 1 then Gf_X3_takeName_53_1 c st be tk wd wh nm else if Ff_X3_isWord tk wd 7 (fl_A (sxc 3)) = 1 then Gf_X3_takeName_53_1 c st be tk wd wh nm else if Ff_X3_isWord tk wd 4 (fl_A (sxc 4)) = 1 then Gf_X3_takeName_53_1 c st be tk wd wh nm else fl_wh (Sf_X3_takeName_61_1 fn fp c e st be tk wd wh nm tp) (0, 0, 0, 0, 0, 0, 0, 0, 0, (fun _ => 0)) 13 0 := by
      unfold Ff_X3_takeName; rw [if_pos htk]; rfl
    have um : FfG_X8_newName (a : Int) e at_ en tk2 wm ns fa pl lt fr tm = if FfG_X8_isWord tk2 ns lt 7 (fl_A (sxc 18)) = 0 then (if FfG_X8_isWord tk2 ns lt 3 (fl_A (sxc 19)) = 0 then (if FfG_X8_isWord tk2 ns lt 6 (fl_A (sxc 20)) = 0 then (if FfG_X8_isWord tk2 ns lt 7 (fl_A (sxc 21)) = 0 then (if FfG_X8_isWord tk2 ns lt 4 (fl_A (sxc 22)) = 0 then (if Ff_X8_isKnown ns fr lt = 1 then fl_c2 (FfG_X8_wrong 3 at_) (fun x y => (at_, en, tk2, wm, ns, x, y, 1, lt, fr)) else fl_wh (fun t9 => SfG_X8_newName_103_1 (a : Int) e en ns fa pl lt tm t9.1 t9.2) (0, 0, 0, 0, 0, 0, 0, 0, (fun _ => 0), (fun _ => 0)) 9 (0, fr)) else fl_c2 (FfG_X8_wrong 1 at_) (fun x y => (at_, en, tk2, wm, ns, x, y, 1, lt, fr))) else fl_c2 (FfG_X8_wrong 1 at_) (fun x y => (at_, en, tk2, wm, ns, x, y, 1, lt, fr))) else fl_c2 (FfG_X8_wrong 1 at_) (fun x y => (at_, en, tk2, wm, ns, x, y, 1, lt, fr))) else fl_c2 (FfG_X8_wrong 1 at_) (fun x y => (at_, en, tk2, wm, ns, x, y, 1, lt, fr))) else fl_c2 (FfG_X8_wrong 1 at_) (fun x y => (at_, en, tk2, wm, ns, x, y, 1, lt, fr)) := by
      unfold FfG_X8_newName; rw [if_pos h8]; rfl
    rcases w1 with ⟨a1, b1⟩ | ⟨a1, b1, -⟩
    rotate_left
    · exact Or.inr (bad (by rw [uc, if_pos a1]) (by rw [um, b1, if_neg (by decide)]))
    rw [a1, if_neg (by decide)] at uc; rw [b1, if_pos rfl] at um
    rcases w2 with ⟨a1, b1⟩ | ⟨a1, b1, -⟩
    rotate_left
    · exact Or.inr (bad (by rw [uc, if_pos a1]) (by rw [um, b1, if_neg (by decide)]))
    rw [a1, if_neg (by decide)] at uc; rw [b1, if_pos rfl] at um
    rcases w3 with ⟨a1, b1⟩ | ⟨a1, b1, -⟩
    rotate_left
    · exact Or.inr (bad (by rw [uc, if_pos a1]) (by rw [um, b1, if_neg (by decide)]))
    rw [a1, if_neg (by decide)] at uc; rw [b1, if_pos rfl] at um
    rcases w4 with ⟨a1, b1⟩ | ⟨a1, b1, -⟩
    rotate_left
    · exact Or.inr (bad (by rw [uc, if_pos a1]) (by rw [um, b1, if_neg (by decide)]))
    rw [a1, if_neg (by decide)] at uc; rw [b1, if_pos rfl] at um
    rcases w5 with ⟨a1, b1⟩ | ⟨a1, b1, -⟩
    rotate_left
    · exact Or.inr (bad (by rw [uc, if_pos a1]) (by rw [um, b1, if_neg (by decide)]))
    rw [a1, if_neg (by decide)] at uc; rw [b1, if_pos rfl] at um
    obtain ⟨n1, n2, n3⟩ := hN
    rcases rp_knc (fn := fn) (fp := fp) (e := e) (st := st) (be := be) (tk := tk) (wd := wd) (wh := wh) (nm := nm) (tp := tp) hc0 (by omega) 13 0 (by omega) (by omega) hc0 (fun i hi => by omega) with ⟨⟨i, i1, i2⟩, kc⟩ | ⟨hno, kc⟩
    · -- told before
      rcases rp_knm (ns := ns) (fr := fr) (lt := lt) hn0 hn8 with ⟨-, km⟩ | ⟨hno, km⟩
      · rw [kc] at uc
        rw [km, if_pos rfl] at um
        refine Or.inr ⟨3, st, be, tk, wd, wh, nm, c, at_, en, tk2, wm, ns, lt, fr, uc, ?_⟩
        rw [um, hst]; rfl
      · exfalso
        obtain ⟨s, s1, s2, s3⟩ := n2 i i1
        rw [i2, hwd] at s3
        obtain ⟨e1, e2⟩ := rp_pk_inj hdg (n1 s s1).2.2 s3
        have h9 := (n1 s s1).1
        exact hno s s1 s2 (by omega) (fun k hk => (e2 k hk).symm)
    · rcases rp_knm (ns := ns) (fr := fr) (lt := lt) hn0 hn8 with ⟨⟨s, s1, s2, s3, s4⟩, km⟩ | ⟨-, km⟩
      · exfalso
        obtain ⟨i, i1, i2⟩ := n3 s s1 s2
        refine hno i i1 ?_
        rw [i2, hwd, s3]
        exact rp_pk_cg s4
      · rw [kc, if_neg (by omega)] at uc
        rw [km, if_neg (by decide)] at um
        obtain ⟨frL, f1, f2⟩ := rp_nnl (a := a) (e := e) (en := en) (ns := ns) (fa := fa) (pl := pl) (lt := lt) (tm := tm) (fr := fr) hn0 9 0 fr (by omega) (by omega) hn0 (fun i => by rw [if_neg (by omega)])
        rw [f2] at um
        obtain ⟨st1, be1, tk1, wd1, wh1, at1, en1, tk3, wm1, ns1, lt1, a1, a2, a3, a4⟩ := rp_adv hT he be wd wh lt hb0 hb1
        rw [hbe] at a2
        have u1 : ∀ s : Nat, s < 12 → fl_up frL (48 + a) ns (48 + s) = if s = a then ns else fr (48 + s) := by
          intro s hs
          unfold fl_up
          by_cases q : s = a
          · rw [if_pos (by omega), if_pos q]
          · rw [if_neg (by omega), if_neg q, f1, if_neg (by omega)]
        have u2 : ∀ s k : Nat, s < 12 → k < 8 → fl_up frL (48 + a) ns (60 + 8 * s + k) = if s = a ∧ k < ns.toNat then lt k else fr (60 + 8 * s + k) := by
          intro s k hs hk
          unfold fl_up
          rw [if_neg (by omega), f1]
          by_cases q : s = a ∧ k < ns.toNat
          · obtain ⟨q1, q2⟩ := q
            subst q1
            rw [if_pos (by omega), if_pos ⟨rfl, q2⟩]
            exact congrArg lt (by omega)
          · rw [if_neg (by omega), if_neg q]
        have u3 : ∀ s : Nat, s < 12 → s ≠ a → ∀ k : Nat, k < (fr (48 + s)).toNat → fr (60 + 8 * s + k) = fl_up frL (48 + a) ns (60 + 8 * s + k) := by
          intro s hs hne k hk
          have h9 := (n1 s hs).2.1
          rw [u2 s k hs (by omega), if_neg (fun q => hne q.1)]
        have u4 : ∀ k : Nat, k < ns.toNat → lt k = fl_up frL (48 + a) ns (60 + 8 * a + k) := by
          intro k hk
          rw [u2 a k ha (by omega), if_pos ⟨rfl, hk⟩]
        refine Or.inl ⟨fl_up nm c.toNat wd, st1, be1, tk1, wd1, wh1, at1, en1, tk3, wm1, ns1, lt1, fl_up frL (48 + a) ns, ns, ?_, ?_, a3, a4, hlt, ⟨?_, ?_, ?_⟩, ?_, u1, hn0⟩
        · rw [uc]; unfold Gf_X3_takeName_127_1; rw [a1]; rfl
        · rw [um, a2]; rfl
        · intro s hs
          rw [u1 s hs]
          by_cases q : s = a
          · rw [if_pos q]
            refine ⟨hn0, hn8, fun k hk => ?_⟩
            rw [q]
            show 97 ≤ fl_up frL (48 + a) ns (60 + 8 * a + k) ∧ fl_up frL (48 + a) ns (60 + 8 * a + k) ≤ 122
            rw [← u4 k hk]; exact hdg k hk
          · rw [if_neg q]
            refine ⟨(n1 s hs).1, (n1 s hs).2.1, fun k hk => ?_⟩
            show 97 ≤ fl_up frL (48 + a) ns (60 + 8 * s + k) ∧ fl_up frL (48 + a) ns (60 + 8 * s + k) ≤ 122
            rw [← u3 s hs q k hk]; exact (n1 s hs).2.2 k hk
        · intro i hi
          by_cases q : i = c.toNat
          · refine ⟨a, ha, ?_, ?_⟩
            · rw [u1 a ha, if_pos rfl]; omega
            · rw [u1 a ha, if_pos rfl]
              unfold fl_up; rw [if_pos q, hwd]
              exact rp_pk_cg u4
          · obtain ⟨s, s1, s2, s3⟩ := n2 i (by omega)
            have hne : s ≠ a := fun h => by rw [h, hfa] at s2; omega
            refine ⟨s, s1, ?_, ?_⟩
            · rw [u1 s s1, if_neg hne]; exact s2
            · rw [u1 s s1, if_neg hne]
              show (if i = c.toNat then wd else nm i) = _
              rw [if_neg q, s3]
              exact rp_pk_cg (u3 s s1 hne)
        · intro s hs hs2
          by_cases q : s = a
          · refine ⟨c.toNat, by omega, ?_⟩
            rw [u1 s hs, if_pos q]
            show (if c.toNat = c.toNat then wd else nm c.toNat) = _
            rw [if_pos rfl, hwd, q]
            exact rp_pk_cg u4
          · rw [u1 s hs, if_neg q] at hs2
            obtain ⟨i, i1, i2⟩ := n3 s hs hs2
            refine ⟨i, by omega, ?_⟩
            rw [u1 s hs, if_neg q]
            show (if i = c.toNat then wd else nm i) = _
            rw [if_neg (by omega), i2]
            exact rp_pk_cg (u3 s hs q)
        · intro i hi
          show (if i = 48 + a then ns else frL i) = fr i
          rw [if_neg (by omega), f1, if_neg (by omega)]
  · refine Or.inr (bad ?_ ?_)
    · unfold Ff_X3_takeName; rw [if_neg htk]
    · have h7 : tk2 ≠ 2 := by
        obtain ⟨-, -, -, -, -, h6⟩ := hK
        rcases h6 with ⟨x, y⟩ | ⟨x, y⟩ | ⟨x, y, -⟩ | ⟨x, y⟩ | ⟨x, y, -⟩
        · omega
        · omega
        · omega
        · exact absurd x htk
        · omega
      unfold FfG_X8_newName; rw [if_neg h7]
end PUE
