section RSE
theorem rs_S_cg {fg sp mi tu sn go ca : Int} {kd pl he st pl1 he1 st1 : Nat → Int} (hf : fg ≤ 9) (hp : ∀ k : Nat, k < 9 → pl1 k = pl k ∧ he1 k = he k) (hs : ∀ k : Nat, k < 23 → st1 k = st k) (h : rs_S fg sp kd mi tu sn go ca pl he st) : rs_S fg sp kd mi tu sn go ca pl1 he1 st1 := by
  obtain ⟨⟨s1, s2, s3, s4, s5⟩, m0, a2, a3, a4, hk⟩ := h
  refine ⟨⟨?_, ?_, ?_, ?_, ?_⟩, m0, a2, a3, a4, fun k hk' => ?_⟩
  · rw [hs 21 (by decide)]; exact s1
  · rw [hs 19 (by decide)]; exact s2
  · rw [hs 20 (by decide)]; exact s3
  · rw [hs 18 (by decide)]; exact s4
  · rw [hs 22 (by decide)]; exact s5
  · have q := hp k (by omega)
    rw [q.1, q.2, hs k (by omega), hs (9 + k) (by omega)]
    exact hk k hk'
/-- a kept scene in its place, and its row there -/
def rs_L (fg sp : Int) (kd : Nat → Int) (gI : Nat → Int) (gF : Nat → Nat → Int) (j : Nat) (row : Nat → Int) : Prop := rs_S fg sp kd (gI (5 * j)) (gI (5 * j + 1)) (gI (5 * j + 2)) (gI (5 * j + 3)) (gI (5 * j + 4)) (gF (2 * j)) (gF (2 * j + 1)) row ∧ gI (5 * j) ≤ 9999
theorem rs_L_of {fg sp m t s g c : Int} {kd gI pl he row row1 : Nat → Int} {gF : Nat → Nat → Int} {j : Nat} (hf : fg ≤ 9) (hP : rs_P gI gF j m t s g c pl he) (hS : rs_S fg sp kd m t s g c pl he row) (hm : m ≤ 9999) (hr : ∀ k : Nat, k < 23 → row1 k = row k) : rs_L fg sp kd gI gF j row1 := by
  obtain ⟨p1, p2, p3, p4, p5, p6⟩ := hP
  unfold rs_L
  rw [p1, p2, p3, p4, p5]
  exact ⟨rs_S_cg hf p6 hr hS, hm⟩
theorem rs_L_to {fg sp m t s g c : Int} {kd gI pl he row row1 : Nat → Int} {gF : Nat → Nat → Int} {j : Nat} (hf : fg ≤ 9) (hP : rs_P gI gF j m t s g c pl he) (h : rs_L fg sp kd gI gF j row) (hr : ∀ k : Nat, k < 23 → row1 k = row k) : rs_S fg sp kd m t s g c pl he row1 ∧ m ≤ 9999 := by
  obtain ⟨p1, p2, p3, p4, p5, p6⟩ := hP
  unfold rs_L at h
  rw [p1, p2, p3, p4, p5] at h
  exact ⟨rs_S_cg hf (fun k hk => ⟨(p6 k hk).1.symm, (p6 k hk).2.symm⟩) hr h.1, h.2⟩
theorem rs_L_same {fg sp : Int} {kd gI gI1 row row1 : Nat → Int} {gF gF1 : Nat → Nat → Int} {j : Nat} (hf : fg ≤ 9) (hI : ∀ x : Nat, x < 5 → gI1 (5 * j + x) = gI (5 * j + x)) (h1 : gF1 (2 * j) = gF (2 * j)) (h2 : gF1 (2 * j + 1) = gF (2 * j + 1)) (h : rs_L fg sp kd gI gF j row) (hr : ∀ k : Nat, k < 23 → row1 k = row k) : rs_L fg sp kd gI1 gF1 j row1 := by
  unfold rs_L at h ⊢
  have e0 : gI1 (5 * j) = gI (5 * j) := hI 0 (by decide)
  rw [e0, hI 1 (by decide), hI 2 (by decide), hI 3 (by decide), hI 4 (by decide), h1, h2]
  exact ⟨rs_S_cg hf (fun _ _ => ⟨rfl, rfl⟩) hr h.1, h.2⟩
/-- what can be undone: here and there -/
def rs_H (fg sp : Int) (kd : Nat → Int) (U L : Int) (gI : Nat → Int) (gF : Nat → Nat → Int) (und : Nat → Int) : Prop := (0 ≤ U ∧ U ≤ 16) ∧ (0 ≤ L ∧ L ≤ 15) ∧ ∀ i : Nat, (i : Int) < U → rs_L fg sp kd gI gF ((L.toNat + 16 - i) % 16) (fun k => und (23 * (U.toNat - 1 - i) + k))
/-- images: here and there -/
def rs_I (fg sp : Int) (kd : Nat → Int) (N : Int) (gI : Nat → Int) (gF : Nat → Nat → Int) (kp : Nat → Int) : Prop := (0 ≤ N ∧ N ≤ 3) ∧ ∀ i : Nat, (i : Int) < N → rs_L fg sp kd gI gF i (fun k => kp (23 * i + k))
theorem rs_cpi {f g : Nat → Int} {sp dp k : Nat} (hk : k < 23) : va_cpy f g sp dp 23 (dp + k) = f (sp + k) := by
  unfold va_cpy
  rw [if_pos (by omega), show dp + k - dp = k by omega]
theorem rs_cpo {f g : Nat → Int} {sp dp k : Nat} (hk : ¬ (dp ≤ k ∧ k < dp + 23)) : va_cpy f g sp dp 23 k = g k := by
  unfold va_cpy
  rw [if_neg hk]
/-- the oldest gives way: there -/
theorem rs_sh2 {U : Int} {st und : Nat → Int} : ∀ (m : Nat) (j : Nat) (u : Nat → Int), 346 ≤ m + j → j ≤ 345 → (∀ k : Nat, k < j → u k = und (k + 23)) → (∀ k : Nat, j ≤ k → u k = und k) →
    ∃ u1, fl_wh (fun t9 : Int × (Nat → Int) => Sf_X8_note_11_1 U st t9.1 t9.2) (0, (fun _ => 0)) m ((j : Int), u) = (U - 1 + 1, va_cpy st u1 0 (23 * (U - 1)).toNat 23) ∧ ∀ k : Nat, k < 345 → u1 k = und (k + 23) := by
  intro m
  induction m with
  | zero => intro j u h1 h2; omega
  | succ m ih =>
    intro j u h1 h2 h3 h4
    by_cases hj : 345 ≤ j
    · refine ⟨u, fl_wh_r (step := fun t9 : Int × (Nat → Int) => Sf_X8_note_11_1 U st t9.1 t9.2) (s := ((j : Int), u)) ?_, fun k hk => h3 k (by omega)⟩
      show Sf_X8_note_11_1 U st (j : Int) u = _
      unfold Sf_X8_note_11_1
      rw [if_pos (by omega)]
      rfl
    · have st1 : Sf_X8_note_11_1 U st (j : Int) u = .inl (((j + 1 : Nat) : Int), fl_up u j (und (j + 23))) := by
        unfold Sf_X8_note_11_1
        rw [if_neg (by omega), fl_lt_eq rfl, fl_lt_eq rfl, fl_lt_eq rfl, fl_lt_eq rfl, show ((j : Int) + 23).toNat = j + 23 by omega, h4 (j + 23) (by omega), Int.toNat_natCast]
        rfl
      obtain ⟨u1, e1, e2⟩ := ih (j + 1) (fl_up u j (und (j + 23))) (by omega) (by omega) (fun k hk => by
        by_cases q : k = j
        · rw [q, rp_up_eq]
        · rw [rp_up_ne _ _ q]; exact h3 k (by omega)) (fun k hk => by rw [rp_up_ne _ _ (by omega)]; exact h4 k (by omega))
      exact ⟨u1, (fl_wh_l (step := fun t9 : Int × (Nat → Int) => Sf_X8_note_11_1 U st t9.1 t9.2) (s := ((j : Int), u)) st1).trans e1, e2⟩
theorem rs_nt {U : Int} (h0 : 0 ≤ U) (h1 : U ≤ 16) (st und : Nat → Int) : ∃ und1, Ff_X8_note U st und = (fl_min (U + 1) 16, und1) ∧ (∀ k : Nat, k < 23 → und1 (23 * ((fl_min (U + 1) 16).toNat - 1) + k) = st k) ∧ ∀ i : Nat, 1 ≤ i → (i : Int) < fl_min (U + 1) 16 → ∀ k : Nat, k < 23 → und1 (23 * ((fl_min (U + 1) 16).toNat - 1 - i) + k) = und (23 * (U.toNat - 1 - (i - 1)) + k) := by
  by_cases hU : U = 16
  · subst hU
    have em : fl_min (16 + 1) 16 = 16 := by decide
    rw [em]
    obtain ⟨u1, e1, e2⟩ := rs_sh2 (U := 16) (st := st) (und := und) 346 0 und (by omega) (by omega) (fun k hk => by omega) (fun k hk => rfl)
    refine ⟨va_cpy st u1 0 (23 * ((16 : Int) - 1)).toNat 23, ?_, ?_, ?_⟩
    · unfold Ff_X8_note
      rw [if_pos rfl]
      exact e1
    · intro k hk
      have := rs_cpi (f := st) (g := u1) (sp := 0) (dp := 345) hk
      rw [Nat.zero_add] at this
      exact this
    · intro i i1 i2 k hk
      have q : 23 * ((16 : Int).toNat - 1 - i) + k = 23 * (15 - i) + k := rfl
      rw [q]
      have c : va_cpy st u1 0 (23 * ((16 : Int) - 1)).toNat 23 (23 * (15 - i) + k) = u1 (23 * (15 - i) + k) := rs_cpo (f := st) (g := u1) (sp := 0) (dp := 345) (by omega)
      rw [c, e2 _ (by omega)]
      have z : 23 * (15 - i) + k + 23 = 23 * ((16 : Int).toNat - 1 - (i - 1)) + k := by
        show 23 * (15 - i) + k + 23 = 23 * (15 - (i - 1)) + k
        omega
      rw [z]
  · have em : fl_min (U + 1) 16 = U + 1 := by unfold fl_min; rw [if_neg (by omega)]
    rw [em]
    refine ⟨va_cpy st und 0 (23 * U).toNat 23, ?_, ?_, ?_⟩
    · unfold Ff_X8_note
      rw [if_neg hU]
      rfl
    · intro k hk
      have := rs_cpi (f := st) (g := und) (sp := 0) (dp := (23 * U).toNat) hk
      rw [Nat.zero_add] at this
      rw [show 23 * ((U + 1).toNat - 1) + k = (23 * U).toNat + k by omega]
      exact this
    · intro i i1 i2 k hk
      rw [rs_cpo (by omega), show 23 * ((U + 1).toNat - 1 - i) + k = 23 * (U.toNat - 1 - (i - 1)) + k by omega]
/-- an act comes: how it is now is kept, here and there -/
theorem rs_H_keep {fg sp m t s g c U L : Int} {kd pl he st und gI : Nat → Int} {gF : Nat → Nat → Int} (hf : fg ≤ 9) (hH : rs_H fg sp kd U L gI gF und) (hS : rs_S fg sp kd m t s g c pl he st) (hm : m ≤ 9999) :
    ∃ U1 L1 gI1 gF1 und1, Ff_X1_keep U L gI m t s g c pl gF he = (U1, L1, gI1, gF1) ∧ Ff_X8_note U st und = (U1, und1) ∧ rs_H fg sp kd U1 L1 gI1 gF1 und1 := by
  obtain ⟨⟨u0, u1⟩, ⟨l0, l1⟩, hk⟩ := hH
  obtain ⟨gI1, gF1, e1, e2, e3⟩ := rs_kp l0 l1 U m t s g c pl he gI gF
  obtain ⟨und1, d1, d2, d3⟩ := rs_nt u0 u1 st und
  have mU : 1 ≤ fl_min (U + 1) 16 ∧ fl_min (U + 1) 16 ≤ 16 ∧ fl_min (U + 1) 16 ≤ U + 1 := by
    unfold fl_min
    split <;> omega
  refine ⟨_, _, gI1, gF1, und1, e1, d1, ⟨by omega, mU.2.1⟩, ⟨by omega, by omega⟩, fun i hi => ?_⟩
  by_cases i0 : i = 0
  · subst i0
    have eL : (((L + 1) % 16).toNat + 16 - 0) % 16 = ((L + 1) % 16).toNat := by omega
    rw [eL]
    exact rs_L_of hf e2 hS hm (fun k hk' => d2 k hk')
  · have hi1 : ((i - 1 : Nat) : Int) < U := by omega
    have eL : (((L + 1) % 16).toNat + 16 - i) % 16 = (L.toNat + 16 - (i - 1)) % 16 := by omega
    have hne : (L.toNat + 16 - (i - 1)) % 16 ≠ ((L + 1) % 16).toNat := by omega
    rw [eL]
    obtain ⟨q1, q2, q3⟩ := e3 _ (by omega) hne
    exact rs_L_same hf q1 q2 q3 (hk (i - 1) hi1) (fun k hk' => d3 i (by omega) hi k hk')
/-- one is undone, here and there -/
theorem rs_H_undo {fg sp U L : Int} {kd und gI st : Nat → Int} {gF : Nat → Nat → Int} (hf : fg ≤ 9) (hH : rs_H fg sp kd U L gI gF und) (hU : ¬ U = 0) (m t s g c : Int) (pl he : Nat → Int) :
    ∃ m1 t1 s1 g1 c1 pl1 he1, Ff_X1_takeLatest U L m t s g c gI gF pl he = (1, U - 1, (L + 15) % 16, m1, t1, s1, g1, c1, pl1, he1) ∧ rs_S fg sp kd m1 t1 s1 g1 c1 pl1 he1 (va_cpy und st (23 * (U - 1)).toNat 0 23) ∧ m1 ≤ 9999 ∧ rs_H fg sp kd (U - 1) ((L + 15) % 16) gI gF und := by
  obtain ⟨⟨u0, u1⟩, ⟨l0, l1⟩, hk⟩ := hH
  obtain ⟨m1, t1, s1, g1, c1, pl1, he1, e1, e2⟩ := rs_tk hU l0 l1 m t s g c pl he gI gF
  have h0 := hk 0 (by omega)
  have eL : (L.toNat + 16 - 0) % 16 = L.toNat := by omega
  rw [eL] at h0
  obtain ⟨q1, q2⟩ := rs_L_to (row1 := va_cpy und st (23 * (U - 1)).toNat 0 23) hf e2 h0 (fun k hk' => by
    have := rs_cpi (f := und) (g := st) (sp := (23 * (U - 1)).toNat) (dp := 0) hk'
    rw [Nat.zero_add] at this
    rw [this]
    show und ((23 * (U - 1)).toNat + k) = und (23 * (U.toNat - 1 - 0) + k)
    rw [show (23 * (U - 1)).toNat + k = 23 * (U.toNat - 1 - 0) + k by omega])
  refine ⟨m1, t1, s1, g1, c1, pl1, he1, e1, q1, q2, ⟨by omega, by omega⟩, ⟨by omega, by omega⟩, fun i hi => ?_⟩
  have := hk (i + 1) (by omega)
  rw [show (L.toNat + 16 - (i + 1)) % 16 = (((L + 15) % 16).toNat + 16 - i) % 16 by omega, show U.toNat - 1 - (i + 1) = (U - 1).toNat - 1 - i by omega] at this
  exact this
/-- an image more, here and there -/
theorem rs_I_add {fg sp m t s g c N : Int} {kd pl he st kp gI : Nat → Int} {gF : Nat → Nat → Int} (hf : fg ≤ 9) (hI : rs_I fg sp kd N gI gF kp) (hN : N ≤ 2) (hS : rs_S fg sp kd m t s g c pl he st) (hm : m ≤ 9999) :
    ∃ gI1 gF1, Ff_X1_addImage N gI m t s g c pl gF he = (N, N + 1, gI1, gF1) ∧ rs_I fg sp kd (N + 1) gI1 gF1 (va_cpy st kp 0 (23 * N).toNat 23) := by
  obtain ⟨⟨n0, n1⟩, hk⟩ := hI
  obtain ⟨gI1, gF1, e1, e2, e3⟩ := rs_im n0 hN m t s g c pl he gI gF
  refine ⟨gI1, gF1, e1, ⟨by omega, by omega⟩, fun i hi => ?_⟩
  by_cases q : i = N.toNat
  · rw [← q] at e2
    refine rs_L_of hf e2 hS hm (fun k hk' => ?_)
    have := rs_cpi (f := st) (g := kp) (sp := 0) (dp := (23 * N).toNat) hk'
    rw [Nat.zero_add] at this
    show va_cpy st kp 0 (23 * N).toNat 23 (23 * i + k) = st k
    rw [show 23 * i + k = (23 * N).toNat + k by omega]
    exact this
  · obtain ⟨q1, q2, q3⟩ := e3 i (by omega) q
    exact rs_L_same hf q1 q2 q3 (hk i (by omega)) (fun k hk' => rs_cpo (by omega))
/-- back to an image, here and there -/
theorem rs_I_back {fg sp N a : Int} {kd kp gI st : Nat → Int} {gF : Nat → Nat → Int} (hf : fg ≤ 9) (hI : rs_I fg sp kd N gI gF kp) (h0 : 0 ≤ a) (h1 : a < N) (U m t s g c : Int) (pl he : Nat → Int) :
    ∃ m1 t1 s1 g1 c1 pl1 he1, Ff_X1_goBack a U N m t s g c gI gF pl he = (1, 0, m1, t1, s1, g1, c1, pl1, he1) ∧ rs_S fg sp kd m1 t1 s1 g1 c1 pl1 he1 (va_cpy kp st (23 * a).toNat 0 23) ∧ m1 ≤ 9999 := by
  obtain ⟨⟨n0, n1⟩, hk⟩ := hI
  obtain ⟨m1, t1, s1, g1, c1, pl1, he1, e1, e2⟩ := rs_bk h0 h1 n1 U m t s g c pl he gI gF
  obtain ⟨q1, q2⟩ := rs_L_to (row1 := va_cpy kp st (23 * a).toNat 0 23) hf e2 (hk a.toNat (by omega)) (fun k hk' => by
    have := rs_cpi (f := kp) (g := st) (sp := (23 * a).toNat) (dp := 0) hk'
    rw [Nat.zero_add] at this
    rw [this]
    show kp ((23 * a).toNat + k) = kp (23 * a.toNat + k)
    rw [show (23 * a).toNat + k = 23 * a.toNat + k by omega])
  exact ⟨m1, t1, s1, g1, c1, pl1, he1, e1, q1, q2⟩
end RSE
