section PUA
/-- letters packed as a number of base 256 -/
def rp_pk (f : Nat → Int) : Nat → Int
  | 0 => 0
  | n + 1 => rp_pk f n * 256 + f n
def rp_dg (f : Nat → Int) (n : Nat) : Prop := ∀ k : Nat, k < n → 97 ≤ f k ∧ f k ≤ 122
theorem rp_dg_le {f : Nat → Int} {n m : Nat} (h : rp_dg f n) (hm : m ≤ n) : rp_dg f m := fun k hk => h k (by omega)
theorem rp_pk_lo {f : Nat → Int} {n : Nat} (h : rp_dg f n) : 0 ≤ rp_pk f n := by
  induction n with
  | zero => exact Int.le_refl _
  | succ n ih =>
    have h1 := ih (rp_dg_le h (by omega))
    have h2 := h n (by omega)
    show 0 ≤ rp_pk f n * 256 + f n
    omega
theorem rp_pk_hi {f : Nat → Int} {n : Nat} (h : rp_dg f (n + 1)) : rp_pk f (n + 1) < 123 * 256 ^ n := by
  induction n with
  | zero =>
    have h2 := h 0 (by omega)
    show 0 * 256 + f 0 < 123 * 256 ^ 0
    have e : (256 : Int) ^ 0 = 1 := rfl
    rw [e]; omega
  | succ n ih =>
    have h1 := ih (rp_dg_le h (by omega))
    have h2 := h (n + 1) (by omega)
    show rp_pk f (n + 1) * 256 + f (n + 1) < 123 * 256 ^ (n + 1)
    rw [Int.pow_succ]
    generalize (256 : Int) ^ n = q at h1 ⊢
    omega
theorem rp_pk_7 {f : Nat → Int} {n : Nat} (h : rp_dg f n) (hn : n ≤ 7) : rp_pk f n * 256 + 122 < 9223372036854775808 := by
  rcases (show n = 0 ∨ n = 1 ∨ n = 2 ∨ n = 3 ∨ n = 4 ∨ n = 5 ∨ n = 6 ∨ n = 7 by omega) with rfl | rfl | rfl | rfl | rfl | rfl | rfl | rfl
  · show (0 : Int) * 256 + 122 < 9223372036854775808
    decide
  all_goals
    have h1 := rp_pk_hi h
    simp only [Nat.reduceAdd, Int.reducePow, Int.reduceMul] at h1
    omega
theorem rp_pk_cg {f g : Nat → Int} {n : Nat} (h : ∀ k : Nat, k < n → f k = g k) : rp_pk f n = rp_pk g n := by
  induction n with
  | zero => rfl
  | succ n ih =>
    show rp_pk f n * 256 + f n = rp_pk g n * 256 + g n
    rw [ih (fun k hk => h k (by omega)), h n (by omega)]
theorem rp_pk_inj {f g : Nat → Int} : ∀ {n m : Nat}, rp_dg f n → rp_dg g m → rp_pk f n = rp_pk g m → n = m ∧ ∀ k : Nat, k < n → f k = g k := by
  intro n
  induction n with
  | zero =>
    intro m h1 h2 he
    cases m with
    | zero => exact ⟨rfl, fun k hk => by omega⟩
    | succ m =>
      have h3 := rp_pk_lo (rp_dg_le h2 (m := m) (by omega))
      have h4 := h2 m (by omega)
      have h5 : (0 : Int) = rp_pk g m * 256 + g m := he
      omega
  | succ n ih =>
    intro m h1 h2 he
    have h3 := rp_pk_lo (rp_dg_le h1 (m := n) (by omega))
    have h4 := h1 n (by omega)
    cases m with
    | zero =>
      have h5 : rp_pk f n * 256 + f n = (0 : Int) := he
      omega
    | succ m =>
      have h5 := h2 m (by omega)
      have h6 : rp_pk f n * 256 + f n = rp_pk g m * 256 + g m := he
      have h7 : rp_pk f n = rp_pk g m := by omega
      have h8 : f n = g m := by omega
      obtain ⟨e1, e2⟩ := ih (rp_dg_le h1 (by omega)) (rp_dg_le h2 (m := m) (by omega)) h7
      subst e1
      refine ⟨rfl, fun k hk => ?_⟩
      by_cases hk2 : k = n
      · subst hk2; exact h8
      · exact e2 k (by omega)
theorem rp_push {w c : Int} (hw : 0 ≤ w) (hc : 0 ≤ c) (hc2 : c < 256) (h : w * 256 + c < 9223372036854775808) : fl_lor (fl_lshl w 8) c = w * 256 + c := by
  unfold fl_lor fl_lshl
  rw [Int64.ofInt_toInt]
  have e0 : ((Int32.ofInt 8).toInt64 &&& 63 : Int64) = 8 := by decide
  rw [e0]
  have e1 : (Int64.ofInt w <<< (8 : Int64)).toBitVec = (Int64.ofInt w).toBitVec <<< (8 : Nat) := by
    rw [Int64.toBitVec_shiftLeft]; rfl
  have e2 : (Int64.ofInt w).toBitVec.toNat = w.toNat := by
    show (BitVec.ofInt 64 w).toNat = w.toNat
    rw [BitVec.toNat_ofInt]; omega
  have e3 : (Int64.ofInt c).toBitVec.toNat = c.toNat := by
    show (BitVec.ofInt 64 c).toNat = c.toNat
    rw [BitVec.toNat_ofInt]; omega
  have e4 : ((Int64.ofInt w <<< (8 : Int64)) ||| Int64.ofInt c).toBitVec.toNat = w.toNat * 256 + c.toNat := by
    rw [Int64.toBitVec_or, BitVec.toNat_or, e1, BitVec.toNat_shiftLeft, e2, e3]
    have h1 : w.toNat <<< 8 = w.toNat * 256 := by rw [Nat.shiftLeft_eq]
    have h2 : w.toNat <<< 8 % 2 ^ 64 = w.toNat <<< 8 := by
      apply Nat.mod_eq_of_lt; rw [h1]; omega
    rw [h2, ← Nat.shiftLeft_add_eq_or_of_lt (by omega : c.toNat < 2 ^ 8), h1]
  show (((Int64.ofInt w <<< (8 : Int64)) ||| Int64.ofInt c).toBitVec).toInt = _
  rw [BitVec.toInt_eq_toNat_of_lt (by rw [e4]; omega), e4]
  omega
/-- THE TAPE here and there: bytes as signed numbers, and as numbers 0 .. 255 -/
def rp_T (tp tm : Nat → Int) (e : Int) : Prop := ∀ i : Nat, (i : Int) < e → (tm i = tp i ∧ 0 ≤ tp i) ∨ (tp i < 0 ∧ 128 ≤ tm i)
theorem rp_see {tm : Nat → Int} {e p : Int} (hp : ¬ e ≤ p) : Ff_X8_see p e tm = tm p.toNat := by
  unfold Ff_X8_see; rw [if_neg hp]; rfl
theorem rp_word {tp tm : Nat → Int} {e s0 : Int} (hT : rp_T tp tm e) (h0 : 0 ≤ s0) : ∀ (n : Nat) (p w ns : Int) (lt : Nat → Int), e + 1 - p ≤ (n : Int) → s0 ≤ p → p ≤ e → ns = p - s0 → (ns ≤ 8 → rp_dg lt ns.toNat ∧ w = rp_pk lt ns.toNat) →
    ∃ be tk wd tk2 ns2 lt2, fl_wh (fun t9 => Sf_X3_scanWord_5_1 e s0 tp t9.1 t9.2) (0, 0, 0) n (p, w) = (be, tk, wd) ∧ fl_wh (fun t9 => Sf_X8_next_67_1 e tm s0 t9.1 t9.2.1 t9.2.2) (0, 0, 0, 0, 0, (fun _ => 0)) n (p, ns, lt) = (s0, be, tk2, 0, ns2, lt2) ∧ p ≤ be ∧ be ≤ e ∧ (p < e → 97 ≤ tp p.toNat → tp p.toNat ≤ 122 → p < be) ∧
      ((tk = 1 ∧ tk2 = 2 ∧ ns2 = be - s0 ∧ ns2 ≤ 8 ∧ rp_dg lt2 ns2.toNat ∧ wd = rp_pk lt2 ns2.toNat) ∨ (tk = 4 ∧ tk2 = 1)) := by
  intro n
  induction n with
  | zero => intro p w ns lt hn h1 h2 h3 h4; omega
  | succ n ih =>
    intro p w ns lt hn h1 h2 h3 h4
    have hend : ∀ (hx : ¬ (p < e ∧ 97 ≤ tp p.toNat ∧ tp p.toNat ≤ 122)) (hc : Sf_X3_scanWord_5_1 e s0 tp p w = .inr (Gf_X3_scanWord_79_1 s0 p w)) (hm : Sf_X8_next_67_1 e tm s0 p ns lt = .inr (if ns ≤ 8 then (s0, p, 2, 0, ns, lt) else (s0, p, 1, 0, ns, lt))),
        ∃ be tk wd tk2 ns2 lt2, fl_wh (fun t9 => Sf_X3_scanWord_5_1 e s0 tp t9.1 t9.2) (0, 0, 0) (n + 1) (p, w) = (be, tk, wd) ∧ fl_wh (fun t9 => Sf_X8_next_67_1 e tm s0 t9.1 t9.2.1 t9.2.2) (0, 0, 0, 0, 0, (fun _ => 0)) (n + 1) (p, ns, lt) = (s0, be, tk2, 0, ns2, lt2) ∧ p ≤ be ∧ be ≤ e ∧ (p < e → 97 ≤ tp p.toNat → tp p.toNat ≤ 122 → p < be) ∧
          ((tk = 1 ∧ tk2 = 2 ∧ ns2 = be - s0 ∧ ns2 ≤ 8 ∧ rp_dg lt2 ns2.toNat ∧ wd = rp_pk lt2 ns2.toNat) ∨ (tk = 4 ∧ tk2 = 1)) := by
      intro hx hc hm
      rw [fl_wh_r (step := fun t9 : Int × Int => Sf_X3_scanWord_5_1 e s0 tp t9.1 t9.2) (s := (p, w)) hc, fl_wh_r (step := fun t9 : Int × Int × (Nat → Int) => Sf_X8_next_67_1 e tm s0 t9.1 t9.2.1 t9.2.2) (s := (p, ns, lt)) hm]
      by_cases h8 : ns ≤ 8
      · obtain ⟨a, b⟩ := h4 h8
        refine ⟨p, 1, w, 2, ns, lt, ?_, ?_, Int.le_refl _, h2, fun x1 x2 x3 => absurd ⟨x1, x2, x3⟩ hx, Or.inl ⟨rfl, rfl, h3, h8, a, b⟩⟩
        · show (if 8 < p - s0 then (p, 4, w) else (p, 1, w)) = _
          rw [if_neg (by omega)]
        · rw [if_pos h8]
      · refine ⟨p, 4, w, 1, ns, lt, ?_, ?_, Int.le_refl _, h2, fun x1 x2 x3 => absurd ⟨x1, x2, x3⟩ hx, Or.inr ⟨rfl, rfl⟩⟩
        · show (if 8 < p - s0 then (p, 4, w) else (p, 1, w)) = _
          rw [if_pos (by omega)]
        · rw [if_neg h8]
    by_cases hp : e ≤ p
    · exact hend (fun q => by omega) (by unfold Sf_X3_scanWord_5_1; rw [if_pos hp]) (by simp [Sf_X8_next_67_1, fl_lt, Ff_X8_isSmall, hp])
    · have hlt : p < e := Int.not_le.mp hp
      have hTp := hT p.toNat (by omega)
      obtain ⟨cp, hcp⟩ : ∃ c9, tp p.toNat = c9 := ⟨_, rfl⟩
      obtain ⟨mp, hmp⟩ : ∃ c9, tm p.toNat = c9 := ⟨_, rfl⟩
      rw [hcp, hmp] at hTp
      by_cases hsm : 97 ≤ cp ∧ cp ≤ 122
      · have hme : mp = cp := by omega
        have n1 : ¬ cp < 97 := by omega
        have n2 : ¬ 122 < cp := by omega
        have hc : Sf_X3_scanWord_5_1 e s0 tp p w = .inl (p + 1, fl_lor (fl_lshl w 8) cp) := by
          simp only [Sf_X3_scanWord_5_1, fl_lt]
          rw [if_neg hp, hcp, if_neg n1, if_neg n2]
        have hm : ∃ lt', Sf_X8_next_67_1 e tm s0 p ns lt = .inl (p + 1, ns + 1, lt') ∧ (ns ≤ 7 → lt' = fl_up lt ns.toNat cp) := by
          have hs : Ff_X8_isSmall mp = 1 := by unfold Ff_X8_isSmall; rw [hme, if_neg n1, if_neg n2]
          simp only [Sf_X8_next_67_1, fl_lt]
          rw [if_neg hp, rp_see hp, hmp, hs, if_pos rfl, hme]
          by_cases h8 : 8 ≤ ns
          · rw [if_pos h8]; exact ⟨_, rfl, fun h => by omega⟩
          · rw [if_neg h8, if_neg hp]; exact ⟨_, rfl, fun _ => rfl⟩
        obtain ⟨lt', hm, hl'⟩ := hm
        rw [fl_wh_l (step := fun t9 : Int × Int => Sf_X3_scanWord_5_1 e s0 tp t9.1 t9.2) (s := (p, w)) hc, fl_wh_l (step := fun t9 : Int × Int × (Nat → Int) => Sf_X8_next_67_1 e tm s0 t9.1 t9.2.1 t9.2.2) (s := (p, ns, lt)) hm]
        obtain ⟨be, tk, wd, tk2, ns2, lt2, a1, a2, a3, a4, -, a5⟩ := ih (p + 1) (fl_lor (fl_lshl w 8) cp) (ns + 1) lt' (by omega) (by omega) (by omega) (by omega) (by
          intro h8
          obtain ⟨b1, b2⟩ := h4 (by omega)
          have b3 := hl' (by omega)
          have b4 : (ns + 1).toNat = ns.toNat + 1 := by omega
          have b5 : ∀ k : Nat, k < ns.toNat → lt' k = lt k := fun k hk => by rw [b3]; unfold fl_up; rw [if_neg (by omega)]
          have b6 : lt' ns.toNat = cp := by rw [b3]; unfold fl_up; rw [if_pos rfl]
          rw [b4]
          constructor
          · intro k hk
            by_cases hk2 : k = ns.toNat
            · rw [hk2, b6]; exact hsm
            · rw [b5 k (by omega)]; exact b1 k (by omega)
          · show _ = rp_pk lt' ns.toNat * 256 + lt' ns.toNat
            rw [b6, rp_pk_cg b5, ← b2]
            have q1 := rp_pk_lo b1
            have q2 := rp_pk_7 b1 (by omega)
            exact rp_push (by omega) (by omega) (by omega) (by omega))
        exact ⟨be, tk, wd, tk2, ns2, lt2, a1, a2, by omega, a4, fun _ _ _ => by omega, a5⟩
      · refine hend (fun q => hsm (by rw [hcp] at q; exact q.2)) ?_ ?_
        · simp only [Sf_X3_scanWord_5_1, fl_lt]
          rw [if_neg hp, hcp]
          by_cases n1 : cp < 97
          · rw [if_pos n1]
          · rw [if_neg n1, if_pos (by omega)]
        · have hs : ¬ Ff_X8_isSmall mp = 1 := by
            unfold Ff_X8_isSmall
            by_cases n1 : mp < 97
            · rw [if_pos n1]; decide
            · rw [if_neg n1, if_pos (show 122 < mp by omega)]; decide
          simp only [Sf_X8_next_67_1, fl_lt]
          rw [if_neg hp, rp_see hp, hmp, if_neg hs]
end PUA
