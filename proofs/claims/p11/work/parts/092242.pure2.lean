section PUB
theorem rp_ofi {x : Int} (h1 : -2147483648 ≤ x) (h2 : x ≤ 2147483647) : (Int32.ofInt x).toInt = x := by
  rw [Int32.toInt_ofInt]; exact Int.bmod_eq_of_le (by have e : (Int32.size : Nat) = 4294967296 := rfl; omega) (by have e : (Int32.size : Nat) = 4294967296 := rfl; omega)
theorem rp_iadd {x y : Int} (h1 : -2147483648 ≤ x) (h2 : x ≤ 2147483647) (h3 : -2147483648 ≤ y) (h4 : y ≤ 2147483647) (h5 : -2147483648 ≤ x + y) (h6 : x + y ≤ 2147483647) : fl_iadd x y = x + y := by
  unfold fl_iadd
  rw [Int32.toInt_add, rp_ofi h1 h2, rp_ofi h3 h4]; exact Int.bmod_eq_of_le (by omega) (by omega)
theorem rp_isub {x y : Int} (h1 : -2147483648 ≤ x) (h2 : x ≤ 2147483647) (h3 : -2147483648 ≤ y) (h4 : y ≤ 2147483647) (h5 : -2147483648 ≤ x - y) (h6 : x - y ≤ 2147483647) : fl_isub x y = x - y := by
  unfold fl_isub
  rw [Int32.toInt_sub, rp_ofi h1 h2, rp_ofi h3 h4]; exact Int.bmod_eq_of_le (by omega) (by omega)
theorem rp_imul10 {y : Int} (h3 : 0 ≤ y) (h4 : y ≤ 9999) : fl_imul 10 y = 10 * y := by
  unfold fl_imul
  rw [Int32.toInt_mul, rp_ofi (by omega) (by omega), rp_ofi (by omega) (by omega)]; exact Int.bmod_eq_of_le (by omega) (by omega)
theorem rp_whole {tp tm : Nat → Int} {lt : Nat → Int} {e s0 : Int} (hT : rp_T tp tm e) (h0 : 0 ≤ s0) (he : e ≤ 900) : ∀ (n : Nat) (p w q wm : Int), e + 1 - p ≤ (n : Int) → s0 ≤ p → p ≤ e → q = p - s0 → (q ≤ 3 → w = wm ∧ 0 ≤ wm ∧ wm ≤ 999 ∧ (q ≤ 2 → wm ≤ 99) ∧ (q ≤ 1 → wm ≤ 9) ∧ (q ≤ 0 → wm = 0)) →
    ∃ be tk wd tk2 wm2, fl_wh (fun t9 => Sf_X3_scanWhole_5_1 e s0 tp t9.1 t9.2) (0, 0, 0) n (p, w) = (be, tk, wd) ∧ fl_wh (fun t9 => Sf_X8_next_152_1 e tm lt s0 t9.1 t9.2.1 t9.2.2) (0, 0, 0, 0, 0, (fun _ => 0)) n (q, p, wm) = (s0, be, tk2, wm2, 0, lt) ∧ p ≤ be ∧ be ≤ e ∧ (p < e → 48 ≤ tp p.toNat → tp p.toNat ≤ 57 → p < be) ∧
      ((tk = 2 ∧ tk2 = 3 ∧ wd = wm2 ∧ 0 ≤ wm2 ∧ wm2 ≤ 999) ∨ (tk = 4 ∧ tk2 = 1)) := by
  intro n
  induction n with
  | zero => intro p w q wm hn h1 h2 h3 h4; omega
  | succ n ih =>
    intro p w q wm hn h1 h2 h3 h4
    have hend : ∀ (hx : ¬ (p < e ∧ 48 ≤ tp p.toNat ∧ tp p.toNat ≤ 57)) (hc : Sf_X3_scanWhole_5_1 e s0 tp p w = .inr (Gf_X3_scanWhole_81_1 s0 p w)) (hm : Sf_X8_next_152_1 e tm lt s0 q p wm = .inr (if q ≤ 3 then (s0, p, 3, wm, 0, lt) else (s0, p, 1, wm, 0, lt))),
        ∃ be tk wd tk2 wm2, fl_wh (fun t9 => Sf_X3_scanWhole_5_1 e s0 tp t9.1 t9.2) (0, 0, 0) (n + 1) (p, w) = (be, tk, wd) ∧ fl_wh (fun t9 => Sf_X8_next_152_1 e tm lt s0 t9.1 t9.2.1 t9.2.2) (0, 0, 0, 0, 0, (fun _ => 0)) (n + 1) (q, p, wm) = (s0, be, tk2, wm2, 0, lt) ∧ p ≤ be ∧ be ≤ e ∧ (p < e → 48 ≤ tp p.toNat → tp p.toNat ≤ 57 → p < be) ∧
          ((tk = 2 ∧ tk2 = 3 ∧ wd = wm2 ∧ 0 ≤ wm2 ∧ wm2 ≤ 999) ∨ (tk = 4 ∧ tk2 = 1)) := by
      intro hx hc hm
      rw [fl_wh_r (step := fun t9 : Int × Int => Sf_X3_scanWhole_5_1 e s0 tp t9.1 t9.2) (s := (p, w)) hc, fl_wh_r (step := fun t9 : Int × Int × Int => Sf_X8_next_152_1 e tm lt s0 t9.1 t9.2.1 t9.2.2) (s := (q, p, wm)) hm]
      by_cases h8 : q ≤ 3
      · obtain ⟨a, b, c, -⟩ := h4 h8
        refine ⟨p, 2, w, 3, wm, ?_, ?_, Int.le_refl _, h2, fun x1 x2 x3 => absurd ⟨x1, x2, x3⟩ hx, Or.inl ⟨rfl, rfl, a, b, c⟩⟩
        · show (if 3 < p - s0 then (p, 4, w) else (p, 2, w)) = _
          rw [if_neg (by omega)]
        · rw [if_pos h8]
      · refine ⟨p, 4, w, 1, wm, ?_, ?_, Int.le_refl _, h2, fun x1 x2 x3 => absurd ⟨x1, x2, x3⟩ hx, Or.inr ⟨rfl, rfl⟩⟩
        · show (if 3 < p - s0 then (p, 4, w) else (p, 2, w)) = _
          rw [if_pos (by omega)]
        · rw [if_neg h8]
    by_cases hp : e ≤ p
    · exact hend (fun q => by omega) (by unfold Sf_X3_scanWhole_5_1; rw [if_pos hp]) (by simp [Sf_X8_next_152_1, fl_lt, Ff_X8_isDigit, hp])
    · have hlt : p < e := Int.not_le.mp hp
      have hTp := hT p.toNat (by omega)
      obtain ⟨cp, hcp⟩ : ∃ c9, tp p.toNat = c9 := ⟨_, rfl⟩
      obtain ⟨mp, hmp⟩ : ∃ c9, tm p.toNat = c9 := ⟨_, rfl⟩
      rw [hcp, hmp] at hTp
      by_cases hsm : 48 ≤ cp ∧ cp ≤ 57
      · have hme : mp = cp := by omega
        have n1 : ¬ cp < 48 := by omega
        have n2 : ¬ 57 < cp := by omega
        have hc : Sf_X3_scanWhole_5_1 e s0 tp p w = .inl (p + 1, fl_isub (fl_iadd (fl_imul 10 w) cp) 48) := by
          simp only [Sf_X3_scanWhole_5_1, fl_lt]
          rw [if_neg hp, hcp, if_neg n1, if_neg n2]
        have hq1 : fl_iadd q 1 = q + 1 := rp_iadd (by omega) (by omega) (by omega) (by omega) (by omega) (by omega)
        have hm : ∃ wm', Sf_X8_next_152_1 e tm lt s0 q p wm = .inl (q + 1, p + 1, wm') ∧ (q ≤ 2 → wm' = fl_isub (fl_iadd (fl_imul 10 wm) cp) 48) := by
          have hs : Ff_X8_isDigit mp = 1 := by unfold Ff_X8_isDigit; rw [hme, if_neg n1, if_neg n2]
          simp only [Sf_X8_next_152_1, Gf_X8_next_188_1, fl_lt]
          rw [if_neg hp, rp_see hp, hmp, hs, if_pos rfl, hme, hq1]
          by_cases h8 : 3 ≤ q
          · rw [if_pos h8]; exact ⟨_, rfl, fun h => by omega⟩
          · rw [if_neg h8, if_neg hp]; exact ⟨_, rfl, fun _ => rfl⟩
        obtain ⟨wm', hm, hl'⟩ := hm
        rw [fl_wh_l (step := fun t9 : Int × Int => Sf_X3_scanWhole_5_1 e s0 tp t9.1 t9.2) (s := (p, w)) hc, fl_wh_l (step := fun t9 : Int × Int × Int => Sf_X8_next_152_1 e tm lt s0 t9.1 t9.2.1 t9.2.2) (s := (q, p, wm)) hm]
        obtain ⟨be, tk, wd, tk2, wm2, a1, a2, a3, a4, -, a5⟩ := ih (p + 1) (fl_isub (fl_iadd (fl_imul 10 w) cp) 48) (q + 1) wm' (by omega) (by omega) (by omega) (by omega) (by
          intro h8
          obtain ⟨b1, b2, b3, b4, b5, b6⟩ := h4 (by omega)
          have b7 := hl' (by omega)
          have b8 := b4 (by omega)
          rw [b1, b7, rp_imul10 b2 (by omega), rp_iadd (by omega) (by omega) (by omega) (by omega) (by omega) (by omega), rp_isub (by omega) (by omega) (by omega) (by omega) (by omega) (by omega)]
          refine ⟨rfl, by omega, by omega, fun h => ?_, fun h => ?_, fun h => by omega⟩
          · have := b5 (by omega); omega
          · have := b6 (by omega); omega)
        exact ⟨be, tk, wd, tk2, wm2, a1, a2, by omega, a4, fun _ _ _ => by omega, a5⟩
      · refine hend (fun q => hsm (by rw [hcp] at q; exact q.2)) ?_ ?_
        · simp only [Sf_X3_scanWhole_5_1, fl_lt]
          rw [if_neg hp, hcp]
          by_cases n1 : cp < 48
          · rw [if_pos n1]
          · rw [if_neg n1, if_pos (by omega)]
        · have hs : ¬ Ff_X8_isDigit mp = 1 := by
            unfold Ff_X8_isDigit
            by_cases n1 : mp < 48
            · rw [if_pos n1]; decide
            · rw [if_neg n1, if_pos (show 57 < mp by omega)]; decide
          simp only [Sf_X8_next_152_1, fl_lt]
          rw [if_neg hp, rp_see hp, hmp, if_neg hs]
/-- a token here and there -/
def rp_K (e st be tk wd wh at_ en tk2 wm ns : Int) (lt : Nat → Int) : Prop :=
  st = at_ ∧ 0 ≤ st ∧ st ≤ e ∧ 0 ≤ be ∧ be ≤ e ∧
  ((tk = 0 ∧ tk2 = 0) ∨ (tk = 4 ∧ tk2 = 1) ∨ (tk = 3 ∧ tk2 = 59 ∧ be = en ∧ st < be) ∨
   (tk = 1 ∧ tk2 = 2 ∧ be = en ∧ st < be ∧ 1 ≤ ns ∧ ns ≤ 8 ∧ rp_dg lt ns.toNat ∧ wd = rp_pk lt ns.toNat) ∨
   (tk = 2 ∧ tk2 = 3 ∧ be = en ∧ st < be ∧ wh = wm ∧ 0 ≤ wm ∧ wm ≤ 999))
theorem rp_67 : Sf_X8_next_67_3 = Sf_X8_next_67_1 := rfl
theorem rp_152 : Sf_X8_next_152_2 = Sf_X8_next_152_1 := rfl
/-- the next token: advance and next -/
theorem rp_adv {tp tm : Nat → Int} {e : Int} (hT : rp_T tp tm e) (he : e ≤ 900) (b wd wh : Int) (lt : Nat → Int) (hb0 : 0 ≤ b) (hb1 : b ≤ e) :
    ∃ st be tk wd2 wh2 at_ en tk2 wm ns lt2, Ff_X3_advance e b wd wh tp = (st, be, tk, wd2, wh2) ∧ Ff_X8_next e b tm lt = (at_, en, tk2, wm, ns, lt2) ∧ rp_K e st be tk wd2 wh2 at_ en tk2 wm ns lt2 ∧ b ≤ st := by
  unfold Ff_X3_advance Ff_X8_next
  have main : ∀ (n : Nat) (p : Int), e + 1 - p ≤ (n : Int) → 0 ≤ p → p ≤ e → ∃ st be tk wd2 wh2 at_ en tk2 wm ns lt2, fl_wh (Sf_X3_advance_0_1 e wd wh tp) (0, 0, 0, 0, 0) n p = (st, be, tk, wd2, wh2) ∧ fl_wh (Sf_X8_next_5_1 e tm lt) (0, 0, 0, 0, 0, (fun _ => 0)) n p = (at_, en, tk2, wm, ns, lt2) ∧ rp_K e st be tk wd2 wh2 at_ en tk2 wm ns lt2 ∧ p ≤ st := by
    intro n
    induction n with
    | zero => intro p h1 h2 h3; omega
    | succ n ih =>
      intro p h1 h2 h3
      by_cases hp : e ≤ p
      · have hc : Sf_X3_advance_0_1 e wd wh tp p = .inr (p, p, 0, wd, wh) := by
          unfold Sf_X3_advance_0_1 Gf_X3_advance_38_1
          rw [if_pos hp, if_neg (by omega)]
        have hm : Sf_X8_next_5_1 e tm lt p = .inr (p, p, 0, 0, 0, lt) := by
          simp only [Sf_X8_next_5_1, fl_lt]
          rw [if_pos hp, if_pos hp]
        rw [fl_wh_r hc, fl_wh_r hm]
        exact ⟨p, p, 0, wd, wh, p, p, 0, 0, 0, lt, rfl, rfl, ⟨rfl, h2, h3, h2, h3, Or.inl ⟨rfl, rfl⟩⟩, Int.le_refl _⟩
      · have hTp := hT p.toNat (by omega)
        have hlt : p < e := Int.not_le.mp hp
        obtain ⟨cp, hcp⟩ : ∃ c9, tp p.toNat = c9 := ⟨_, rfl⟩
        obtain ⟨mp, hmp⟩ : ∃ c9, tm p.toNat = c9 := ⟨_, rfl⟩
        rw [hcp, hmp] at hTp
        by_cases h32 : cp = 32
        · have hc : Sf_X3_advance_0_1 e wd wh tp p = .inl (p + 1) := by
            simp only [Sf_X3_advance_0_1, fl_lt]
            rw [if_neg hp, hcp, if_pos h32]
          have hm : Sf_X8_next_5_1 e tm lt p = .inl (p + 1) := by
            simp only [Sf_X8_next_5_1, fl_lt]
            rw [if_neg hp, rp_see hp, hmp, if_pos (by omega)]
          rw [fl_wh_l hc, fl_wh_l hm]
          obtain ⟨st, be, tk, wd2, wh2, at_, en, tk2, wm, ns, lt2, a1, a2, a3, a4⟩ := ih (p + 1) (by omega) (by omega) (by omega)
          exact ⟨st, be, tk, wd2, wh2, at_, en, tk2, wm, ns, lt2, a1, a2, a3, by omega⟩
        · have hc : Sf_X3_advance_0_1 e wd wh tp p = .inr (Gf_X3_advance_38_1 e wd wh tp p) := by
            simp only [Sf_X3_advance_0_1, fl_lt]
            rw [if_neg hp, hcp, if_neg h32]
          have hm : Sf_X8_next_5_1 e tm lt p = .inr (if Ff_X8_isSmall mp = 1 then fl_wh (fun t9 => Sf_X8_next_67_1 e tm p t9.1 t9.2.1 t9.2.2) (0, 0, 0, 0, 0, (fun _ => 0)) 901 (p, 0, lt) else if Ff_X8_isDigit mp = 1 then fl_wh (fun t9 => Sf_X8_next_152_1 e tm lt p t9.1 t9.2.1 t9.2.2) (0, 0, 0, 0, 0, (fun _ => 0)) 901 (0, p, 0) else if mp = 59 then (p, p + 1, mp, 0, 0, lt) else (p, p + 1, 1, 0, 0, lt)) := by
            simp only [Sf_X8_next_5_1, fl_lt]
            rw [if_neg hp, rp_see hp, hmp, if_neg (show ¬ mp = 32 by omega), if_neg hp, if_neg (show ¬ mp = -1 by omega)]
            rfl
          rw [fl_wh_r hc, fl_wh_r hm]
          simp only [Gf_X3_advance_38_1, fl_lt]
          rw [if_pos hlt, hcp]
          by_cases h59 : cp = 59
          · have hs : ¬ Ff_X8_isSmall mp = 1 := by
              unfold Ff_X8_isSmall; rw [if_pos (show mp < 97 by omega)]; decide
            have hd : ¬ Ff_X8_isDigit mp = 1 := by
              unfold Ff_X8_isDigit; rw [if_neg (show ¬ mp < 48 by omega), if_pos (show 57 < mp by omega)]; decide
            rw [if_pos h59, if_neg hs, if_neg hd, if_pos (by omega)]
            exact ⟨_, _, _, _, _, _, _, _, _, _, _, rfl, rfl, ⟨rfl, h2, h3, by omega, by omega, Or.inr (Or.inr (Or.inl ⟨rfl, by omega, rfl, by omega⟩))⟩, Int.le_refl _⟩
          · rw [if_neg h59]
            by_cases hsm : 97 ≤ cp ∧ cp ≤ 122
            · have hs : Ff_X8_isSmall mp = 1 := by
                unfold Ff_X8_isSmall; rw [if_neg (show ¬ mp < 97 by omega), if_neg (show ¬ 122 < mp by omega)]
              rw [if_neg (by omega), if_neg (by omega), if_pos hs]
              obtain ⟨be, tk, wd', tk2, ns2, lt2, a1, a2, a3, a4, a6, a5⟩ := rp_word hT h2 901 p 0 0 lt (by omega) (Int.le_refl _) h3 (by omega) (fun _ => ⟨fun k hk => by omega, rfl⟩)
              unfold Ff_X3_scanWord
              rw [a1, a2]
              refine ⟨p, be, tk, wd', wh, p, be, tk2, 0, ns2, lt2, rfl, rfl, ⟨rfl, h2, h3, by omega, a4, ?_⟩, Int.le_refl _⟩
              rcases a5 with ⟨b1, b2, b3, b4, b5, b6⟩ | ⟨b1, b2⟩
              · have hpb := a6 hlt (by rw [hcp]; exact hsm.1) (by rw [hcp]; exact hsm.2)
                exact Or.inr (Or.inr (Or.inr (Or.inl ⟨b1, b2, rfl, hpb, by omega, b4, b5, b6⟩)))
              · exact Or.inr (Or.inl ⟨b1, b2⟩)
            · have hs : ¬ Ff_X8_isSmall mp = 1 := by
                unfold Ff_X8_isSmall
                by_cases n1 : mp < 97
                · rw [if_pos n1]; decide
                · rw [if_neg n1, if_pos (show 122 < mp by omega)]; decide
              have hg : (if cp < 97 then Gf_X3_advance_132_1 e wd wh tp p else if 122 < cp then Gf_X3_advance_132_1 e wd wh tp p else fl_c3 (Ff_X3_scanWord e p p tp) (fun v126na0_9 v126na0_10 v126na0_11 => (p, v126na0_9, v126na0_10, v126na0_11, wh))) = Gf_X3_advance_132_1 e wd wh tp p := by
                by_cases n1 : cp < 97
                · rw [if_pos n1]
                · rw [if_neg n1, if_pos (show 122 < cp by omega)]
              rw [hg, if_neg hs]
              simp only [Gf_X3_advance_132_1, fl_lt]
              rw [hcp]
              by_cases hdg : 48 ≤ cp ∧ cp ≤ 57
              · have hd : Ff_X8_isDigit mp = 1 := by
                  unfold Ff_X8_isDigit; rw [if_neg (show ¬ mp < 48 by omega), if_neg (show ¬ 57 < mp by omega)]
                rw [if_neg (by omega), if_neg (by omega), if_pos hd]
                obtain ⟨be, tk, wd', tk2, wm2, a1, a2, a3, a4, a6, a5⟩ := rp_whole (lt := lt) hT h2 he 901 p 0 0 0 (by omega) (Int.le_refl _) h3 (by omega) (fun _ => ⟨rfl, by omega, by omega, fun _ => by omega, fun _ => by omega, fun _ => rfl⟩)
                unfold Ff_X3_scanWhole
                rw [a1, a2]
                refine ⟨p, be, tk, wd, wd', p, be, tk2, wm2, 0, lt, rfl, rfl, ⟨rfl, h2, h3, by omega, a4, ?_⟩, Int.le_refl _⟩
                rcases a5 with ⟨b1, b2, b3, b4, b5⟩ | ⟨b1, b2⟩
                · refine Or.inr (Or.inr (Or.inr (Or.inr ⟨b1, b2, rfl, ?_, b3, b4, b5⟩)))
                  exact a6 hlt (by rw [hcp]; exact hdg.1) (by rw [hcp]; exact hdg.2)
                · exact Or.inr (Or.inl ⟨b1, b2⟩)
              · have hd : ¬ Ff_X8_isDigit mp = 1 := by
                  unfold Ff_X8_isDigit
                  by_cases n1 : mp < 48
                  · rw [if_pos n1]; decide
                  · rw [if_neg n1, if_pos (show 57 < mp by omega)]; decide
                have hg2 : (if cp < 48 then Gf_X3_advance_167_1 wd wh p else if 57 < cp then Gf_X3_advance_167_1 wd wh p else fl_c3 (Ff_X3_scanWhole e p p tp) (fun v161na0_9 v161na0_10 v161na0_12 => (p, v161na0_9, v161na0_10, wd, v161na0_12))) = (p, p, 4, wd, wh) := by
                  by_cases n1 : cp < 48
                  · rw [if_pos n1]; rfl
                  · rw [if_neg n1, if_pos (show 57 < cp by omega)]; rfl
                rw [hg2, if_neg hd, if_neg (show ¬ mp = 59 by omega)]
                exact ⟨_, _, _, _, _, _, _, _, _, _, _, rfl, rfl, ⟨rfl, h2, h3, h2, h3, Or.inr (Or.inl ⟨rfl, rfl⟩)⟩, Int.le_refl _⟩
  exact main 901 b (by omega) hb0 hb1
end PUB
