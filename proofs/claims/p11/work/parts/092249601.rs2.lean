section RSB
/-- what is said is heard: there -/
theorem rs_spk {c po sd : Int} {wf wt r f t : Nat → Int} (hW : rs_W c po wf wt sd r f t) {row : Nat → Int} {T : Nat} (m0 : 0 ≤ row 21) (m1 : row 21 ≤ 2147483647) (p0 : 0 ≤ row T) (p8 : row T ≤ 8) (x26 : Int) :
    fl_wh (fun t9 : Int × Int => Sf_X8_speakOn_40_1 (T : Int) sd row r t f x26 t9.1 t9.2) (0, (fun _ => 0)) 12 (row T - 1, 0) = if Ff_X0_isHeardAt (row T) (Ff_X6_placesIn (row 21) c po wt wf) = 1 then (x26, fl_up row (9 + T) (fl_or (row (9 + T)) x26)) else (x26, row) := by
  have eT : ((T : Int)).toNat = T := Int.toNat_natCast T
  have eT9 : (9 + (T : Int)).toNat = 9 + T := by omega
  obtain ⟨w1, w2, w3⟩ := rs_wat hW m0 m1
  have w9 := rs_wat9 hW m0 m1
  have stp : ∀ p v : Int, p ≤ row T + 1 → (v = 0 ∨ v = 1) → ∃ v', Sf_X8_speakOn_40_1 (T : Int) sd row r t f x26 p v = .inl (p + 1, v') ∧ (v' = 0 ∨ v' = 1) ∧ (v' = 1 ↔ (v = 1 ∨ (0 ≤ p ∧ Ff_X8_isWatched p (row 21) sd r t f = 1))) := by
    intro p v hp hv
    unfold Sf_X8_speakOn_40_1
    rw [eT, fl_lt_eq rfl, fl_lt_eq rfl, if_neg (by omega)]
    rcases hv with hv | hv
    · rw [if_pos hv]
      by_cases hq : p < 0
      · rw [if_pos hq]
        refine ⟨0, rfl, Or.inl rfl, ⟨fun h => absurd h (by decide), ?_⟩⟩
        rintro (h | h) <;> omega
      · rw [if_neg hq, fl_lt_eq rfl, fl_lt_eq rfl]
        by_cases hw : Ff_X8_isWatched p (row 21) sd r t f = 1
        · rw [if_pos hw]
          exact ⟨1, rfl, Or.inr rfl, ⟨fun _ => Or.inr ⟨by omega, hw⟩, fun _ => rfl⟩⟩
        · rw [if_neg hw]
          refine ⟨0, rfl, Or.inl rfl, ⟨fun h => absurd h (by decide), ?_⟩⟩
          rintro (h | h)
          · omega
          · exact absurd h.2 hw
    · rw [if_neg (by omega)]
      exact ⟨1, rfl, Or.inr rfl, ⟨fun _ => Or.inl hv, fun _ => rfl⟩⟩
  have fin : ∀ v : Int, Sf_X8_speakOn_40_1 (T : Int) sd row r t f x26 (row T + 2) v = .inr (if v = 0 then (x26, row) else (x26, fl_up row (9 + T) (fl_or (row (9 + T)) x26))) := by
    intro v
    unfold Sf_X8_speakOn_40_1
    rw [eT, fl_lt_eq rfl, fl_lt_eq rfl, if_pos (by omega), fl_lt_eq rfl, eT9]
    rfl
  obtain ⟨v1, s1, a1, b1⟩ := stp (row T - 1) 0 (by omega) (Or.inl rfl)
  obtain ⟨v2, s2, a2, b2⟩ := stp (row T) v1 (by omega) a1
  obtain ⟨v3, s3, a3, b3⟩ := stp (row T + 1) v2 (by omega) a2
  rw [fl_wh_l (step := fun t9 : Int × Int => Sf_X8_speakOn_40_1 (T : Int) sd row r t f x26 t9.1 t9.2) s1, show row T - 1 + 1 = row T by omega,
    fl_wh_l (step := fun t9 : Int × Int => Sf_X8_speakOn_40_1 (T : Int) sd row r t f x26 t9.1 t9.2) s2,
    fl_wh_l (step := fun t9 : Int × Int => Sf_X8_speakOn_40_1 (T : Int) sd row r t f x26 t9.1 t9.2) s3, show row T + 1 + 1 = row T + 2 by omega,
    fl_wh_r (step := fun t9 : Int × Int => Sf_X8_speakOn_40_1 (T : Int) sd row r t f x26 t9.1 t9.2) (s := (row T + 2, v3)) (fin v3)]
  have key : v3 = 1 ↔ Ff_X0_isHeardAt (row T) (Ff_X6_placesIn (row 21) c po wt wf) = 1 := by
    rw [b3, b2, b1, rs_hd w1 w2 p0 p8]
    constructor
    · rintro (((h | ⟨h, g⟩) | ⟨h, g⟩) | ⟨h, g⟩)
      · omega
      · exact Or.inl ⟨by omega, by rw [← w3 _ h (by omega)]; exact g⟩
      · exact Or.inr (Or.inl (by rw [← w3 _ h (by omega)]; exact g))
      · by_cases q : row T = 8
        · rw [q] at g
          have g9 : Ff_X8_isWatched 9 (row 21) sd r t f = 1 := g
          omega
        · exact Or.inr (Or.inr ⟨by omega, by rw [← w3 _ h (by omega)]; exact g⟩)
    · rintro (⟨h, g⟩ | g | ⟨h, g⟩)
      · exact Or.inl (Or.inl (Or.inr ⟨by omega, by rw [w3 _ (by omega) (by omega)]; exact g⟩))
      · exact Or.inl (Or.inr ⟨by omega, by rw [w3 _ (by omega) (by omega)]; exact g⟩)
      · exact Or.inr ⟨by omega, by rw [w3 _ (by omega) (by omega)]; exact g⟩
  by_cases q : Ff_X0_isHeardAt (row T) (Ff_X6_placesIn (row 21) c po wt wf) = 1
  · rw [if_pos q, if_neg (by have := key.mpr q; omega)]
  · rw [if_neg q, if_pos (by have : ¬ v3 = 1 := fun z => q (key.mp z); omega)]
/-- the halls as minutes want them -/
def rs_G (fg sp sa ti pu : Int) (kd me r : Nat → Int) : Prop := (fg = r 0 ∧ 2 ≤ fg ∧ fg ≤ 9) ∧ (sp = r 1 ∧ 1 ≤ sp ∧ sp ≤ 20) ∧ (sa = r 2 ∧ 0 ≤ sa ∧ sa ≤ 8) ∧ (ti = r 7 ∧ 0 ≤ ti ∧ ti ≤ 8) ∧ (pu = r 8 ∧ 0 ≤ pu ∧ pu ≤ 8) ∧ ∀ k : Nat, k < 9 → kd k = r (12 + 2 * k) ∧ me k = r (13 + 2 * k) ∧ 0 ≤ me k ∧ me k ≤ 20 ∧ (kd k = 1 → 1 ≤ me k)
/-- a scene here, and its row there -/
def rs_S (fg sp : Int) (kd : Nat → Int) (mi tu sn go ca : Int) (pl he st : Nat → Int) : Prop := (mi = st 21 ∧ tu = st 19 ∧ sn = st 20 ∧ go = st 18 ∧ ca = st 22) ∧ 0 ≤ mi ∧ (0 ≤ tu ∧ tu < fg) ∧ (0 ≤ sn ∧ sn < sp) ∧ (0 ≤ go ∧ go ≤ 511) ∧ ∀ k : Nat, (k : Int) < fg → pl k = st k ∧ he k = st (9 + k) ∧ (0 ≤ pl k ∧ pl k ≤ 8) ∧ (Ff_X7_hasBit go (k : Int) = 1 → kd k = 1)
/-- a step: here -/
def rs_Q (sa mi tu sn go ca c po : Int) (kd me pl wf wt : Nat → Int) : Int × Int × (Nat → Int) := if Ff_X0_stepsIn tu (fl_iadd sn 1) kd me = 1 then Ff_X0_step tu sa mi go ca pl c po wt wf else (go, ca, pl)
def rs_E (mi tu sn c po : Int) (kd me pl wf wt he : Nat → Int) : Nat → Int := if Ff_X0_partSaid tu (fl_iadd sn 1) kd me = 0 then he else if Ff_X0_isHeardAt (pl tu.toNat) (Ff_X6_placesIn mi c po wt wf) = 1 then fl_up he tu.toNat (fl_or (he tu.toNat) (Ff_X0_partSaid tu (fl_iadd sn 1) kd me)) else he
theorem rs_passc (fg sp sa ti pu mi tu sn go ca c po : Int) (kd me pl wf wt he : Nat → Int) : Ff_X0_pass fg sp sa ti pu mi tu sn go ca kd me pl c po wt wf he =
    if fl_iadd sn 1 < sp then (fl_iadd mi 1, tu, fl_iadd sn 1, (rs_Q sa mi tu sn go ca c po kd me pl wf wt).1, (rs_Q sa mi tu sn go ca c po kd me pl wf wt).2.1, (rs_Q sa mi tu sn go ca c po kd me pl wf wt).2.2, rs_E mi tu sn c po kd me (rs_Q sa mi tu sn go ca c po kd me pl wf wt).2.2 wf wt he)
    else (fl_iadd mi 1, Ff_X0_next tu fg ti pu, 0, (rs_Q sa mi tu sn go ca c po kd me pl wf wt).1, (rs_Q sa mi tu sn go ca c po kd me pl wf wt).2.1, (rs_Q sa mi tu sn go ca c po kd me pl wf wt).2.2, rs_E mi tu sn c po kd me (rs_Q sa mi tu sn go ca c po kd me pl wf wt).2.2 wf wt he) := by
  unfold Ff_X0_pass rs_Q rs_E
  simp only [fl_lt, fl_c3, fl_c2, Ff_X5_startTurn]
  by_cases a : Ff_X0_stepsIn tu (fl_iadd sn 1) kd me = 1
  · simp only [if_pos a]
    generalize Ff_X0_step tu sa mi go ca pl c po wt wf = q
    by_cases b : Ff_X0_partSaid tu (fl_iadd sn 1) kd me = 0
    · simp only [if_pos b]
    · simp only [if_neg b]
      by_cases d : Ff_X0_isHeardAt (q.2.2 tu.toNat) (Ff_X6_placesIn mi c po wt wf) = 1
      · simp only [if_pos d]
      · simp only [if_neg d]
  · simp only [if_neg a]
    by_cases b : Ff_X0_partSaid tu (fl_iadd sn 1) kd me = 0
    · simp only [if_pos b]
    · simp only [if_neg b]
      by_cases d : Ff_X0_isHeardAt (pl tu.toNat) (Ff_X6_placesIn mi c po wt wf) = 1
      · simp only [if_pos d]
      · simp only [if_neg d]
/-- the minute ends: there -/
def rs_tm (tu : Int) (r row : Nat → Int) : Nat → Int := if r 1 ≤ fl_up row 21 (fl_iadd (row 21) 1) 20 + 1 then fl_up (fl_up (fl_up (fl_up row 21 (fl_iadd (row 21) 1)) 20 (fl_up row 21 (fl_iadd (row 21) 1) 20 + 1)) 20 0) 19 (Ff_X8_nextOf tu r) else fl_up (fl_up row 21 (fl_iadd (row 21) 1)) 20 (fl_up row 21 (fl_iadd (row 21) 1) 20 + 1)
def rs_M (sd : Int) (st r f t : Nat → Int) : Int × (Nat → Int) := if Ff_X7_hasBit (st 18) (st 19) = 1 then (0, st) else if r (12 + 2 * st 19).toNat = 1 then (0, Ff_X8_walkOn (st 19) sd st r t f) else if r (12 + 2 * st 19).toNat = 2 then Ff_X8_speakOn (st 19) sd 0 st r t f else (0, st)
theorem rs_passm (sd : Int) (st r f t : Nat → Int) : Ff_X8_minuteOn sd st r t f = (st 19, (if Ff_X7_hasBit ((rs_M sd st r f t).2 18) (st 19) = 1 then -1 else (rs_M sd st r f t).2 (st 19).toNat), (rs_M sd st r f t).1, rs_tm (st 19) r (rs_M sd st r f t).2) := by
  have hb : Ff_X8_hasBit = Ff_X7_hasBit := rfl
  unfold Ff_X8_minuteOn rs_M
  rw [hb]
  simp only [fl_lt, fl_c2]
  by_cases a : Ff_X7_hasBit (st 18) (st 19) = 1
  · simp only [if_pos a]
    unfold rs_tm
    split <;> rfl
  · simp only [if_neg a]
    by_cases b : r (12 + 2 * st 19).toNat = 1
    · simp only [if_pos b]
      generalize Ff_X8_walkOn (st 19) sd st r t f = row
      unfold rs_tm
      by_cases d : Ff_X7_hasBit (row 18) (st 19) = 1
      · simp only [if_pos d]
        split <;> rfl
      · simp only [if_neg d]
        split <;> rfl
    · simp only [if_neg b]
      by_cases b2 : r (12 + 2 * st 19).toNat = 2
      · simp only [if_pos b2]
        generalize Ff_X8_speakOn (st 19) sd 0 st r t f = q
        unfold rs_tm
        by_cases d : Ff_X7_hasBit (q.2 18) (st 19) = 1
        · simp only [if_pos d]
          split <;> rfl
        · simp only [if_neg d]
          split <;> rfl
      · simp only [if_neg b2, if_neg a]
        unfold rs_tm
        split <;> rfl
/-- a walk: there -/
theorem rs_walk {sd : Int} {st r f t : Nat → Int} {T : Nat} (p0 : 0 ≤ st T) (p8 : st T ≤ 8) (h20 : (st 20 + 1) % r (13 + 2 * T) = 0) (hT : T < 9) : Ff_X8_walkOn (T : Int) sd st r t f = (if Ff_X8_isWatched (Ff_X0_nearer (st T) (r 2)) (st 21) sd r t f = 1 then fl_up (fl_up (fl_up st T (Ff_X0_nearer (st T) (r 2))) T (T : Int)) 22 (fl_iadd (st 22) 1) else if Ff_X0_nearer (st T) (r 2) = r 2 then fl_up (fl_up st T (Ff_X0_nearer (st T) (r 2))) 18 (fl_or (st 18) (fl_shl 1 (T : Int))) else fl_up st T (Ff_X0_nearer (st T) (r 2))) := by
  have eT : ((T : Int)).toNat = T := Int.toNat_natCast T
  have eM : (12 + 2 * (T : Int) + 1).toNat = 13 + 2 * T := by omega
  have u21 : ∀ v : Int, fl_up st T v 21 = st 21 := fun v => rp_up_ne _ _ (by omega)
  have u18 : ∀ v : Int, fl_up st T v 18 = st 18 := fun v => rp_up_ne _ _ (by omega)
  have u22 : ∀ v w : Int, fl_up (fl_up st T v) T w 22 = st 22 := fun v w => by rw [rp_up_ne _ _ (by omega), rp_up_ne _ _ (by omega)]
  have uT : ∀ v : Int, fl_up st T v T = v := fun v => rp_up_eq _ _ _
  unfold Ff_X8_walkOn
  simp only [fl_lt, eT, eM, if_pos h20, u21, u18, u22, uT]
  unfold Ff_X0_nearer
  simp only [fl_lt]
  by_cases a : r 2 ≤ st T
  · rw [if_pos a]
    by_cases b : st T ≤ r 2
    · have e : st T = r 2 := by omega
      rw [if_pos b]
      simp only [if_pos e, show st T + 0 = st T by omega]
    · have e : ¬ st T = r 2 := by omega
      rw [if_neg b]
      have es : fl_isub (st T) 1 = st T + -1 := by rw [rp_isub (by omega) (by omega) (by omega) (by omega) (by omega) (by omega)]; omega
      simp only [if_neg e, if_pos a, es]
  · have e : ¬ st T = r 2 := by omega
    rw [if_neg a]
    simp only [if_neg e, if_neg a]
theorem rs_stay {sd : Int} {st r f t : Nat → Int} {T : Nat} (h20 : ¬ (st 20 + 1) % r (13 + 2 * T) = 0) : Ff_X8_walkOn (T : Int) sd st r t f = st := by
  have eM : (12 + 2 * (T : Int) + 1).toNat = 13 + 2 * T := by omega
  unfold Ff_X8_walkOn
  simp only [fl_lt, eM, if_neg h20]
end RSB
