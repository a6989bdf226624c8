section RSC
theorem rs_up2 (f : Nat → Int) (i : Nat) (v w : Int) : fl_up (fl_up f i v) i w = fl_up f i w := by
  funext k
  by_cases q : k = i
  · rw [q, rp_up_eq, rp_up_eq]
  · rw [rp_up_ne _ _ q, rp_up_ne _ _ q, rp_up_ne _ _ q]
theorem rs_S_pl {fg sp mi tu sn go ca : Int} {kd pl he st : Nat → Int} (h : rs_S fg sp kd mi tu sn go ca pl he st) {T : Nat} (hT : T < 9) {v : Int} (v0 : 0 ≤ v) (v8 : v ≤ 8) : rs_S fg sp kd mi tu sn go ca (fl_up pl T v) he (fl_up st T v) := by
  obtain ⟨⟨s1, s2, s3, s4, s5⟩, m0, a2, a3, a4, hk⟩ := h
  refine ⟨⟨?_, ?_, ?_, ?_, ?_⟩, m0, a2, a3, a4, fun k hk' => ?_⟩
  · rw [rp_up_ne _ _ (by omega)]; exact s1
  · rw [rp_up_ne _ _ (by omega)]; exact s2
  · rw [rp_up_ne _ _ (by omega)]; exact s3
  · rw [rp_up_ne _ _ (by omega)]; exact s4
  · rw [rp_up_ne _ _ (by omega)]; exact s5
  · obtain ⟨k1, k2, k3, k4⟩ := hk k hk'
    refine ⟨?_, by rw [rp_up_ne _ _ (by omega)]; exact k2, ?_, k4⟩
    · by_cases q : k = T
      · rw [q, rp_up_eq, rp_up_eq]
      · rw [rp_up_ne _ _ q, rp_up_ne _ _ q]; exact k1
    · by_cases q : k = T
      · rw [q, rp_up_eq]; exact ⟨v0, v8⟩
      · rw [rp_up_ne _ _ q]; exact k3
theorem rs_S_ca {fg sp mi tu sn go ca : Int} {kd pl he st : Nat → Int} (hf : fg ≤ 9) (h : rs_S fg sp kd mi tu sn go ca pl he st) (v : Int) : rs_S fg sp kd mi tu sn go v pl he (fl_up st 22 v) := by
  obtain ⟨⟨s1, s2, s3, s4, s5⟩, m0, a2, a3, a4, hk⟩ := h
  refine ⟨⟨?_, ?_, ?_, ?_, (rp_up_eq _ _ _).symm⟩, m0, a2, a3, a4, fun k hk' => ?_⟩
  · rw [rp_up_ne _ _ (by omega)]; exact s1
  · rw [rp_up_ne _ _ (by omega)]; exact s2
  · rw [rp_up_ne _ _ (by omega)]; exact s3
  · rw [rp_up_ne _ _ (by omega)]; exact s4
  · rw [rp_up_ne _ _ (by omega), rp_up_ne _ _ (by omega)]; exact hk k hk'
theorem rs_S_go {fg sp mi tu sn go ca : Int} {kd pl he st : Nat → Int} (hf : fg ≤ 9) (h : rs_S fg sp kd mi tu sn go ca pl he st) {v : Int} (v0 : 0 ≤ v ∧ v ≤ 511) (hv : ∀ k : Nat, (k : Int) < fg → Ff_X7_hasBit v (k : Int) = 1 → kd k = 1) : rs_S fg sp kd mi tu sn v ca pl he (fl_up st 18 v) := by
  obtain ⟨⟨s1, s2, s3, s4, s5⟩, m0, a2, a3, a4, hk⟩ := h
  refine ⟨⟨?_, ?_, ?_, (rp_up_eq _ _ _).symm, ?_⟩, m0, a2, a3, v0, fun k hk' => ?_⟩
  · rw [rp_up_ne _ _ (by omega)]; exact s1
  · rw [rp_up_ne _ _ (by omega)]; exact s2
  · rw [rp_up_ne _ _ (by omega)]; exact s3
  · rw [rp_up_ne _ _ (by omega)]; exact s5
  · rw [rp_up_ne _ _ (by omega), rp_up_ne _ _ (by omega)]
    obtain ⟨k1, k2, k3, k4⟩ := hk k hk'
    exact ⟨k1, k2, k3, hv k hk'⟩
theorem rs_S_he {fg sp mi tu sn go ca : Int} {kd pl he st : Nat → Int} (hf : fg ≤ 9) (h : rs_S fg sp kd mi tu sn go ca pl he st) {T : Nat} (hT : T < 9) (v : Int) : rs_S fg sp kd mi tu sn go ca pl (fl_up he T v) (fl_up st (9 + T) v) := by
  obtain ⟨⟨s1, s2, s3, s4, s5⟩, m0, a2, a3, a4, hk⟩ := h
  refine ⟨⟨?_, ?_, ?_, ?_, ?_⟩, m0, a2, a3, a4, fun k hk' => ?_⟩
  · rw [rp_up_ne _ _ (by omega)]; exact s1
  · rw [rp_up_ne _ _ (by omega)]; exact s2
  · rw [rp_up_ne _ _ (by omega)]; exact s3
  · rw [rp_up_ne _ _ (by omega)]; exact s4
  · rw [rp_up_ne _ _ (by omega)]; exact s5
  · obtain ⟨k1, k2, k3, k4⟩ := hk k hk'
    refine ⟨by rw [rp_up_ne _ _ (by omega)]; exact k1, ?_, k3, k4⟩
    by_cases q : k = T
    · rw [q, rp_up_eq, rp_up_eq]
    · rw [rp_up_ne _ _ q, rp_up_ne _ _ (by omega)]; exact k2
set_option maxRecDepth 20000 in
theorem rs_sh : ∀ n : Fin 20, ¬ fl_shl 1 (n.val : Int) = 0 := by decide +kernel
theorem rs_near {p sa : Int} (p0 : 0 ≤ p) (p8 : p ≤ 8) (s0 : 0 ≤ sa) (s8 : sa ≤ 8) : 0 ≤ Ff_X0_nearer p sa ∧ Ff_X0_nearer p sa ≤ 8 := by
  unfold Ff_X0_nearer
  by_cases a : p = sa
  · rw [if_pos a]; omega
  · rw [if_neg a]
    by_cases b : sa ≤ p
    · rw [if_pos b, fl_lt_eq rfl, rp_isub (by omega) (by omega) (by omega) (by omega) (by omega) (by omega)]; omega
    · rw [if_neg b, fl_lt_eq rfl]; omega
theorem rs_mid {fg sp sa ti pu mi sn go ca c po sd : Int} {T : Nat} {kd me pl he wf wt r f t st : Nat → Int} (hG : rs_G fg sp sa ti pu kd me r) (hW : rs_W c po wf wt sd r f t) (hS : rs_S fg sp kd mi (T : Int) sn go ca pl he st) (hmi : mi ≤ 2000000000) :
    ∃ go1 ca1 pl1 he1 sd1 row1, rs_Q sa mi (T : Int) sn go ca c po kd me pl wf wt = (go1, ca1, pl1) ∧ rs_E mi (T : Int) sn c po kd me pl1 wf wt he = he1 ∧ rs_M sd st r f t = (sd1, row1) ∧ rs_S fg sp kd mi (T : Int) sn go1 ca1 pl1 he1 row1 ∧ sd1 = Ff_X0_partSaid (T : Int) (fl_iadd sn 1) kd me := by
  obtain ⟨⟨s1, s2, s3, s4, s5⟩, m0, ⟨t0, t1⟩, ⟨n0, n1⟩, ⟨g0, g1⟩, hk⟩ := id hS
  obtain ⟨⟨f1, f2, f3⟩, ⟨sp1, sp2, sp3⟩, ⟨sa1, sa2, sa3⟩, ⟨ti1, ti2, ti3⟩, ⟨pu1, pu2, pu3⟩, hkd⟩ := id hG
  have hT9 : T < 9 := by omega
  have eT : ((T : Int)).toNat = T := Int.toNat_natCast T
  obtain ⟨k1, k2, k3, k4⟩ := hk T t1
  obtain ⟨d1, d2, d3, d4, d5⟩ := hkd T hT9
  have es : fl_iadd sn 1 = sn + 1 := rp_iadd (by omega) (by omega) (by omega) (by omega) (by omega) (by omega)
  have e12 : (12 + 2 * st 19).toNat = 12 + 2 * T := by rw [← s2]; omega
  have hM : rs_M sd st r f t = if Ff_X7_hasBit go (T : Int) = 1 then (0, st) else if kd T = 1 then (0, Ff_X8_walkOn (T : Int) sd st r t f) else if kd T = 2 then Ff_X8_speakOn (T : Int) sd 0 st r t f else (0, st) := by
    unfold rs_M
    rw [e12, ← s2, ← s4, ← d1]
  have hwi : Ff_X7_within (T : Int) 0 8 = 1 := (rp_in _ _ _).trans (rp_in1 (by omega) (by omega))
  have hst : Ff_X0_stepsIn (T : Int) (sn + 1) kd me = if kd T = 1 then (if (sn + 1) % me T = 0 then 1 else 0) else 0 := by
    unfold Ff_X0_stepsIn
    rw [hwi, fl_lt_eq rfl, if_pos rfl, eT, fl_lt_eq rfl]
    by_cases q : kd T = 1
    · have q5 := d5 q
      rw [if_pos q, if_pos q, fl_lt_eq rfl, if_neg (by omega), rs_irem (by omega) (by omega) (by omega) (by omega), fl_lt_eq rfl]
    · rw [if_neg q, if_neg q]
  have hps : Ff_X0_partSaid (T : Int) (sn + 1) kd me = if kd T = 2 then (if me T < sn + 1 then 0 else fl_shl 1 sn) else 0 := by
    unfold Ff_X0_partSaid
    rw [hwi, fl_lt_eq rfl, if_pos rfl, eT, fl_lt_eq rfl]
    by_cases q : kd T = 2
    · rw [if_pos q, if_pos q, fl_lt_eq rfl]
      by_cases q2 : me T < sn + 1
      · rw [if_pos q2, if_pos q2]
      · rw [if_neg q2, if_neg q2, fl_lt_eq rfl, fl_lt_eq rfl, rp_isub (by omega) (by omega) (by omega) (by omega) (by omega) (by omega), show sn + 1 - 1 = sn by omega]
    · rw [if_neg q, if_neg q]
  by_cases hg : Ff_X7_hasBit go (T : Int) = 1
  · have hk1 : kd T = 1 := k4 hg
    refine ⟨go, ca, pl, he, 0, st, ?_, ?_, ?_, hS, ?_⟩
    · unfold rs_Q
      have eg : Ff_X0_step (T : Int) sa mi go ca pl c po wt wf = (go, ca, pl) := by
        unfold Ff_X0_step Ff_X5_isGone
        rw [hg]; rfl
      rw [eg]
      split <;> rfl
    · have hpz : Ff_X0_partSaid (T : Int) (sn + 1) kd me = 0 := by rw [hps, if_neg (by omega)]
      unfold rs_E
      rw [es, hpz, if_pos rfl]
    · rw [hM, if_pos hg]
    · rw [es, hps, if_neg (by omega)]
  · by_cases hk1 : kd T = 1
    · have hpz : Ff_X0_partSaid (T : Int) (sn + 1) kd me = 0 := by rw [hps, if_neg (by omega)]
      by_cases h20 : (sn + 1) % me T = 0
      · have h20' : (st 20 + 1) % r (13 + 2 * T) = 0 := by rw [← s3, ← d2]; exact h20
        have hw := rs_walk (sd := sd) (st := st) (r := r) (f := f) (t := t) (T := T) (by rw [← k1]; exact k3.1) (by rw [← k1]; exact k3.2) h20' hT9
        rw [← k1, ← sa1, ← s1, ← s5, ← s4] at hw
        obtain ⟨b1, b2, b3⟩ := rs_wat hW (mi := mi) m0 (by omega)
        have hR := rs_near k3.1 k3.2 sa2 sa3
        have hq : rs_Q sa mi (T : Int) sn go ca c po kd me pl wf wt = (if Ff_X7_hasBit (Ff_X6_placesIn mi c po wt wf) (Ff_X0_nearer (pl T) sa) = 1 then (go, fl_iadd ca 1, fl_up pl T (T : Int)) else if Ff_X0_nearer (pl T) sa = sa then (fl_or go (fl_shl 1 (T : Int)), ca, fl_up pl T (Ff_X0_nearer (pl T) sa)) else (go, ca, fl_up pl T (Ff_X0_nearer (pl T) sa))) := by
          unfold rs_Q
          rw [es, hst, if_pos hk1, if_pos h20, if_pos rfl]
          unfold Ff_X0_step Ff_X5_isGone
          simp only [fl_lt, eT, if_neg hg]
          rw [if_neg (by decide)]
        rw [b3 _ hR.1 hR.2] at hw
        generalize Ff_X0_nearer (pl T) sa = R at hR hq hw
        have hE : ∀ pl1 : Nat → Int, rs_E mi (T : Int) sn c po kd me pl1 wf wt he = he := fun pl1 => by unfold rs_E; rw [es, hpz, if_pos rfl]
        by_cases hb : Ff_X7_hasBit (Ff_X6_placesIn mi c po wt wf) R = 1
        · rw [if_pos hb] at hq hw
          rw [rs_up2] at hw
          refine ⟨_, _, _, he, 0, _, hq, hE _, by rw [hM, if_neg hg, if_pos hk1, hw], rs_S_ca f3 (rs_S_pl hS hT9 (by omega) (by omega)) _, by rw [es, hpz]⟩
        · rw [if_neg hb] at hq hw
          by_cases hs : R = sa
          · rw [if_pos hs] at hq hw
            obtain ⟨z1, z2⟩ := rs_bit g0 g1 (f := (T : Int)) (by omega) (by omega)
            refine ⟨_, _, _, he, 0, _, hq, hE _, by rw [hM, if_neg hg, if_pos hk1, hw], rs_S_go f3 (rs_S_pl hS hT9 hR.1 hR.2) z1 (fun k hk' h9 => ?_), by rw [es, hpz]⟩
            rcases (z2 (k : Int) (by omega) (by omega)).mp h9 with q | q
            · exact (hk k hk').2.2.2 q
            · have : k = T := by omega
              rw [this]; exact hk1
          · rw [if_neg hs] at hq hw
            exact ⟨_, _, _, he, 0, _, hq, hE _, by rw [hM, if_neg hg, if_pos hk1, hw], rs_S_pl hS hT9 hR.1 hR.2, by rw [es, hpz]⟩
      · refine ⟨go, ca, pl, he, 0, st, ?_, ?_, ?_, hS, ?_⟩
        · unfold rs_Q
          rw [es, hst, if_pos hk1, if_neg h20, if_neg (by decide)]
        · unfold rs_E
          rw [es, hpz, if_pos rfl]
        · rw [hM, if_neg hg, if_pos hk1, rs_stay (by rw [← s3, ← d2]; exact h20)]
        · rw [es, hpz]
    · have hq : rs_Q sa mi (T : Int) sn go ca c po kd me pl wf wt = (go, ca, pl) := by
        unfold rs_Q
        rw [es, hst, if_neg hk1, if_neg (by decide)]
      by_cases hk2 : kd T = 2
      · have hM2 : rs_M sd st r f t = Ff_X8_speakOn (T : Int) sd 0 st r t f := by rw [hM, if_neg hg, if_neg hk1, if_pos hk2]
        have e13 : (12 + 2 * (T : Int) + 1).toNat = 13 + 2 * T := by omega
        by_cases hm : me T < sn + 1
        · have hpz : Ff_X0_partSaid (T : Int) (sn + 1) kd me = 0 := by rw [hps, if_pos hk2, if_pos hm]
          refine ⟨go, ca, pl, he, 0, st, hq, ?_, ?_, hS, by rw [es, hpz]⟩
          · unfold rs_E
            rw [es, hpz, if_pos rfl]
          · rw [hM2]
            unfold Ff_X8_speakOn
            simp only [fl_lt, e13]
            rw [if_neg (by omega)]
        · have hpz : Ff_X0_partSaid (T : Int) (sn + 1) kd me = fl_shl 1 sn := by rw [hps, if_pos hk2, if_neg hm]
          have hnz := rs_sh ⟨sn.toNat, by omega⟩
          simp only [Int.toNat_of_nonneg n0] at hnz
          have hsk := rs_spk hW (row := st) (T := T) (by omega) (by omega) (by rw [← k1]; exact k3.1) (by rw [← k1]; exact k3.2) (fl_shl 1 sn)
          have hsp : Ff_X8_speakOn (T : Int) sd 0 st r t f = if Ff_X0_isHeardAt (pl T) (Ff_X6_placesIn mi c po wt wf) = 1 then (fl_shl 1 sn, fl_up st (9 + T) (fl_or (he T) (fl_shl 1 sn))) else (fl_shl 1 sn, st) := by
            rw [← k1, ← k2, ← s1] at hsk
            rw [← hsk]
            unfold Ff_X8_speakOn
            simp only [fl_lt, e13, eT]
            rw [if_pos (by omega), ← s3, ← k1]
          by_cases hh : Ff_X0_isHeardAt (pl T) (Ff_X6_placesIn mi c po wt wf) = 1
          · rw [if_pos hh] at hsp
            refine ⟨go, ca, pl, _, _, _, hq, ?_, by rw [hM2, hsp], rs_S_he f3 hS hT9 _, by rw [es, hpz]⟩
            unfold rs_E
            rw [es, hpz, if_neg hnz, eT, if_pos hh]
          · rw [if_neg hh] at hsp
            refine ⟨go, ca, pl, he, _, _, hq, ?_, by rw [hM2, hsp], hS, by rw [es, hpz]⟩
            unfold rs_E
            rw [es, hpz, if_neg hnz, eT, if_neg hh]
      · have hpz : Ff_X0_partSaid (T : Int) (sn + 1) kd me = 0 := by rw [hps, if_neg hk2]
        refine ⟨go, ca, pl, he, 0, st, hq, ?_, by rw [hM, if_neg hg, if_neg hk1, if_neg hk2], hS, by rw [es, hpz]⟩
        unfold rs_E
        rw [es, hpz, if_pos rfl]
theorem rs_next {fg sp sa ti pu : Int} {kd me r : Nat → Int} (hG : rs_G fg sp sa ti pu kd me r) (x : Int) : Ff_X8_nextOf x r = Ff_X0_next x fg ti pu ∧ 0 ≤ Ff_X0_next x fg ti pu ∧ Ff_X0_next x fg ti pu < fg := by
  obtain ⟨⟨f1, f2, f3⟩, -, -, ⟨ti1, -, -⟩, ⟨pu1, -, -⟩, -⟩ := hG
  unfold Ff_X8_nextOf Ff_X0_next
  simp only [fl_lt]
  rw [if_pos (by omega), ← f1, ← ti1, ← pu1, Int.mul_comm ti x]
  exact ⟨rfl, Int.emod_nonneg _ (by omega), Int.emod_lt_of_pos _ (by omega)⟩
theorem rs_tail {fg sp sa ti pu mi sn go ca : Int} {T : Nat} {kd me pl he r st : Nat → Int} (hG : rs_G fg sp sa ti pu kd me r) (hS : rs_S fg sp kd mi (T : Int) sn go ca pl he st) (hmi : mi ≤ 2000000000) :
    (sn + 1 < sp → rs_S fg sp kd (mi + 1) (T : Int) (sn + 1) go ca pl he (rs_tm (T : Int) r st)) ∧ (¬ sn + 1 < sp → rs_S fg sp kd (mi + 1) (Ff_X0_next (T : Int) fg ti pu) 0 go ca pl he (rs_tm (T : Int) r st)) := by
  obtain ⟨⟨s1, s2, s3, s4, s5⟩, m0, ⟨t0, t1⟩, ⟨n0, n1⟩, ⟨g0, g1⟩, hk⟩ := id hS
  obtain ⟨⟨f1, f2, f3⟩, ⟨sp1, sp2, sp3⟩, -⟩ := id hG
  obtain ⟨x1, x2, x3⟩ := rs_next hG (T : Int)
  have ei : fl_iadd (st 21) 1 = mi + 1 := by rw [← s1]; exact rp_iadd (by omega) (by omega) (by omega) (by omega) (by omega) (by omega)
  have e20 : fl_up st 21 (mi + 1) 20 = sn := by rw [rp_up_ne _ _ (by omega)]; exact s3.symm
  have er : rs_tm (T : Int) r st = if sp ≤ sn + 1 then fl_up (fl_up (fl_up (fl_up st 21 (mi + 1)) 20 (sn + 1)) 20 0) 19 (Ff_X0_next (T : Int) fg ti pu) else fl_up (fl_up st 21 (mi + 1)) 20 (sn + 1) := by
    unfold rs_tm
    rw [ei, e20, x1, ← sp1]
  have hr : ∀ row : Nat → Int, (∀ k : Nat, k < 19 ∨ k = 22 → row k = st k) → ∀ k : Nat, (k : Int) < fg → pl k = row k ∧ he k = row (9 + k) ∧ (0 ≤ pl k ∧ pl k ≤ 8) ∧ (Ff_X7_hasBit go (k : Int) = 1 → kd k = 1) := by
    intro row hrow k hk'
    rw [hrow k (by omega), hrow (9 + k) (by omega)]
    exact hk k hk'
  constructor
  · intro h
    rw [er, if_neg (by omega)]
    have hrow : ∀ k : Nat, k < 19 ∨ k = 22 → fl_up (fl_up st 21 (mi + 1)) 20 (sn + 1) k = st k := fun k hk' => by rw [rp_up_ne _ _ (by omega), rp_up_ne _ _ (by omega)]
    refine ⟨⟨?_, ?_, (rp_up_eq _ _ _).symm, ?_, ?_⟩, by omega, ⟨t0, t1⟩, by omega, ⟨g0, g1⟩, hr _ hrow⟩
    · rw [rp_up_ne _ _ (by omega), rp_up_eq]
    · rw [rp_up_ne _ _ (by omega), rp_up_ne _ _ (by omega)]; exact s2
    · rw [hrow 18 (by omega)]; exact s4
    · rw [hrow 22 (by omega)]; exact s5
  · intro h
    rw [er, if_pos (by omega), rs_up2]
    have hrow : ∀ k : Nat, k < 19 ∨ k = 22 → fl_up (fl_up (fl_up st 21 (mi + 1)) 20 0) 19 (Ff_X0_next (T : Int) fg ti pu) k = st k := fun k hk' => by rw [rp_up_ne _ _ (by omega), rp_up_ne _ _ (by omega), rp_up_ne _ _ (by omega)]
    refine ⟨⟨?_, (rp_up_eq _ _ _).symm, ?_, ?_, ?_⟩, by omega, ⟨x2, x3⟩, by omega, ⟨g0, g1⟩, hr _ hrow⟩
    · rw [rp_up_ne _ _ (by omega), rp_up_ne _ _ (by omega), rp_up_eq]
    · rw [rp_up_ne _ _ (by omega), rp_up_eq]
    · rw [hrow 18 (by omega)]; exact s4
    · rw [hrow 22 (by omega)]; exact s5
/-- a minute passes: here and there -/
theorem rs_pass {fg sp sa ti pu mi tu sn go ca c po sd : Int} {kd me pl he wf wt r f t st : Nat → Int} (hG : rs_G fg sp sa ti pu kd me r) (hW : rs_W c po wf wt sd r f t) (hS : rs_S fg sp kd mi tu sn go ca pl he st) (hmi : mi ≤ 2000000000) :
    ∃ tu1 sn1 go1 ca1 pl1 he1 st1, Ff_X0_pass fg sp sa ti pu mi tu sn go ca kd me pl c po wt wf he = (mi + 1, tu1, sn1, go1, ca1, pl1, he1) ∧ Ff_X8_minuteOn sd st r t f = (tu, (if Ff_X7_hasBit go1 tu = 1 then -1 else pl1 tu.toNat), Ff_X0_partSaid tu (fl_iadd sn 1) kd me, st1) ∧ rs_S fg sp kd (mi + 1) tu1 sn1 go1 ca1 pl1 he1 st1 := by
  obtain ⟨⟨s1, s2, s3, s4, s5⟩, m0, ⟨t0, t1⟩, ⟨n0, n1⟩, -, hk⟩ := id hS
  obtain ⟨⟨f1, f2, f3⟩, ⟨sp1, sp2, sp3⟩, -⟩ := id hG
  obtain ⟨T, hT⟩ : ∃ T : Nat, tu = (T : Int) := ⟨tu.toNat, by omega⟩
  subst hT
  obtain ⟨go1, ca1, pl1, he1, sd1, row1, q1, q2, q3, q4, q5⟩ := rs_mid hG hW hS hmi
  obtain ⟨⟨z1, z2, z3, z4, z5⟩, -, -, -, -, zk⟩ := id q4
  obtain ⟨w1, w2⟩ := rs_tail hG q4 hmi
  have es : fl_iadd sn 1 = sn + 1 := rp_iadd (by omega) (by omega) (by omega) (by omega) (by omega) (by omega)
  have em : fl_iadd mi 1 = mi + 1 := rp_iadd (by omega) (by omega) (by omega) (by omega) (by omega) (by omega)
  have eT : ((T : Int)).toNat = T := Int.toNat_natCast T
  have hm : Ff_X8_minuteOn sd st r t f = ((T : Int), (if Ff_X7_hasBit go1 (T : Int) = 1 then -1 else pl1 ((T : Int)).toNat), Ff_X0_partSaid (T : Int) (fl_iadd sn 1) kd me, rs_tm (T : Int) r row1) := by
    rw [rs_passm, q3, ← s2]
    simp only
    rw [← z4, eT, ← (zk T t1).1, q5]
  have hc := rs_passc fg sp sa ti pu mi (T : Int) sn go ca c po kd me pl wf wt he
  rw [q1] at hc
  simp only at hc
  rw [q2, es, em] at hc
  by_cases h : sn + 1 < sp
  · rw [if_pos h] at hc
    exact ⟨_, _, _, _, _, _, _, hc, hm, w1 h⟩
  · rw [if_neg h] at hc
    exact ⟨_, _, _, _, _, _, _, hc, hm, w2 h⟩
end RSC
