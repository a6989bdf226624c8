section PUM
theorem rp_and255 (x : Int32) : (x &&& 255).toInt = ((x.toBitVec.toNat % 256 : Nat) : Int) := by
  have e1 : (x &&& 255).toBitVec.toNat = x.toBitVec.toNat % 256 := by
    rw [Int32.toBitVec_and, BitVec.toNat_and]
    have e2 : (255 : Int32).toBitVec.toNat = 2 ^ 8 - 1 := by decide
    rw [e2, Nat.and_two_pow_sub_one_eq_mod]
  show (x &&& 255).toBitVec.toInt = _
  rw [BitVec.toInt_eq_toNat_of_lt (by rw [e1]; omega), e1]
theorem rp_i8 (x : Int32) : (x.toInt8.toInt32).toInt = if 2 * (x.toBitVec.toNat % 256) < 256 then ((x.toBitVec.toNat % 256 : Nat) : Int) else ((x.toBitVec.toNat % 256 : Nat) : Int) - 256 := by
  rw [Int8.toInt_toInt32, Int32.toInt_toInt8]
  have h1 : x.toInt = if 2 * x.toBitVec.toNat < 4294967296 then (x.toBitVec.toNat : Int) else (x.toBitVec.toNat : Int) - 4294967296 := by
    show x.toBitVec.toInt = _
    rw [BitVec.toInt_eq_toNat_cond]
    rfl
  have h2 : x.toInt % 256 = ((x.toBitVec.toNat % 256 : Nat) : Int) := by
    rw [h1]; split <;> omega
  have h3 : (2 : Nat) ^ 8 = 256 := rfl
  rw [h3, Int.bmod_def]
  have h4 : ((256 : Nat) : Int) = 256 := rfl
  rw [h4, h2]
  split <;> split <;> omega
def rp_br (b m : Int) : Prop := (m = b ∧ 0 ≤ b) ∨ (b < 0 ∧ 128 ≤ m)
theorem rp_byte (x : Int32) : rp_br (fl_nar (fl_i2b x.toInt)) (fl_and x.toInt 255) := by
  have e1 : fl_i2b x.toInt = (x.toInt8.toInt32).toInt := by unfold fl_i2b; rw [Int32.ofInt_toInt]
  have e2 : fl_nar (x.toInt8.toInt32).toInt = (x.toInt8.toInt32).toInt := by
    unfold fl_nar; rw [Int32.ofInt_toInt]
    show (x.toInt8.toInt32.toInt8.toInt32).toInt = _
    rw [Int8.toInt8_toInt32]
  have e3 : fl_and x.toInt 255 = (x &&& 255).toInt := by
    unfold fl_and; rw [Int32.ofInt_toInt]; rfl
  rw [e1, e2, e3, rp_and255, rp_i8]
  unfold rp_br
  split <;> omega
theorem rp_bs (a s : Int) : rp_br (fl_nar (fl_i2b (fl_shr a s))) (fl_and (fl_shr a s) 255) := rp_byte _
theorem rp_T_up {tp tm : Nat → Int} {t b m : Int} (hT : rp_T tp tm t) (h0 : 0 ≤ t) (h : rp_br b m) : rp_T (fl_up tp t.toNat b) (fl_up tm t.toNat m) (t + 1) := by
  intro i hi
  by_cases q : i = t.toNat
  · subst q; rw [rp_up_eq, rp_up_eq]; exact h
  · rw [rp_up_ne _ _ q, rp_up_ne _ _ q]; exact hT i (by omega)
theorem rp_app {t : Int} (h : t + 4 ≤ 900) (a : Int) (f : Nat → Int) : Ff_X3_appendX a t f = (t + 1 + 1 + 1 + 1, fl_up (fl_up (fl_up (fl_up f t.toNat (fl_nar (fl_i2b (fl_shr a 24)))) (t + 1).toNat (fl_nar (fl_i2b (fl_shr a 16)))) (t + 1 + 1).toNat (fl_nar (fl_i2b (fl_shr a 8)))) (t + 1 + 1 + 1).toNat (fl_nar (fl_i2b (fl_shr a 0)))) := by
  unfold Ff_X3_appendX
  rw [if_neg (by omega), fl_lt_eq rfl, fl_lt_eq rfl, fl_lt_eq rfl, fl_lt_eq rfl, if_neg (by omega), fl_lt_eq rfl, fl_lt_eq rfl, fl_lt_eq rfl, fl_lt_eq rfl, if_neg (by omega), fl_lt_eq rfl, fl_lt_eq rfl, fl_lt_eq rfl, fl_lt_eq rfl, if_neg (by omega)]
  rfl
theorem rp_fs0 (a1 a2 a3 a4 a5 t : Int) (f : Nat → Int) : Sf_X8_feed_23_1 a1 a2 a3 a4 a5 0 t f = .inl (1, t + 1, fl_up f t.toNat (fl_and (fl_shr a1 24) 255)) := by
  unfold Sf_X8_feed_23_1
  rfl
theorem rp_fs1 (a1 a2 a3 a4 a5 t : Int) (f : Nat → Int) : Sf_X8_feed_23_1 a1 a2 a3 a4 a5 1 t f = .inl (2, t + 1, fl_up f t.toNat (fl_and (fl_shr a1 16) 255)) := by
  unfold Sf_X8_feed_23_1
  rfl
theorem rp_fs2 (a1 a2 a3 a4 a5 t : Int) (f : Nat → Int) : Sf_X8_feed_23_1 a1 a2 a3 a4 a5 2 t f = .inl (3, t + 1, fl_up f t.toNat (fl_and (fl_shr a1 8) 255)) := by
  unfold Sf_X8_feed_23_1
  rfl
theorem rp_fs3 (a1 a2 a3 a4 a5 t : Int) (f : Nat → Int) : Sf_X8_feed_23_1 a1 a2 a3 a4 a5 3 t f = .inl (4, t + 1, fl_up f t.toNat (fl_and (fl_shr a1 0) 255)) := by
  unfold Sf_X8_feed_23_1
  rfl
theorem rp_fs4 (a1 a2 a3 a4 a5 t : Int) (f : Nat → Int) : Sf_X8_feed_23_1 a1 a2 a3 a4 a5 4 t f = .inl (5, t + 1, fl_up f t.toNat (fl_and (fl_shr a2 24) 255)) := by
  unfold Sf_X8_feed_23_1
  rfl
theorem rp_fs5 (a1 a2 a3 a4 a5 t : Int) (f : Nat → Int) : Sf_X8_feed_23_1 a1 a2 a3 a4 a5 5 t f = .inl (6, t + 1, fl_up f t.toNat (fl_and (fl_shr a2 16) 255)) := by
  unfold Sf_X8_feed_23_1
  rfl
theorem rp_fs6 (a1 a2 a3 a4 a5 t : Int) (f : Nat → Int) : Sf_X8_feed_23_1 a1 a2 a3 a4 a5 6 t f = .inl (7, t + 1, fl_up f t.toNat (fl_and (fl_shr a2 8) 255)) := by
  unfold Sf_X8_feed_23_1
  rfl
theorem rp_fs7 (a1 a2 a3 a4 a5 t : Int) (f : Nat → Int) : Sf_X8_feed_23_1 a1 a2 a3 a4 a5 7 t f = .inl (8, t + 1, fl_up f t.toNat (fl_and (fl_shr a2 0) 255)) := by
  unfold Sf_X8_feed_23_1
  rfl
theorem rp_fs8 (a1 a2 a3 a4 a5 t : Int) (f : Nat → Int) : Sf_X8_feed_23_1 a1 a2 a3 a4 a5 8 t f = .inl (9, t + 1, fl_up f t.toNat (fl_and (fl_shr a3 24) 255)) := by
  unfold Sf_X8_feed_23_1
  rfl
theorem rp_fs9 (a1 a2 a3 a4 a5 t : Int) (f : Nat → Int) : Sf_X8_feed_23_1 a1 a2 a3 a4 a5 9 t f = .inl (10, t + 1, fl_up f t.toNat (fl_and (fl_shr a3 16) 255)) := by
  unfold Sf_X8_feed_23_1
  rfl
theorem rp_fs10 (a1 a2 a3 a4 a5 t : Int) (f : Nat → Int) : Sf_X8_feed_23_1 a1 a2 a3 a4 a5 10 t f = .inl (11, t + 1, fl_up f t.toNat (fl_and (fl_shr a3 8) 255)) := by
  unfold Sf_X8_feed_23_1
  rfl
theorem rp_fs11 (a1 a2 a3 a4 a5 t : Int) (f : Nat → Int) : Sf_X8_feed_23_1 a1 a2 a3 a4 a5 11 t f = .inl (12, t + 1, fl_up f t.toNat (fl_and (fl_shr a3 0) 255)) := by
  unfold Sf_X8_feed_23_1
  rfl
theorem rp_fs12 (a1 a2 a3 a4 a5 t : Int) (f : Nat → Int) : Sf_X8_feed_23_1 a1 a2 a3 a4 a5 12 t f = .inl (13, t + 1, fl_up f t.toNat (fl_and (fl_shr a4 24) 255)) := by
  unfold Sf_X8_feed_23_1
  rfl
theorem rp_fs13 (a1 a2 a3 a4 a5 t : Int) (f : Nat → Int) : Sf_X8_feed_23_1 a1 a2 a3 a4 a5 13 t f = .inl (14, t + 1, fl_up f t.toNat (fl_and (fl_shr a4 16) 255)) := by
  unfold Sf_X8_feed_23_1
  rfl
theorem rp_fs14 (a1 a2 a3 a4 a5 t : Int) (f : Nat → Int) : Sf_X8_feed_23_1 a1 a2 a3 a4 a5 14 t f = .inl (15, t + 1, fl_up f t.toNat (fl_and (fl_shr a4 8) 255)) := by
  unfold Sf_X8_feed_23_1
  rfl
theorem rp_fs15 (a1 a2 a3 a4 a5 t : Int) (f : Nat → Int) : Sf_X8_feed_23_1 a1 a2 a3 a4 a5 15 t f = .inl (16, t + 1, fl_up f t.toNat (fl_and (fl_shr a4 0) 255)) := by
  unfold Sf_X8_feed_23_1
  rfl
theorem rp_fs16 (a1 a2 a3 a4 a5 t : Int) (f : Nat → Int) : Sf_X8_feed_23_1 a1 a2 a3 a4 a5 16 t f = .inl (17, t + 1, fl_up f t.toNat (fl_and (fl_shr a5 24) 255)) := by
  unfold Sf_X8_feed_23_1
  rfl
theorem rp_fs17 (a1 a2 a3 a4 a5 t : Int) (f : Nat → Int) : Sf_X8_feed_23_1 a1 a2 a3 a4 a5 17 t f = .inl (18, t + 1, fl_up f t.toNat (fl_and (fl_shr a5 16) 255)) := by
  unfold Sf_X8_feed_23_1
  rfl
theorem rp_fs18 (a1 a2 a3 a4 a5 t : Int) (f : Nat → Int) : Sf_X8_feed_23_1 a1 a2 a3 a4 a5 18 t f = .inl (19, t + 1, fl_up f t.toNat (fl_and (fl_shr a5 8) 255)) := by
  unfold Sf_X8_feed_23_1
  rfl
theorem rp_fs19 (a1 a2 a3 a4 a5 t : Int) (f : Nat → Int) : Sf_X8_feed_23_1 a1 a2 a3 a4 a5 19 t f = .inl (20, t + 1, fl_up f t.toNat (fl_and (fl_shr a5 0) 255)) := by
  unfold Sf_X8_feed_23_1
  rfl
def rp_ct (a1 a2 a3 a4 a5 t : Int) (tp : Nat → Int) : Nat → Int := (fl_up (fl_up (fl_up (fl_up (fl_up (fl_up (fl_up (fl_up (fl_up (fl_up (fl_up (fl_up (fl_up (fl_up (fl_up (fl_up (fl_up (fl_up (fl_up (fl_up tp t.toNat (fl_nar (fl_i2b (fl_shr a1 24)))) (t + 1).toNat (fl_nar (fl_i2b (fl_shr a1 16)))) (t + 1 + 1).toNat (fl_nar (fl_i2b (fl_shr a1 8)))) (t + 1 + 1 + 1).toNat (fl_nar (fl_i2b (fl_shr a1 0)))) (t + 1 + 1 + 1 + 1).toNat (fl_nar (fl_i2b (fl_shr a2 24)))) (t + 1 + 1 + 1 + 1 + 1).toNat (fl_nar (fl_i2b (fl_shr a2 16)))) (t + 1 + 1 + 1 + 1 + 1 + 1).toNat (fl_nar (fl_i2b (fl_shr a2 8)))) (t + 1 + 1 + 1 + 1 + 1 + 1 + 1).toNat (fl_nar (fl_i2b (fl_shr a2 0)))) (t + 1 + 1 + 1 + 1 + 1 + 1 + 1 + 1).toNat (fl_nar (fl_i2b (fl_shr a3 24)))) (t + 1 + 1 + 1 + 1 + 1 + 1 + 1 + 1 + 1).toNat (fl_nar (fl_i2b (fl_shr a3 16)))) (t + 1 + 1 + 1 + 1 + 1 + 1 + 1 + 1 + 1 + 1).toNat (fl_nar (fl_i2b (fl_shr a3 8)))) (t + 1 + 1 + 1 + 1 + 1 + 1 + 1 + 1 + 1 + 1 + 1).toNat (fl_nar (fl_i2b (fl_shr a3 0)))) (t + 1 + 1 + 1 + 1 + 1 + 1 + 1 + 1 + 1 + 1 + 1 + 1).toNat (fl_nar (fl_i2b (fl_shr a4 24)))) (t + 1 + 1 + 1 + 1 + 1 + 1 + 1 + 1 + 1 + 1 + 1 + 1 + 1).toNat (fl_nar (fl_i2b (fl_shr a4 16)))) (t + 1 + 1 + 1 + 1 + 1 + 1 + 1 + 1 + 1 + 1 + 1 + 1 + 1 + 1).toNat (fl_nar (fl_i2b (fl_shr a4 8)))) (t + 1 + 1 + 1 + 1 + 1 + 1 + 1 + 1 + 1 + 1 + 1 + 1 + 1 + 1 + 1).toNat (fl_nar (fl_i2b (fl_shr a4 0)))) (t + 1 + 1 + 1 + 1 + 1 + 1 + 1 + 1 + 1 + 1 + 1 + 1 + 1 + 1 + 1 + 1).toNat (fl_nar (fl_i2b (fl_shr a5 24)))) (t + 1 + 1 + 1 + 1 + 1 + 1 + 1 + 1 + 1 + 1 + 1 + 1 + 1 + 1 + 1 + 1 + 1).toNat (fl_nar (fl_i2b (fl_shr a5 16)))) (t + 1 + 1 + 1 + 1 + 1 + 1 + 1 + 1 + 1 + 1 + 1 + 1 + 1 + 1 + 1 + 1 + 1 + 1).toNat (fl_nar (fl_i2b (fl_shr a5 8)))) (t + 1 + 1 + 1 + 1 + 1 + 1 + 1 + 1 + 1 + 1 + 1 + 1 + 1 + 1 + 1 + 1 + 1 + 1 + 1).toNat (fl_nar (fl_i2b (fl_shr a5 0))))
def rp_mt (a1 a2 a3 a4 a5 t : Int) (tm : Nat → Int) : Nat → Int := (fl_up (fl_up (fl_up (fl_up (fl_up (fl_up (fl_up (fl_up (fl_up (fl_up (fl_up (fl_up (fl_up (fl_up (fl_up (fl_up (fl_up (fl_up (fl_up (fl_up tm t.toNat (fl_and (fl_shr a1 24) 255)) (t + 1).toNat (fl_and (fl_shr a1 16) 255)) (t + 1 + 1).toNat (fl_and (fl_shr a1 8) 255)) (t + 1 + 1 + 1).toNat (fl_and (fl_shr a1 0) 255)) (t + 1 + 1 + 1 + 1).toNat (fl_and (fl_shr a2 24) 255)) (t + 1 + 1 + 1 + 1 + 1).toNat (fl_and (fl_shr a2 16) 255)) (t + 1 + 1 + 1 + 1 + 1 + 1).toNat (fl_and (fl_shr a2 8) 255)) (t + 1 + 1 + 1 + 1 + 1 + 1 + 1).toNat (fl_and (fl_shr a2 0) 255)) (t + 1 + 1 + 1 + 1 + 1 + 1 + 1 + 1).toNat (fl_and (fl_shr a3 24) 255)) (t + 1 + 1 + 1 + 1 + 1 + 1 + 1 + 1 + 1).toNat (fl_and (fl_shr a3 16) 255)) (t + 1 + 1 + 1 + 1 + 1 + 1 + 1 + 1 + 1 + 1).toNat (fl_and (fl_shr a3 8) 255)) (t + 1 + 1 + 1 + 1 + 1 + 1 + 1 + 1 + 1 + 1 + 1).toNat (fl_and (fl_shr a3 0) 255)) (t + 1 + 1 + 1 + 1 + 1 + 1 + 1 + 1 + 1 + 1 + 1 + 1).toNat (fl_and (fl_shr a4 24) 255)) (t + 1 + 1 + 1 + 1 + 1 + 1 + 1 + 1 + 1 + 1 + 1 + 1 + 1).toNat (fl_and (fl_shr a4 16) 255)) (t + 1 + 1 + 1 + 1 + 1 + 1 + 1 + 1 + 1 + 1 + 1 + 1 + 1 + 1).toNat (fl_and (fl_shr a4 8) 255)) (t + 1 + 1 + 1 + 1 + 1 + 1 + 1 + 1 + 1 + 1 + 1 + 1 + 1 + 1 + 1).toNat (fl_and (fl_shr a4 0) 255)) (t + 1 + 1 + 1 + 1 + 1 + 1 + 1 + 1 + 1 + 1 + 1 + 1 + 1 + 1 + 1 + 1).toNat (fl_and (fl_shr a5 24) 255)) (t + 1 + 1 + 1 + 1 + 1 + 1 + 1 + 1 + 1 + 1 + 1 + 1 + 1 + 1 + 1 + 1 + 1).toNat (fl_and (fl_shr a5 16) 255)) (t + 1 + 1 + 1 + 1 + 1 + 1 + 1 + 1 + 1 + 1 + 1 + 1 + 1 + 1 + 1 + 1 + 1 + 1).toNat (fl_and (fl_shr a5 8) 255)) (t + 1 + 1 + 1 + 1 + 1 + 1 + 1 + 1 + 1 + 1 + 1 + 1 + 1 + 1 + 1 + 1 + 1 + 1 + 1).toNat (fl_and (fl_shr a5 0) 255))
theorem rp_fT {tp tm : Nat → Int} {t : Int} (hT : rp_T tp tm t) (h0 : 0 ≤ t) (a1 a2 a3 a4 a5 : Int) : rp_T (rp_ct a1 a2 a3 a4 a5 t tp) (rp_mt a1 a2 a3 a4 a5 t tm) (t + 1 + 1 + 1 + 1 + 1 + 1 + 1 + 1 + 1 + 1 + 1 + 1 + 1 + 1 + 1 + 1 + 1 + 1 + 1 + 1) := by
  unfold rp_ct rp_mt
  have hT := rp_T_up hT (by omega) (rp_bs a1 24)
  have hT := rp_T_up hT (by omega) (rp_bs a1 16)
  have hT := rp_T_up hT (by omega) (rp_bs a1 8)
  have hT := rp_T_up hT (by omega) (rp_bs a1 0)
  have hT := rp_T_up hT (by omega) (rp_bs a2 24)
  have hT := rp_T_up hT (by omega) (rp_bs a2 16)
  have hT := rp_T_up hT (by omega) (rp_bs a2 8)
  have hT := rp_T_up hT (by omega) (rp_bs a2 0)
  have hT := rp_T_up hT (by omega) (rp_bs a3 24)
  have hT := rp_T_up hT (by omega) (rp_bs a3 16)
  have hT := rp_T_up hT (by omega) (rp_bs a3 8)
  have hT := rp_T_up hT (by omega) (rp_bs a3 0)
  have hT := rp_T_up hT (by omega) (rp_bs a4 24)
  have hT := rp_T_up hT (by omega) (rp_bs a4 16)
  have hT := rp_T_up hT (by omega) (rp_bs a4 8)
  have hT := rp_T_up hT (by omega) (rp_bs a4 0)
  have hT := rp_T_up hT (by omega) (rp_bs a5 24)
  have hT := rp_T_up hT (by omega) (rp_bs a5 16)
  have hT := rp_T_up hT (by omega) (rp_bs a5 8)
  have hT := rp_T_up hT (by omega) (rp_bs a5 0)
  exact hT
theorem rp_feedc {t : Int} (h0 : 0 ≤ t) (h : t + 20 ≤ 900) (a1 a2 a3 a4 a5 : Int) (tp : Nat → Int) : Ff_X7_feed a1 a2 a3 a4 a5 t tp = (t + 1 + 1 + 1 + 1 + 1 + 1 + 1 + 1 + 1 + 1 + 1 + 1 + 1 + 1 + 1 + 1 + 1 + 1 + 1 + 1, t + 1 + 1 + 1 + 1 + 1 + 1 + 1 + 1 + 1 + 1 + 1 + 1 + 1 + 1 + 1 + 1 + 1 + 1 + 1 + 1, rp_ct a1 a2 a3 a4 a5 t tp) := by
  unfold Ff_X7_feed
  rw [fl_lt_eq rfl, if_pos (by omega), rp_app (by omega), fl_c2_eq rfl, rp_app (by omega), fl_c2_eq rfl, rp_app (by omega), fl_c2_eq rfl, rp_app (by omega), fl_c2_eq rfl, rp_app (by omega), fl_c2_eq rfl]
  rfl
theorem rp_feedm {t : Int} (h0 : 0 ≤ t) (h : t + 20 ≤ 900) (a1 a2 a3 a4 a5 : Int) (tm : Nat → Int) : Ff_X8_feed a1 a2 a3 a4 a5 t tm = (t + 1 + 1 + 1 + 1 + 1 + 1 + 1 + 1 + 1 + 1 + 1 + 1 + 1 + 1 + 1 + 1 + 1 + 1 + 1 + 1, 0, t + 1 + 1 + 1 + 1 + 1 + 1 + 1 + 1 + 1 + 1 + 1 + 1 + 1 + 1 + 1 + 1 + 1 + 1 + 1 + 1, rp_mt a1 a2 a3 a4 a5 t tm) := by
  unfold Ff_X8_feed
  rw [fl_lt_eq rfl, if_pos (by omega)]
  rw [fl_wh_l (step := (fun t9 : Int × Int × (Nat → Int) => Sf_X8_feed_23_1 a1 a2 a3 a4 a5 t9.1 t9.2.1 t9.2.2)) (rp_fs0 a1 a2 a3 a4 a5 _ _)]
  rw [fl_wh_l (step := (fun t9 : Int × Int × (Nat → Int) => Sf_X8_feed_23_1 a1 a2 a3 a4 a5 t9.1 t9.2.1 t9.2.2)) (rp_fs1 a1 a2 a3 a4 a5 _ _)]
  rw [fl_wh_l (step := (fun t9 : Int × Int × (Nat → Int) => Sf_X8_feed_23_1 a1 a2 a3 a4 a5 t9.1 t9.2.1 t9.2.2)) (rp_fs2 a1 a2 a3 a4 a5 _ _)]
  rw [fl_wh_l (step := (fun t9 : Int × Int × (Nat → Int) => Sf_X8_feed_23_1 a1 a2 a3 a4 a5 t9.1 t9.2.1 t9.2.2)) (rp_fs3 a1 a2 a3 a4 a5 _ _)]
  rw [fl_wh_l (step := (fun t9 : Int × Int × (Nat → Int) => Sf_X8_feed_23_1 a1 a2 a3 a4 a5 t9.1 t9.2.1 t9.2.2)) (rp_fs4 a1 a2 a3 a4 a5 _ _)]
  rw [fl_wh_l (step := (fun t9 : Int × Int × (Nat → Int) => Sf_X8_feed_23_1 a1 a2 a3 a4 a5 t9.1 t9.2.1 t9.2.2)) (rp_fs5 a1 a2 a3 a4 a5 _ _)]
  rw [fl_wh_l (step := (fun t9 : Int × Int × (Nat → Int) => Sf_X8_feed_23_1 a1 a2 a3 a4 a5 t9.1 t9.2.1 t9.2.2)) (rp_fs6 a1 a2 a3 a4 a5 _ _)]
  rw [fl_wh_l (step := (fun t9 : Int × Int × (Nat → Int) => Sf_X8_feed_23_1 a1 a2 a3 a4 a5 t9.1 t9.2.1 t9.2.2)) (rp_fs7 a1 a2 a3 a4 a5 _ _)]
  rw [fl_wh_l (step := (fun t9 : Int × Int × (Nat → Int) => Sf_X8_feed_23_1 a1 a2 a3 a4 a5 t9.1 t9.2.1 t9.2.2)) (rp_fs8 a1 a2 a3 a4 a5 _ _)]
  rw [fl_wh_l (step := (fun t9 : Int × Int × (Nat → Int) => Sf_X8_feed_23_1 a1 a2 a3 a4 a5 t9.1 t9.2.1 t9.2.2)) (rp_fs9 a1 a2 a3 a4 a5 _ _)]
  rw [fl_wh_l (step := (fun t9 : Int × Int × (Nat → Int) => Sf_X8_feed_23_1 a1 a2 a3 a4 a5 t9.1 t9.2.1 t9.2.2)) (rp_fs10 a1 a2 a3 a4 a5 _ _)]
  rw [fl_wh_l (step := (fun t9 : Int × Int × (Nat → Int) => Sf_X8_feed_23_1 a1 a2 a3 a4 a5 t9.1 t9.2.1 t9.2.2)) (rp_fs11 a1 a2 a3 a4 a5 _ _)]
  rw [fl_wh_l (step := (fun t9 : Int × Int × (Nat → Int) => Sf_X8_feed_23_1 a1 a2 a3 a4 a5 t9.1 t9.2.1 t9.2.2)) (rp_fs12 a1 a2 a3 a4 a5 _ _)]
  rw [fl_wh_l (step := (fun t9 : Int × Int × (Nat → Int) => Sf_X8_feed_23_1 a1 a2 a3 a4 a5 t9.1 t9.2.1 t9.2.2)) (rp_fs13 a1 a2 a3 a4 a5 _ _)]
  rw [fl_wh_l (step := (fun t9 : Int × Int × (Nat → Int) => Sf_X8_feed_23_1 a1 a2 a3 a4 a5 t9.1 t9.2.1 t9.2.2)) (rp_fs14 a1 a2 a3 a4 a5 _ _)]
  rw [fl_wh_l (step := (fun t9 : Int × Int × (Nat → Int) => Sf_X8_feed_23_1 a1 a2 a3 a4 a5 t9.1 t9.2.1 t9.2.2)) (rp_fs15 a1 a2 a3 a4 a5 _ _)]
  rw [fl_wh_l (step := (fun t9 : Int × Int × (Nat → Int) => Sf_X8_feed_23_1 a1 a2 a3 a4 a5 t9.1 t9.2.1 t9.2.2)) (rp_fs16 a1 a2 a3 a4 a5 _ _)]
  rw [fl_wh_l (step := (fun t9 : Int × Int × (Nat → Int) => Sf_X8_feed_23_1 a1 a2 a3 a4 a5 t9.1 t9.2.1 t9.2.2)) (rp_fs17 a1 a2 a3 a4 a5 _ _)]
  rw [fl_wh_l (step := (fun t9 : Int × Int × (Nat → Int) => Sf_X8_feed_23_1 a1 a2 a3 a4 a5 t9.1 t9.2.1 t9.2.2)) (rp_fs18 a1 a2 a3 a4 a5 _ _)]
  rw [fl_wh_l (step := (fun t9 : Int × Int × (Nat → Int) => Sf_X8_feed_23_1 a1 a2 a3 a4 a5 t9.1 t9.2.1 t9.2.2)) (rp_fs19 a1 a2 a3 a4 a5 _ _)]
  exact fl_wh_r (step := (fun t9 : Int × Int × (Nat → Int) => Sf_X8_feed_23_1 a1 a2 a3 a4 a5 t9.1 t9.2.1 t9.2.2)) (s := (20, t + 1 + 1 + 1 + 1 + 1 + 1 + 1 + 1 + 1 + 1 + 1 + 1 + 1 + 1 + 1 + 1 + 1 + 1 + 1 + 1, rp_mt a1 a2 a3 a4 a5 t tm)) rfl
/-- feed: here and there -/
theorem rp_feed {tp tm : Nat → Int} {t : Int} (hT : rp_T tp tm t) (h0 : 0 ≤ t) (a1 a2 a3 a4 a5 : Int) :
    (t + 20 ≤ 900 ∧ ∃ tp' tm', Ff_X7_feed a1 a2 a3 a4 a5 t tp = (t + 20, t + 20, tp') ∧ Ff_X8_feed a1 a2 a3 a4 a5 t tm = (t + 20, 0, t + 20, tm') ∧ rp_T tp' tm' (t + 20)) ∨
    (900 < t + 20 ∧ Ff_X7_feed a1 a2 a3 a4 a5 t tp = (-1, t, tp) ∧ Ff_X8_feed a1 a2 a3 a4 a5 t tm = (-1, 0, t, tm)) := by
  by_cases h : t + 20 ≤ 900
  · have e : t + 1 + 1 + 1 + 1 + 1 + 1 + 1 + 1 + 1 + 1 + 1 + 1 + 1 + 1 + 1 + 1 + 1 + 1 + 1 + 1 = t + 20 := by omega
    have hf := rp_fT hT h0 a1 a2 a3 a4 a5
    have h1 := rp_feedc h0 h a1 a2 a3 a4 a5 tp
    have h2 := rp_feedm h0 h a1 a2 a3 a4 a5 tm
    rw [e] at hf h1 h2
    exact Or.inl ⟨h, _, _, h1, h2, hf⟩
  · refine Or.inr ⟨by omega, ?_, ?_⟩
    · unfold Ff_X7_feed; rw [fl_lt_eq rfl, if_neg h]
    · unfold Ff_X8_feed; rw [fl_lt_eq rfl, if_neg h]
theorem rp_feed2 {tp tpx tpm : Int32} {f g f1 g1 : Nat → Int32} (hR : rp_T (fl_A f) (fl_A g) tp.toInt) (h0 : 0 ≤ tp.toInt) (a1 a2 a3 a4 a5 : Int) (ftx : tpx.toInt = (Ff_X7_feed a1 a2 a3 a4 a5 tp.toInt (fl_A f)).2.1) (ffx : fl_A f1 = (Ff_X7_feed a1 a2 a3 a4 a5 tp.toInt (fl_A f)).2.2) (ftm : tpm.toInt = (Ff_X8_feed a1 a2 a3 a4 a5 tp.toInt (fl_A g)).2.2.1) (ffm : fl_A g1 = (Ff_X8_feed a1 a2 a3 a4 a5 tp.toInt (fl_A g)).2.2.2) : tpx = tpm ∧ rp_T (fl_A f1) (fl_A g1) tpx.toInt := by
  rcases rp_feed hR h0 a1 a2 a3 a4 a5 with ⟨-, tp9, tm9, e1, e2, e3⟩ | ⟨-, e1, e2⟩
  · rw [e1] at ftx ffx; rw [e2] at ftm ffm
    simp only at ftx ffx ftm ffm
    refine ⟨Int32.toInt_inj.mp (ftx.trans ftm.symm), ?_⟩
    rw [ffx, ffm, ftx]; exact e3
  · rw [e1] at ftx ffx; rw [e2] at ftm ffm
    simp only at ftx ffx ftm ffm
    refine ⟨Int32.toInt_inj.mp (ftx.trans ftm.symm), ?_⟩
    rw [ffx, ffm, ftx]; exact hR
end PUM
