section REL
/-- the halls alike: none, here and there, or what was told, here and there -/
def lr_H (vi : Nat → Int32) (vf : Nat → Nat → Int32) (vm : Nat → Int32) (vn : Nat → Nat → Int32) : Prop := (vm 11 = 0 ∧ vi 33 = 0 ∧ vi 34 = 0 ∧ vi 35 = 0 ∧ vi 36 = 0 ∧ vi 38 = 0 ∧ vi 39 = 0 ∧ vi 40 = 0 ∧ vi 41 = 0 ∧ vi 42 = 0 ∧ vi 53 = 0) ∨ (vm 11 = 1 ∧ (2 ≤ (vi 33).toInt ∧ (vi 33).toInt ≤ 9 ∧ (vi 37).toInt = 1) ∧ rp_Dh (vi 33).toInt (vi 34).toInt (vi 35).toInt (vi 36).toInt (vi 37).toInt (vi 38).toInt (vi 39).toInt (vi 40).toInt (fl_A (vn 2)) ∧ rp_Df (vi 41).toInt (fl_A (vf 11)) (fl_A (vf 12)) (fl_A (vn 2)) ∧ rp_Dw (vi 53).toInt (fl_A (vf 19)) (fl_A (vf 20)) (fl_A (vn 2)) ∧ rp_Ds (vi 42).toInt (fl_A (vf 13)) (fl_A (vf 14)) (fl_A (vn 2)))
/-- scenes alike: now, what can be undone, images -/
def lr_V (vi : Nat → Int32) (vf : Nat → Nat → Int32) (vm : Nat → Int32) (vn : Nat → Nat → Int32) : Prop := (vi 54 = 0 ∧ vi 56 = 0) ∧ ((vm 11 = 0 ∧ vi 12 = 0 ∧ vi 24 = 0 ∧ vi 25 = 0 ∧ vm 12 = 0 ∧ vm 13 = 0) ∨ (vm 11 = 1 ∧ rs_S (vi 33).toInt (vi 34).toInt (fl_A (vf 11)) (vi 12).toInt (vi 13).toInt (vi 14).toInt (vi 15).toInt (vi 16).toInt (fl_A (vf 1)) (fl_A (vf 2)) (fl_A (vn 4)) ∧ (vi 12).toInt ≤ 9999 ∧ (vi 24).toInt = (vm 12).toInt ∧ (vi 25).toInt = (vm 13).toInt ∧ rs_H (vi 33).toInt (vi 34).toInt (fl_A (vf 11)) (vi 24).toInt (vi 26).toInt (lr_g3 vi) (lr_f3 vf) (fl_A (vn 6)) ∧ rs_I (vi 33).toInt (vi 34).toInt (fl_A (vf 11)) (vi 25).toInt (lr_g4 vi) (lr_f4 vf) (fl_A (vn 7))))
/-- all but the tapes -/
def lr_Q (vi : Nat → Int32) (vf : Nat → Nat → Int32) (vm : Nat → Int32) (vn : Nat → Nat → Int32) : Prop := (vi 1).toInt = (vm 7).toInt ∧ lr_H vi vf vm vn ∧ lr_V vi vf vm vn
def lr_R (tp : Int32) (vi : Nat → Int32) (vf : Nat → Nat → Int32) (vm : Nat → Int32) (vn : Nat → Nat → Int32) : Prop := rp_T (fl_A (vf 0)) (fl_A (vn 0)) tp.toInt ∧ lr_Q vi vf vm vn
theorem rs_b0 : ∀ k : Fin 9, Ff_X7_hasBit 0 (k.val : Int) = 0 := by decide +kernel
theorem lr_H_keep {vi vi1 vm vm1 : Nat → Int32} {vf vf1 vn vn1 : Nat → Nat → Int32} (i33 : vi1 33 = vi 33) (i34 : vi1 34 = vi 34) (i35 : vi1 35 = vi 35) (i36 : vi1 36 = vi 36) (i37 : vi1 37 = vi 37) (i38 : vi1 38 = vi 38) (i39 : vi1 39 = vi 39) (i40 : vi1 40 = vi 40) (i41 : vi1 41 = vi 41) (i42 : vi1 42 = vi 42) (i53 : vi1 53 = vi 53) (f11 : vf1 11 = vf 11) (f12 : vf1 12 = vf 12) (f13 : vf1 13 = vf 13) (f14 : vf1 14 = vf 14) (f19 : vf1 19 = vf 19) (f20 : vf1 20 = vf 20) (m11 : vm1 11 = vm 11) (n2 : fl_A (vn1 2) = fl_A (vn 2)) (h : lr_H vi vf vm vn) : lr_H vi1 vf1 vm1 vn1 := by
  unfold lr_H at h ⊢
  rw [i33, i34, i35, i36, i37, i38, i39, i40, i41, i42, i53, f11, f12, f13, f14, f19, f20, m11, n2]
  exact h
theorem lr_keep {vi vi1 vm vm1 : Nat → Int32} {vf vf1 vn vn1 : Nat → Nat → Int32} (ki : ∀ k : Nat, k ∈ ([1, 33, 34, 35, 36, 37, 38, 39, 40, 41, 42, 53, 12, 13, 14, 15, 16, 24, 25, 26, 54, 56] : List Nat) → vi1 k = vi k) (kj : ∀ k : Nat, 57 ≤ k → k < 152 → vi1 k = vi k) (kf : ∀ k : Nat, k ∈ ([11, 12, 13, 14, 19, 20, 1, 2] : List Nat) → vf1 k = vf k) (kg : ∀ k : Nat, 23 ≤ k → k < 61 → vf1 k = vf k) (km : ∀ k : Nat, k ∈ ([7, 11, 12, 13] : List Nat) → vm1 k = vm k) (kn : ∀ k : Nat, k ∈ ([2, 4, 6, 7] : List Nat) → vn1 k = vn k) (h : lr_Q vi vf vm vn) : lr_Q vi1 vf1 vm1 vn1 := by
  obtain ⟨h1, h2, h3, h4⟩ := h
  refine ⟨by rw [ki 1 (by decide), km 7 (by decide)]; exact h1, lr_H_keep (ki 33 (by decide)) (ki 34 (by decide)) (ki 35 (by decide)) (ki 36 (by decide)) (ki 37 (by decide)) (ki 38 (by decide)) (ki 39 (by decide)) (ki 40 (by decide)) (ki 41 (by decide)) (ki 42 (by decide)) (ki 53 (by decide)) (kf 11 (by decide)) (kf 12 (by decide)) (kf 13 (by decide)) (kf 14 (by decide)) (kf 19 (by decide)) (kf 20 (by decide)) (km 11 (by decide)) (by rw [kn 2 (by decide)]) h2, ⟨by rw [ki 54 (by decide)]; exact h3.1, by rw [ki 56 (by decide)]; exact h3.2⟩, ?_⟩
  rw [km 11 (by decide), km 12 (by decide), km 13 (by decide), ki 12 (by decide), ki 13 (by decide), ki 14 (by decide), ki 15 (by decide), ki 16 (by decide), ki 24 (by decide), ki 25 (by decide), ki 26 (by decide), ki 33 (by decide), ki 34 (by decide), kf 1 (by decide), kf 2 (by decide), kf 11 (by decide), kn 4 (by decide), kn 6 (by decide), kn 7 (by decide)]
  rcases h4 with h4 | ⟨a, b, c, d, e, f, g⟩
  · exact Or.inl h4
  · exact Or.inr ⟨a, b, c, d, e, rs_H_cg (fun k h9 => by show (vi1 (57 + k)).toInt = (vi (57 + k)).toInt; rw [kj (57 + k) (by omega) (by omega)]) (fun k h9 => by show fl_A (vf1 (23 + k)) = fl_A (vf (23 + k)); rw [kg (23 + k) (by omega) (by omega)]) f, rs_I_cg (fun k h9 => by show (vi1 (137 + k)).toInt = (vi (137 + k)).toInt; rw [kj (137 + k) (by omega) (by omega)]) (fun k h9 => by show fl_A (vf1 (55 + k)) = fl_A (vf (55 + k)); rw [kg (55 + k) (by omega) (by omega)]) g⟩
theorem lr_D_cg {fg sp sa sh lw ti pu fi tb sc wc : Int} {kd me sf sm wf wt fr fr' : Nat → Int} (q : ∀ i : Nat, i < 156 → fr' i = fr i) (h : rp_Dh fg sp sa sh lw ti pu fi fr ∧ rp_Df tb kd me fr ∧ rp_Dw wc wf wt fr ∧ rp_Ds sc sf sm fr) : rp_Dh fg sp sa sh lw ti pu fi fr' ∧ rp_Df tb kd me fr' ∧ rp_Dw wc wf wt fr' ∧ rp_Ds sc sf sm fr' := by
  obtain ⟨h1, h2, h3, h4⟩ := h
  refine ⟨?_, rp_Df_cg h2 (fun i hi => q i (by omega)), rp_Dw_cg h3 (fun i hi => q i (by omega)), rp_Ds_cg h4 (fun i hi => q i (by omega))⟩
  unfold rp_Dh at h1 ⊢
  rw [q 0 (by decide), q 1 (by decide), q 2 (by decide), q 3 (by decide), q 4 (by decide), q 5 (by decide), q 6 (by decide), q 7 (by decide), q 8 (by decide), q 9 (by decide), q 10 (by decide), q 11 (by decide)]
  exact h1
theorem lr_cpy {f g : Nat → Int} (i : Nat) (h : i < 156) : va_cpy f g 0 0 156 i = f i := by
  unfold va_cpy
  rw [if_pos (by omega)]
  congr 1
  omega
theorem lr_init : lr_R 0 (ux (fun _ => 0) [(2, -1)]) (fun _ _ => 0) (ux (fun _ => 0) [(8, -1)]) (fun _ _ => 0) := by
  refine ⟨fun i9 h9 => absurd h9 (by have h8 : (0 : Int32).toInt = 0 := (by decide); omega), rfl, Or.inl ⟨rfl, rfl, rfl, rfl, rfl, rfl, rfl, rfl, rfl, rfl, rfl⟩, ⟨rfl, rfl⟩, Or.inl ⟨rfl, rfl, rfl, rfl, rfl, rfl⟩⟩
theorem rp_bg0 (f : Int) (a b : Nat → Int) : Sf_X5_begin_17_1 f 0 a b = .inl (1, fl_up a 0 0, fl_up b 0 0) := rfl
theorem rp_bg1 (f : Int) (a b : Nat → Int) : Sf_X5_begin_17_1 f 1 a b = .inl (2, fl_up a 1 1, fl_up b 1 0) := rfl
theorem rp_bg2 (f : Int) (a b : Nat → Int) : Sf_X5_begin_17_1 f 2 a b = .inl (3, fl_up a 2 2, fl_up b 2 0) := rfl
theorem rp_bg3 (f : Int) (a b : Nat → Int) : Sf_X5_begin_17_1 f 3 a b = .inl (4, fl_up a 3 3, fl_up b 3 0) := rfl
theorem rp_bg4 (f : Int) (a b : Nat → Int) : Sf_X5_begin_17_1 f 4 a b = .inl (5, fl_up a 4 4, fl_up b 4 0) := rfl
theorem rp_bg5 (f : Int) (a b : Nat → Int) : Sf_X5_begin_17_1 f 5 a b = .inl (6, fl_up a 5 5, fl_up b 5 0) := rfl
theorem rp_bg6 (f : Int) (a b : Nat → Int) : Sf_X5_begin_17_1 f 6 a b = .inl (7, fl_up a 6 6, fl_up b 6 0) := rfl
theorem rp_bg7 (f : Int) (a b : Nat → Int) : Sf_X5_begin_17_1 f 7 a b = .inl (8, fl_up a 7 7, fl_up b 7 0) := rfl
theorem rp_bg8 (f : Int) (a b : Nat → Int) : Sf_X5_begin_17_1 f 8 a b = .inl (9, fl_up a 8 8, fl_up b 8 0) := rfl
theorem rp_begin (f : Int) (a b : Nat → Int) : ∃ pl he, Ff_X5_begin f a b = (0, f, 0, 0, 0, pl, he) ∧ ∀ k : Nat, k < 9 → pl k = (k : Int) ∧ he k = 0 := by
  refine ⟨(fl_up (fl_up (fl_up (fl_up (fl_up (fl_up (fl_up (fl_up (fl_up a 0 0) 1 1) 2 2) 3 3) 4 4) 5 5) 6 6) 7 7) 8 8), (fl_up (fl_up (fl_up (fl_up (fl_up (fl_up (fl_up (fl_up (fl_up b 0 0) 1 0) 2 0) 3 0) 4 0) 5 0) 6 0) 7 0) 8 0), ?_, ?_⟩
  · unfold Ff_X5_begin
    rw [fl_wh_l (step := (fun t9 : Int × (Nat → Int) × (Nat → Int) => Sf_X5_begin_17_1 f t9.1 t9.2.1 t9.2.2)) (rp_bg0 f _ _)]
    rw [fl_wh_l (step := (fun t9 : Int × (Nat → Int) × (Nat → Int) => Sf_X5_begin_17_1 f t9.1 t9.2.1 t9.2.2)) (rp_bg1 f _ _)]
    rw [fl_wh_l (step := (fun t9 : Int × (Nat → Int) × (Nat → Int) => Sf_X5_begin_17_1 f t9.1 t9.2.1 t9.2.2)) (rp_bg2 f _ _)]
    rw [fl_wh_l (step := (fun t9 : Int × (Nat → Int) × (Nat → Int) => Sf_X5_begin_17_1 f t9.1 t9.2.1 t9.2.2)) (rp_bg3 f _ _)]
    rw [fl_wh_l (step := (fun t9 : Int × (Nat → Int) × (Nat → Int) => Sf_X5_begin_17_1 f t9.1 t9.2.1 t9.2.2)) (rp_bg4 f _ _)]
    rw [fl_wh_l (step := (fun t9 : Int × (Nat → Int) × (Nat → Int) => Sf_X5_begin_17_1 f t9.1 t9.2.1 t9.2.2)) (rp_bg5 f _ _)]
    rw [fl_wh_l (step := (fun t9 : Int × (Nat → Int) × (Nat → Int) => Sf_X5_begin_17_1 f t9.1 t9.2.1 t9.2.2)) (rp_bg6 f _ _)]
    rw [fl_wh_l (step := (fun t9 : Int × (Nat → Int) × (Nat → Int) => Sf_X5_begin_17_1 f t9.1 t9.2.1 t9.2.2)) (rp_bg7 f _ _)]
    rw [fl_wh_l (step := (fun t9 : Int × (Nat → Int) × (Nat → Int) => Sf_X5_begin_17_1 f t9.1 t9.2.1 t9.2.2)) (rp_bg8 f _ _)]
    exact fl_wh_r (step := (fun t9 : Int × (Nat → Int) × (Nat → Int) => Sf_X5_begin_17_1 f t9.1 t9.2.1 t9.2.2)) (s := (9, (fl_up (fl_up (fl_up (fl_up (fl_up (fl_up (fl_up (fl_up (fl_up a 0 0) 1 1) 2 2) 3 3) 4 4) 5 5) 6 6) 7 7) 8 8), (fl_up (fl_up (fl_up (fl_up (fl_up (fl_up (fl_up (fl_up (fl_up b 0 0) 1 0) 2 0) 3 0) 4 0) 5 0) 6 0) 7 0) 8 0))) rfl
  · intro k hk
    have h : k = 0 ∨ k = 1 ∨ k = 2 ∨ k = 3 ∨ k = 4 ∨ k = 5 ∨ k = 6 ∨ k = 7 ∨ k = 8 := by omega
    rcases h with h | h | h | h | h | h | h | h | h <;> (subst h; exact ⟨rfl, rfl⟩)
/-- the halls as minutes want them -/
theorem lr_G {vi vm : Nat → Int32} {vf vn : Nat → Nat → Int32} (hH : lr_H vi vf vm vn) (h1 : vm 11 = 1) (hr : ((∀ k : Nat, 0 ≤ k → k ≤ 0 → (2 : Int) ≤ ((vn 2) k).toInt ∧ ((vn 2) k).toInt ≤ 9) ∧ (∀ k : Nat, 1 ≤ k → k ≤ 1 → (1 : Int) ≤ ((vn 2) k).toInt ∧ ((vn 2) k).toInt ≤ 20) ∧ (∀ k : Nat, 2 ≤ k → k ≤ 2 → (0 : Int) ≤ ((vn 2) k).toInt ∧ ((vn 2) k).toInt ≤ 8) ∧ (∀ k : Nat, 3 ≤ k → k ≤ 3 → (0 : Int) ≤ ((vn 2) k).toInt ∧ ((vn 2) k).toInt ≤ 100) ∧ (∀ k : Nat, 4 ≤ k → k ≤ 4 → (0 : Int) ≤ ((vn 2) k).toInt ∧ ((vn 2) k).toInt ≤ 9) ∧ (∀ k : Nat, 5 ≤ k → k ≤ 5 → (0 : Int) ≤ ((vn 2) k).toInt ∧ ((vn 2) k).toInt ≤ 3) ∧ (∀ k : Nat, 6 ≤ k → k ≤ 6 → (0 : Int) ≤ ((vn 2) k).toInt ∧ ((vn 2) k).toInt ≤ 6) ∧ (∀ k : Nat, 7 ≤ k → k ≤ 9 → (0 : Int) ≤ ((vn 2) k).toInt ∧ ((vn 2) k).toInt ≤ 8) ∧ (∀ k : Nat, 12 ≤ k → k ≤ 29 → (0 : Int) ≤ ((vn 2) k).toInt ∧ ((vn 2) k).toInt ≤ 20) ∧ (∀ k : Nat, 30 ≤ k → k ≤ 35 → (0 : Int) ≤ ((vn 2) k).toInt ∧ ((vn 2) k).toInt ≤ 8) ∧ (∀ k : Nat, 36 ≤ k → k ≤ 47 → (0 : Int) ≤ ((vn 2) k).toInt ∧ ((vn 2) k).toInt ≤ 999))) (hk : ((∀ (j i0 i : Int32), (0 : Int) ≤ j.toInt → j.toInt ≤ 8 → i0.toInt = 12 + 2 * j.toInt → i.toInt = 13 + 2 * j.toInt → ((vn 2) i0.toNatClampNeg).toInt = (1 : Int32).toInt → (1 : Int) ≤ ((vn 2) i.toNatClampNeg).toInt))) : rs_G (vi 33).toInt (vi 34).toInt (vi 35).toInt (vi 38).toInt (vi 39).toInt (fl_A (vf 11)) (fl_A (vf 12)) (fl_A (vn 2)) ∧ (vi 54 = 0 → rs_D (vi 53).toInt (vi 54).toInt (fl_A (vf 19)) (fl_A (vf 20)) (fl_A (vn 2))) ∧ (0 ≤ (vi 40).toInt ∧ (vi 40).toInt < (vi 33).toInt) := by
  rcases hH with ⟨z, -⟩ | ⟨-, ⟨f2, f9, f37⟩, ⟨⟨d1, d2, d3, d4⟩, d5, d6, d7⟩, ⟨e1, e2, e3, -⟩, ⟨w1, w2, w3, w4⟩, -⟩
  · rw [z] at h1; exact absurd h1 (by decide)
  obtain ⟨g7, g8, g9, g10⟩ := d7 f37
  have d11 : fl_A (vn 2) 11 = 1 := by
    rcases d2 with q | q
    · have := d3 q; omega
    · exact q
  obtain ⟨-, -, s1, s2, s3⟩ := d4 d11
  obtain ⟨r0, r1, r2, r3, r4, r5, r6, r7, r12, r30, r36⟩ := hr
  have rng : ∀ k : Nat, k < 9 → 0 ≤ fl_A (vn 2) (13 + 2 * k) ∧ fl_A (vn 2) (13 + 2 * k) ≤ 20 := fun k hk' => r12 (13 + 2 * k) (by omega) (by omega)
  have hkd : ∀ k : Nat, k < 9 → fl_A (vn 2) (12 + 2 * k) = 1 → 1 ≤ fl_A (vn 2) (13 + 2 * k) := by
    intro k hk' h9
    have a1 : (Int32.ofNat k).toInt = (k : Int) := by rw [Int32.toInt_ofNat_of_lt (by omega)]
    have a2 : (Int32.ofNat (12 + 2 * k)).toInt = 12 + 2 * (k : Int) := by rw [Int32.toInt_ofNat_of_lt (by omega)]; omega
    have a3 : (Int32.ofNat (13 + 2 * k)).toInt = 13 + 2 * (k : Int) := by rw [Int32.toInt_ofNat_of_lt (by omega)]; omega
    have b2 : (Int32.ofNat (12 + 2 * k)).toNatClampNeg = 12 + 2 * k := by show (Int32.ofNat (12 + 2 * k)).toInt.toNat = _; rw [a2]; omega
    have b3 : (Int32.ofNat (13 + 2 * k)).toNatClampNeg = 13 + 2 * k := by show (Int32.ofNat (13 + 2 * k)).toInt.toNat = _; rw [a3]; omega
    have q := hk (Int32.ofNat k) (Int32.ofNat (12 + 2 * k)) (Int32.ofNat (13 + 2 * k)) (by omega) (by omega) (by omega) (by omega) (by rw [b2]; exact h9.trans (by decide))
    rw [b3] at q
    exact q
  refine ⟨⟨⟨d1, f2, f9⟩, ⟨s1, ?_, ?_⟩, ⟨s2, ?_, ?_⟩, ⟨g7, ?_, ?_⟩, ⟨g8, ?_, ?_⟩, fun k hk' => ?_⟩, fun hp => ⟨w1, w2, w3, by rw [hp]; decide, fun w hw => ?_⟩, g10.1, by omega⟩
  · rw [s1]; exact (r1 1 (by decide) (by decide)).1
  · rw [s1]; exact (r1 1 (by decide) (by decide)).2
  · rw [s2]; exact (r2 2 (by decide) (by decide)).1
  · rw [s2]; exact (r2 2 (by decide) (by decide)).2
  · rw [g7]; exact (r7 7 (by decide) (by decide)).1
  · rw [g7]; exact (r7 7 (by decide) (by decide)).2
  · rw [g8]; exact (r7 8 (by decide) (by decide)).1
  · rw [g8]; exact (r7 8 (by decide) (by decide)).2
  · obtain ⟨q1, q2, -⟩ := e3 k hk'
    rw [q1, q2]
    exact ⟨rfl, rfl, (rng k hk').1, (rng k hk').2, hkd k hk'⟩
  · obtain ⟨q1, q2⟩ := w4 w hw
    exact ⟨q1, q2, r30 (30 + 2 * w) (by omega) (by omega), r30 (31 + 2 * w) (by omega) (by omega)⟩
end REL
