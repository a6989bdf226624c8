theorem rp_feed2 {tp tpx tpm : Int32} {f g f1 g1 : Nat → Int32} (hR : rp_T (fl_A f) (fl_A g) tp.toInt) (h0 : 0 ≤ tp.toInt) (a1 a2 a3 a4 a5 : Int) (ftx : tpx.toInt = (Ff_X7_feed a1 a2 a3 a4 a5 tp.toInt (fl_A f)).2.1) (ffx : fl_A f1 = (Ff_X7_feed a1 a2 a3 a4 a5 tp.toInt (fl_A f)).2.2) (ftm : tpm.toInt = (Ff_X8_feed a1 a2 a3 a4 a5 tp.toInt (fl_A g)).2.2.1) (ffm : fl_A g1 = (Ff_X8_feed a1 a2 a3 a4 a5 tp.toInt (fl_A g)).2.2.2) : tpx = tpm ∧ rp_T (fl_A f1) (fl_A g1) tpx.toInt := by
  rcases rp_feed hR h0 a1 a2 a3 a4 a5 with ⟨-, tp9, tm9, e1, e2, e3⟩ | ⟨-, e1, e2⟩
  · rw [e1] at ftx ffx; rw [e2] at ftm ffm
    simp only at ftx ffx ftm ffm
    refine ⟨Int32.toInt_inj.mp (ftx.trans ftm.symm), ?_⟩
    rw [ffx, ffm, ftx]; exact e3
  · rw [e1] at ftx ffx; rw [e2] at ftm ffm
    simp only at ftx ffx ftm ffm
    refine ⟨Int32.toInt_inj.mp (ftx.trans ftm.symm), ?_⟩
    rw [ffx, ffm, ftx]; exact hR
