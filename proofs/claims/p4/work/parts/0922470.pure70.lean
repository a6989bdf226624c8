section PUH0
set_option maxRecDepth 20000 in
theorem rp_bits : ∀ tb : Fin 512, ∀ f : Fin 9, (0 ≤ fl_or (tb.val : Int) (fl_shl 1 (f.val : Int)) ∧ fl_or (tb.val : Int) (fl_shl 1 (f.val : Int)) ≤ 511) ∧ (Ff_X7_hasBit (tb.val : Int) (f.val : Int) = 1 ∨ Ff_J6_bitCount_0f7a4 (fl_or (tb.val : Int) (fl_shl 1 (f.val : Int))) = Ff_J6_bitCount_0f7a4 (tb.val : Int) + 1) ∧ ∀ g : Fin 9, (Ff_X7_hasBit (fl_or (tb.val : Int) (fl_shl 1 (f.val : Int))) (g.val : Int) = 1 ↔ (Ff_X7_hasBit (tb.val : Int) (g.val : Int) = 1 ∨ g.val = f.val)) := by decide +kernel
end PUH0
