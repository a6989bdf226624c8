set_option maxHeartbeats 4000000 in
set_option maxRecDepth 100000 in
theorem k_X8_led (l : Launch) (dC : Nat → ClassId) (dI : Nat → Nat → Nat) (sz : Nat) (x : Nat) (tp : Int32) (vi : Nat → Int32) (vf : Nat → Nat → Int32) (wx : va_W) (tx : List (ClassId × FieldType)) (h : IMv x tp vi vf wx tx) (a1 : Int32) : Met l yX8_led wsX8_led ({ frames := 0, cells := 0, slots := 0, locals := 0 }) (va_Pc [.ref x, .int a1] (ax_C dC dI sz wx tx (fun _ => True))) (va_Qi (fun (_ : Int32) (_ : Unit) => True) (fun _ t => ∃ wx9 ty9, (∃ vi1 vf1, (∀ k9 : Nat, k9 ∉ ([0] : List Nat) → vi1 k9 = vi k9) ∧ (∀ k9 : Nat, k9 ∉ ([] : List Nat) → vf1 k9 = vf k9) ∧ IMv x tp vi1 vf1 wx9 ty9) ∧ ax_B dC dI (va_A wx sz) wx9 ty9 t) (va_A wx sz)) 0 0 (va_A wx sz) := by
  sorry
