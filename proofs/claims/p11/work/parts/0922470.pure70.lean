section PUH0
def rp_pc (n : Nat) : Nat := (n >>> 0) % 2 + (n >>> 1) % 2 + (n >>> 2) % 2 + (n >>> 3) % 2 + (n >>> 4) % 2 + (n >>> 5) % 2 + (n >>> 6) % 2 + (n >>> 7) % 2 + (n >>> 8) % 2
set_option maxRecDepth 20000 in
theorem rp_z1 : ∀ n : Fin 512, ∀ g : Fin 9, Ff_X7_hasBit (n.val : Int) (g.val : Int) = if (n.val >>> g.val) % 2 = 1 then 1 else 0 := by decide +kernel
set_option maxRecDepth 20000 in
theorem rp_z2 : ∀ tb : Fin 512, ∀ f : Fin 9, fl_or (tb.val : Int) (fl_shl 1 (f.val : Int)) = ((tb.val ||| (1 <<< f.val) : Nat) : Int) := by decide +kernel
set_option maxRecDepth 20000 in
theorem rp_z3 : ∀ tb : Fin 512, ∀ f : Fin 9, (tb.val ||| (1 <<< f.val)) < 512 ∧ ((tb.val >>> f.val) % 2 = 1 ∨ rp_pc (tb.val ||| (1 <<< f.val)) = rp_pc tb.val + 1) ∧ ∀ g : Fin 9, (((tb.val ||| (1 <<< f.val)) >>> g.val) % 2 = 1 ↔ ((tb.val >>> g.val) % 2 = 1 ∨ g.val = f.val)) := by decide +kernel
set_option maxRecDepth 20000 in
theorem rp_z4 : ∀ n : Fin 512, Ff_J6_bitCount_0f7a4 (n.val : Int) = ((rp_pc n.val : Nat) : Int) := by decide +kernel
theorem rp_zi {p : Prop} [Decidable p] : ((if p then (1 : Int) else 0) = 1) ↔ p := by
  by_cases h : p
  · rw [if_pos h]; exact ⟨fun _ => h, fun _ => rfl⟩
  · rw [if_neg h]; exact ⟨fun q => absurd q (by decide), fun q => absurd q h⟩
theorem rp_bits : ∀ tb : Fin 512, ∀ f : Fin 9, (0 ≤ fl_or (tb.val : Int) (fl_shl 1 (f.val : Int)) ∧ fl_or (tb.val : Int) (fl_shl 1 (f.val : Int)) ≤ 511) ∧ (Ff_X7_hasBit (tb.val : Int) (f.val : Int) = 1 ∨ Ff_J6_bitCount_0f7a4 (fl_or (tb.val : Int) (fl_shl 1 (f.val : Int))) = Ff_J6_bitCount_0f7a4 (tb.val : Int) + 1) ∧ ∀ g : Fin 9, (Ff_X7_hasBit (fl_or (tb.val : Int) (fl_shl 1 (f.val : Int))) (g.val : Int) = 1 ↔ (Ff_X7_hasBit (tb.val : Int) (g.val : Int) = 1 ∨ g.val = f.val)) := by
  intro tb f
  obtain ⟨h1, h2, h3⟩ := rp_z3 tb f
  have e1 := rp_z1 ⟨tb.val ||| (1 <<< f.val), h1⟩
  have e4 := rp_z4 ⟨tb.val ||| (1 <<< f.val), h1⟩
  have h5 : ∀ q : Nat, q < 512 → (0 : Int) ≤ (q : Int) ∧ (q : Int) ≤ 511 := fun q h => by omega
  rw [rp_z2 tb f]
  refine ⟨h5 _ h1, ?_, fun g => ?_⟩
  · rw [rp_z1 tb f, rp_zi]
    rcases h2 with h2 | h2
    · exact Or.inl h2
    · right
      have e5 : Ff_J6_bitCount_0f7a4 ((tb.val ||| (1 <<< f.val) : Nat) : Int) = ((rp_pc (tb.val ||| (1 <<< f.val)) : Nat) : Int) := e4
      rw [e5, rp_z4 tb, h2]
      rfl
  · have e5 : Ff_X7_hasBit ((tb.val ||| (1 <<< f.val) : Nat) : Int) (g.val : Int) = if ((tb.val ||| (1 <<< f.val)) >>> g.val) % 2 = 1 then 1 else 0 := e1 g
    rw [e5, rp_z1 tb g, rp_zi, rp_zi]
    exact h3 g
end PUH0
