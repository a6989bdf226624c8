section AI3
theorem ai_natle {i : Int32} {b : Int} {n : Nat} (h : i.toInt ≤ b) (hb : b ≤ (n : Int)) : i.toNatClampNeg ≤ n := by
  have e : i.toNatClampNeg = i.toInt.toNat := rfl
  omega
theorem ai_natge {i : Int32} {a : Int} {n : Nat} (h : a ≤ i.toInt) (ha : (n : Int) ≤ a) : n ≤ i.toNatClampNeg := by
  have e : i.toNatClampNeg = i.toInt.toNat := rfl
  omega
theorem ai_rd {f : Nat → Int32} {k0 k1 : Nat} {lo hi a b : Int} {i : Int32} (h : ∀ k : Nat, k0 ≤ k → k ≤ k1 → lo ≤ (f k).toInt ∧ (f k).toInt ≤ hi) (h1 : a ≤ i.toInt) (h2 : i.toInt ≤ b) (h3 : (k0 : Int) ≤ a) (h4 : b ≤ (k1 : Int)) (_ : 0 ≤ (0 : Nat)) : lo ≤ (f i.toNatClampNeg).toInt ∧ (f i.toNatClampNeg).toInt ≤ hi := h _ (ai_natge h1 h3) (ai_natle h2 h4)
theorem ai_nlt_of {i : Int32} {a b : Int} {n : Nat} (h1 : a ≤ i.toInt) (h2 : i.toInt ≤ b) (h3 : 0 ≤ a) (h4 : b < (n : Int)) : i.toNatClampNeg < n := by
  have e : i.toNatClampNeg = i.toInt.toNat := rfl
  omega
theorem ai_ngt_of {i : Int32} {a : Int} {n : Nat} (h1 : a ≤ i.toInt) (h3 : 0 ≤ a) (h4 : (n : Int) < a) : n < i.toNatClampNeg := by
  have e : i.toNatClampNeg = i.toInt.toNat := rfl
  omega
theorem ai_updS {f : Nat → Int32} {k0 k1 : Nat} {lo hi : Int} (h : ∀ k : Nat, k0 ≤ k → k ≤ k1 → lo ≤ (f k).toInt ∧ (f k).toInt ≤ hi) (i : Nat) {v : Int32} (hv : lo ≤ v.toInt ∧ v.toInt ≤ hi) : ∀ k : Nat, k0 ≤ k → k ≤ k1 → lo ≤ (upd f i v k).toInt ∧ (upd f i v k).toInt ≤ hi := by
  intro k h1 h2; unfold upd; split
  · exact hv
  · exact h k h1 h2
theorem ai_updO {f : Nat → Int32} {k0 k1 : Nat} {lo hi : Int} (h : ∀ k : Nat, k0 ≤ k → k ≤ k1 → lo ≤ (f k).toInt ∧ (f k).toInt ≤ hi) (i : Nat) {v : Int32} (hi9 : i < k0 ∨ k1 < i) : ∀ k : Nat, k0 ≤ k → k ≤ k1 → lo ≤ (upd f i v k).toInt ∧ (upd f i v k).toInt ≤ hi := by
  intro k h1 h2; unfold upd; split
  · rename_i e; exact absurd e (by omega)
  · exact h k h1 h2
theorem ai_one {f : Nat → Int32} {n : Nat} {lo hi : Int} (h : lo ≤ (f n).toInt ∧ (f n).toInt ≤ hi) : ∀ k : Nat, n ≤ k → k ≤ n → lo ≤ (f k).toInt ∧ (f k).toInt ≤ hi := by
  intro k h1 h2
  have e : k = n := by omega
  rw [e]; exact h
theorem ai_new {f : Nat → Int32} {n i : Nat} {lo hi : Int} {v : Int32} (e : i = n) (h : lo ≤ v.toInt ∧ v.toInt ≤ hi) : ∀ k : Nat, n ≤ k → k ≤ n → lo ≤ (upd f i v k).toInt ∧ (upd f i v k).toInt ≤ hi := by
  intro k h1 h2
  have e2 : k = i := by omega
  unfold upd; rw [if_pos e2]; exact h
theorem ai_k1 {f : Nat → Int32} {n i : Nat} {v : Int32} (e : i = n) : upd f i v n = v := by
  unfold upd; rw [if_pos e.symm]
theorem ai_k2 {f : Nat → Int32} {n i : Nat} {v y : Int32} (e : i ≠ n) (h : f n = y) : upd f i v n = y := by
  unfold upd; rw [if_neg (fun q => e q.symm)]; exact h
theorem ai_neg {x z : Int32} {a : Int} (e : z = -x) (h : a ≤ x.toInt) (ha : -2147483648 < a) : z.toInt = -x.toInt := by
  have h1 := ai_max x
  subst e; rw [Int32.toInt_neg]; exact Int.bmod_eq_of_le (by omega) (by omega)
end AI3
