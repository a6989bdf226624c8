section AI
theorem ai_min (x : Int32) : (-2147483648 : Int) ≤ x.toInt := by have := Int32.le_toInt x; omega
theorem ai_max (x : Int32) : x.toInt ≤ (2147483647 : Int) := by have := Int32.toInt_lt x; omega
theorem ai_of {x : Int32} {n : Int} (h : x.toInt = n) : n ≤ x.toInt ∧ x.toInt ≤ n := ⟨Int.le_of_eq h.symm, Int.le_of_eq h⟩
theorem ai_lt {a b : Int32} (h : a < b) : a.toInt < b.toInt := Int32.lt_iff_toInt_lt.mp h
theorem ai_nlt {a b : Int32} (h : ¬ a < b) : b.toInt ≤ a.toInt := by rw [Int32.lt_iff_toInt_lt] at h; omega
theorem ai_le {a b : Int32} (h : a ≤ b) : a.toInt ≤ b.toInt := Int32.le_iff_toInt_le.mp h
theorem ai_nle {a b : Int32} (h : ¬ a ≤ b) : b.toInt < a.toInt := by rw [Int32.le_iff_toInt_le] at h; omega
theorem ai_lthi {a b : Int32} {n : Int} (h : a.toInt < b.toInt) (hb : b.toInt ≤ n) : a.toInt ≤ n - 1 := by omega
theorem ai_ltlo {a b : Int32} {n : Int} (h : a.toInt < b.toInt) (ha : n ≤ a.toInt) : n + 1 ≤ b.toInt := by omega
theorem ai_ne {a b : Int32} (h : ¬ a = b) : a.toInt ≠ b.toInt := fun e => h (Int32.toInt_inj.mp e)
theorem ai_eq {a b : Int32} (h : a = b) : a.toInt = b.toInt := congrArg Int32.toInt h
theorem ai_add {x y z : Int32} {a b c d : Int} (e : z = x + y) (hx : a ≤ x.toInt ∧ x.toInt ≤ b) (hy : c ≤ y.toInt ∧ y.toInt ≤ d) (h1 : -2147483648 ≤ a + c) (h2 : b + d ≤ 2147483647) : z.toInt = x.toInt + y.toInt := by
  subst e; rw [Int32.toInt_add]; exact Int.bmod_eq_of_le (by omega) (by omega)
theorem ai_sub {x y z : Int32} {a b c d : Int} (e : z = x - y) (hx : a ≤ x.toInt ∧ x.toInt ≤ b) (hy : c ≤ y.toInt ∧ y.toInt ≤ d) (h1 : -2147483648 ≤ a - d) (h2 : b - c ≤ 2147483647) : z.toInt = x.toInt - y.toInt := by
  subst e; rw [Int32.toInt_sub]; exact Int.bmod_eq_of_le (by omega) (by omega)
theorem ai_mul {x y z : Int32} {a b c d : Int} (e : z = x * y) (hx : a ≤ x.toInt ∧ x.toInt ≤ b) (hy : c ≤ y.toInt ∧ y.toInt ≤ d) (ha : 0 ≤ a) (hc : 0 ≤ c) (h2 : b * d ≤ 2147483647) : z.toInt = x.toInt * y.toInt ∧ a * c ≤ z.toInt ∧ z.toInt ≤ b * d := by
  have h3 : x.toInt * y.toInt ≤ b * d := Int.mul_le_mul hx.2 hy.2 (Int.le_trans hc hy.1) (Int.le_trans ha (Int.le_trans hx.1 hx.2))
  have h5 : a * c ≤ x.toInt * y.toInt := Int.mul_le_mul hx.1 hy.1 hc (Int.le_trans ha hx.1)
  have h4 : 0 ≤ a * c := Int.mul_nonneg ha hc
  have e2 : z.toInt = x.toInt * y.toInt := by subst e; rw [Int32.toInt_mul]; exact Int.bmod_eq_of_le (by omega) (by omega)
  exact ⟨e2, by omega, by omega⟩
theorem ai_nz {y : Int32} {n : Int} (h : n ≤ y.toInt) (h0 : 0 < n) : ¬ y = 0 := fun e => by
  have e1 : y.toInt = 0 := by rw [e]; rfl
  omega
theorem ai_rem {x y z : Int32} {d : Int} (e : z = x % y) (hx : 0 ≤ x.toInt) (hy : 0 < y.toInt) (hd : y.toInt ≤ d) : z.toInt = x.toInt % y.toInt ∧ 0 ≤ z.toInt ∧ z.toInt ≤ d - 1 := by
  have e2 : z.toInt = x.toInt % y.toInt := by subst e; rw [Int32.toInt_mod, Int.tmod_eq_emod_of_nonneg hx]
  have h1 := Int.emod_nonneg x.toInt (show y.toInt ≠ 0 by omega)
  have h2 := Int.emod_lt_of_pos x.toInt hy
  exact ⟨e2, by omega, by omega⟩
theorem ai_div {x y z : Int32} {b : Int} (e : z = x / y) (hx : 0 ≤ x.toInt ∧ x.toInt ≤ b) (hy : 0 < y.toInt) : z.toInt = x.toInt / y.toInt ∧ 0 ≤ z.toInt ∧ z.toInt ≤ b := by
  have e2 : z.toInt = x.toInt / y.toInt := by
    subst e
    rw [Int32.toInt_div, Int.tdiv_eq_ediv_of_nonneg hx.1]
    have h1 : 0 ≤ x.toInt / y.toInt := Int.ediv_nonneg hx.1 (by omega)
    have h2 : x.toInt / y.toInt ≤ x.toInt := Int.ediv_le_self _ hx.1
    have h3 := ai_max x
    rw [Int.bmod_eq_of_le (by omega) (by omega)]
  have h1 : 0 ≤ x.toInt / y.toInt := Int.ediv_nonneg hx.1 (by omega)
  have h2 : x.toInt / y.toInt ≤ x.toInt := Int.ediv_le_self _ hx.1
  exact ⟨e2, by omega, by omega⟩
theorem ai_in {x : Int32} {n : Nat} {a b : Int} (h1 : a ≤ x.toInt) (h2 : x.toInt ≤ b) (h3 : 0 ≤ a) (h4 : b < (n : Int)) : vp_in x n := vp_in_iff.mpr ⟨by omega, by omega⟩
theorem ai_inc {x z : Int32} {b k : Int} (e : z = x + Int32.ofInt k) (hk : (Int32.ofInt k).toInt = k) (h0 : 0 ≤ k) (hx : x.toInt ≤ b) (h2 : b + k ≤ 2147483647) : z.toInt = x.toInt + k := by
  have h1 := ai_min x
  subst e; rw [Int32.toInt_add, hk]; exact Int.bmod_eq_of_le (by omega) (by omega)
theorem ai_dec {x z : Int32} {a k : Int} (e : z = x + Int32.ofInt k) (hk : (Int32.ofInt k).toInt = k) (h0 : k ≤ 0) (hx : a ≤ x.toInt) (h2 : -2147483648 ≤ a + k) : z.toInt = x.toInt + k := by
  have h1 := ai_max x
  subst e; rw [Int32.toInt_add, hk]; exact Int.bmod_eq_of_le (by omega) (by omega)
theorem ai_mmin {x y z : Int32} (e : z = if y < x then y else x) : (z.toInt = x.toInt ∨ z.toInt = y.toInt) ∧ z.toInt ≤ x.toInt ∧ z.toInt ≤ y.toInt := by
  by_cases h : y < x
  · rw [if_pos h] at e; subst e; have := ai_lt h; omega
  · rw [if_neg h] at e; subst e; have := ai_nlt h; omega
theorem ai_upd {f : Nat → Int32} {a b : Int} (h : ∀ k, a ≤ (f k).toInt ∧ (f k).toInt ≤ b) (i : Nat) {v : Int32} (hv : a ≤ v.toInt ∧ v.toInt ≤ b) : ∀ k, a ≤ (upd f i v k).toInt ∧ (upd f i v k).toInt ≤ b := by
  intro k; unfold upd; split
  · exact hv
  · exact h k
theorem ai_updP {f : Nat → Int32} {P : Int32 → Prop} (h : ∀ k, P (f k)) (i : Nat) {v : Int32} (hv : P v) : ∀ k, P (upd f i v k) := by
  intro k; unfold upd; split
  · exact hv
  · exact h k
theorem ai_open {p : Program} {l : Launch} {e : Env} {R : Room} {s : State} {m : MethodId} {args : Array Value} {below : List Frame} {meth : Method} {c : Code} {H : Heap} {locs : List Loc} {cells slots : Nat} {Q : State → Prop} {g : JFrame}
    (k : ∀ K : Heap → List Loc → JFrame → Prop, (∀ H locs g, K H locs g ↔ W p l e R s m args below meth c H locs cells slots Q g) → K H locs g) : W p l e R s m args below meth c H locs cells slots Q g :=
  k (fun H locs g => W p l e R s m args below meth c H locs cells slots Q g) (fun _ _ _ => Iff.rfl)
theorem ai_lcne {x y : Int64} {v : Int32} (e : v = lg_cmp x y) (h : ¬ v = 0) : ¬ x = y := fun q => h (by rw [e, q]; unfold lg_cmp; rw [if_neg (by rw [gt_iff_lt]; exact fun h9 => Int64.lt_irrefl h9), if_pos rfl])
theorem ai_shr1 {x z : Int32} (e : z = x >>> ((1 : Int32) &&& 31)) : z.toInt = x.toInt / 2 := by
  have e1 : ((1 : Int32) &&& 31) = 1 := by decide
  rw [e1] at e
  subst e
  rw [← Int32.toInt_toBitVec, Int32.toBitVec_shiftRight, BitVec.sshiftRight_eq']
  rw [show ((1 : Int32).toBitVec.smod 32).toNat = 1 by decide, BitVec.toInt_sshiftRight, Int32.toInt_toBitVec, Int.shiftRight_eq_div_pow]
  rfl
theorem ai_bool {v : Int32} (h1 : 0 ≤ v.toInt) (h2 : v.toInt ≤ 1) : narrow .boolean (.int v) = .int v := by
  have h : v = 0 ∨ v = 1 := by
    rcases (show v.toInt = 0 ∨ v.toInt = 1 by omega) with h | h
    · exact Or.inl (Int32.toInt_inj.mp (h.trans (by decide)))
    · exact Or.inr (Int32.toInt_inj.mp (h.trans (by decide)))
  rcases h with rfl | rfl <;> rfl
end AI
