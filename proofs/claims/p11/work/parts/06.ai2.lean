theorem ai_mulpos {z x y : Int} (e : z = x * y) (h : 1 ≤ z) (hx : 0 ≤ x) : 1 ≤ x := by
  have h1 : x ≠ 0 := fun h0 => by rw [h0, Int.zero_mul] at e; omega
  omega
theorem ax_tv {p : Program} {l : Launch} {e : Env} {R : Room} {s : State} {m : MethodId} {args : Array Value} {below : List Frame} {meth : Method} {c : Code} {H : Heap} {locs : List Loc} {cells slots : Nat} {Q : State → Prop} {pc : Nat} {ls : Array Slot} {rest : List Value} {x : Value} (v : Value) (h : x = v)
    (k : W p l e R s m args below meth c H locs cells slots Q (F0 m pc ls (v :: rest))) : W p l e R s m args below meth c H locs cells slots Q (F0 m pc ls (x :: rest)) := by
  subst h; exact k
theorem ai_updm {f : Nat → Int32} {a b : Int} (h : ∀ k, a ≤ (f k).toInt ∧ (f k).toInt ≤ b ∧ (f k).toInt % 10 ≤ 8) (i : Nat) {v : Int32} (hv : a ≤ v.toInt ∧ v.toInt ≤ b ∧ v.toInt % 10 ≤ 8) : ∀ k, a ≤ (upd f i v k).toInt ∧ (upd f i v k).toInt ≤ b ∧ (upd f i v k).toInt % 10 ≤ 8 := by
  intro k; unfold upd; split
  · exact hv
  · exact h k
theorem ai_rem2 {x y z : Int32} {d : Int} (e : z = x - x / y * y) (hx : 0 ≤ x.toInt) (hy : 0 < y.toInt) (hd : y.toInt ≤ d) : z.toInt = x.toInt % y.toInt ∧ 0 ≤ z.toInt ∧ z.toInt ≤ d - 1 := by
  obtain ⟨q1, q2, q3⟩ := ai_div (rfl : x / y = x / y) ⟨hx, ai_max x⟩ hy
  have h0 := Int.emod_nonneg x.toInt (show y.toInt ≠ 0 by omega)
  have h1 := Int.emod_lt_of_pos x.toInt hy
  have h2 := Int.emod_def x.toInt y.toInt
  rw [Int.mul_comm] at h2
  have hm := ai_max x
  have hp : 0 ≤ x.toInt / y.toInt * y.toInt := Int.mul_nonneg (Int.ediv_nonneg hx (by omega)) (by omega)
  have e1 : (x / y * y).toInt = x.toInt / y.toInt * y.toInt := by
    rw [Int32.toInt_mul, q1]
    generalize x.toInt / y.toInt * y.toInt = P at h2 hp ⊢
    exact Int.bmod_eq_of_le (by omega) (by omega)
  have e2 : z.toInt = x.toInt - x.toInt / y.toInt * y.toInt := by
    subst e
    rw [Int32.toInt_sub, e1]
    generalize x.toInt / y.toInt * y.toInt = P at h2 hp ⊢
    exact Int.bmod_eq_of_le (by omega) (by omega)
  rw [← h2] at e2
  exact ⟨e2, by omega, by omega⟩
