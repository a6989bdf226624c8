theorem ai_mulpos {z x y : Int} (e : z = x * y) (h : 1 ≤ z) (hx : 0 ≤ x) : 1 ≤ x := by
  have h1 : x ≠ 0 := fun h0 => by rw [h0, Int.zero_mul] at e; omega
  omega
