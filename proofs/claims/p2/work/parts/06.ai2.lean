theorem ai_mulpos {z x y : Int} (e : z = x * y) (h : 1 ≤ z) (hx : 0 ≤ x) : 1 ≤ x := by
  have h1 : x ≠ 0 := fun h0 => by rw [h0, Int.zero_mul] at e; omega
  omega
theorem ax_tv {p : Program} {l : Launch} {e : Env} {R : Room} {s : State} {m : MethodId} {args : Array Value} {below : List Frame} {meth : Method} {c : Code} {H : Heap} {locs : List Loc} {cells slots : Nat} {Q : State → Prop} {pc : Nat} {ls : Array Slot} {rest : List Value} {x : Value} (v : Value) (h : x = v)
    (k : W p l e R s m args below meth c H locs cells slots Q (F0 m pc ls (v :: rest))) : W p l e R s m args below meth c H locs cells slots Q (F0 m pc ls (x :: rest)) := by
  subst h; exact k
