def ux {α : Type} (f : Nat → α) (l : List (Nat × α)) : Nat → α := fun i => (l.lookup i).getD (f i)
