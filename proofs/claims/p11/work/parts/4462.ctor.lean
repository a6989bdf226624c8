section CTOR
theorem qs_z {l : List (Option Nat)} (h : ∀ z ∈ l, z = none) : (fun _ : Nat => (none : Option Nat)) = fun i9 => l.getD i9 none := by
  funext i
  rw [List.getD_eq_getElem?_getD]
  cases h2 : l[i]? with
  | none => rfl
  | some y => rw [h y (List.mem_of_getElem? h2)]; rfl
theorem qs_s {l : List (Option Nat)} {k : Nat} {v : Option Nat} (hk : k < l.length) : va_up (fun i9 => l.getD i9 none) k v = fun i9 => (l.set k v).getD i9 none := by
  funext j
  unfold va_up
  show (if j = k then v else l.getD j none) = (l.set k v).getD j none
  rw [List.getD_eq_getElem?_getD, List.getD_eq_getElem?_getD]
  by_cases e : j = k
  · subst e; rw [if_pos rfl, List.getElem?_set_self hk]; rfl
  · rw [if_neg e, List.getElem?_set_ne (fun z => e z.symm)]
end CTOR
