section AX
/-- a contract's start: the heap's size, the world, the classes, and what else is known -/
def ax_C (dC : Nat → ClassId) (dI : Nat → Nat → Nat) (sz : Nat) (ws : va_W) (tys : List (ClassId × FieldType)) (E : State → Prop) (U : State) : Prop :=
  U.heap.size = sz ∧ va_P (dC, dI) vwCl ws U.heap ∧ va_K (dC, dI) vwCl tys U ∧ va_D (fun _ => True) ws ∧ E U
/-- the world behind it -/
def ax_B (dC : Nat → ClassId) (dI : Nat → Nat → Nat) (A : Nat → Prop) (ws : va_W) (tys : List (ClassId × FieldType)) (t : State) : Prop :=
  va_P (dC, dI) vwCl ws t.heap ∧ va_K (dC, dI) vwCl tys t ∧ va_D A ws
theorem ax_blind {av : List Value} {dC : Nat → ClassId} {dI : Nat → Nat → Nat} {sz : Nat} {ws : va_W} {tys : List (ClassId × FieldType)} {E : State → Prop}
    (hE : ∀ (a : Array Value) (U : State) (g : JFrame) (mk : MethodId), E U → E (U.calling g mk a)) : FrameBlind (va_Pc av (ax_C dC dI sz ws tys E)) :=
  fun a U g mk q => ⟨q.1, q.2.1, q.2.2.1, va_K.moved (u := U) (U := U.calling g mk a) (Vm.Alike.refl U.vm) q.2.2.2.1, q.2.2.2.2.1, hE a U g mk q.2.2.2.2.2⟩
theorem ax_pre {av : List Value} {s : State} {H : Heap} {A : Nat → Prop} {dC : Nat → ClassId} {dI : Nat → Nat → Nat} {ws : va_W} {tys : List (ClassId × FieldType)} {E : State → Prop}
    (hP : va_P (dC, dI) vwCl ws H) (hK : va_K (dC, dI) vwCl tys s) (hD : va_D A ws) (hE : ∀ U : State, s.WarmedH U.vm → E U) :
    ∀ U : State, U.heap = H → s.WarmedH U.vm → va_Pc av (ax_C dC dI H.size ws tys E) av.toArray U :=
  fun U hU hW => ⟨rfl, by rw [hU], by rw [hU]; exact hP, va_K.moved hW.alike hK, hD.weaken (fun _ _ _ _ => trivial), hE U hW⟩
theorem ax_ti {p : Program} {l : Launch} {e : Env} {R : Room} {s : State} {m : MethodId} {args : Array Value} {below : List Frame} {meth : Method} {c : Code} {H : Heap} {locs : List Loc} {cells slots : Nat} {Q : State → Prop} {pc : Nat} {ls : Array Slot} {rest : List Value} {x : Int32} (v : Int32) (h : x = v)
    (k : W p l e R s m args below meth c H locs cells slots Q (F0 m pc ls (.int v :: rest))) : W p l e R s m args below meth c H locs cells slots Q (F0 m pc ls (.int x :: rest)) := by
  subst h; exact k
theorem ax_u0 (i : Nat) : upd (fun _ => (0 : Int32)) i 0 = fun _ => 0 := by
  funext j; unfold upd; split <;> rfl
theorem ax_lt {a b : Int32} (h : a < b) : a.toInt < b.toInt := Int32.lt_iff_toInt_lt.mp h
theorem ax_nlt {a b : Int32} (h : ¬ a < b) : b.toInt ≤ a.toInt := by
  rw [Int32.lt_iff_toInt_lt] at h; omega
theorem ax_z0 {a : Int32} (h1 : (0 : Int32).toInt ≤ a.toInt) (h2 : a.toInt ≤ (0 : Int32).toInt) : a = 0 := Int32.toInt_inj.mp (Int.le_antisymm h2 h1)
theorem ax_13 {a : Int32} (h : a = 13) : 0 ≤ a.toInt ∧ a.toInt ≤ 13 := by subst h; decide
theorem ax_r12 {a : Int32} (h : (0 : Int32).toInt ≤ a.toInt ∧ a.toInt ≤ (12 : Int32).toInt) : 0 ≤ a.toInt ∧ a.toInt ≤ 13 := by
  have e0 : (0 : Int32).toInt = 0 := by decide
  have e1 : (12 : Int32).toInt = 12 := by decide
  omega
theorem ax_o12 {a : Int32} (h : ¬ a = 13) (h2 : a.toInt < (0 : Int32).toInt ∨ (12 : Int32).toInt < a.toInt) : a.toInt < 0 ∨ 13 < a.toInt := by
  have e0 : (0 : Int32).toInt = 0 := by decide
  have e1 : (12 : Int32).toInt = 12 := by decide
  have e2 : a.toInt ≠ 13 := fun h9 => h (Int32.toInt_inj.mp (h9.trans (by decide)))
  omega
end AX
theorem dfX0 : ∀ j, j < 15 → defaultValue (tyX0 j) = vp_V [.int 0, .int 0, .int 0, .int 0, .int 0, .int 0, .int 0, .int 0, .int 0, .int 0, .null, .null, .null, .null, .null] j := fun j hj => by
  rcases (show j = 0 ∨ j = 1 ∨ j = 2 ∨ j = 3 ∨ j = 4 ∨ j = 5 ∨ j = 6 ∨ j = 7 ∨ j = 8 ∨ j = 9 ∨ j = 10 ∨ j = 11 ∨ j = 12 ∨ j = 13 ∨ j = 14 by omega) with rfl | rfl | rfl | rfl | rfl | rfl | rfl | rfl | rfl | rfl | rfl | rfl | rfl | rfl | rfl <;> rfl
theorem dfX1 : ∀ j, j < 5 → defaultValue (tyX1 j) = vp_V [.int 0, .int 0, .int 0, .null, .null] j := fun j hj => by
  rcases (show j = 0 ∨ j = 1 ∨ j = 2 ∨ j = 3 ∨ j = 4 by omega) with rfl | rfl | rfl | rfl | rfl <;> rfl
theorem dfX2 : ∀ j, j < 7 → defaultValue (tyX2 j) = vp_V [.int 0, .int 0, .int 0, .null, .null, .int 0, .int 0] j := fun j hj => by
  rcases (show j = 0 ∨ j = 1 ∨ j = 2 ∨ j = 3 ∨ j = 4 ∨ j = 5 ∨ j = 6 by omega) with rfl | rfl | rfl | rfl | rfl | rfl | rfl <;> rfl
theorem dfX3 : ∀ j, j < 14 → defaultValue (tyX3 j) = vp_V [.int 0, .int 0, .int 0, .null, .null, .null, .int 0, .int 0, .int 0, .int 0, .int 0, .long 0, .int 0, .int 0] j := fun j hj => by
  rcases (show j = 0 ∨ j = 1 ∨ j = 2 ∨ j = 3 ∨ j = 4 ∨ j = 5 ∨ j = 6 ∨ j = 7 ∨ j = 8 ∨ j = 9 ∨ j = 10 ∨ j = 11 ∨ j = 12 ∨ j = 13 by omega) with rfl | rfl | rfl | rfl | rfl | rfl | rfl | rfl | rfl | rfl | rfl | rfl | rfl | rfl <;> rfl
theorem dfX4 : ∀ j, j < 3 → defaultValue (tyX4 j) = vp_V [.int 0, .null, .null] j := fun j hj => by
  rcases (show j = 0 ∨ j = 1 ∨ j = 2 by omega) with rfl | rfl | rfl <;> rfl
theorem dfX5 : ∀ j, j < 7 → defaultValue (tyX5 j) = vp_V [.int 0, .int 0, .int 0, .int 0, .int 0, .null, .null] j := fun j hj => by
  rcases (show j = 0 ∨ j = 1 ∨ j = 2 ∨ j = 3 ∨ j = 4 ∨ j = 5 ∨ j = 6 by omega) with rfl | rfl | rfl | rfl | rfl | rfl | rfl <;> rfl
theorem dfX6 : ∀ j, j < 4 → defaultValue (tyX6 j) = vp_V [.int 0, .int 0, .null, .null] j := fun j hj => by
  rcases (show j = 0 ∨ j = 1 ∨ j = 2 ∨ j = 3 by omega) with rfl | rfl | rfl | rfl <;> rfl
theorem dfX7 : ∀ j, j < 11 → defaultValue (tyX7 j) = vp_V [.null, .null, .null, .null, .null, .null, .null, .null, .int 0, .int 0, .int 0] j := fun j hj => by
  rcases (show j = 0 ∨ j = 1 ∨ j = 2 ∨ j = 3 ∨ j = 4 ∨ j = 5 ∨ j = 6 ∨ j = 7 ∨ j = 8 ∨ j = 9 ∨ j = 10 by omega) with rfl | rfl | rfl | rfl | rfl | rfl | rfl | rfl | rfl | rfl | rfl <;> rfl
theorem dfX8 : ∀ j, j < 40 → defaultValue (tyX8 j) = vp_V [.int 0, .null, .int 0, .int 0, .int 0, .int 0, .int 0, .int 0, .int 0, .int 0, .int 0, .int 0, .null, .int 0, .int 0, .null, .null, .null, .null, .null, .null, .int 0, .int 0, .null, .null, .int 0, .int 0, .int 0, .int 0, .null, .int 0, .int 0, .null, .null, .null, .null, .int 0, .int 0, .int 0, .int 0] j := fun j hj => by
  rcases (show j = 0 ∨ j = 1 ∨ j = 2 ∨ j = 3 ∨ j = 4 ∨ j = 5 ∨ j = 6 ∨ j = 7 ∨ j = 8 ∨ j = 9 ∨ j = 10 ∨ j = 11 ∨ j = 12 ∨ j = 13 ∨ j = 14 ∨ j = 15 ∨ j = 16 ∨ j = 17 ∨ j = 18 ∨ j = 19 ∨ j = 20 ∨ j = 21 ∨ j = 22 ∨ j = 23 ∨ j = 24 ∨ j = 25 ∨ j = 26 ∨ j = 27 ∨ j = 28 ∨ j = 29 ∨ j = 30 ∨ j = 31 ∨ j = 32 ∨ j = 33 ∨ j = 34 ∨ j = 35 ∨ j = 36 ∨ j = 37 ∨ j = 38 ∨ j = 39 by omega) with rfl | rfl | rfl | rfl | rfl | rfl | rfl | rfl | rfl | rfl | rfl | rfl | rfl | rfl | rfl | rfl | rfl | rfl | rfl | rfl | rfl | rfl | rfl | rfl | rfl | rfl | rfl | rfl | rfl | rfl | rfl | rfl | rfl | rfl | rfl | rfl | rfl | rfl | rfl | rfl <;> rfl
theorem mnX1_keep : (Cond.code Lib.Math.min.name Lib.Math.min.code 2 (some .int)) ∈ wsX1_keep := List.mem_of_getElem? (i := 7) rfl
theorem mnX4_weigh : (Cond.code Lib.Math.min.name Lib.Math.min.code 2 (some .int)) ∈ wsX4_weigh := List.mem_of_getElem? (i := 4) rfl
theorem mxX2_mostOf : (Cond.code Lib.Math.max.name Lib.Math.max.code 2 (some .int)) ∈ wsX2_mostOf := List.mem_of_getElem? (i := 5) rfl
theorem mbX7_farthest : (Cond.code Lib.Math.abs.name Lib.Math.abs.code 1 (some .int)) ∈ wsX7_farthest := List.mem_of_getElem? (i := 8) rfl
