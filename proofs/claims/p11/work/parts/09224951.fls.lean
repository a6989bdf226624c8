section FLS
def fl_nI (l : List Int) : Nat → Int := fun k => l.getD k 0
def fl_nF (l : List (Nat → Int)) : Nat → Nat → Int := fun k => l.getD k (fun _ => 0)
def fl_rem (x y : Int) : Int := (Int32.ofInt x - Int32.ofInt x / Int32.ofInt y * Int32.ofInt y).toInt
theorem fl_rem_eq {x y z : Int32} (e : z = x - x / y * y) : z.toInt = fl_rem x.toInt y.toInt := by subst e; unfold fl_rem; rw [Int32.ofInt_toInt, Int32.ofInt_toInt]
def fl_abs (x : Int) : Int := (if (0 : Int32) ≤ Int32.ofInt x then Int32.ofInt x else 0 - Int32.ofInt x).toInt
theorem fl_abs_eq {x z : Int32} (e : z = if 0 ≤ x then x else 0 - x) : z.toInt = fl_abs x.toInt := by subst e; unfold fl_abs; rw [Int32.ofInt_toInt]
def fl_ladd (x y : Int) : Int := (Int64.ofInt x + Int64.ofInt y).toInt
theorem fl_ladd_eq {x y z : Int64} (e : z = x + y) : z.toInt = fl_ladd x.toInt y.toInt := by subst e; unfold fl_ladd; rw [Int64.ofInt_toInt, Int64.ofInt_toInt]
def fl_lsub (x y : Int) : Int := (Int64.ofInt x - Int64.ofInt y).toInt
theorem fl_lsub_eq {x y z : Int64} (e : z = x - y) : z.toInt = fl_lsub x.toInt y.toInt := by subst e; unfold fl_lsub; rw [Int64.ofInt_toInt, Int64.ofInt_toInt]
def fl_lmul (x y : Int) : Int := (Int64.ofInt x * Int64.ofInt y).toInt
theorem fl_lmul_eq {x y z : Int64} (e : z = x * y) : z.toInt = fl_lmul x.toInt y.toInt := by subst e; unfold fl_lmul; rw [Int64.ofInt_toInt, Int64.ofInt_toInt]
def fl_ldiv (x y : Int) : Int := (Int64.ofInt x / Int64.ofInt y).toInt
theorem fl_ldiv_eq {x y z : Int64} (e : z = x / y) : z.toInt = fl_ldiv x.toInt y.toInt := by subst e; unfold fl_ldiv; rw [Int64.ofInt_toInt, Int64.ofInt_toInt]
def fl_lrem (x y : Int) : Int := (Int64.ofInt x - Int64.ofInt x / Int64.ofInt y * Int64.ofInt y).toInt
theorem fl_lrem_eq {x y z : Int64} (e : z = x - x / y * y) : z.toInt = fl_lrem x.toInt y.toInt := by subst e; unfold fl_lrem; rw [Int64.ofInt_toInt, Int64.ofInt_toInt]
end FLS
