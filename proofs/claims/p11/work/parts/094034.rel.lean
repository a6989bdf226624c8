section RELP
section RT
/-- the n-th turn from one of x on, by N -/
def rt_T (N : Int → Int) (x : Int) : Nat → Int
  | 0 => x
  | n + 1 => N (rt_T N x n)
theorem rt_mem {N : Int → Int} {x fg : Int} (hN : ∀ y, 0 ≤ N y ∧ N y < fg) (hx : 0 ≤ x ∧ x < fg) : ∀ n, 0 ≤ rt_T N x n ∧ rt_T N x n < fg
  | 0 => hx
  | _ + 1 => hN _
theorem rt_add (N : Int → Int) (x : Int) (n : Nat) : ∀ m, rt_T N x (n + m) = rt_T N (rt_T N x n) m
  | 0 => rfl
  | m + 1 => congrArg N (rt_add N x n m)
theorem rt_eq {N : Int → Int} {x : Int} {a b : Nat} (h : rt_T N x a = rt_T N x b) (d : Nat) : rt_T N x (a + d) = rt_T N x (b + d) := by
  rw [rt_add, rt_add, h]
theorem rt_pig : ∀ (m n : Nat) (f : Nat → Int), (∀ k, k < n → 0 ≤ f k ∧ f k < (m : Int)) → (∀ i j, i < n → j < n → f i = f j → i = j) → n ≤ m := by
  intro m
  induction m with
  | zero =>
    intro n f h1 _
    by_cases h : n = 0
    · omega
    · have h2 := h1 0 (by omega); omega
  | succ m ih =>
    intro n f h1 h2
    by_cases hk : ∃ k, k < n ∧ f k = (m : Int)
    · obtain ⟨k, hk, ek⟩ := hk
      have q : n - 1 ≤ m := ih (n - 1) (fun i => if i = k then f (n - 1) else f i) (fun i hi => by
        by_cases e : i = k
        · rw [if_pos e]
          have q1 := h1 (n - 1) (by omega)
          have q2 : f (n - 1) ≠ (m : Int) := fun q3 => by
            have q4 := h2 (n - 1) k (by omega) hk (q3.trans ek.symm)
            omega
          omega
        · rw [if_neg e]
          have q1 := h1 i (by omega)
          have q2 : f i ≠ (m : Int) := fun q3 => e (h2 i k (by omega) hk (q3.trans ek.symm))
          omega) (fun i j hi hj => by
        by_cases e1 : i = k
        · rw [if_pos e1]
          by_cases e2 : j = k
          · intro _; omega
          · rw [if_neg e2]; intro q1
            have q2 := h2 (n - 1) j (by omega) (by omega) q1
            omega
        · rw [if_neg e1]
          by_cases e2 : j = k
          · rw [if_pos e2]; intro q1
            have q2 := h2 i (n - 1) (by omega) (by omega) q1
            omega
          · rw [if_neg e2]; intro q1
            exact h2 i j (by omega) (by omega) q1)
      omega
    · have q := ih n f (fun i hi => by
        have q1 := h1 i hi
        have q2 : f i ≠ (m : Int) := fun q3 => hk ⟨i, hi, q3⟩
        omega) h2
      omega
/-- from the s-th on they come again, g of them -/
def rt_C (N : Int → Int) (x : Int) (s g : Nat) : Prop := 1 ≤ g ∧ (∀ i j, i < s + g → j < s + g → rt_T N x i = rt_T N x j → i = j) ∧ rt_T N x (s + g) = rt_T N x s
theorem rt_per {N : Int → Int} {x : Int} {s g : Nat} (h : rt_C N x s g) (j : Nat) : ∀ q : Nat, rt_T N x (s + j + g * q) = rt_T N x (s + j)
  | 0 => rfl
  | q + 1 => by
    have e : s + j + g * (q + 1) = (s + g) + (j + g * q) := by rw [Nat.mul_add, Nat.mul_one]; omega
    rw [e, rt_eq h.2.2 (j + g * q), ← Nat.add_assoc]
    exact rt_per h j q
theorem rt_mod {N : Int → Int} {x : Int} {s g : Nat} (h : rt_C N x s g) {n : Nat} (hn : s ≤ n) : rt_T N x n = rt_T N x (s + (n - s) % g) := by
  have e : n = s + (n - s) % g + g * ((n - s) / g) := by
    have := Nat.mod_add_div (n - s) g
    omega
  have q := rt_per h ((n - s) % g) ((n - s) / g)
  rw [← e] at q
  exact q
/-- each turn is one of the first s + g -/
theorem rt_old {N : Int → Int} {x : Int} {s g : Nat} (h : rt_C N x s g) (n : Nat) : ∃ k, k < s + g ∧ rt_T N x k = rt_T N x n := by
  by_cases hn : s ≤ n
  · refine ⟨s + (n - s) % g, ?_, (rt_mod h hn).symm⟩
    have := Nat.mod_lt (n - s) h.1
    omega
  · exact ⟨n, by have := h.1; omega, rfl⟩
/-- the place found in a row -/
def rt_fd (row : Nat → Int) (f : Int) : Nat → Nat → Int → Int
  | 0, _, st => st
  | d + 1, j, st => rt_fd row f d (j + 1) (if row j = f then (j : Int) else st)
theorem rt_fd0 {row : Nat → Int} {f : Int} : ∀ (d j : Nat) (st : Int), (∀ k, j ≤ k → k < j + d → row k ≠ f) → rt_fd row f d j st = st
  | 0, _, _, _ => rfl
  | d + 1, j, st, h => by
    show rt_fd row f d (j + 1) (if row j = f then (j : Int) else st) = st
    rw [if_neg (h j (Nat.le_refl _) (by omega))]
    exact rt_fd0 d (j + 1) st (fun k h1 h2 => h k (by omega) (by omega))
theorem rt_fd1 {row : Nat → Int} {f : Int} {s : Nat} (hs : row s = f) : ∀ (d j : Nat) (st : Int), j ≤ s → s < j + d → (∀ k, j ≤ k → k < j + d → k ≠ s → row k ≠ f) → rt_fd row f d j st = (s : Int)
  | 0, _, _, _, _, _ => by omega
  | d + 1, j, st, h1, h2, h => by
    show rt_fd row f d (j + 1) (if row j = f then (j : Int) else st) = (s : Int)
    by_cases e : j = s
    · subst e
      rw [if_pos hs]
      exact rt_fd0 d (j + 1) (j : Int) (fun k q1 q2 => h k (by omega) (by omega) (by omega))
    · rw [if_neg (h j (Nat.le_refl _) (by omega) e)]
      exact rt_fd1 hs d (j + 1) st (by omega) (by omega) (fun k q1 q2 q3 => h k (by omega) (by omega) q3)
/-- goRound's inner loop -/
theorem rt_in (r row : Nat → Int) (f : Int) (n : Nat) : ∀ (d m j : Nat) (st : Int), j + d = n → d + 1 ≤ m →
    fl_wh (fun t9 : Int × Int => Sf_X8_goRound_24_1 r f (n : Int) row t9.1 t9.2) (Sum.inr (0, 0, (fun _ => 0))) m ((j : Int), st) =
      (if rt_fd row f d j st < 0 then Sum.inl (Ff_X8_nextOf f r, (n : Int) + 1, rt_fd row f d j st, fl_up row n f) else Sum.inr (rt_fd row f d j st, (n : Int) - rt_fd row f d j st, row)) := by
  intro d
  induction d with
  | zero =>
    intro m j st hj hm
    obtain ⟨m, rfl⟩ : ∃ q, m = q + 1 := ⟨m - 1, by omega⟩
    refine fl_wh_r (step := (fun t9 : Int × Int => Sf_X8_goRound_24_1 r f (n : Int) row t9.1 t9.2)) (s := ((j : Int), st)) ?_
    show Sf_X8_goRound_24_1 r f (n : Int) row (j : Int) st = _
    unfold Sf_X8_goRound_24_1
    rw [if_pos (by omega)]
    show Sum.inr (if st < 0 then _ else _) = Sum.inr (if st < 0 then _ else _)
    by_cases h : st < 0
    · rw [if_pos h, if_pos h]
      rfl
    · rw [if_neg h, if_neg h, if_pos (by omega)]
      rfl
  | succ d ih =>
    intro m j st hj hm
    obtain ⟨m, rfl⟩ : ∃ q, m = q + 1 := ⟨m - 1, by omega⟩
    have q := ih m (j + 1) (if row j = f then (j : Int) else st) (by omega) (by omega)
    refine (fl_wh_l (step := (fun t9 : Int × Int => Sf_X8_goRound_24_1 r f (n : Int) row t9.1 t9.2)) (s := ((j : Int), st)) (s' := (((j + 1 : Nat) : Int), if row j = f then (j : Int) else st)) ?_).trans q
    show Sf_X8_goRound_24_1 r f (n : Int) row (j : Int) st = _
    unfold Sf_X8_goRound_24_1
    rw [if_neg (by omega)]
    show (if row j = f then _ else _) = _
    by_cases h : row j = f
    · rw [if_pos h, if_pos h]
      rfl
    · rw [if_neg h, if_neg h]
      rfl
/-- goRound's outer loop -/
theorem rt_out {r : Nat → Int} {N : Int → Int} {x fg : Int} (hf : fg ≤ 9) (hN : ∀ y, 0 ≤ N y ∧ N y < fg) (hr : ∀ y, Ff_X8_nextOf y r = N y) (hx : 0 ≤ x ∧ x < fg) : ∀ (d m n : Nat) (row : Nat → Int), (n : Int) + (d : Int) = fg → d + 2 ≤ m → (∀ k, k < n → row k = rt_T N x k) → (∀ i j, i < n → j < n → rt_T N x i = rt_T N x j → i = j) →
    ∃ (s g : Nat) (row1 : Nat → Int), fl_wh (fun t9 : Int × Int × Int × (Nat → Int) => Sf_X8_goRound_15_1 r t9.1 t9.2.1 t9.2.2.1 t9.2.2.2) (0, 0, (fun _ => 0)) m (rt_T N x n, (n : Int), (-1), row) = ((s : Int), (g : Int), row1) ∧ rt_C N x s g ∧ ((s + g : Nat) : Int) ≤ fg ∧ ∀ k, k < s + g → row1 k = rt_T N x k := by
  intro d
  induction d with
  | zero =>
    intro m n row hd hm h1 h2
    obtain ⟨m, rfl⟩ : ∃ q, m = q + 1 := ⟨m - 1, by omega⟩
    have hs : ∃ s, s < n ∧ rt_T N x s = rt_T N x n := by
      by_cases h : ∃ s, s < n ∧ rt_T N x s = rt_T N x n
      · exact h
      · have q := rt_pig n (n + 1) (rt_T N x) (fun k _ => by have := rt_mem hN hx k; omega) (fun i j hi hj e => by
          by_cases e1 : i = n
          · by_cases e2 : j = n
            · omega
            · exact absurd ⟨j, by omega, by rw [← e, e1]⟩ h
          · by_cases e2 : j = n
            · exact absurd ⟨i, by omega, by rw [e, e2]⟩ h
            · exact h2 i j (by omega) (by omega) e)
        omega
    obtain ⟨s, hs1, hs2⟩ := hs
    refine ⟨s, n - s, row, ?_, ⟨by omega, fun i j hi hj e => h2 i j (by omega) (by omega) e, by rw [show s + (n - s) = n from by omega]; exact hs2.symm⟩, by omega, fun k hk => h1 k (by omega)⟩
    refine fl_wh_r (step := (fun t9 : Int × Int × Int × (Nat → Int) => Sf_X8_goRound_15_1 r t9.1 t9.2.1 t9.2.2.1 t9.2.2.2)) (s := (rt_T N x n, (n : Int), (-1), row)) ?_
    show Sf_X8_goRound_15_1 r (rt_T N x n) (n : Int) (-1) row = _
    unfold Sf_X8_goRound_15_1
    rw [if_neg (by decide)]
    have q := rt_in r row (rt_T N x n) n n 10 0 (-1) (by omega) (by omega)
    have q1 := rt_fd1 (row := row) (f := rt_T N x n) (s := s) ((h1 s hs1).trans hs2) n 0 (-1) (by omega) (by omega) (fun k _ q2 q3 q4 => q3 (h2 k s (by omega) hs1 (by rw [← h1 k (by omega), q4, hs2])))
    rw [q1, if_neg (by omega)] at q
    refine q.trans ?_
    show Sum.inr ((s : Int), (n : Int) - (s : Int), row) = Sum.inr ((s : Int), ((n - s : Nat) : Int), row)
    rw [show ((n - s : Nat) : Int) = (n : Int) - (s : Int) from by omega]
  | succ d ih =>
    intro m n row hd hm h1 h2
    obtain ⟨m, rfl⟩ : ∃ q, m = q + 1 := ⟨m - 1, by omega⟩
    have q := rt_in r row (rt_T N x n) n n 10 0 (-1) (by omega) (by omega)
    by_cases hs : ∃ s, s < n ∧ rt_T N x s = rt_T N x n
    · obtain ⟨s, hs1, hs2⟩ := hs
      refine ⟨s, n - s, row, ?_, ⟨by omega, fun i j hi hj e => h2 i j (by omega) (by omega) e, by rw [show s + (n - s) = n from by omega]; exact hs2.symm⟩, by omega, fun k hk => h1 k (by omega)⟩
      refine fl_wh_r (step := (fun t9 : Int × Int × Int × (Nat → Int) => Sf_X8_goRound_15_1 r t9.1 t9.2.1 t9.2.2.1 t9.2.2.2)) (s := (rt_T N x n, (n : Int), (-1), row)) ?_
      show Sf_X8_goRound_15_1 r (rt_T N x n) (n : Int) (-1) row = _
      unfold Sf_X8_goRound_15_1
      rw [if_neg (by decide)]
      have q1 := rt_fd1 (row := row) (f := rt_T N x n) (s := s) ((h1 s hs1).trans hs2) n 0 (-1) (by omega) (by omega) (fun k _ q2 q3 q4 => q3 (h2 k s (by omega) hs1 (by rw [← h1 k (by omega), q4, hs2])))
      rw [q1, if_neg (by omega)] at q
      refine q.trans ?_
      show Sum.inr ((s : Int), (n : Int) - (s : Int), row) = Sum.inr ((s : Int), ((n - s : Nat) : Int), row)
      rw [show ((n - s : Nat) : Int) = (n : Int) - (s : Int) from by omega]
    · have q1 := rt_fd0 (row := row) (f := rt_T N x n) n 0 (-1) (fun k _ q2 q3 => hs ⟨k, by omega, by rw [← h1 k (by omega), q3]⟩)
      rw [q1, if_pos (by decide)] at q
      obtain ⟨s, g, row1, e1, e2, e3, e4⟩ := ih m (n + 1) (fl_up row n (rt_T N x n)) (by omega) (by omega) (fun k hk => by
        unfold fl_up
        by_cases e : k = n
        · rw [if_pos e, e]
        · rw [if_neg e]; exact h1 k (by omega)) (fun i j hi hj e => by
        by_cases e1 : i = n
        · by_cases e2 : j = n
          · omega
          · exact absurd ⟨j, by omega, by rw [← e, e1]⟩ hs
        · by_cases e2 : j = n
          · exact absurd ⟨i, by omega, by rw [e, e2]⟩ hs
          · exact h2 i j (by omega) (by omega) e)
      refine ⟨s, g, row1, (fl_wh_l (step := (fun t9 : Int × Int × Int × (Nat → Int) => Sf_X8_goRound_15_1 r t9.1 t9.2.1 t9.2.2.1 t9.2.2.2)) (s := (rt_T N x n, (n : Int), (-1), row)) (s' := (rt_T N x (n + 1), ((n + 1 : Nat) : Int), (-1), fl_up row n (rt_T N x n))) ?_).trans e1, e2, e3, e4⟩
      show Sf_X8_goRound_15_1 r (rt_T N x n) (n : Int) (-1) row = _
      unfold Sf_X8_goRound_15_1
      rw [if_neg (by decide)]
      refine q.trans ?_
      rw [hr]
      rfl
theorem rt_go {r st row : Nat → Int} {N : Int → Int} {x fg : Int} (h2 : 2 ≤ fg) (hf : fg ≤ 9) (hN : ∀ y, 0 ≤ N y ∧ N y < fg) (hr : ∀ y, Ff_X8_nextOf y r = N y) (hx : 0 ≤ x ∧ x < fg) (h19 : x = st 19) :
    ∃ (s g : Nat) (row1 : Nat → Int), Ff_X8_goRound st row r = ((s : Int), (g : Int), row1) ∧ rt_C N x s g ∧ ((s + g : Nat) : Int) ≤ fg ∧ ∀ k, k < s + g → row1 k = rt_T N x k := by
  obtain ⟨s, g, row1, e1, e⟩ := rt_out hf hN hr hx fg.toNat 13 0 row (by omega) (by omega) (fun k hk => absurd hk (by omega)) (fun i j hi => absurd hi (by omega))
  refine ⟨s, g, row1, ?_, e⟩
  unfold Ff_X8_goRound
  rw [← h19]
  exact e1
theorem rt_at {N : Int → Int} {x : Int} {s g : Nat} {row : Nat → Int} (h : rt_C N x s g) (hr : ∀ k, k < s + g → row k = rt_T N x k) (n : Nat) : Ff_X8_turnAt (n : Int) (s : Int) (g : Int) row = rt_T N x n := by
  unfold Ff_X8_turnAt
  have hg := h.1
  by_cases hn : s ≤ n
  · rw [if_pos (by omega)]
    show row (((s : Int) + ((n : Int) - (s : Int)) % (g : Int)).toNat) = _
    have e : ((s : Int) + ((n : Int) - (s : Int)) % (g : Int)).toNat = s + (n - s) % g := by
      rw [show (n : Int) - (s : Int) = ((n - s : Nat) : Int) from by omega, ← Int.natCast_emod]
      omega
    have hm := Nat.mod_lt (n - s) hg
    rw [e, hr _ (by omega), ← rt_mod h hn]
  · rw [if_neg (by omega)]
    show row ((n : Int).toNat) = _
    rw [Int.toNat_natCast, hr n (by omega)]
end RT
section RT2
theorem rt_and {x : Int} (h0 : 0 ≤ x) (h1 : x ≤ 2147483647) : fl_and x 1 = x % 2 := by
  obtain ⟨n, rfl⟩ : ∃ n : Nat, x = (n : Int) := ⟨x.toNat, by omega⟩
  unfold fl_and
  have e1 : (Int32.ofInt (n : Int)).toBitVec.toNat = n := by
    show (BitVec.ofInt 32 (n : Int)).toNat = n
    rw [BitVec.toNat_ofInt]
    omega
  have e2 : ((Int32.ofInt (n : Int)).toBitVec &&& (Int32.ofInt 1).toBitVec).toNat = n % 2 := by
    rw [BitVec.toNat_and, e1]
    exact Nat.and_one_is_mod n
  show ((Int32.ofInt (n : Int)).toBitVec &&& (Int32.ofInt 1).toBitVec).toInt = _
  rw [BitVec.toInt_eq_toNat_of_lt (by rw [e2]; omega), e2]
  omega
theorem rt_m1 (u a s m : Int) : ((u % m) * a + s) % m = (u * a + s) % m := by
  rw [Int.add_emod ((u % m) * a) s m, Int.mul_emod (u % m) a m, Int.emod_emod, ← Int.mul_emod, ← Int.add_emod]
theorem rt_m2 (x c e m : Int) : (x * (c % m) + e % m) % m = (x * c + e) % m := by
  rw [Int.add_emod (x * (c % m)) (e % m) m, Int.emod_emod, Int.mul_emod x (c % m) m, Int.emod_emod, ← Int.mul_emod, ← Int.add_emod]
/-- the law twice -/
theorem rt_twice (x a s m : Int) : ((((x * a + s) % m) * a + s) % m) = (x * (a * a % m) + (s * a + s) % m) % m := by
  rw [rt_m1, rt_m2]
  congr 1
  rw [Int.add_mul, Int.mul_assoc, Int.add_assoc]
theorem rt_dbl (F : Int → Int) (x : Int) : ∀ k, rt_T F x (2 * k) = rt_T (fun y => F (F y)) x k
  | 0 => rfl
  | k + 1 => by
    show F (F (rt_T F x (2 * k))) = F (F (rt_T (fun y => F (F y)) x k))
    rw [rt_dbl F x k]
theorem rt_cg {F G : Int → Int} (h : ∀ y, F y = G y) (x : Int) : ∀ k, rt_T F x k = rt_T G x k
  | 0 => rfl
  | k + 1 => by
    show F (rt_T F x k) = G (rt_T G x k)
    rw [rt_cg h x k, h]
theorem rt_lat {fg : Int} : ∀ (m n : Nat), n < m → n ≤ 2147483647 → ∀ (who s a : Int),
    fl_wh (fun t9 : Int × Int × Int × Int => Sf_X7_laterTurn_19_1 fg t9.1 t9.2.1 t9.2.2.1 t9.2.2.2) 0 m ((n : Int), who, s, a) = rt_T (fun x => (x * a + s) % fg) who n := by
  intro m
  induction m with
  | zero => intro n h; exact absurd h (by omega)
  | succ m ih =>
    intro n hn hb who s a
    by_cases h0 : n = 0
    · subst h0
      refine fl_wh_r (step := (fun t9 : Int × Int × Int × Int => Sf_X7_laterTurn_19_1 fg t9.1 t9.2.1 t9.2.2.1 t9.2.2.2)) (s := (((0 : Nat) : Int), who, s, a)) ?_
      show Sf_X7_laterTurn_19_1 fg ((0 : Nat) : Int) who s a = _
      unfold Sf_X7_laterTurn_19_1
      rw [if_pos (by omega)]
      rfl
    · have hd : (n : Int) / 2 = ((n / 2 : Nat) : Int) := by omega
      have tw : ∀ y : Int, (fun x => (x * a + s) % fg) ((fun x => (x * a + s) % fg) y) = (fun x => (x * (a * a % fg) + (s * a + s) % fg) % fg) y := fun y => rt_twice y a s fg
      by_cases hp : n % 2 = 1
      · have q := ih (n / 2) (by omega) (by omega) ((who * a + s) % fg) ((s * a + s) % fg) (a * a % fg)
        refine (fl_wh_l (step := (fun t9 : Int × Int × Int × Int => Sf_X7_laterTurn_19_1 fg t9.1 t9.2.1 t9.2.2.1 t9.2.2.2)) (s := ((n : Int), who, s, a)) (s' := (((n / 2 : Nat) : Int), (who * a + s) % fg, (s * a + s) % fg, a * a % fg)) ?_).trans (q.trans ?_)
        · show Sf_X7_laterTurn_19_1 fg (n : Int) who s a = _
          unfold Sf_X7_laterTurn_19_1
          rw [if_neg (by omega), rt_and (by omega) (by omega), fl_lt_eq rfl, if_pos (by omega)]
          show Sum.inl ((n : Int) / 2, (who * a + s) % fg, (s * a + s) % fg, a * a % fg) = _
          rw [hd]
        · refine ((rt_cg tw _ _).symm.trans (rt_dbl (fun x => (x * a + s) % fg) _ (n / 2)).symm).trans ?_
          have e : n = 1 + 2 * (n / 2) := by omega
          have q2 := rt_add (fun x => (x * a + s) % fg) who 1 (2 * (n / 2))
          rw [← e] at q2
          exact q2.symm
      · have q := ih (n / 2) (by omega) (by omega) who ((s * a + s) % fg) (a * a % fg)
        refine (fl_wh_l (step := (fun t9 : Int × Int × Int × Int => Sf_X7_laterTurn_19_1 fg t9.1 t9.2.1 t9.2.2.1 t9.2.2.2)) (s := ((n : Int), who, s, a)) (s' := (((n / 2 : Nat) : Int), who, (s * a + s) % fg, a * a % fg)) ?_).trans (q.trans ?_)
        · show Sf_X7_laterTurn_19_1 fg (n : Int) who s a = _
          unfold Sf_X7_laterTurn_19_1
          rw [if_neg (by omega), rt_and (by omega) (by omega), fl_lt_eq rfl, if_neg (by omega)]
          show Sum.inl ((n : Int) / 2, who, (s * a + s) % fg, a * a % fg) = _
          rw [hd]
        · refine ((rt_cg tw _ _).symm.trans (rt_dbl (fun x => (x * a + s) % fg) _ (n / 2)).symm).trans ?_
          have e : 2 * (n / 2) = n := by omega
          rw [e]
/-- the law's turn, as the class has it at once -/
theorem rt_tfn {fg ti pu : Int} (hf : 2 ≤ fg) (tu : Int) (n : Nat) (hn : n ≤ 2147483647) : Ff_X7_turnFromNow (n : Int) fg ti pu tu = rt_T (fun y => Ff_X0_next y fg ti pu) tu n := by
  unfold Ff_X7_turnFromNow Ff_X7_laterTurn
  rw [if_pos (by omega)]
  unfold fl_lt
  rw [rt_lat 4294967296 n (by omega) hn tu pu ti]
  refine rt_cg (fun y => ?_) tu n
  unfold Ff_X0_next
  simp only [fl_lt]
  rw [if_pos (by omega)]
/-- how long the round is -/
theorem rt_rl {fg ti pu tu : Int} {s g : Nat} (hf : 2 ≤ fg) (h9 : fg ≤ 9) (h : rt_C (fun y => Ff_X0_next y fg ti pu) tu s g) (hg : ((s + g : Nat) : Int) ≤ fg) : Ff_X7_roundLength fg ti pu tu = (g : Int) := by
  obtain ⟨F, rfl⟩ : ∃ F : Nat, fg = (F : Int) := ⟨fg.toNat, by omega⟩
  have h1 := h.1
  have e0 : Ff_X7_turnFromNow (F : Int) (F : Int) ti pu tu = rt_T (fun y => Ff_X0_next y F ti pu) tu F := rt_tfn hf tu F (by omega)
  have loop : ∀ (d m L : Nat), L + d = g → 1 ≤ L → d + 1 ≤ m → fl_wh (fun t9 : Int × Int => Sf_X7_roundLength_23_1 (F : Int) ti pu (rt_T (fun y => Ff_X0_next y F ti pu) tu F) t9.1 t9.2) 0 m ((L : Int), rt_T (fun y => Ff_X0_next y F ti pu) tu (F + L)) = (g : Int) := by
    intro d
    induction d with
    | zero =>
      intro m L hL h2 hm
      obtain ⟨m, rfl⟩ : ∃ q, m = q + 1 := ⟨m - 1, by omega⟩
      have eL : L = g := by omega
      subst eL
      refine fl_wh_r (step := (fun t9 : Int × Int => Sf_X7_roundLength_23_1 (F : Int) ti pu (rt_T (fun y => Ff_X0_next y F ti pu) tu F) t9.1 t9.2)) (s := ((L : Int), rt_T (fun y => Ff_X0_next y F ti pu) tu (F + L))) ?_
      show Sf_X7_roundLength_23_1 (F : Int) ti pu (rt_T (fun y => Ff_X0_next y F ti pu) tu F) (L : Int) (rt_T (fun y => Ff_X0_next y F ti pu) tu (F + L)) = _
      unfold Sf_X7_roundLength_23_1
      have e : rt_T (fun y => Ff_X0_next y F ti pu) tu (F + L) = rt_T (fun y => Ff_X0_next y F ti pu) tu F := by
        have q := rt_eq h.2.2 (F - s)
        rw [show s + L + (F - s) = F + L from by omega, show s + (F - s) = F from by omega] at q
        exact q
      by_cases hc : (F : Int) ≤ (L : Int)
      · rw [if_pos hc]
      · rw [if_neg hc, if_pos e]
    | succ d ih =>
      intro m L hL h2 hm
      obtain ⟨m, rfl⟩ : ∃ q, m = q + 1 := ⟨m - 1, by omega⟩
      have q := ih m (L + 1) (by omega) (by omega) (by omega)
      refine (fl_wh_l (step := (fun t9 : Int × Int => Sf_X7_roundLength_23_1 (F : Int) ti pu (rt_T (fun y => Ff_X0_next y F ti pu) tu F) t9.1 t9.2)) (s := ((L : Int), rt_T (fun y => Ff_X0_next y F ti pu) tu (F + L))) (s' := (((L + 1 : Nat) : Int), rt_T (fun y => Ff_X0_next y F ti pu) tu (F + (L + 1)))) ?_).trans q
      show Sf_X7_roundLength_23_1 (F : Int) ti pu (rt_T (fun y => Ff_X0_next y F ti pu) tu F) (L : Int) (rt_T (fun y => Ff_X0_next y F ti pu) tu (F + L)) = _
      unfold Sf_X7_roundLength_23_1
      have ne : ¬ rt_T (fun y => Ff_X0_next y F ti pu) tu (F + L) = rt_T (fun y => Ff_X0_next y F ti pu) tu F := by
        intro e
        rw [rt_mod h (show s ≤ F + L by omega), rt_mod h (show s ≤ F by omega)] at e
        have m1 := Nat.mod_lt (F + L - s) h1
        have m2 := Nat.mod_lt (F - s) h1
        have q1 := h.2.1 _ _ (by omega) (by omega) e
        have q2 : (F - s + L) % g = (F - s) % g := by
          rw [show F + L - s = F - s + L from by omega] at q1
          omega
        have d1 := Nat.div_add_mod (F - s + L) g
        have d2 := Nat.div_add_mod (F - s) g
        have d3 : g * ((F - s + L) / g) = g * ((F - s) / g) + L := by omega
        have d4 : (F - s + L) / g = (F - s) / g ∨ (F - s) / g + 1 ≤ (F - s + L) / g := by
          have := Nat.div_le_div_right (c := g) (show F - s ≤ F - s + L by omega)
          omega
        rcases d4 with d4 | d4
        · rw [d4] at d3; omega
        · have d5 := Nat.mul_le_mul_left g d4
          rw [Nat.mul_add, Nat.mul_one] at d5
          omega
      rw [if_neg (by omega), if_neg ne]
      rfl
  unfold Ff_X7_roundLength
  rw [e0]
  unfold fl_lt
  exact loop (g - 1) 9 1 (by omega) (by omega) (by omega)
/-- the first place from j on, among so many, at which F is f; -2 -/
def rt_ff (F : Nat → Int) (f : Int) : Nat → Nat → Int
  | 0, _ => -2
  | d + 1, j => if F j = f then (j : Int) else rt_ff F f d (j + 1)
theorem rt_ff1 {F : Nat → Int} {f : Int} : ∀ (d d' j : Nat), (∃ k, j ≤ k ∧ k < j + d ∧ F k = f) → d ≤ d' → rt_ff F f d' j = rt_ff F f d j
  | 0, _, _, h, _ => by obtain ⟨k, h1, h2, -⟩ := h; omega
  | d + 1, 0, _, _, h => by omega
  | d + 1, d' + 1, j, h, hd => by
    show (if F j = f then (j : Int) else rt_ff F f d' (j + 1)) = (if F j = f then (j : Int) else rt_ff F f d (j + 1))
    by_cases e : F j = f
    · rw [if_pos e, if_pos e]
    · rw [if_neg e, if_neg e]
      obtain ⟨k, h1, h2, h3⟩ := h
      exact rt_ff1 d d' (j + 1) ⟨k, by
        by_cases e2 : j = k
        · rw [e2] at e; exact absurd h3 e
        · omega, by omega, h3⟩ (by omega)
theorem rt_ff0 {F : Nat → Int} {f : Int} : ∀ (d j : Nat), (∀ k, j ≤ k → k < j + d → F k ≠ f) → rt_ff F f d j = -2
  | 0, _, _ => rfl
  | d + 1, j, h => by
    show (if F j = f then (j : Int) else rt_ff F f d (j + 1)) = -2
    rw [if_neg (h j (Nat.le_refl _) (by omega))]
    exact rt_ff0 d (j + 1) (fun k h1 h2 => h k (by omega) (by omega))
theorem rt_ffc {F G : Nat → Int} {f : Int} : ∀ (d j : Nat), (∀ k, j ≤ k → k < j + d → F k = G k) → rt_ff F f d j = rt_ff G f d j
  | 0, _, _ => rfl
  | d + 1, j, h => by
    show (if F j = f then (j : Int) else rt_ff F f d (j + 1)) = (if G j = f then (j : Int) else rt_ff G f d (j + 1))
    rw [h j (Nat.le_refl _) (by omega), rt_ffc d (j + 1) (fun k h1 h2 => h k (by omega) (by omega))]
/-- looking through all, or through those till they come again -/
theorem rt_ffo {N : Int → Int} {x : Int} {s g : Nat} (h : rt_C N x s g) {D : Nat} (hD : s + g ≤ D) (f : Int) : rt_ff (rt_T N x) f D 0 = rt_ff (rt_T N x) f (s + g) 0 := by
  by_cases e : ∃ k, 0 ≤ k ∧ k < 0 + (s + g) ∧ rt_T N x k = f
  · exact rt_ff1 (s + g) D 0 e hD
  · rw [rt_ff0 (s + g) 0 (fun k h1 h2 h3 => e ⟨k, h1, h2, h3⟩), rt_ff0 D 0 (fun k h1 h2 h3 => ?_)]
    obtain ⟨k', q1, q2⟩ := rt_old h k
    exact e ⟨k', by omega, by omega, q2.trans h3⟩
end RT2
section RT3
/-- turnIn's loop: here -/
theorem rt_tic {F : Nat} {ti pu tu : Int} (a : Int) : ∀ (d m j : Nat), j + d = F → d + 1 ≤ m →
    (fl_wh (fun t9 : Int × Int => Sf_X7_turnIn_24_1 a (F : Int) ti pu t9.1 t9.2) (0, 0) m ((j : Int), rt_T (fun y => Ff_X0_next y (F : Int) ti pu) tu j)).1 = rt_ff (rt_T (fun y => Ff_X0_next y (F : Int) ti pu) tu) a d j := by
  intro d
  induction d with
  | zero =>
    intro m j hj hm
    obtain ⟨m, rfl⟩ : ∃ q, m = q + 1 := ⟨m - 1, by omega⟩
    have c : Sf_X7_turnIn_24_1 a (F : Int) ti pu (j : Int) (rt_T (fun y => Ff_X0_next y (F : Int) ti pu) tu j) = .inr (-2, 0) := by
      unfold Sf_X7_turnIn_24_1
      rw [if_pos (by omega)]
      rfl
    exact congrArg Prod.fst (fl_wh_r (step := (fun t9 : Int × Int => Sf_X7_turnIn_24_1 a (F : Int) ti pu t9.1 t9.2)) (s := ((j : Int), rt_T (fun y => Ff_X0_next y (F : Int) ti pu) tu j)) (d := (0, 0)) (n := m) c)
  | succ d ih =>
    intro m j hj hm
    obtain ⟨m, rfl⟩ : ∃ q, m = q + 1 := ⟨m - 1, by omega⟩
    by_cases e : rt_T (fun y => Ff_X0_next y (F : Int) ti pu) tu j = a
    · have c : Sf_X7_turnIn_24_1 a (F : Int) ti pu (j : Int) (rt_T (fun y => Ff_X0_next y (F : Int) ti pu) tu j) = .inr ((j : Int), 0) := by
        unfold Sf_X7_turnIn_24_1
        rw [if_neg (by omega), if_pos e]
        rfl
      refine (congrArg Prod.fst (fl_wh_r (step := (fun t9 : Int × Int => Sf_X7_turnIn_24_1 a (F : Int) ti pu t9.1 t9.2)) (s := ((j : Int), rt_T (fun y => Ff_X0_next y (F : Int) ti pu) tu j)) (d := (0, 0)) (n := m) c)).trans ?_
      show (j : Int) = (if rt_T (fun y => Ff_X0_next y (F : Int) ti pu) tu j = a then (j : Int) else rt_ff (rt_T (fun y => Ff_X0_next y (F : Int) ti pu) tu) a d (j + 1))
      rw [if_pos e]
    · have c : Sf_X7_turnIn_24_1 a (F : Int) ti pu (j : Int) (rt_T (fun y => Ff_X0_next y (F : Int) ti pu) tu j) = .inl (((j + 1 : Nat) : Int), rt_T (fun y => Ff_X0_next y (F : Int) ti pu) tu (j + 1)) := by
        unfold Sf_X7_turnIn_24_1
        rw [if_neg (by omega), if_neg e]
        rfl
      refine (congrArg Prod.fst (fl_wh_l (step := (fun t9 : Int × Int => Sf_X7_turnIn_24_1 a (F : Int) ti pu t9.1 t9.2)) (s := ((j : Int), rt_T (fun y => Ff_X0_next y (F : Int) ti pu) tu j)) (d := (0, 0)) (n := m) c)).trans ((ih m (j + 1) (by omega) (by omega)).trans ?_)
      show _ = (if rt_T (fun y => Ff_X0_next y (F : Int) ti pu) tu j = a then (j : Int) else rt_ff (rt_T (fun y => Ff_X0_next y (F : Int) ti pu) tu) a d (j + 1))
      rw [if_neg e]
/-- turnIn's loop: there -/
theorem rt_tim {s g : Nat} {row : Nat → Int} {v0 v11 : Int} (a : Int) : ∀ (d m j : Nat), j + d = s + g → d + 1 ≤ m →
    (fl_wh (Sf_X8_turnIn_24_1 a v0 v11 (s : Int) (g : Int) row) (0, 0, 0, 0, 0, (fun _ => 0)) m (j : Int)).1 = rt_ff row a d j := by
  intro d
  induction d with
  | zero =>
    intro m j hj hm
    obtain ⟨m, rfl⟩ : ∃ q, m = q + 1 := ⟨m - 1, by omega⟩
    have c : Sf_X8_turnIn_24_1 a v0 v11 (s : Int) (g : Int) row (j : Int) = .inr (-2, v0, v11, (s : Int), (g : Int), row) := by
      unfold Sf_X8_turnIn_24_1
      rw [fl_lt_eq rfl, if_pos (by omega)]
    exact congrArg Prod.fst (fl_wh_r (step := Sf_X8_turnIn_24_1 a v0 v11 (s : Int) (g : Int) row) (s := (j : Int)) (d := (0, 0, 0, 0, 0, (fun _ => 0))) (n := m) c)
  | succ d ih =>
    intro m j hj hm
    obtain ⟨m, rfl⟩ : ∃ q, m = q + 1 := ⟨m - 1, by omega⟩
    by_cases e : row j = a
    · have c : Sf_X8_turnIn_24_1 a v0 v11 (s : Int) (g : Int) row (j : Int) = .inr ((j : Int), v0, v11, (s : Int), (g : Int), row) := by
        unfold Sf_X8_turnIn_24_1
        rw [fl_lt_eq rfl, if_neg (by omega), fl_lt_eq rfl, if_pos (show row ((j : Int).toNat) = a from e)]
      refine (congrArg Prod.fst (fl_wh_r (step := Sf_X8_turnIn_24_1 a v0 v11 (s : Int) (g : Int) row) (s := (j : Int)) (d := (0, 0, 0, 0, 0, (fun _ => 0))) (n := m) c)).trans ?_
      show (j : Int) = (if row j = a then (j : Int) else rt_ff row a d (j + 1))
      rw [if_pos e]
    · have c : Sf_X8_turnIn_24_1 a v0 v11 (s : Int) (g : Int) row (j : Int) = .inl (((j + 1 : Nat) : Int)) := by
        unfold Sf_X8_turnIn_24_1
        rw [fl_lt_eq rfl, if_neg (by omega), fl_lt_eq rfl, if_neg (show ¬ row ((j : Int).toNat) = a from e)]
        rfl
      refine (congrArg Prod.fst (fl_wh_l (step := Sf_X8_turnIn_24_1 a v0 v11 (s : Int) (g : Int) row) (s := (j : Int)) (d := (0, 0, 0, 0, 0, (fun _ => 0))) (n := m) c)).trans ((ih m (j + 1) (by omega) (by omega)).trans ?_)
      show _ = (if row j = a then (j : Int) else rt_ff row a d (j + 1))
      rw [if_neg e]
/-- settles' loop -/
theorem rt_stl {F s g : Nat} {ti pu tu : Int} (hf : 2 ≤ (F : Int)) (h9 : (F : Int) ≤ 9) (h : rt_C (fun y => Ff_X0_next y (F : Int) ti pu) tu s g) (hg : s + g ≤ F) : ∀ (d m n : Nat), n + d = s → d + 1 ≤ m →
    (fl_wh (Sf_X7_settles_20_1 (F : Int) ti pu tu (g : Int)) (0, 0) m (n : Int)).1 = (s : Int) := by
  intro d
  have h1 := h.1
  induction d with
  | zero =>
    intro m n hn hm
    obtain ⟨m, rfl⟩ : ∃ q, m = q + 1 := ⟨m - 1, by omega⟩
    have en : n = s := by omega
    subst en
    have c : Sf_X7_settles_20_1 (F : Int) ti pu tu (g : Int) (n : Int) = .inr ((n : Int), 0) := by
      unfold Sf_X7_settles_20_1
      rw [if_neg (by omega), rt_tfn hf tu n (by omega), fl_lt_eq rfl, fl_lt_eq rfl, show (n : Int) + (g : Int) = ((n + g : Nat) : Int) from by omega, rt_tfn hf tu (n + g) (by omega), fl_lt_eq rfl, if_pos h.2.2.symm]
      rfl
    exact congrArg Prod.fst (fl_wh_r (step := Sf_X7_settles_20_1 (F : Int) ti pu tu (g : Int)) (s := (n : Int)) (d := (0, 0)) (n := m) c)
  | succ d ih =>
    intro m n hn hm
    obtain ⟨m, rfl⟩ : ∃ q, m = q + 1 := ⟨m - 1, by omega⟩
    have ne : ¬ rt_T (fun y => Ff_X0_next y (F : Int) ti pu) tu n = rt_T (fun y => Ff_X0_next y (F : Int) ti pu) tu (n + g) := fun e => by
      have := h.2.1 n (n + g) (by omega) (by omega) e
      omega
    have c : Sf_X7_settles_20_1 (F : Int) ti pu tu (g : Int) (n : Int) = .inl (((n + 1 : Nat) : Int)) := by
      unfold Sf_X7_settles_20_1
      rw [if_neg (by omega), rt_tfn hf tu n (by omega), fl_lt_eq rfl, fl_lt_eq rfl, show (n : Int) + (g : Int) = ((n + g : Nat) : Int) from by omega, rt_tfn hf tu (n + g) (by omega), fl_lt_eq rfl, if_neg ne]
      rfl
    exact (congrArg Prod.fst (fl_wh_l (step := Sf_X7_settles_20_1 (F : Int) ti pu tu (g : Int)) (s := (n : Int)) (d := (0, 0)) (n := m) c)).trans (ih m (n + 1) (by omega) (by omega))
/-- bits of those in a row from j on -/
def rt_bits (F : Nat → Int) : Nat → Nat → Int → Int
  | 0, _, b => b
  | d + 1, j, b => rt_bits F d (j + 1) (fl_or b (fl_shl 1 (F j)))
theorem rt_bits_add (F : Nat → Int) : ∀ (d e j : Nat) (b : Int), rt_bits F (d + e) j b = rt_bits F e (j + d) (rt_bits F d j b)
  | 0, e, j, b => by rw [Nat.zero_add]; rfl
  | d + 1, e, j, b => by
    rw [show d + 1 + e = (d + e) + 1 from by omega]
    show rt_bits F (d + e) (j + 1) _ = rt_bits F e (j + (d + 1)) (rt_bits F d (j + 1) _)
    rw [rt_bits_add F d e (j + 1), show j + 1 + d = j + (d + 1) from by omega]
theorem rt_bitsc {F G : Nat → Int} : ∀ (d j : Nat) (b : Int), (∀ k, j ≤ k → k < j + d → F k = G k) → rt_bits F d j b = rt_bits G d j b
  | 0, _, _, _ => rfl
  | d + 1, j, b, h => by
    show rt_bits F d (j + 1) (fl_or b (fl_shl 1 (F j))) = rt_bits G d (j + 1) (fl_or b (fl_shl 1 (G j)))
    rw [h j (Nat.le_refl _) (by omega)]
    exact rt_bitsc d (j + 1) _ (fun k h1 h2 => h k (by omega) (by omega))
set_option maxRecDepth 20000 in
theorem rt_zid : ∀ tb : Fin 512, ∀ f : Fin 9, (tb.val >>> f.val) % 2 = 1 → tb.val ||| (1 <<< f.val) = tb.val := by decide +kernel
theorem rt_hit {b x : Int} (h0 : 0 ≤ b) (h1 : b ≤ 511) (hx : 0 ≤ x ∧ x ≤ 8) (h : Ff_X7_hasBit b x = 1) : fl_or b (fl_shl 1 x) = b := by
  obtain ⟨n, rfl⟩ : ∃ n : Nat, b = (n : Int) := ⟨b.toNat, by omega⟩
  obtain ⟨f, rfl⟩ : ∃ f : Nat, x = (f : Int) := ⟨x.toNat, by omega⟩
  have q1 := rp_z1 ⟨n, by omega⟩ ⟨f, by omega⟩
  have q2 := rp_z2 ⟨n, by omega⟩ ⟨f, by omega⟩
  have q3 := rt_zid ⟨n, by omega⟩ ⟨f, by omega⟩
  have e1 : Ff_X7_hasBit (n : Int) (f : Int) = if (n >>> f) % 2 = 1 then 1 else 0 := q1
  rw [e1] at h
  have q4 : n ||| (1 <<< f) = n := q3 (rp_zi.mp h)
  exact (show fl_or (n : Int) (fl_shl 1 (f : Int)) = ((n ||| (1 <<< f) : Nat) : Int) from q2).trans (by rw [q4])
/-- bits of a row: within 511, and each of the row is there -/
theorem rt_bits_in {F : Nat → Int} (hF : ∀ k, 0 ≤ F k ∧ F k ≤ 8) : ∀ (d j : Nat) (b : Int), 0 ≤ b → b ≤ 511 → (0 ≤ rt_bits F d j b ∧ rt_bits F d j b ≤ 511) ∧ (∀ x, 0 ≤ x ∧ x ≤ 8 → Ff_X7_hasBit b x = 1 → Ff_X7_hasBit (rt_bits F d j b) x = 1) ∧ ∀ k, j ≤ k → k < j + d → Ff_X7_hasBit (rt_bits F d j b) (F k) = 1
  | 0, j, b, h0, h1 => ⟨⟨h0, h1⟩, fun _ _ h => h, fun k q1 q2 => absurd q2 (by omega)⟩
  | d + 1, j, b, h0, h1 => by
    obtain ⟨n, rfl⟩ : ∃ n : Nat, b = (n : Int) := ⟨b.toNat, by omega⟩
    obtain ⟨f, ef⟩ : ∃ f : Nat, F j = (f : Int) := ⟨(F j).toNat, by have := hF j; omega⟩
    have hf := hF j
    have q := rp_bits ⟨n, by omega⟩ ⟨f, by omega⟩
    obtain ⟨⟨q1, q2⟩, -, q3⟩ := q
    have e : rt_bits F (d + 1) j (n : Int) = rt_bits F d (j + 1) (fl_or (n : Int) (fl_shl 1 (f : Int))) := by
      show rt_bits F d (j + 1) (fl_or (n : Int) (fl_shl 1 (F j))) = _
      rw [ef]
    obtain ⟨r1, r2, r3⟩ := rt_bits_in hF d (j + 1) (fl_or (n : Int) (fl_shl 1 (f : Int))) q1 q2
    rw [e]
    refine ⟨r1, fun x hx h => ?_, fun k k1 k2 => ?_⟩
    · refine r2 x hx ?_
      obtain ⟨y, rfl⟩ : ∃ y : Nat, x = (y : Int) := ⟨x.toNat, by omega⟩
      exact (q3 ⟨y, by omega⟩).mpr (Or.inl h)
    · by_cases ek : k = j
      · rw [ek, ef]
        exact r2 (f : Int) (by omega) ((q3 ⟨f, by omega⟩).mpr (Or.inr rfl))
      · exact r3 k (by omega) (by omega)
theorem rt_bits_stay {F : Nat → Int} (hF : ∀ k, 0 ≤ F k ∧ F k ≤ 8) {b : Int} (h0 : 0 ≤ b) (h1 : b ≤ 511) : ∀ (e j : Nat), (∀ k, j ≤ k → k < j + e → Ff_X7_hasBit b (F k) = 1) → rt_bits F e j b = b
  | 0, _, _ => rfl
  | e + 1, j, h => by
    show rt_bits F e (j + 1) (fl_or b (fl_shl 1 (F j))) = b
    rw [rt_hit h0 h1 (hF j) (h j (Nat.le_refl _) (by omega))]
    exact rt_bits_stay hF h0 h1 e (j + 1) (fun k q1 q2 => h k (by omega) (by omega))
theorem rt_bitso {N : Int → Int} {x : Int} {s g : Nat} (h : rt_C N x s g) (hT : ∀ k, 0 ≤ rt_T N x k ∧ rt_T N x k ≤ 8) {D : Nat} (hD : s + g ≤ D) : rt_bits (rt_T N x) D 0 0 = rt_bits (rt_T N x) (s + g) 0 0 := by
  obtain ⟨e, rfl⟩ : ∃ e, D = (s + g) + e := ⟨D - (s + g), by omega⟩
  obtain ⟨⟨r0, r1⟩, -, r3⟩ := rt_bits_in hT (s + g) 0 0 (by decide) (by decide)
  rw [rt_bits_add]
  refine rt_bits_stay hT r0 r1 e _ (fun k q1 q2 => ?_)
  obtain ⟨k', p1, p2⟩ := rt_old h k
  have := r3 k' (by omega) (by omega)
  rw [p2] at this
  exact this
/-- called's loop: here -/
theorem rt_cac {F : Nat} {ti pu tu : Int} : ∀ (d m j : Nat) (b : Int), j + d = F → d + 1 ≤ m →
    (fl_wh (fun t9 : Int × Int × Int => Sf_X7_called_25_1 (F : Int) ti pu t9.1 t9.2.1 t9.2.2) (0, 0) m ((j : Int), rt_T (fun y => Ff_X0_next y (F : Int) ti pu) tu j, b)).1 = rt_bits (rt_T (fun y => Ff_X0_next y (F : Int) ti pu) tu) d j b := by
  intro d
  induction d with
  | zero =>
    intro m j b hj hm
    obtain ⟨m, rfl⟩ : ∃ q, m = q + 1 := ⟨m - 1, by omega⟩
    have c : Sf_X7_called_25_1 (F : Int) ti pu (j : Int) (rt_T (fun y => Ff_X0_next y (F : Int) ti pu) tu j) b = .inr (b, 0) := by
      unfold Sf_X7_called_25_1
      rw [if_pos (by omega)]
      rfl
    exact congrArg Prod.fst (fl_wh_r (step := (fun t9 : Int × Int × Int => Sf_X7_called_25_1 (F : Int) ti pu t9.1 t9.2.1 t9.2.2)) (s := ((j : Int), rt_T (fun y => Ff_X0_next y (F : Int) ti pu) tu j, b)) (d := (0, 0)) (n := m) c)
  | succ d ih =>
    intro m j b hj hm
    obtain ⟨m, rfl⟩ : ∃ q, m = q + 1 := ⟨m - 1, by omega⟩
    have c : Sf_X7_called_25_1 (F : Int) ti pu (j : Int) (rt_T (fun y => Ff_X0_next y (F : Int) ti pu) tu j) b = .inl (((j + 1 : Nat) : Int), rt_T (fun y => Ff_X0_next y (F : Int) ti pu) tu (j + 1), fl_or b (fl_shl 1 (rt_T (fun y => Ff_X0_next y (F : Int) ti pu) tu j))) := by
      unfold Sf_X7_called_25_1
      rw [if_neg (by omega)]
      rfl
    exact (congrArg Prod.fst (fl_wh_l (step := (fun t9 : Int × Int × Int => Sf_X7_called_25_1 (F : Int) ti pu t9.1 t9.2.1 t9.2.2)) (s := ((j : Int), rt_T (fun y => Ff_X0_next y (F : Int) ti pu) tu j, b)) (d := (0, 0)) (n := m) c)).trans (ih m (j + 1) _ (by omega) (by omega))
/-- called's loop: there -/
theorem rt_cam {s g : Nat} {row : Nat → Int} {v0 v11 : Int} : ∀ (d m j : Nat) (b : Int), j + d = s + g → d + 1 ≤ m →
    (fl_wh (fun t9 : Int × Int => Sf_X8_called_25_1 v0 v11 (s : Int) (g : Int) row t9.1 t9.2) (0, 0, 0, 0, 0, (fun _ => 0)) m ((j : Int), b)).1 = rt_bits row d j b := by
  intro d
  induction d with
  | zero =>
    intro m j b hj hm
    obtain ⟨m, rfl⟩ : ∃ q, m = q + 1 := ⟨m - 1, by omega⟩
    have c : Sf_X8_called_25_1 v0 v11 (s : Int) (g : Int) row (j : Int) b = .inr (b, v0, v11, (s : Int), (g : Int), row) := by
      unfold Sf_X8_called_25_1
      rw [fl_lt_eq rfl, if_pos (by omega)]
    exact congrArg Prod.fst (fl_wh_r (step := (fun t9 : Int × Int => Sf_X8_called_25_1 v0 v11 (s : Int) (g : Int) row t9.1 t9.2)) (s := ((j : Int), b)) (d := (0, 0, 0, 0, 0, (fun _ => 0))) (n := m) c)
  | succ d ih =>
    intro m j b hj hm
    obtain ⟨m, rfl⟩ : ∃ q, m = q + 1 := ⟨m - 1, by omega⟩
    have c : Sf_X8_called_25_1 v0 v11 (s : Int) (g : Int) row (j : Int) b = .inl (((j + 1 : Nat) : Int), fl_or b (fl_shl 1 (row j))) := by
      unfold Sf_X8_called_25_1
      rw [fl_lt_eq rfl, if_neg (by omega)]
      rfl
    exact (congrArg Prod.fst (fl_wh_l (step := (fun t9 : Int × Int => Sf_X8_called_25_1 v0 v11 (s : Int) (g : Int) row t9.1 t9.2)) (s := ((j : Int), b)) (d := (0, 0, 0, 0, 0, (fun _ => 0))) (n := m) c)).trans (ih m (j + 1) _ (by omega) (by omega))
end RT3
section RT4
theorem rt_nx {x sp : Nat} (hs : 1 ≤ sp) : (x % sp + 1 < sp → (x + 1) % sp = x % sp + 1 ∧ (x + 1) / sp = x / sp) ∧ (¬ x % sp + 1 < sp → (x + 1) % sp = 0 ∧ (x + 1) / sp = x / sp + 1) := by
  have h1 := Nat.mod_lt x hs
  have h2 := Nat.div_add_mod x sp
  have e : x + 1 = sp * (x / sp) + (x % sp + 1) := by omega
  refine ⟨fun h => ?_, fun h => ?_⟩
  · rw [e, Nat.mul_add_mod, Nat.mul_add_div hs, Nat.mod_eq_of_lt h, Nat.div_eq_of_lt h]
    exact ⟨rfl, rfl⟩
  · have e2 : x % sp + 1 = sp := by omega
    rw [e, Nat.mul_add_mod, Nat.mul_add_div hs, e2, Nat.mod_self, Nat.div_self hs]
    exact ⟨rfl, rfl⟩
/-- minutesOf's loops: here and there -/
theorem rt_mo {fg ti pu tu a : Int} {sn sp n s g : Nat} {r st row : Nat → Int} {v0 v11 : Int} (hs : 1 ≤ sp) (hs2 : sp ≤ 20) (hn : n ≤ 999) (h20 : st 20 = (sn : Int)) (h1 : r 1 = (sp : Int))
    (h : rt_C (fun y => Ff_X0_next y fg ti pu) tu s g) (hr : ∀ k, k < s + g → row k = rt_T (fun y => Ff_X0_next y fg ti pu) tu k) : ∀ (d m1 m2 i : Nat) (c : Int), i + d = n → d + 1 ≤ m1 → d + 1 ≤ m2 → 0 ≤ c → c ≤ (i : Int) →
    (fl_wh (fun t9 : Int × Int × Int × Int => Sf_X7_minutesOf_54_1 a (n : Int) fg (sp : Int) ti pu t9.1 t9.2.1 t9.2.2.1 t9.2.2.2) (0, 0) m1 ((i : Int), (((sn + i) % sp : Nat) : Int), rt_T (fun y => Ff_X0_next y fg ti pu) tu ((sn + i) / sp), c)).1 =
    (fl_wh (fun t9 : Int × Int => Sf_X8_minutesOf_42_1 a (n : Int) r st v0 v11 (s : Int) (g : Int) row t9.1 t9.2) (0, 0, 0, 0, 0, (fun _ => 0)) m2 ((i : Int), c)).1 := by
  intro d
  induction d with
  | zero =>
    intro m1 m2 i c hi hm1 hm2 c0 c1
    obtain ⟨m1, rfl⟩ : ∃ q, m1 = q + 1 := ⟨m1 - 1, by omega⟩
    obtain ⟨m2, rfl⟩ : ∃ q, m2 = q + 1 := ⟨m2 - 1, by omega⟩
    have k1 : Sf_X7_minutesOf_54_1 a (n : Int) fg (sp : Int) ti pu (i : Int) (((sn + i) % sp : Nat) : Int) (rt_T (fun y => Ff_X0_next y fg ti pu) tu ((sn + i) / sp)) c = .inr (c, 0) := by
      unfold Sf_X7_minutesOf_54_1
      rw [if_pos (by omega)]
      rfl
    have k2 : Sf_X8_minutesOf_42_1 a (n : Int) r st v0 v11 (s : Int) (g : Int) row (i : Int) c = .inr (c, v0, v11, (s : Int), (g : Int), row) := by
      unfold Sf_X8_minutesOf_42_1
      rw [if_pos (by omega)]
    exact (congrArg Prod.fst (fl_wh_r (step := (fun t9 : Int × Int × Int × Int => Sf_X7_minutesOf_54_1 a (n : Int) fg (sp : Int) ti pu t9.1 t9.2.1 t9.2.2.1 t9.2.2.2)) (s := ((i : Int), (((sn + i) % sp : Nat) : Int), rt_T (fun y => Ff_X0_next y fg ti pu) tu ((sn + i) / sp), c)) (d := (0, 0)) (n := m1) k1)).trans (congrArg Prod.fst (fl_wh_r (step := (fun t9 : Int × Int => Sf_X8_minutesOf_42_1 a (n : Int) r st v0 v11 (s : Int) (g : Int) row t9.1 t9.2)) (s := ((i : Int), c)) (d := (0, 0, 0, 0, 0, (fun _ => 0))) (n := m2) k2)).symm
  | succ d ih =>
    intro m1 m2 i c hi hm1 hm2 c0 c1
    obtain ⟨m1, rfl⟩ : ∃ q, m1 = q + 1 := ⟨m1 - 1, by omega⟩
    obtain ⟨m2, rfl⟩ : ∃ q, m2 = q + 1 := ⟨m2 - 1, by omega⟩
    have hml := Nat.mod_lt (sn + i) hs
    obtain ⟨nx1, nx2⟩ := rt_nx (x := sn + i) hs
    have ea : fl_iadd (((sn + i) % sp : Nat) : Int) 1 = (((sn + i) % sp + 1 : Nat) : Int) := by
      rw [rp_iadd (by omega) (by omega) (by omega) (by omega) (by omega) (by omega)]; omega
    have step : ∀ c' : Int, Gf_X7_minutesOf_69_1 fg (sp : Int) ti pu (i : Int) (((sn + i) % sp : Nat) : Int) (rt_T (fun y => Ff_X0_next y fg ti pu) tu ((sn + i) / sp)) c' = .inl (((i + 1 : Nat) : Int), (((sn + (i + 1)) % sp : Nat) : Int), rt_T (fun y => Ff_X0_next y fg ti pu) tu ((sn + (i + 1)) / sp), c') := by
      intro c'
      unfold Gf_X7_minutesOf_69_1
      rw [ea, fl_lt_eq rfl]
      have e3 : sn + (i + 1) = sn + i + 1 := by omega
      by_cases hq : (sn + i) % sp + 1 < sp
      · rw [if_pos (by omega), e3, (nx1 hq).1, (nx1 hq).2]
        rfl
      · rw [if_neg (by omega), e3, (nx2 hq).1, (nx2 hq).2]
        rfl
    have hd : st 20 + (i : Int) = ((sn + i : Nat) : Int) := by rw [h20]; omega
    have hdv : ((sn + i : Nat) : Int) / (sp : Int) = (((sn + i) / sp : Nat) : Int) := rfl
    have at' := rt_at h hr ((sn + i) / sp)
    by_cases e : rt_T (fun y => Ff_X0_next y fg ti pu) tu ((sn + i) / sp) = a
    · have k1 : Sf_X7_minutesOf_54_1 a (n : Int) fg (sp : Int) ti pu (i : Int) (((sn + i) % sp : Nat) : Int) (rt_T (fun y => Ff_X0_next y fg ti pu) tu ((sn + i) / sp)) c = .inl (((i + 1 : Nat) : Int), (((sn + (i + 1)) % sp : Nat) : Int), rt_T (fun y => Ff_X0_next y fg ti pu) tu ((sn + (i + 1)) / sp), c + 1) := by
        unfold Sf_X7_minutesOf_54_1
        rw [if_neg (by omega), if_pos e, rp_iadd (by omega) (by omega) (by omega) (by omega) (by omega) (by omega), fl_lt_eq rfl]
        exact step (c + 1)
      have k2 : Sf_X8_minutesOf_42_1 a (n : Int) r st v0 v11 (s : Int) (g : Int) row (i : Int) c = .inl (((i + 1 : Nat) : Int), c + 1) := by
        unfold Sf_X8_minutesOf_42_1 Gf_X8_minutesOf_80_1
        rw [if_neg (by omega), fl_lt_eq rfl, hd, fl_lt_eq rfl, h1, fl_lt_eq rfl, hdv, fl_lt_eq rfl, at', fl_lt_eq rfl, if_pos e, rp_iadd (by omega) (by omega) (by omega) (by omega) (by omega) (by omega)]
        rfl
      exact (congrArg Prod.fst (fl_wh_l (step := (fun t9 : Int × Int × Int × Int => Sf_X7_minutesOf_54_1 a (n : Int) fg (sp : Int) ti pu t9.1 t9.2.1 t9.2.2.1 t9.2.2.2)) (s := ((i : Int), (((sn + i) % sp : Nat) : Int), rt_T (fun y => Ff_X0_next y fg ti pu) tu ((sn + i) / sp), c)) (d := (0, 0)) (n := m1) k1)).trans ((ih m1 m2 (i + 1) (c + 1) (by omega) (by omega) (by omega) (by omega) (by omega)).trans (congrArg Prod.fst (fl_wh_l (step := (fun t9 : Int × Int => Sf_X8_minutesOf_42_1 a (n : Int) r st v0 v11 (s : Int) (g : Int) row t9.1 t9.2)) (s := ((i : Int), c)) (d := (0, 0, 0, 0, 0, (fun _ => 0))) (n := m2) k2)).symm)
    · have k1 : Sf_X7_minutesOf_54_1 a (n : Int) fg (sp : Int) ti pu (i : Int) (((sn + i) % sp : Nat) : Int) (rt_T (fun y => Ff_X0_next y fg ti pu) tu ((sn + i) / sp)) c = .inl (((i + 1 : Nat) : Int), (((sn + (i + 1)) % sp : Nat) : Int), rt_T (fun y => Ff_X0_next y fg ti pu) tu ((sn + (i + 1)) / sp), c) := by
        unfold Sf_X7_minutesOf_54_1
        rw [if_neg (by omega), if_neg e]
        exact step c
      have k2 : Sf_X8_minutesOf_42_1 a (n : Int) r st v0 v11 (s : Int) (g : Int) row (i : Int) c = .inl (((i + 1 : Nat) : Int), c) := by
        unfold Sf_X8_minutesOf_42_1 Gf_X8_minutesOf_80_1
        rw [if_neg (by omega), fl_lt_eq rfl, hd, fl_lt_eq rfl, h1, fl_lt_eq rfl, hdv, fl_lt_eq rfl, at', fl_lt_eq rfl, if_neg e, rp_iadd (by omega) (by omega) (by omega) (by omega) (by omega) (by omega)]
        rw [Int.add_zero]
        rfl
      exact (congrArg Prod.fst (fl_wh_l (step := (fun t9 : Int × Int × Int × Int => Sf_X7_minutesOf_54_1 a (n : Int) fg (sp : Int) ti pu t9.1 t9.2.1 t9.2.2.1 t9.2.2.2)) (s := ((i : Int), (((sn + i) % sp : Nat) : Int), rt_T (fun y => Ff_X0_next y fg ti pu) tu ((sn + i) / sp), c)) (d := (0, 0)) (n := m1) k1)).trans ((ih m1 m2 (i + 1) c (by omega) (by omega) (by omega) (by omega) (by omega)).trans (congrArg Prod.fst (fl_wh_l (step := (fun t9 : Int × Int => Sf_X8_minutesOf_42_1 a (n : Int) r st v0 v11 (s : Int) (g : Int) row t9.1 t9.2)) (s := ((i : Int), c)) (d := (0, 0, 0, 0, 0, (fun _ => 0))) (n := m2) k2)).symm)
end RT4
section RT5
theorem rt_X7_turnOf {n fg ti pu tu : Int} (hf : 2 ≤ fg) : (Ff_X7_turnOf n fg ti pu tu).1 = if 0 ≤ n ∧ n ≤ 2000000000 then Ff_X7_turnFromNow n fg ti pu tu else -1 := by
  unfold Ff_X7_turnOf Ff_X7_hasGallery
  rw [if_neg (show ¬ fg ≤ 0 by omega), fl_lt_eq rfl, if_pos rfl, rp_in]
  by_cases hn : 0 ≤ n ∧ n ≤ 2000000000
  · rw [if_pos hn, rp_in1 hn.1 hn.2]; rfl
  · rw [if_neg hn, rp_in0 hn]; rfl
theorem rt_X8_turnOf {n x y : Int} {st row r row1 : Nat → Int} {s g : Int} (q : Ff_X8_goRound st row r = (s, g, row1)) : (Ff_X8_turnOf n 1 x y st row r).1 = if 0 ≤ n ∧ n ≤ 2000000000 then Ff_X8_turnAt n s g row1 else -1 := by
  unfold Ff_X8_turnOf Ff_X8_good
  rw [fl_c2_eq (t := ((0 : Int), (0 : Int))) rfl]
  by_cases hn : 0 ≤ n ∧ n ≤ 2000000000
  · rw [if_pos hn, rp_in1 hn.1 hn.2, fl_lt_eq rfl, if_pos rfl, show Ff_X8_why 1 1 = 0 from rfl, fl_lt_eq rfl, if_neg (by decide), if_neg (by decide), q]; rfl
  · rw [if_neg hn, rp_in0 hn]; rfl
theorem rt_0_turnOf (n ti pu tu : Int) : (Ff_X7_turnOf n 0 ti pu tu).1 = (Ff0_X8_turnOf n 0).1 := by
  unfold Ff0_X8_turnOf
  by_cases hn : 0 ≤ n ∧ n ≤ 2000000000
  · rw [rp_in1 hn.1 hn.2]; rfl
  · rw [rp_in0 hn]; rfl
section WITH
variable {fg ti pu tu : Int} {r st : Nat → Int}
theorem rt_a_turnOf (h2 : 2 ≤ fg) (h9 : fg ≤ 9) (hN : ∀ y, 0 ≤ Ff_X0_next y fg ti pu ∧ Ff_X0_next y fg ti pu < fg) (hr : ∀ y, Ff_X8_nextOf y r = Ff_X0_next y fg ti pu) (ht : 0 ≤ tu ∧ tu < fg) (h19 : tu = st 19) (n x y : Int) (row : Nat → Int) : (Ff_X7_turnOf n fg ti pu tu).1 = (Ff_X8_turnOf n 1 x y st row r).1 := by
  obtain ⟨s, g, row1, q1, q2, q3, q4⟩ := rt_go (row := row) h2 h9 hN hr ht h19
  rw [rt_X7_turnOf h2, rt_X8_turnOf q1]
  by_cases hn : 0 ≤ n ∧ n ≤ 2000000000
  · rw [if_pos hn, if_pos hn]
    obtain ⟨k, rfl⟩ : ∃ k : Nat, n = (k : Int) := ⟨n.toNat, by omega⟩
    rw [rt_tfn h2 tu k (by omega), rt_at q2 q4]
  · rw [if_neg hn, if_neg hn]
theorem rt_0_turnIn (a ti pu tu : Int) : (Ff_X7_turnIn a 0 ti pu tu).1 = (Ff0_X8_turnIn 0).1 := by
  unfold Ff_X7_turnIn
  rw [rs_isf, if_neg (by omega)]
  rfl
theorem rt_a_turnIn (h2 : 2 ≤ fg) (h9 : fg ≤ 9) (hN : ∀ y, 0 ≤ Ff_X0_next y fg ti pu ∧ Ff_X0_next y fg ti pu < fg) (hr : ∀ y, Ff_X8_nextOf y r = Ff_X0_next y fg ti pu) (ht : 0 ≤ tu ∧ tu < fg) (h19 : tu = st 19) (h0 : fg = r 0) (a x y : Int) (row : Nat → Int) : (Ff_X7_turnIn a fg ti pu tu).1 = (Ff_X8_turnIn a 1 x y r st row).1 := by
  obtain ⟨s, g, row1, q1, q2, q3, q4⟩ := rt_go (row := row) h2 h9 hN hr ht h19
  obtain ⟨F, rfl⟩ : ∃ F : Nat, fg = (F : Int) := ⟨fg.toNat, by omega⟩
  unfold Ff_X7_turnIn Ff_X8_turnIn Ff_X8_good
  rw [fl_c2_eq (t := ((0 : Int), (0 : Int))) rfl, rs_isf, rs_isfm, ← h0]
  by_cases ha : 0 ≤ a ∧ a ≤ (F : Int) - 1
  · rw [if_pos ha, fl_lt_eq rfl, if_pos rfl, fl_lt_eq rfl, if_pos rfl, q1, fl_c3_eq rfl]
    refine (rt_tic a F 10 0 (by omega) (by omega)).trans ?_
    refine Eq.trans ?_ (rt_tim a (s + g) 10 0 (by omega) (by omega)).symm
    rw [rt_ffo q2 (by omega)]
    exact rt_ffc (s + g) 0 (fun k _ hk => (q4 k (by omega)).symm)
  · rw [if_neg ha]; rfl
theorem rt_0_settles (ti pu tu : Int) : (Ff_X7_settles 0 ti pu tu).1 = (Ff0_X8_settles 0).1 := rfl
theorem rt_a_settles (h2 : 2 ≤ fg) (h9 : fg ≤ 9) (hN : ∀ y, 0 ≤ Ff_X0_next y fg ti pu ∧ Ff_X0_next y fg ti pu < fg) (hr : ∀ y, Ff_X8_nextOf y r = Ff_X0_next y fg ti pu) (ht : 0 ≤ tu ∧ tu < fg) (h19 : tu = st 19) (row : Nat → Int) : (Ff_X7_settles fg ti pu tu).1 = (Ff_X8_settles 1 st row r).1 := by
  obtain ⟨s, g, row1, q1, q2, q3, q4⟩ := rt_go (row := row) h2 h9 hN hr ht h19
  obtain ⟨F, rfl⟩ : ∃ F : Nat, fg = (F : Int) := ⟨fg.toNat, by omega⟩
  unfold Ff_X7_settles Ff_X7_hasGallery Ff_X8_settles Ff_X8_good
  rw [if_neg (show ¬ (F : Int) ≤ 0 by omega), fl_lt_eq rfl, if_pos rfl, rt_rl h2 h9 q2 q3, fl_lt_eq rfl, fl_c2_eq (t := ((0 : Int), (0 : Int))) rfl, if_neg (by decide), q1, fl_c3_eq rfl]
  exact rt_stl h2 h9 q2 (by omega) s 10 0 (by omega) (by omega)
theorem rt_0_round (ti pu tu : Int) : (Ff_X7_round 0 ti pu tu).1 = (Ff0_X8_round 0).1 := rfl
theorem rt_a_round (h2 : 2 ≤ fg) (h9 : fg ≤ 9) (hN : ∀ y, 0 ≤ Ff_X0_next y fg ti pu ∧ Ff_X0_next y fg ti pu < fg) (hr : ∀ y, Ff_X8_nextOf y r = Ff_X0_next y fg ti pu) (ht : 0 ≤ tu ∧ tu < fg) (h19 : tu = st 19) (row : Nat → Int) : (Ff_X7_round fg ti pu tu).1 = (Ff_X8_round 1 st row r).1 := by
  obtain ⟨s, g, row1, q1, q2, q3, q4⟩ := rt_go (row := row) h2 h9 hN hr ht h19
  unfold Ff_X7_round Ff_X7_hasGallery Ff_X8_round Ff_X8_good
  rw [if_neg (show ¬ fg ≤ 0 by omega), fl_lt_eq rfl, if_pos rfl, rt_rl h2 h9 q2 q3, fl_lt_eq rfl, fl_c2_eq (t := ((0 : Int), (0 : Int))) rfl, if_neg (by decide), q1, fl_c3_eq rfl]
  rfl
theorem rt_0_called (ti pu tu : Int) : (Ff_X7_called 0 ti pu tu).1 = (Ff0_X8_called 0).1 := rfl
theorem rt_a_called (h2 : 2 ≤ fg) (h9 : fg ≤ 9) (hN : ∀ y, 0 ≤ Ff_X0_next y fg ti pu ∧ Ff_X0_next y fg ti pu < fg) (hr : ∀ y, Ff_X8_nextOf y r = Ff_X0_next y fg ti pu) (ht : 0 ≤ tu ∧ tu < fg) (h19 : tu = st 19) (row : Nat → Int) : (Ff_X7_called fg ti pu tu).1 = (Ff_X8_called 1 st row r).1 := by
  obtain ⟨s, g, row1, q1, q2, q3, q4⟩ := rt_go (row := row) h2 h9 hN hr ht h19
  obtain ⟨F, rfl⟩ : ∃ F : Nat, fg = (F : Int) := ⟨fg.toNat, by omega⟩
  unfold Ff_X7_called Ff_X7_hasGallery Ff_X8_called Ff_X8_good
  rw [if_neg (show ¬ (F : Int) ≤ 0 by omega), fl_lt_eq rfl, if_pos rfl, fl_c2_eq (t := ((0 : Int), (0 : Int))) rfl, if_neg (by decide), q1, fl_c3_eq rfl]
  refine (rt_cac F 10 0 0 (by omega) (by omega)).trans ?_
  refine Eq.trans ?_ (rt_cam (s + g) 10 0 0 (by omega) (by omega)).symm
  rw [rt_bitso q2 (fun k => by have := rt_mem hN ht k; omega) (by omega)]
  exact rt_bitsc (s + g) 0 0 (fun k _ hk => (q4 k (by omega)).symm)
theorem rt_0_minutesOf (a n sp ti pu tu sn : Int) : (Ff_X7_minutesOf a n 0 sp ti pu tu sn).1 = (Ff0_X8_minutesOf n 0).1 := by
  unfold Ff_X7_minutesOf Ff0_X8_minutesOf
  rw [rs_isf, if_neg (by omega)]
  by_cases hn : 0 ≤ n ∧ n ≤ 999
  · rw [rp_in1 hn.1 hn.2]; rfl
  · rw [rp_in0 hn]; rfl
theorem rt_a_minutesOf (h2 : 2 ≤ fg) (h9 : fg ≤ 9) (hN : ∀ y, 0 ≤ Ff_X0_next y fg ti pu ∧ Ff_X0_next y fg ti pu < fg) (hr : ∀ y, Ff_X8_nextOf y r = Ff_X0_next y fg ti pu) (ht : 0 ≤ tu ∧ tu < fg) (h19 : tu = st 19) (h0 : fg = r 0) {sp sn : Int} (hs : sp = r 1 ∧ 1 ≤ sp ∧ sp ≤ 20) (hn20 : sn = st 20) (hsn : 0 ≤ sn ∧ sn < sp) (a n x y : Int) (row : Nat → Int) : (Ff_X7_minutesOf a n fg sp ti pu tu sn).1 = (Ff_X8_minutesOf a n 1 x y r st row).1 := by
  obtain ⟨s, g, row1, q1, q2, q3, q4⟩ := rt_go (row := row) h2 h9 hN hr ht h19
  unfold Ff_X7_minutesOf Ff_X8_minutesOf Ff_X8_good
  rw [fl_c2_eq (t := ((0 : Int), (0 : Int))) rfl, rs_isf, rs_isfm, ← h0]
  by_cases ha : 0 ≤ a ∧ a ≤ fg - 1
  · rw [if_pos ha, fl_lt_eq rfl, if_pos rfl, rp_in]
    by_cases hn : 0 ≤ n ∧ n ≤ 999
    · obtain ⟨k, rfl⟩ : ∃ k : Nat, n = (k : Int) := ⟨n.toNat, by omega⟩
      obtain ⟨sp, rfl⟩ : ∃ q : Nat, sp = (q : Int) := ⟨sp.toNat, by omega⟩
      obtain ⟨sn, rfl⟩ : ∃ q : Nat, sn = (q : Int) := ⟨sn.toNat, by omega⟩
      rw [rp_in1 hn.1 hn.2, fl_lt_eq rfl, if_pos rfl, fl_lt_eq rfl, if_pos rfl, fl_lt_eq rfl, if_pos rfl, show Ff_X8_why 1 1 = 0 from rfl, fl_lt_eq rfl, if_neg (by decide), if_neg (by decide), q1, fl_c3_eq rfl]
      have m0 : (sn + 0) % sp = sn := Nat.mod_eq_of_lt (by omega)
      have d0 : (sn + 0) / sp = 0 := Nat.div_eq_of_lt (by omega)
      have q := rt_mo (fg := fg) (ti := ti) (pu := pu) (tu := tu) (a := a) (sn := sn) (sp := sp) (n := k) (v0 := 0) (v11 := 0) (r := r) (st := st) (row := row1) (by omega) (by omega) (by omega) hn20.symm hs.1.symm q2 q4 k 1000 1000 0 0 (by omega) (by omega) (by omega) (by omega) (by omega)
      rw [m0, d0] at q
      exact q
    · rw [rp_in0 hn]; rfl
  · rw [if_neg ha]
    by_cases hn : 0 ≤ n ∧ n ≤ 999
    · rw [rp_in1 hn.1 hn.2]; rfl
    · rw [rp_in0 hn]; rfl
end WITH
end RT5
theorem lr_0 {vi vm : Nat → Int32} {vf vn : Nat → Nat → Int32} (h : lr_H vi vf vm vn) (z : vm 11 = 0) : (vm 11).toInt = 0 ∧ (vi 33).toInt = 0 ∧ (vi 53).toInt = 0 := by
  rcases h with ⟨h1, h2, -, -, -, -, -, -, -, -, h3⟩ | ⟨h1, h2, -⟩
  · exact ⟨by rw [h1]; decide, by rw [h2]; decide, by rw [h3]; decide⟩
  · rw [z] at h1; exact absurd h1 (by decide)
theorem lr_1 {vi vm : Nat → Int32} {vf vn : Nat → Nat → Int32} (h : lr_H vi vf vm vn) (z : vm 11 = 1) : (vm 11).toInt = 1 ∧ 2 ≤ (vi 33).toInt ∧ (vi 33).toInt ≤ 9 := by
  rcases h with ⟨h1, h2, -⟩ | ⟨h1, h2, -⟩
  · rw [z] at h1; exact absurd h1 (by decide)
  · exact ⟨by rw [z]; decide, h2.1, h2.2.1⟩
theorem lr_turnOf {vi vm : Nat → Int32} {vf vn : Nat → Nat → Int32} (hH : lr_H vi vf vm vn) (hV : lr_V vi vf vm vn) (hMo : vm 11 = 0 ∨ (vm 11 = 1 ∧ ((∀ k : Nat, 0 ≤ k → k ≤ 0 → (2 : Int) ≤ ((vn 2) k).toInt ∧ ((vn 2) k).toInt ≤ 9) ∧ (∀ k : Nat, 1 ≤ k → k ≤ 1 → (1 : Int) ≤ ((vn 2) k).toInt ∧ ((vn 2) k).toInt ≤ 20) ∧ (∀ k : Nat, 2 ≤ k → k ≤ 2 → (0 : Int) ≤ ((vn 2) k).toInt ∧ ((vn 2) k).toInt ≤ 8) ∧ (∀ k : Nat, 3 ≤ k → k ≤ 3 → (0 : Int) ≤ ((vn 2) k).toInt ∧ ((vn 2) k).toInt ≤ 100) ∧ (∀ k : Nat, 4 ≤ k → k ≤ 4 → (0 : Int) ≤ ((vn 2) k).toInt ∧ ((vn 2) k).toInt ≤ 9) ∧ (∀ k : Nat, 5 ≤ k → k ≤ 5 → (0 : Int) ≤ ((vn 2) k).toInt ∧ ((vn 2) k).toInt ≤ 3) ∧ (∀ k : Nat, 6 ≤ k → k ≤ 6 → (0 : Int) ≤ ((vn 2) k).toInt ∧ ((vn 2) k).toInt ≤ 6) ∧ (∀ k : Nat, 7 ≤ k → k ≤ 9 → (0 : Int) ≤ ((vn 2) k).toInt ∧ ((vn 2) k).toInt ≤ 8) ∧ (∀ k : Nat, 12 ≤ k → k ≤ 29 → (0 : Int) ≤ ((vn 2) k).toInt ∧ ((vn 2) k).toInt ≤ 20) ∧ (∀ k : Nat, 30 ≤ k → k ≤ 35 → (0 : Int) ≤ ((vn 2) k).toInt ∧ ((vn 2) k).toInt ≤ 8) ∧ (∀ k : Nat, 36 ≤ k → k ≤ 47 → (0 : Int) ≤ ((vn 2) k).toInt ∧ ((vn 2) k).toInt ≤ 999)) ∧ ((∀ (j i0 i : Int32), (0 : Int) ≤ j.toInt → j.toInt ≤ 8 → i0.toInt = 12 + 2 * j.toInt → i.toInt = 13 + 2 * j.toInt → ((vn 2) i0.toNatClampNeg).toInt = (1 : Int32).toInt → (1 : Int) ≤ ((vn 2) i.toNatClampNeg).toInt)))) (n : Int) {b : Int} (hb : (vm 11 = 0 ∧ b = (Ff0_X8_turnOf n (vm 11).toInt).1) ∨ (vm 11 = 1 ∧ b = (Ff_X8_turnOf n (vm 11).toInt (vm 18).toInt (vm 19).toInt (fl_A (vn 4)) (fl_A (vn 10)) (fl_A (vn 2))).1)) : (Ff_X7_turnOf n (vi 33).toInt (vi 38).toInt (vi 39).toInt (vi 13).toInt).1 = b := by
  rcases hb with ⟨z, hb⟩ | ⟨z, hb⟩
  · obtain ⟨e1, e2, e3⟩ := lr_0 hH z
    obtain ⟨v54, v⟩ := hV
    rcases v with ⟨-, v12, v24, v25, u12, u13⟩ | ⟨z0, -⟩
    rotate_left
    · rw [z] at z0; exact absurd z0 (by decide)
    rw [hb, e1, e2]
    exact rt_0_turnOf _ _ _ _
  · obtain ⟨e1, e2, e3⟩ := lr_1 hH z
    rcases hMo with z0 | ⟨-, hrs, hkm⟩
    · rw [z] at z0; exact absurd z0 (by decide)
    obtain ⟨hG, hD, -⟩ := lr_G hH z hrs hkm
    obtain ⟨v54, v⟩ := hV
    have hD := hD v54.1
    rcases v with ⟨z0, -⟩ | ⟨-, hS, hm, hU, hN, hHi, hIm⟩
    · rw [z] at z0; exact absurd z0 (by decide)
    obtain ⟨⟨s1, s2, s3, s4, s5⟩, m0, ⟨t0, t1⟩, ⟨n0, n1⟩, ⟨g0, g1⟩, hk⟩ := id hS
    obtain ⟨⟨f1, f2, f3⟩, ⟨sp1, sp2, sp3⟩, ⟨sa1, sa2, sa3⟩, ⟨ti1, ti2, ti3⟩, ⟨pu1, pu2, pu3⟩, hkd⟩ := id hG
    rw [hb, e1]
    exact rt_a_turnOf f2 f3 (fun y => (rs_next hG y).2) (fun y => (rs_next hG y).1) ⟨t0, t1⟩ s2 _ _ _ _
end RELP
