section REF
/-- rows of 23, each as a state has it -/
def md_S (f : Nat → Int32) : Prop := ∀ j : Nat, ((∀ k : Nat, 0 ≤ k → k ≤ 8 → (0 : Int) ≤ (f (23 * j + k)).toInt ∧ (f (23 * j + k)).toInt ≤ 8) ∧ (∀ k : Nat, 19 ≤ k → k ≤ 19 → (0 : Int) ≤ (f (23 * j + k)).toInt ∧ (f (23 * j + k)).toInt ≤ 8) ∧ (∀ k : Nat, 20 ≤ k → k ≤ 20 → (0 : Int) ≤ (f (23 * j + k)).toInt ∧ (f (23 * j + k)).toInt ≤ 19))
theorem md_sh {f : Nat → Int32} {i k v : Int32} (h : md_S f) (ev : v = f k.toNatClampNeg) (hk : k.toInt = i.toInt + 23) (h0 : (0 : Int) ≤ i.toInt) : md_S (upd f i.toNatClampNeg v) := by
  have e1 : k.toNatClampNeg = i.toNatClampNeg + 23 := by
    have a1 : k.toNatClampNeg = k.toInt.toNat := rfl
    have a2 : i.toNatClampNeg = i.toInt.toNat := rfl
    omega
  have q : ∀ (j r : Nat) (P : Int32 → Prop), (∀ j, P (f (23 * j + r))) → P (upd f i.toNatClampNeg v (23 * j + r)) := by
    intro j r P hp
    unfold upd
    split
    · rename_i e
      have e3 : k.toNatClampNeg = 23 * (j + 1) + r := by omega
      rw [ev, e3]; exact hp (j + 1)
    · exact hp j
  intro j
  refine ⟨fun r a b => q j r (fun x => (0 : Int) ≤ x.toInt ∧ x.toInt ≤ 8) (fun j => (h j).1 r a b), fun r a b => q j r (fun x => (0 : Int) ≤ x.toInt ∧ x.toInt ≤ 8) (fun j => (h j).2.1 r a b), fun r a b => q j r (fun x => (0 : Int) ≤ x.toInt ∧ x.toInt ≤ 19) (fun j => (h j).2.2 r a b)⟩
theorem md_0 : md_S (fun _ => 0) := fun j => ⟨fun _ _ _ => zq165, fun _ _ _ => zq165, fun _ _ _ => zq166⟩
theorem md_ix {x u : Int32} (h : x.toInt = 23 * u.toInt) (h0 : (0 : Int) ≤ u.toInt) : x.toNatClampNeg = 23 * u.toNatClampNeg := by
  have a1 : x.toNatClampNeg = x.toInt.toNat := rfl
  have a2 : u.toNatClampNeg = u.toInt.toNat := rfl
  omega
theorem cp_0 {f g : Nat → Int32} {sp dp n : Nat} (h : n = 0) : g = va_cpy f g sp dp n := by
  funext m; rw [pk_cpy_out (by omega)]
theorem cp_s {f g h h' : Nat → Int32} {sp dp : Nat} {k k2 i j v : Int32} (hh : h = va_cpy f g sp dp k.toNatClampNeg) (e1 : h' = upd h i.toNatClampNeg v) (e2 : v = f j.toNatClampNeg) (hi : i.toNatClampNeg = dp + k.toNatClampNeg) (hj : j.toNatClampNeg = sp + k.toNatClampNeg) (hk : k2.toNatClampNeg = k.toNatClampNeg + 1) : h' = va_cpy f g sp dp k2.toNatClampNeg := by
  rw [e1, hh, e2, hk, hi, hj]
  generalize k.toNatClampNeg = n
  funext m
  unfold upd
  split
  · rename_i e
    rw [pk_cpy_in (by omega) (by omega)]
    exact congrArg f (by omega)
  · rename_i e
    by_cases h2 : dp ≤ m ∧ m < dp + n
    · rw [pk_cpy_in h2.1 h2.2, pk_cpy_in h2.1 (by omega)]
    · rw [pk_cpy_out (by omega), pk_cpy_out (by omega)]
theorem cp_i {i a k : Int32} (h : i.toInt = a.toInt + k.toInt) (ha : (0 : Int) ≤ a.toInt) (hk : (0 : Int) ≤ k.toInt) : i.toNatClampNeg = a.toNatClampNeg + k.toNatClampNeg := by
  have a1 : i.toNatClampNeg = i.toInt.toNat := rfl
  have a2 : a.toNatClampNeg = a.toInt.toNat := rfl
  have a3 : k.toNatClampNeg = k.toInt.toNat := rfl
  omega
theorem cp_k {k2 k : Int32} (h : k2.toInt = k.toInt + 1) (hk : (0 : Int) ≤ k.toInt) : k2.toNatClampNeg = k.toNatClampNeg + 1 := by
  have a1 : k2.toNatClampNeg = k2.toInt.toNat := rfl
  have a3 : k.toNatClampNeg = k.toInt.toNat := rfl
  omega
theorem cp_e {k : Int32} {n : Nat} (h : k.toInt = (n : Int)) : k.toNatClampNeg = n := by
  have a3 : k.toNatClampNeg = k.toInt.toNat := rfl
  omega
theorem cp_SS {f g h : Nat → Int32} {sp dp : Nat} (e : h = va_cpy f g sp dp 23) (h1 : sp = 0) (h2 : dp = 0) (hf : ((∀ k : Nat, 0 ≤ k → k ≤ 8 → (0 : Int) ≤ (f k).toInt ∧ (f k).toInt ≤ 8) ∧ (∀ k : Nat, 19 ≤ k → k ≤ 19 → (0 : Int) ≤ (f k).toInt ∧ (f k).toInt ≤ 8) ∧ (∀ k : Nat, 20 ≤ k → k ≤ 20 → (0 : Int) ≤ (f k).toInt ∧ (f k).toInt ≤ 19))) : ((∀ k : Nat, 0 ≤ k → k ≤ 8 → (0 : Int) ≤ (h k).toInt ∧ (h k).toInt ≤ 8) ∧ (∀ k : Nat, 19 ≤ k → k ≤ 19 → (0 : Int) ≤ (h k).toInt ∧ (h k).toInt ≤ 8) ∧ (∀ k : Nat, 20 ≤ k → k ≤ 20 → (0 : Int) ≤ (h k).toInt ∧ (h k).toInt ≤ 19)) := by
  have q : ∀ k : Nat, k < 23 → h k = f k := fun k hk => by rw [e, pk_cpy_in (by omega) (by omega)]; exact congrArg f (by omega)
  exact ⟨fun k a b => by rw [q k (by omega)]; exact hf.1 k a b, fun k a b => by rw [q k (by omega)]; exact hf.2.1 k a b, fun k a b => by rw [q k (by omega)]; exact hf.2.2 k a b⟩
theorem cp_SM {f g h : Nat → Int32} {sp dp u : Nat} (e : h = va_cpy f g sp dp 23) (h1 : sp = 0) (h2 : dp = 23 * u) (hf : ((∀ k : Nat, 0 ≤ k → k ≤ 8 → (0 : Int) ≤ (f k).toInt ∧ (f k).toInt ≤ 8) ∧ (∀ k : Nat, 19 ≤ k → k ≤ 19 → (0 : Int) ≤ (f k).toInt ∧ (f k).toInt ≤ 8) ∧ (∀ k : Nat, 20 ≤ k → k ≤ 20 → (0 : Int) ≤ (f k).toInt ∧ (f k).toInt ≤ 19))) (hg : md_S g) : md_S h := by
  intro j
  by_cases hj : j = u
  · have q : ∀ k : Nat, k < 23 → h (23 * j + k) = f k := fun k hk => by rw [e, pk_cpy_in (by omega) (by omega)]; exact congrArg f (by omega)
    exact ⟨fun k a b => by rw [q k (by omega)]; exact hf.1 k a b, fun k a b => by rw [q k (by omega)]; exact hf.2.1 k a b, fun k a b => by rw [q k (by omega)]; exact hf.2.2 k a b⟩
  · have q : ∀ k : Nat, k < 23 → h (23 * j + k) = g (23 * j + k) := fun k hk => by rw [e, pk_cpy_out (by omega)]
    have hg := hg j
    exact ⟨fun k a b => by rw [q k (by omega)]; exact hg.1 k a b, fun k a b => by rw [q k (by omega)]; exact hg.2.1 k a b, fun k a b => by rw [q k (by omega)]; exact hg.2.2 k a b⟩
theorem cp_MS {f g h : Nat → Int32} {sp dp u : Nat} (e : h = va_cpy f g sp dp 23) (h1 : sp = 23 * u) (h2 : dp = 0) (hf : md_S f) : ((∀ k : Nat, 0 ≤ k → k ≤ 8 → (0 : Int) ≤ (h k).toInt ∧ (h k).toInt ≤ 8) ∧ (∀ k : Nat, 19 ≤ k → k ≤ 19 → (0 : Int) ≤ (h k).toInt ∧ (h k).toInt ≤ 8) ∧ (∀ k : Nat, 20 ≤ k → k ≤ 20 → (0 : Int) ≤ (h k).toInt ∧ (h k).toInt ≤ 19)) := by
  have q : ∀ k : Nat, k < 23 → h k = f (23 * u + k) := fun k hk => by rw [e, pk_cpy_in (by omega) (by omega)]; exact congrArg f (by omega)
  have hf := hf u
  exact ⟨fun k a b => by rw [q k (by omega)]; exact hf.1 k a b, fun k a b => by rw [q k (by omega)]; exact hf.2.1 k a b, fun k a b => by rw [q k (by omega)]; exact hf.2.2 k a b⟩
/-- the first n entries are apart, each 0 .. 8 -/
def gr_D (row : Nat → Int32) (n : Nat) : Prop := (∀ i j : Nat, i < n → j < n → row i = row j → i = j) ∧ ∀ i : Nat, i < n → (0 : Int) ≤ (row i).toInt ∧ (row i).toInt ≤ 8
theorem pg_nat : ∀ (m n : Nat) (f : Nat → Nat), (∀ i j : Nat, i < n → j < n → f i = f j → i = j) → (∀ i : Nat, i < n → f i < m) → n ≤ m := by
  intro m
  induction m with
  | zero =>
    intro n f _ hb
    cases n with
    | zero => exact Nat.le_refl _
    | succ n => exact absurd (hb 0 (by omega)) (by omega)
  | succ m ih =>
    intro n f hi hb
    by_cases h : ∃ i, i < n ∧ f i = m
    · obtain ⟨i0, h0, e0⟩ := h
      have g1 : ∀ i, i < n - 1 → (if i < i0 then i else i + 1) < n := fun i h9 => by split <;> omega
      have g2 : ∀ i, (if i < i0 then i else i + 1) ≠ i0 := fun i => by split <;> omega
      have g3 : ∀ i j, (if i < i0 then i else i + 1) = (if j < i0 then j else j + 1) → i = j := fun i j h9 => by split at h9 <;> split at h9 <;> omega
      have h1 := ih (n - 1) (fun i => f (if i < i0 then i else i + 1)) (fun i j a b e => g3 i j (hi _ _ (g1 i a) (g1 j b) e)) (fun i a => by
        have h2 := hb _ (g1 i a)
        have h3 : f (if i < i0 then i else i + 1) ≠ m := fun e => g2 i (hi _ _ (g1 i a) h0 (e.trans e0.symm))
        show f (if i < i0 then i else i + 1) < m
        omega)
      omega
    · have h1 := ih n f hi (fun i a => by
        have h2 := hb i a
        have h3 : f i ≠ m := fun e => h ⟨i, a, e⟩
        omega)
      omega
theorem gr_le {row : Nat → Int32} {n : Nat} (h : gr_D row n) : n ≤ 9 :=
  pg_nat 9 n (fun i => (row i).toInt.toNat) (fun i j a b e => h.1 i j a b (by
    have h1 := h.2 i a
    have h2 := h.2 j b
    have e : (row i).toInt.toNat = (row j).toInt.toNat := e
    exact Int32.toInt_inj.mp (by omega))) (fun i a => by
    have h1 := h.2 i a
    show (row i).toInt.toNat < 9
    omega)
theorem gr_i {row : Nat → Int32} {n : Int32} (h : gr_D row n.toNatClampNeg) : n.toInt ≤ 9 := by
  have a3 : n.toNatClampNeg = n.toInt.toNat := rfl
  have h1 := gr_le h
  omega
theorem gr_z0 {row : Nat → Int32} {n : Nat} (h : n = 0) : gr_D row n := ⟨fun i j a => by omega, fun i a => by omega⟩
theorem gr_s {row row' : Nat → Int32} {n n2 f : Int32} (h : gr_D row n.toNatClampNeg) (hne : ∀ i : Nat, i < n.toNatClampNeg → row i ≠ f) (e : row' = upd row n.toNatClampNeg f) (hf : (0 : Int) ≤ f.toInt) (hf2 : f.toInt ≤ 8) (hk : n2.toInt = n.toInt + 1) (h0 : (0 : Int) ≤ n.toInt) : gr_D row' n2.toNatClampNeg := by
  rw [cp_k hk h0, e]
  generalize n.toNatClampNeg = m at *
  refine ⟨fun i j a b q => ?_, fun i a => ?_⟩
  · unfold upd at q
    split at q <;> split at q
    · omega
    · rename_i e1 e2; exact absurd q.symm (hne j (by omega))
    · rename_i e1 e2; exact absurd q (hne i (by omega))
    · exact h.1 i j (by omega) (by omega) q
  · unfold upd; split
    · exact ⟨hf, hf2⟩
    · exact h.2 i (by omega)
/-- settled so far -/
def gr_K (row : Nat → Int32) (s k f n : Int32) : Prop := (s.toInt = -1 ∧ ∀ i : Nat, i < k.toNatClampNeg → row i ≠ f) ∨ ((0 : Int) ≤ s.toInt ∧ s.toInt < n.toInt)
theorem gr_K0 {row : Nat → Int32} {s k f n : Int32} (h : s.toInt = -1) (hk : k.toNatClampNeg = 0) : gr_K row s k f n := Or.inl ⟨h, fun i a => by omega⟩
theorem gr_Ks {row : Nat → Int32} {s k k2 f n x : Int32} (h : gr_K row s k f n) (ex : x = row k.toNatClampNeg) (hne : ¬ x = f) (hk : k2.toInt = k.toInt + 1) (h0 : (0 : Int) ≤ k.toInt) : gr_K row s k2 f n := by
  rcases h with h | h
  · refine Or.inl ⟨h.1, fun i a => ?_⟩
    rw [cp_k hk h0] at a
    by_cases e : i = k.toNatClampNeg
    · rw [e, ← ex]; exact hne
    · exact h.2 i (by omega)
  · exact Or.inr h
theorem gr_Kn {row : Nat → Int32} {s k f n : Int32} (h : gr_K row s k f n) (hs : s.toInt < 0) (hk : n.toInt ≤ k.toInt) : ∀ i : Nat, i < n.toNatClampNeg → row i ≠ f := by
  rcases h with h | h
  · intro i a
    have a1 : k.toNatClampNeg = k.toInt.toNat := rfl
    have a2 : n.toNatClampNeg = n.toInt.toNat := rfl
    exact h.2 i (by omega)
  · omega
theorem gr_Km {row : Nat → Int32} {s k f n : Int32} (h : gr_K row s k f n) (hs : s.toInt < 0) : s.toInt = -1 := by
  rcases h with h | h
  · exact h.1
  · omega
theorem gr_Kp {row : Nat → Int32} {s k f n : Int32} (h : gr_K row s k f n) (hs : (0 : Int) ≤ s.toInt) : s.toInt < n.toInt := by
  rcases h with h | h <;> omega
/-- no entry of the nine is gone or more -/
def tb_M (f : Nat → Int32) (g : Int) : Prop := ∀ i : Nat, i ≤ 8 → (-1 : Int) ≤ (f i).toInt ∧ (f i).toInt < g
theorem tb_f {f g : Nat → Int32} {k k2 v : Int32} (h : ∀ i : Nat, i < k.toNatClampNeg → (f i).toInt = -1) (e : g = upd f k.toNatClampNeg v) (hv : v.toInt = -1) (hk : k2.toInt = k.toInt + 1) (h0 : (0 : Int) ≤ k.toInt) : ∀ i : Nat, i < k2.toNatClampNeg → (g i).toInt = -1 := by
  intro i a
  rw [cp_k hk h0] at a
  rw [e]; unfold upd; split
  · exact hv
  · exact h i (by omega)
theorem tb_0 {f : Nat → Int32} {k : Int32} {g : Int} (h : ∀ i : Nat, i < k.toNatClampNeg → (f i).toInt = -1) (hk : (9 : Int) ≤ k.toInt) (hg : g = 0) : tb_M f g := by
  intro i a
  have a1 : k.toNatClampNeg = k.toInt.toNat := rfl
  have h1 := h i (by omega)
  omega
theorem tb_s {f f' : Nat → Int32} {j g g2 : Int32} (h : tb_M f g.toInt) (e : f' = upd f j.toNatClampNeg g) (hg : g2.toInt = g.toInt + 1) (h0 : (0 : Int) ≤ g.toInt) : tb_M f' g2.toInt := by
  intro i a
  rw [e]; unfold upd; split
  · omega
  · have h1 := h i a; omega
theorem tb_r {f : Nat → Int32} {j x : Int32} {g : Int} (h : tb_M f g) (ex : x = f j.toNatClampNeg) (h0 : (0 : Int) ≤ j.toInt) (h1 : j.toInt ≤ 8) : (-1 : Int) ≤ x.toInt ∧ x.toInt < g := by
  have a1 : j.toNatClampNeg = j.toInt.toNat := rfl
  rw [ex]; exact h _ (by omega)
theorem tb_c {t f p F y z w : Int32} (ht : t.toInt = 0) (ey : y.toInt = t.toInt * f.toInt) (ez : z.toInt = y.toInt + p.toInt) (ew : w.toInt = z.toInt % F.toInt) (h0 : (0 : Int) ≤ p.toInt) (hp : p.toInt < F.toInt) : w.toInt = p.toInt := by
  rw [ht, Int.zero_mul] at ey
  have e : z.toInt = p.toInt := by omega
  rw [ew, e]; exact Int.emod_eq_of_lt h0 hp
theorem bc_ok {F p c : Int} (h1 : 2 ≤ F) (h2 : F ≤ 9) (h3 : 0 ≤ p) (h4 : p < F) (hc : c = p * F + p) : c / (F * F) = 0 ∧ c / F % F = p ∧ c % F = p := by
  have h5 : c / F = p := by rcases (show F = 2 ∨ F = 3 ∨ F = 4 ∨ F = 5 ∨ F = 6 ∨ F = 7 ∨ F = 8 ∨ F = 9 by omega) with e | e | e | e | e | e | e | e <;> subst e <;> omega
  have h6 : c / (F * F) = 0 := by rcases (show F = 2 ∨ F = 3 ∨ F = 4 ∨ F = 5 ∨ F = 6 ∨ F = 7 ∨ F = 8 ∨ F = 9 by omega) with e | e | e | e | e | e | e | e <;> subst e <;> omega
  have h7 : c % F = p := by rcases (show F = 2 ∨ F = 3 ∨ F = 4 ∨ F = 5 ∨ F = 6 ∨ F = 7 ∨ F = 8 ∨ F = 9 by omega) with e | e | e | e | e | e | e | e <;> subst e <;> omega
  exact ⟨h6, by rw [h5]; exact Int.emod_eq_of_lt h3 h4, h7⟩
theorem lw_mod {x y : Int64} (hy : ¬ y = 0) : (x - x / y * y).toInt.natAbs < y.toInt.natAbs := by
  have hY : y.toInt ≠ 0 := fun h => hy (Int64.toInt_inj.mp (h.trans (by decide)))
  have e : (x - x / y * y).toInt = (x.toInt.tmod y.toInt).bmod (2 ^ 64) := by
    rw [Int64.toInt_sub, Int64.toInt_mul, Int64.toInt_div, Int.tmod_def, Int.sub_bmod_bmod, ← Int.sub_bmod_bmod, Int.bmod_mul_bmod, Int.sub_bmod_bmod, Int.mul_comm y.toInt]
  have h1 : (x.toInt.tmod y.toInt).natAbs = x.toInt.natAbs % y.toInt.natAbs := Int.natAbs_tmod _ _
  have h2 := Nat.mod_lt x.toInt.natAbs (show 0 < y.toInt.natAbs by omega)
  have h3 := Int64.le_toInt y
  have h4 := Int64.toInt_lt y
  rw [e, Int.bmod_eq_of_le (by omega) (by omega)]
  omega
theorem lw_b (y : Int64) : y.toInt.natAbs < 9223372036854775809 := by
  have h3 := Int64.le_toInt y
  have h4 := Int64.toInt_lt y
  omega
theorem sh_1 {y z : Int32} (e : z = 1 <<< (y &&& 31)) (h0 : (0 : Int) ≤ y.toInt) (h1 : y.toInt ≤ 9) : (1 : Int) ≤ z.toInt ∧ z.toInt ≤ 512 := by
  have q : ∀ k : Fin 10, (1 : Int) ≤ ((1 : Int32) <<< (Int32.ofNat k.val &&& 31)).toInt ∧ ((1 : Int32) <<< (Int32.ofNat k.val &&& 31)).toInt ≤ 512 := by decide
  have e2 : y = Int32.ofNat y.toInt.toNat := Int32.toInt_inj.mp (by rw [show (Int32.ofNat y.toInt.toNat).toInt = (y.toInt.toNat : Int) from nI_toInt (by omega)]; omega)
  rw [e, e2]; exact q ⟨y.toInt.toNat, by omega⟩
theorem tb_z {f : Nat → Int32} {n : Nat} (h : n = 0) : ∀ i : Nat, i < n → (f i).toInt = -1 := fun i a => by omega
theorem lf_s {code code2 r a : Int32} {F : Int} (h : code.toInt ≤ a.toInt * F + a.toInt) (hw : ∀ p : Int, 0 ≤ p → p < F → code.toInt = p * F + p → r.toInt = p) (hne : ¬ r = a) (h0 : 0 ≤ a.toInt) (h1 : a.toInt < F) (hc : code2.toInt = code.toInt + 1) : code2.toInt ≤ a.toInt * F + a.toInt := by
  have h2 : code.toInt ≠ a.toInt * F + a.toInt := fun e => hne (Int32.toInt_inj.mp (hw _ h0 h1 e))
  omega
theorem lf_b {a : Int32} {c F : Int} (h : c ≤ a.toInt * F + a.toInt) (h0 : 0 ≤ a.toInt) (h1 : a.toInt ≤ 8) (h2 : 0 ≤ F) (h3 : F ≤ 9) : c ≤ 80 := by
  have h4 : a.toInt * F ≤ 8 * 9 := Int.mul_le_mul h1 h3 h2 (by decide)
  omega
theorem lf_0 {a : Int32} {F : Int} (h0 : 0 ≤ a.toInt) (h2 : 0 ≤ F) : (0 : Int32).toInt ≤ a.toInt * F + a.toInt := by
  have h4 := Int.mul_nonneg h0 h2
  have h5 : (0 : Int32).toInt = 0 := by decide
  omega
end REF
