section FG
theorem fg_o {f : Nat → Int32} {i : Nat} {v : Int32} (h : ((1 : Int) ≤ (f 11).toInt → (2 : Int) ≤ (f 0).toInt ∧ (1 : Int) ≤ (f 1).toInt)) (hi : i ≠ 0 ∧ i ≠ 1 ∧ i ≠ 11) : ((1 : Int) ≤ (upd f i v 11).toInt → (2 : Int) ≤ (upd f i v 0).toInt ∧ (1 : Int) ≤ (upd f i v 1).toInt) := by
  unfold upd; rw [if_neg (by omega), if_neg (by omega), if_neg (by omega)]; exact h
theorem fg_0 {f : Nat → Int32} {i : Nat} {v : Int32} (h : ((1 : Int) ≤ (f 11).toInt → (2 : Int) ≤ (f 0).toInt ∧ (1 : Int) ≤ (f 1).toInt)) (hi : i = 0) (hv : (2 : Int) ≤ v.toInt) : ((1 : Int) ≤ (upd f i v 11).toInt → (2 : Int) ≤ (upd f i v 0).toInt ∧ (1 : Int) ≤ (upd f i v 1).toInt) := by
  subst hi; intro h9; unfold upd at h9 ⊢; rw [if_neg (by omega)] at h9; rw [if_pos rfl, if_neg (by omega)]; exact ⟨hv, (h h9).2⟩
theorem fg_1 {f : Nat → Int32} {i : Nat} {v : Int32} (h : ((1 : Int) ≤ (f 11).toInt → (2 : Int) ≤ (f 0).toInt ∧ (1 : Int) ≤ (f 1).toInt)) (hi : i = 1) (hv : (1 : Int) ≤ v.toInt) : ((1 : Int) ≤ (upd f i v 11).toInt → (2 : Int) ≤ (upd f i v 0).toInt ∧ (1 : Int) ≤ (upd f i v 1).toInt) := by
  subst hi; intro h9; unfold upd at h9 ⊢; rw [if_neg (by omega)] at h9; rw [if_pos rfl, if_neg (by omega)]; exact ⟨(h h9).1, hv⟩
theorem fg_11 {f : Nat → Int32} {i : Nat} {v : Int32} (hi : i = 11) (h0 : (2 : Int) ≤ (f 0).toInt) (h1 : (1 : Int) ≤ (f 1).toInt) : ((1 : Int) ≤ (upd f i v 11).toInt → (2 : Int) ≤ (upd f i v 0).toInt ∧ (1 : Int) ≤ (upd f i v 1).toInt) := by
  subst hi; intro h9; unfold upd; rw [if_neg (by omega), if_neg (by omega)]; exact ⟨h0, h1⟩
theorem fg_ko {f : Nat → Int32} {n : Nat} {v : Int32} (h : (∀ (j i0 i : Int32), (0 : Int) ≤ j.toInt → j.toInt ≤ 8 → i0.toInt = 12 + 2 * j.toInt → i.toInt = 13 + 2 * j.toInt → (f i0.toNatClampNeg).toInt = (1 : Int32).toInt → (1 : Int) ≤ (f i.toNatClampNeg).toInt)) (hn : n < 12 ∨ 29 < n) : (∀ (j i0 i : Int32), (0 : Int) ≤ j.toInt → j.toInt ≤ 8 → i0.toInt = 12 + 2 * j.toInt → i.toInt = 13 + 2 * j.toInt → (upd f n v i0.toNatClampNeg).toInt = (1 : Int32).toInt → (1 : Int) ≤ (upd f n v i.toNatClampNeg).toInt) := by
  intro j i0 i a b e1 e2
  have q1 : i0.toNatClampNeg = i0.toInt.toNat := rfl
  have q2 : i.toNatClampNeg = i.toInt.toNat := rfl
  unfold upd
  rw [if_neg (by omega), if_neg (by omega)]
  exact h j i0 i a b e1 e2
theorem fg_kp {f g : Nat → Int32} {k k2 m v v2 : Int32} (h : (∀ (j i0 i : Int32), (0 : Int) ≤ j.toInt → j.toInt ≤ 8 → i0.toInt = 12 + 2 * j.toInt → i.toInt = 13 + 2 * j.toInt → (f i0.toNatClampNeg).toInt = (1 : Int32).toInt → (1 : Int) ≤ (f i.toNatClampNeg).toInt)) (e : g = upd f k.toNatClampNeg v) (hk : k.toInt = 12 + 2 * m.toInt) (h2 : k2.toInt = 13 + 2 * m.toInt) (hm : 0 ≤ m.toInt) (hm8 : m.toInt ≤ 8) (hv : (1 : Int) ≤ v2.toInt) : (∀ (j i0 i : Int32), (0 : Int) ≤ j.toInt → j.toInt ≤ 8 → i0.toInt = 12 + 2 * j.toInt → i.toInt = 13 + 2 * j.toInt → (upd g k2.toNatClampNeg v2 i0.toNatClampNeg).toInt = (1 : Int32).toInt → (1 : Int) ≤ (upd g k2.toNatClampNeg v2 i.toNatClampNeg).toInt) := by
  subst e
  intro j i0 i a b e1 e2
  have q1 : i0.toNatClampNeg = i0.toInt.toNat := rfl
  have q2 : i.toNatClampNeg = i.toInt.toNat := rfl
  have q3 : k.toNatClampNeg = k.toInt.toNat := rfl
  have q4 : k2.toNatClampNeg = k2.toInt.toNat := rfl
  unfold upd
  by_cases hj : j.toInt = m.toInt
  · intro _; rw [if_pos (by omega)]; exact hv
  · rw [if_neg (by omega), if_neg (by omega), if_neg (by omega), if_neg (by omega)]; exact h j i0 i a b e1 e2
theorem fg_z {f : Nat → Int32} (h : ∀ i : Nat, i < 156 → f i = 0) : ((∀ k : Nat, 0 ≤ k → k ≤ 0 → (0 : Int) ≤ (f k).toInt ∧ (f k).toInt ≤ 9) ∧ (∀ k : Nat, 1 ≤ k → k ≤ 1 → (0 : Int) ≤ (f k).toInt ∧ (f k).toInt ≤ 20) ∧ (∀ k : Nat, 2 ≤ k → k ≤ 2 → (0 : Int) ≤ (f k).toInt ∧ (f k).toInt ≤ 8) ∧ (∀ k : Nat, 3 ≤ k → k ≤ 3 → (0 : Int) ≤ (f k).toInt ∧ (f k).toInt ≤ 100) ∧ (∀ k : Nat, 4 ≤ k → k ≤ 4 → (0 : Int) ≤ (f k).toInt ∧ (f k).toInt ≤ 9) ∧ (∀ k : Nat, 5 ≤ k → k ≤ 5 → (0 : Int) ≤ (f k).toInt ∧ (f k).toInt ≤ 3) ∧ (∀ k : Nat, 6 ≤ k → k ≤ 6 → (0 : Int) ≤ (f k).toInt ∧ (f k).toInt ≤ 6) ∧ (∀ k : Nat, 7 ≤ k → k ≤ 9 → (0 : Int) ≤ (f k).toInt ∧ (f k).toInt ≤ 8) ∧ (∀ k : Nat, 10 ≤ k → k ≤ 11 → (0 : Int) ≤ (f k).toInt ∧ (f k).toInt ≤ 1) ∧ (∀ k : Nat, 12 ≤ k → k ≤ 29 → (0 : Int) ≤ (f k).toInt ∧ (f k).toInt ≤ 20) ∧ (∀ k : Nat, 30 ≤ k → k ≤ 35 → (0 : Int) ≤ (f k).toInt ∧ (f k).toInt ≤ 8) ∧ (∀ k : Nat, 36 ≤ k → k ≤ 47 → (0 : Int) ≤ (f k).toInt ∧ (f k).toInt ≤ 999) ∧ (∀ k : Nat, 48 ≤ k → k ≤ 59 → (0 : Int) ≤ (f k).toInt ∧ (f k).toInt ≤ 8) ∧ ((1 : Int) ≤ (f 11).toInt → (2 : Int) ≤ (f 0).toInt ∧ (1 : Int) ≤ (f 1).toInt) ∧ (∀ (j i0 i : Int32), (0 : Int) ≤ j.toInt → j.toInt ≤ 8 → i0.toInt = 12 + 2 * j.toInt → i.toInt = 13 + 2 * j.toInt → (f i0.toNatClampNeg).toInt = (1 : Int32).toInt → (1 : Int) ≤ (f i.toNatClampNeg).toInt)) := ⟨fun k a b => by rw [h k (by omega)]; decide, fun k a b => by rw [h k (by omega)]; decide, fun k a b => by rw [h k (by omega)]; decide, fun k a b => by rw [h k (by omega)]; decide, fun k a b => by rw [h k (by omega)]; decide, fun k a b => by rw [h k (by omega)]; decide, fun k a b => by rw [h k (by omega)]; decide, fun k a b => by rw [h k (by omega)]; decide, fun k a b => by rw [h k (by omega)]; decide, fun k a b => by rw [h k (by omega)]; decide, fun k a b => by rw [h k (by omega)]; decide, fun k a b => by rw [h k (by omega)]; decide, fun k a b => by rw [h k (by omega)]; decide, fun h9 => by rw [h 11 (by omega)] at h9; exact absurd h9 (by decide), fun j i0 i a b e1 e2 h9 => by
  have q1 : i0.toNatClampNeg = i0.toInt.toNat := rfl
  rw [h _ (by omega)] at h9; exact absurd h9 (by decide)⟩
theorem fg_zs {f g : Nat → Int32} {k k2 : Int32} (h : ∀ i : Nat, i < k.toNatClampNeg → f i = 0) (e : g = upd f k.toNatClampNeg 0) (hk : k2.toInt = k.toInt + 1) (h0 : (0 : Int) ≤ k.toInt) : ∀ i : Nat, i < k2.toNatClampNeg → g i = 0 := by
  intro i a
  rw [cp_k hk h0] at a
  rw [e]; unfold upd; split
  · rfl
  · exact h i (by omega)
theorem fg_z0 {f : Nat → Int32} {n : Nat} (h : n = 0) : ∀ i : Nat, i < n → f i = 0 := fun i a => by omega
theorem fg_ze {f : Nat → Int32} {k : Int32} (h : ∀ i : Nat, i < k.toNatClampNeg → f i = 0) (hk : (156 : Int) ≤ k.toInt) : ∀ i : Nat, i < 156 → f i = 0 := by
  intro i a
  have q1 : k.toNatClampNeg = k.toInt.toNat := rfl
  exact h i (by omega)
theorem fg_r {f g r : Nat → Int32} {sp dp : Nat} (e : r = va_cpy f g sp dp 156) (h1 : sp = 0) (h2 : dp = 0) (hf : ((∀ k : Nat, 0 ≤ k → k ≤ 0 → (0 : Int) ≤ (f k).toInt ∧ (f k).toInt ≤ 9) ∧ (∀ k : Nat, 1 ≤ k → k ≤ 1 → (0 : Int) ≤ (f k).toInt ∧ (f k).toInt ≤ 20) ∧ (∀ k : Nat, 2 ≤ k → k ≤ 2 → (0 : Int) ≤ (f k).toInt ∧ (f k).toInt ≤ 8) ∧ (∀ k : Nat, 3 ≤ k → k ≤ 3 → (0 : Int) ≤ (f k).toInt ∧ (f k).toInt ≤ 100) ∧ (∀ k : Nat, 4 ≤ k → k ≤ 4 → (0 : Int) ≤ (f k).toInt ∧ (f k).toInt ≤ 9) ∧ (∀ k : Nat, 5 ≤ k → k ≤ 5 → (0 : Int) ≤ (f k).toInt ∧ (f k).toInt ≤ 3) ∧ (∀ k : Nat, 6 ≤ k → k ≤ 6 → (0 : Int) ≤ (f k).toInt ∧ (f k).toInt ≤ 6) ∧ (∀ k : Nat, 7 ≤ k → k ≤ 9 → (0 : Int) ≤ (f k).toInt ∧ (f k).toInt ≤ 8) ∧ (∀ k : Nat, 10 ≤ k → k ≤ 11 → (0 : Int) ≤ (f k).toInt ∧ (f k).toInt ≤ 1) ∧ (∀ k : Nat, 12 ≤ k → k ≤ 29 → (0 : Int) ≤ (f k).toInt ∧ (f k).toInt ≤ 20) ∧ (∀ k : Nat, 30 ≤ k → k ≤ 35 → (0 : Int) ≤ (f k).toInt ∧ (f k).toInt ≤ 8) ∧ (∀ k : Nat, 36 ≤ k → k ≤ 47 → (0 : Int) ≤ (f k).toInt ∧ (f k).toInt ≤ 999) ∧ (∀ k : Nat, 48 ≤ k → k ≤ 59 → (0 : Int) ≤ (f k).toInt ∧ (f k).toInt ≤ 8) ∧ ((1 : Int) ≤ (f 11).toInt → (2 : Int) ≤ (f 0).toInt ∧ (1 : Int) ≤ (f 1).toInt) ∧ (∀ (j i0 i : Int32), (0 : Int) ≤ j.toInt → j.toInt ≤ 8 → i0.toInt = 12 + 2 * j.toInt → i.toInt = 13 + 2 * j.toInt → (f i0.toNatClampNeg).toInt = (1 : Int32).toInt → (1 : Int) ≤ (f i.toNatClampNeg).toInt))) (h : (1 : Int) ≤ (f 11).toInt) : ((∀ k : Nat, 0 ≤ k → k ≤ 0 → (2 : Int) ≤ (r k).toInt ∧ (r k).toInt ≤ 9) ∧ (∀ k : Nat, 1 ≤ k → k ≤ 1 → (1 : Int) ≤ (r k).toInt ∧ (r k).toInt ≤ 20) ∧ (∀ k : Nat, 2 ≤ k → k ≤ 2 → (0 : Int) ≤ (r k).toInt ∧ (r k).toInt ≤ 8) ∧ (∀ k : Nat, 3 ≤ k → k ≤ 3 → (0 : Int) ≤ (r k).toInt ∧ (r k).toInt ≤ 100) ∧ (∀ k : Nat, 4 ≤ k → k ≤ 4 → (0 : Int) ≤ (r k).toInt ∧ (r k).toInt ≤ 9) ∧ (∀ k : Nat, 5 ≤ k → k ≤ 5 → (0 : Int) ≤ (r k).toInt ∧ (r k).toInt ≤ 3) ∧ (∀ k : Nat, 6 ≤ k → k ≤ 6 → (0 : Int) ≤ (r k).toInt ∧ (r k).toInt ≤ 6) ∧ (∀ k : Nat, 7 ≤ k → k ≤ 9 → (0 : Int) ≤ (r k).toInt ∧ (r k).toInt ≤ 8) ∧ (∀ k : Nat, 12 ≤ k → k ≤ 29 → (0 : Int) ≤ (r k).toInt ∧ (r k).toInt ≤ 20) ∧ (∀ k : Nat, 30 ≤ k → k ≤ 35 → (0 : Int) ≤ (r k).toInt ∧ (r k).toInt ≤ 8) ∧ (∀ k : Nat, 36 ≤ k → k ≤ 47 → (0 : Int) ≤ (r k).toInt ∧ (r k).toInt ≤ 999)) := by
  have q : ∀ k : Nat, k < 156 → r k = f k := fun k hk => by rw [e, pk_cpy_in (by omega) (by omega)]; exact congrArg f (by omega)
  have h11 := hf.2.2.2.2.2.2.2.2.2.2.2.2.2.1
  exact ⟨fun k a b => by rw [q k (by omega)]; have e : k = 0 := (by omega); subst e; exact ⟨(h11 h).1, (hf.1 0 (by omega) (by omega)).2⟩, fun k a b => by rw [q k (by omega)]; have e : k = 1 := (by omega); subst e; exact ⟨(h11 h).2, (hf.2.1 1 (by omega) (by omega)).2⟩, fun k a b => by rw [q k (by omega)]; exact hf.2.2.1 k (by omega) (by omega), fun k a b => by rw [q k (by omega)]; exact hf.2.2.2.1 k (by omega) (by omega), fun k a b => by rw [q k (by omega)]; exact hf.2.2.2.2.1 k (by omega) (by omega), fun k a b => by rw [q k (by omega)]; exact hf.2.2.2.2.2.1 k (by omega) (by omega), fun k a b => by rw [q k (by omega)]; exact hf.2.2.2.2.2.2.1 k (by omega) (by omega), fun k a b => by rw [q k (by omega)]; exact hf.2.2.2.2.2.2.2.1 k (by omega) (by omega), fun k a b => by rw [q k (by omega)]; exact hf.2.2.2.2.2.2.2.2.2.1 k (by omega) (by omega), fun k a b => by rw [q k (by omega)]; exact hf.2.2.2.2.2.2.2.2.2.2.1 k (by omega) (by omega), fun k a b => by rw [q k (by omega)]; exact hf.2.2.2.2.2.2.2.2.2.2.2.1 k (by omega) (by omega)⟩
theorem fg_rk {f g r : Nat → Int32} {sp dp : Nat} (e : r = va_cpy f g sp dp 156) (h1 : sp = 0) (h2 : dp = 0) (hf : ((∀ k : Nat, 0 ≤ k → k ≤ 0 → (0 : Int) ≤ (f k).toInt ∧ (f k).toInt ≤ 9) ∧ (∀ k : Nat, 1 ≤ k → k ≤ 1 → (0 : Int) ≤ (f k).toInt ∧ (f k).toInt ≤ 20) ∧ (∀ k : Nat, 2 ≤ k → k ≤ 2 → (0 : Int) ≤ (f k).toInt ∧ (f k).toInt ≤ 8) ∧ (∀ k : Nat, 3 ≤ k → k ≤ 3 → (0 : Int) ≤ (f k).toInt ∧ (f k).toInt ≤ 100) ∧ (∀ k : Nat, 4 ≤ k → k ≤ 4 → (0 : Int) ≤ (f k).toInt ∧ (f k).toInt ≤ 9) ∧ (∀ k : Nat, 5 ≤ k → k ≤ 5 → (0 : Int) ≤ (f k).toInt ∧ (f k).toInt ≤ 3) ∧ (∀ k : Nat, 6 ≤ k → k ≤ 6 → (0 : Int) ≤ (f k).toInt ∧ (f k).toInt ≤ 6) ∧ (∀ k : Nat, 7 ≤ k → k ≤ 9 → (0 : Int) ≤ (f k).toInt ∧ (f k).toInt ≤ 8) ∧ (∀ k : Nat, 10 ≤ k → k ≤ 11 → (0 : Int) ≤ (f k).toInt ∧ (f k).toInt ≤ 1) ∧ (∀ k : Nat, 12 ≤ k → k ≤ 29 → (0 : Int) ≤ (f k).toInt ∧ (f k).toInt ≤ 20) ∧ (∀ k : Nat, 30 ≤ k → k ≤ 35 → (0 : Int) ≤ (f k).toInt ∧ (f k).toInt ≤ 8) ∧ (∀ k : Nat, 36 ≤ k → k ≤ 47 → (0 : Int) ≤ (f k).toInt ∧ (f k).toInt ≤ 999) ∧ (∀ k : Nat, 48 ≤ k → k ≤ 59 → (0 : Int) ≤ (f k).toInt ∧ (f k).toInt ≤ 8) ∧ ((1 : Int) ≤ (f 11).toInt → (2 : Int) ≤ (f 0).toInt ∧ (1 : Int) ≤ (f 1).toInt) ∧ (∀ (j i0 i : Int32), (0 : Int) ≤ j.toInt → j.toInt ≤ 8 → i0.toInt = 12 + 2 * j.toInt → i.toInt = 13 + 2 * j.toInt → (f i0.toNatClampNeg).toInt = (1 : Int32).toInt → (1 : Int) ≤ (f i.toNatClampNeg).toInt))) : (∀ (j i0 i : Int32), (0 : Int) ≤ j.toInt → j.toInt ≤ 8 → i0.toInt = 12 + 2 * j.toInt → i.toInt = 13 + 2 * j.toInt → (r i0.toNatClampNeg).toInt = (1 : Int32).toInt → (1 : Int) ≤ (r i.toNatClampNeg).toInt) := by
  have q : ∀ k : Nat, k < 156 → r k = f k := fun k hk => by rw [e, pk_cpy_in (by omega) (by omega)]; exact congrArg f (by omega)
  have hk := hf.2.2.2.2.2.2.2.2.2.2.2.2.2.2
  intro j i0 i a b e1 e2
  have q1 : i0.toNatClampNeg = i0.toInt.toNat := rfl
  have q2 : i.toNatClampNeg = i.toInt.toNat := rfl
  rw [q _ (by omega), q _ (by omega)]
  exact hk j i0 i a b e1 e2
theorem fz_s {f f2 g : Nat → Int32} {i v : Int32} (h : ∀ k : Nat, k < 48 → f k = g k) (e : f2 = upd f i.toNatClampNeg v) (hi : (48 : Int) ≤ i.toInt) : ∀ k : Nat, k < 48 → f2 k = g k := by
  intro k hk
  have q1 : i.toNatClampNeg = i.toInt.toNat := rfl
  rw [e]; unfold upd; rw [if_neg (by omega)]; exact h k hk
theorem fg_u {f g : Nat → Int32} {k v : Int32} {m : Nat} (e : g = upd f k.toNatClampNeg v) (hk : (12 : Int) ≤ k.toInt) (hm : m < 12) : g m = f m := by
  have q1 : k.toNatClampNeg = k.toInt.toNat := rfl
  rw [e]; unfold upd; rw [if_neg (by omega)]
theorem fg_le {f : Nat → Int32} {x : Int32} {m : Nat} {b : Int} (e : x = f m) (h : (f m).toInt ≤ b) : x.toInt ≤ b := by rw [e]; exact h
end FG
