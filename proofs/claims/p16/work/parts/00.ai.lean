section P00_ai
section AI
theorem ai_min (x : Int32) : (-2147483648 : Int) ≤ x.toInt := by have := Int32.le_toInt x; omega
theorem ai_max (x : Int32) : x.toInt ≤ (2147483647 : Int) := by have := Int32.toInt_lt x; omega
theorem ai_lt {a b : Int32} (h : a < b) : a.toInt < b.toInt := Int32.lt_iff_toInt_lt.mp h
theorem ai_nlt {a b : Int32} (h : ¬ a < b) : b.toInt ≤ a.toInt := by rw [Int32.lt_iff_toInt_lt] at h; omega
theorem ai_le {a b : Int32} (h : a ≤ b) : a.toInt ≤ b.toInt := Int32.le_iff_toInt_le.mp h
theorem ai_nle {a b : Int32} (h : ¬ a ≤ b) : b.toInt < a.toInt := by rw [Int32.le_iff_toInt_le] at h; omega
theorem ai_lthi {a b : Int32} {n : Int} (h : a.toInt < b.toInt) (hb : b.toInt ≤ n) : a.toInt ≤ n - 1 := by omega
theorem ai_ltlo {a b : Int32} {n : Int} (h : a.toInt < b.toInt) (ha : n ≤ a.toInt) : n + 1 ≤ b.toInt := by omega
theorem ai_ne {a b : Int32} (h : ¬ a = b) : a.toInt ≠ b.toInt := fun e => h (Int32.toInt_inj.mp e)
theorem ai_eq {a b : Int32} (h : a = b) : a.toInt = b.toInt := congrArg Int32.toInt h
theorem ai_add {x y z : Int32} {a b c d : Int} (e : z = x + y) (hx : a ≤ x.toInt ∧ x.toInt ≤ b) (hy : c ≤ y.toInt ∧ y.toInt ≤ d) (h1 : -2147483648 ≤ a + c) (h2 : b + d ≤ 2147483647) : z.toInt = x.toInt + y.toInt := by
  subst e; rw [Int32.toInt_add]; exact Int.bmod_eq_of_le (by omega) (by omega)
theorem ai_sub {x y z : Int32} {a b c d : Int} (e : z = x - y) (hx : a ≤ x.toInt ∧ x.toInt ≤ b) (hy : c ≤ y.toInt ∧ y.toInt ≤ d) (h1 : -2147483648 ≤ a - d) (h2 : b - c ≤ 2147483647) : z.toInt = x.toInt - y.toInt := by
  subst e; rw [Int32.toInt_sub]; exact Int.bmod_eq_of_le (by omega) (by omega)
theorem ai_mul {x y z : Int32} {a b c d : Int} (e : z = x * y) (hx : a ≤ x.toInt ∧ x.toInt ≤ b) (hy : c ≤ y.toInt ∧ y.toInt ≤ d) (ha : 0 ≤ a) (hc : 0 ≤ c) (h2 : b * d ≤ 2147483647) : z.toInt = x.toInt * y.toInt ∧ a * c ≤ z.toInt ∧ z.toInt ≤ b * d := by
  have h3 : x.toInt * y.toInt ≤ b * d := Int.mul_le_mul hx.2 hy.2 (Int.le_trans hc hy.1) (Int.le_trans ha (Int.le_trans hx.1 hx.2))
  have h5 : a * c ≤ x.toInt * y.toInt := Int.mul_le_mul hx.1 hy.1 hc (Int.le_trans ha hx.1)
  have h4 : 0 ≤ a * c := Int.mul_nonneg ha hc
  have e2 : z.toInt = x.toInt * y.toInt := by subst e; rw [Int32.toInt_mul]; exact Int.bmod_eq_of_le (by omega) (by omega)
  exact ⟨e2, by omega, by omega⟩
theorem ai_nz {y : Int32} {n : Int} (h : n ≤ y.toInt) (h0 : 0 < n) : ¬ y = 0 := fun e => by
  have e1 : y.toInt = 0 := by rw [e]; rfl
  omega
theorem ai_div {x y z : Int32} {b : Int} (e : z = x / y) (hx : 0 ≤ x.toInt ∧ x.toInt ≤ b) (hy : 0 < y.toInt) : z.toInt = x.toInt / y.toInt ∧ 0 ≤ z.toInt ∧ z.toInt ≤ b := by
  have e2 : z.toInt = x.toInt / y.toInt := by
    subst e
    rw [Int32.toInt_div, Int.tdiv_eq_ediv_of_nonneg hx.1]
    have h1 : 0 ≤ x.toInt / y.toInt := Int.ediv_nonneg hx.1 (by omega)
    have h2 : x.toInt / y.toInt ≤ x.toInt := Int.ediv_le_self _ hx.1
    have h3 := ai_max x
    rw [Int.bmod_eq_of_le (by omega) (by omega)]
  have h1 : 0 ≤ x.toInt / y.toInt := Int.ediv_nonneg hx.1 (by omega)
  have h2 : x.toInt / y.toInt ≤ x.toInt := Int.ediv_le_self _ hx.1
  exact ⟨e2, by omega, by omega⟩
theorem ai_in {x : Int32} {n : Nat} {a b : Int} (h1 : a ≤ x.toInt) (h2 : x.toInt ≤ b) (h3 : 0 ≤ a) (h4 : b < (n : Int)) : vp_in x n := vp_in_iff.mpr ⟨by omega, by omega⟩
theorem ai_inc {x z : Int32} {b k : Int} (e : z = x + Int32.ofInt k) (hk : (Int32.ofInt k).toInt = k) (h0 : 0 ≤ k) (hx : x.toInt ≤ b) (h2 : b + k ≤ 2147483647) : z.toInt = x.toInt + k := by
  have h1 := ai_min x
  subst e; rw [Int32.toInt_add, hk]; exact Int.bmod_eq_of_le (by omega) (by omega)
theorem ai_dec {x z : Int32} {a k : Int} (e : z = x + Int32.ofInt k) (hk : (Int32.ofInt k).toInt = k) (h0 : k ≤ 0) (hx : a ≤ x.toInt) (h2 : -2147483648 ≤ a + k) : z.toInt = x.toInt + k := by
  have h1 := ai_max x
  subst e; rw [Int32.toInt_add, hk]; exact Int.bmod_eq_of_le (by omega) (by omega)
theorem ai_mmin {x y z : Int32} (e : z = if y < x then y else x) : (z.toInt = x.toInt ∨ z.toInt = y.toInt) ∧ z.toInt ≤ x.toInt ∧ z.toInt ≤ y.toInt := by
  by_cases h : y < x
  · rw [if_pos h] at e; subst e; have := ai_lt h; omega
  · rw [if_neg h] at e; subst e; have := ai_nlt h; omega
theorem ai_upd {f : Nat → Int32} {a b : Int} (h : ∀ k, a ≤ (f k).toInt ∧ (f k).toInt ≤ b) (i : Nat) {v : Int32} (hv : a ≤ v.toInt ∧ v.toInt ≤ b) : ∀ k, a ≤ (upd f i v k).toInt ∧ (upd f i v k).toInt ≤ b := by
  intro k; unfold upd; split
  · exact hv
  · exact h k
theorem ai_open {p : Program} {l : Launch} {e : Env} {R : Room} {s : State} {m : MethodId} {args : Array Value} {below : List Frame} {meth : Method} {c : Code} {H : Heap} {locs : List Loc} {cells slots : Nat} {Q : State → Prop} {g : JFrame}
    (k : ∀ K : Heap → List Loc → JFrame → Prop, (∀ H locs g, K H locs g ↔ W p l e R s m args below meth c H locs cells slots Q g) → K H locs g) : W p l e R s m args below meth c H locs cells slots Q g :=
  k (fun H locs g => W p l e R s m args below meth c H locs cells slots Q g) (fun _ _ _ => Iff.rfl)
theorem ai_lcne {x y : Int64} {v : Int32} (e : v = lg_cmp x y) (h : ¬ v = 0) : ¬ x = y := fun q => h (by rw [e, q]; unfold lg_cmp; rw [if_neg (by rw [gt_iff_lt]; exact fun h9 => Int64.lt_irrefl h9), if_pos rfl])
theorem ai_shr1 {x z : Int32} (e : z = x >>> ((1 : Int32) &&& 31)) : z.toInt = x.toInt / 2 := by
  have e1 : ((1 : Int32) &&& 31) = 1 := by decide
  rw [e1] at e
  subst e
  rw [← Int32.toInt_toBitVec, Int32.toBitVec_shiftRight, BitVec.sshiftRight_eq']
  rw [show ((1 : Int32).toBitVec.smod 32).toNat = 1 by decide, BitVec.toInt_sshiftRight, Int32.toInt_toBitVec, Int.shiftRight_eq_div_pow]
  rfl
theorem ai_bool {v : Int32} (h1 : 0 ≤ v.toInt) (h2 : v.toInt ≤ 1) : narrow .boolean (.int v) = .int v := by
  have h : v = 0 ∨ v = 1 := by
    rcases (show v.toInt = 0 ∨ v.toInt = 1 by omega) with h | h
    · exact Or.inl (Int32.toInt_inj.mp (h.trans (by decide)))
    · exact Or.inr (Int32.toInt_inj.mp (h.trans (by decide)))
  rcases h with rfl | rfl <;> rfl
end AI
end P00_ai
section P01_tables
-- ===== PART A: goes FIRST, ahead of the names: the tables' words, and 'selects' of the private methods out of them =====
/-- a private method of a class that the tables say can be made, by its rows of tables_1 -/
def lw_okq (q : MethodName × Nat) : Prop := (q.1.cls ≠ "java/lang/invoke/MethodHandle" ∧ q.1.cls ≠ "java/lang/invoke/VarHandle") ∧ Cond.instantiable q.1.cls q.2 ∈ tables_1 ∧ Cond.privateMethod q.1 ∈ tables_1 ∧ Cond.instanceMethod q.1 ∈ tables_1
def tbB : List (List Cond) := [tables_1_1, tables_1_2, tables_1_3, tables_1_4, tables_1_5, tables_1_6, tables_1_7, tables_1_8]
theorem tbB_in : ∀ c ∈ tbB, ∀ w ∈ c, w ∈ tables_1 := by
  unfold tbB
  exact List.forall_mem_cons.mpr ⟨fun _ h => List.mem_append_left _ h, List.forall_mem_cons.mpr ⟨fun _ h => List.mem_append_right _ (List.mem_append_left _ h), List.forall_mem_cons.mpr ⟨fun _ h => List.mem_append_right _ (List.mem_append_right _ (List.mem_append_left _ h)), List.forall_mem_cons.mpr ⟨fun _ h => List.mem_append_right _ (List.mem_append_right _ (List.mem_append_right _ (List.mem_append_left _ h))), List.forall_mem_cons.mpr ⟨fun _ h => List.mem_append_right _ (List.mem_append_right _ (List.mem_append_right _ (List.mem_append_right _ (List.mem_append_left _ h)))), List.forall_mem_cons.mpr ⟨fun _ h => List.mem_append_right _ (List.mem_append_right _ (List.mem_append_right _ (List.mem_append_right _ (List.mem_append_right _ (List.mem_append_left _ h))))), List.forall_mem_cons.mpr ⟨fun _ h => List.mem_append_right _ (List.mem_append_right _ (List.mem_append_right _ (List.mem_append_right _ (List.mem_append_right _ (List.mem_append_right _ (List.mem_append_left _ h)))))), List.forall_mem_cons.mpr ⟨fun _ h => List.mem_append_right _ (List.mem_append_right _ (List.mem_append_right _ (List.mem_append_right _ (List.mem_append_right _ (List.mem_append_right _ (List.mem_append_right _ h)))))), fun _ h => absurd h List.not_mem_nil⟩⟩⟩⟩⟩⟩⟩⟩
theorem tb_at (k j : Nat) {w : Cond} (h : (tbB[k]?).bind (fun c => c[j]?) = some w) : w ∈ tables_1 := by
  obtain ⟨c, hc, hj⟩ := Option.bind_eq_some_iff.mp h
  exact tbB_in c (List.mem_of_getElem? hc) w (List.mem_of_getElem? hj)
theorem lw_p0 : lw_okq (⟨"WaxTurns", "refused", "(I)I"⟩, 11) := ⟨⟨by decide +kernel, by decide +kernel⟩, tb_at 0 21 rfl, tb_at 1 119 rfl, tb_at 1 120 rfl⟩
theorem lw_p1 : lw_okq (⟨"WaxTurns$Reade\x72", "advance", "()V"⟩, 14) := ⟨⟨by decide +kernel, by decide +kernel⟩, tb_at 0 29 rfl, tb_at 1 134 rfl, tb_at 1 135 rfl⟩
theorem lw_p2 : lw_okq (⟨"WaxTurns$Reade\x72", "scanWord", "()V"⟩, 14) := ⟨⟨by decide +kernel, by decide +kernel⟩, tb_at 0 29 rfl, tb_at 1 138 rfl, tb_at 1 139 rfl⟩
theorem lw_p3 : lw_okq (⟨"WaxTurns$Reade\x72", "scanWhole", "()V"⟩, 14) := ⟨⟨by decide +kernel, by decide +kernel⟩, tb_at 0 29 rfl, tb_at 1 142 rfl, tb_at 1 143 rfl⟩
theorem lw_p4 : lw_okq (⟨"WaxTurns$Reade\x72", "readLine", "()Z"⟩, 14) := ⟨⟨by decide +kernel, by decide +kernel⟩, tb_at 0 29 rfl, tb_at 1 146 rfl, tb_at 1 147 rfl⟩
theorem lw_p5 : lw_okq (⟨"WaxTurns$Reade\x72", "isWord", "(Ljava/lang/String;)Z"⟩, 14) := ⟨⟨by decide +kernel, by decide +kernel⟩, tb_at 0 29 rfl, tb_at 1 151 rfl, tb_at 1 152 rfl⟩
theorem lw_p6 : lw_okq (⟨"WaxTurns$Reade\x72", "fails", "(I)Z"⟩, 14) := ⟨⟨by decide +kernel, by decide +kernel⟩, tb_at 0 29 rfl, tb_at 1 203 rfl, tb_at 1 204 rfl⟩
theorem lw_p7 : lw_okq (⟨"WaxTurns$Reade\x72", "readHall", "()Z"⟩, 14) := ⟨⟨by decide +kernel, by decide +kernel⟩, tb_at 0 29 rfl, tb_at 1 207 rfl, tb_at 1 208 rfl⟩
theorem lw_p8 : lw_okq (⟨"WaxTurns$Reade\x72", "takeWhole", "(Ljava/lang/String;II)Z"⟩, 14) := ⟨⟨by decide +kernel, by decide +kernel⟩, tb_at 0 29 rfl, tb_at 1 212 rfl, tb_at 1 213 rfl⟩
theorem lw_p9 : lw_okq (⟨"WaxTurns$Reade\x72", "isWholeWithin", "(II)Z"⟩, 14) := ⟨⟨by decide +kernel, by decide +kernel⟩, tb_at 0 29 rfl, tb_at 1 216 rfl, tb_at 1 217 rfl⟩
theorem lw_p10 : lw_okq (⟨"WaxTurns$Reade\x72", "readLaw", "()Z"⟩, 14) := ⟨⟨by decide +kernel, by decide +kernel⟩, tb_at 0 29 rfl, tb_at 1 228 rfl, tb_at 1 229 rfl⟩
theorem lw_p11 : lw_okq (⟨"WaxTurns$Reade\x72", "readFigure", "()Z"⟩, 14) := ⟨⟨by decide +kernel, by decide +kernel⟩, tb_at 0 29 rfl, tb_at 2 1 rfl, tb_at 2 2 rfl⟩
theorem lw_p12 : lw_okq (⟨"WaxTurns$Reade\x72", "takeName", "()Z"⟩, 14) := ⟨⟨by decide +kernel, by decide +kernel⟩, tb_at 0 29 rfl, tb_at 2 5 rfl, tb_at 2 6 rfl⟩
theorem lw_p13 : lw_okq (⟨"WaxTurns$Reade\x72", "takeWord", "(Ljava/lang/String;)Z"⟩, 14) := ⟨⟨by decide +kernel, by decide +kernel⟩, tb_at 0 29 rfl, tb_at 2 10 rfl, tb_at 2 11 rfl⟩
theorem lw_p14 : lw_okq (⟨"WaxTurns$Reade\x72", "readWatche\x72", "()Z"⟩, 14) := ⟨⟨by decide +kernel, by decide +kernel⟩, tb_at 0 29 rfl, tb_at 2 23 rfl, tb_at 2 24 rfl⟩
theorem lw_p15 : lw_okq (⟨"WaxTurns$Reade\x72", "readSeen", "()Z"⟩, 14) := ⟨⟨by decide +kernel, by decide +kernel⟩, tb_at 0 29 rfl, tb_at 2 33 rfl, tb_at 2 34 rfl⟩
def lw_privs_1 : List (MethodName × Nat) := [(⟨"WaxTurns", "refused", "(I)I"⟩, 11), (⟨"WaxTurns$Reade\x72", "advance", "()V"⟩, 14), (⟨"WaxTurns$Reade\x72", "scanWord", "()V"⟩, 14), (⟨"WaxTurns$Reade\x72", "scanWhole", "()V"⟩, 14), (⟨"WaxTurns$Reade\x72", "readLine", "()Z"⟩, 14), (⟨"WaxTurns$Reade\x72", "isWord", "(Ljava/lang/String;)Z"⟩, 14), (⟨"WaxTurns$Reade\x72", "fails", "(I)Z"⟩, 14), (⟨"WaxTurns$Reade\x72", "readHall", "()Z"⟩, 14), (⟨"WaxTurns$Reade\x72", "takeWhole", "(Ljava/lang/String;II)Z"⟩, 14), (⟨"WaxTurns$Reade\x72", "isWholeWithin", "(II)Z"⟩, 14), (⟨"WaxTurns$Reade\x72", "readLaw", "()Z"⟩, 14), (⟨"WaxTurns$Reade\x72", "readFigure", "()Z"⟩, 14), (⟨"WaxTurns$Reade\x72", "takeName", "()Z"⟩, 14), (⟨"WaxTurns$Reade\x72", "takeWord", "(Ljava/lang/String;)Z"⟩, 14), (⟨"WaxTurns$Reade\x72", "readWatche\x72", "()Z"⟩, 14), (⟨"WaxTurns$Reade\x72", "readSeen", "()Z"⟩, 14)]
theorem lw_r1 : ∀ q ∈ lw_privs_1, lw_okq q := List.forall_mem_cons.mpr ⟨lw_p0, List.forall_mem_cons.mpr ⟨lw_p1, List.forall_mem_cons.mpr ⟨lw_p2, List.forall_mem_cons.mpr ⟨lw_p3, List.forall_mem_cons.mpr ⟨lw_p4, List.forall_mem_cons.mpr ⟨lw_p5, List.forall_mem_cons.mpr ⟨lw_p6, List.forall_mem_cons.mpr ⟨lw_p7, List.forall_mem_cons.mpr ⟨lw_p8, List.forall_mem_cons.mpr ⟨lw_p9, List.forall_mem_cons.mpr ⟨lw_p10, List.forall_mem_cons.mpr ⟨lw_p11, List.forall_mem_cons.mpr ⟨lw_p12, List.forall_mem_cons.mpr ⟨lw_p13, List.forall_mem_cons.mpr ⟨lw_p14, List.forall_mem_cons.mpr ⟨lw_p15, fun _ h => absurd h List.not_mem_nil⟩⟩⟩⟩⟩⟩⟩⟩⟩⟩⟩⟩⟩⟩⟩⟩
theorem lw_p16 : lw_okq (⟨"WaxTurns", "answered", "(I)I"⟩, 11) := ⟨⟨by decide +kernel, by decide +kernel⟩, tb_at 0 21 rfl, tb_at 2 66 rfl, tb_at 2 67 rfl⟩
theorem lw_p17 : lw_okq (⟨"WaxTurns", "isFigure", "(I)Z"⟩, 11) := ⟨⟨by decide +kernel, by decide +kernel⟩, tb_at 0 21 rfl, tb_at 2 82 rfl, tb_at 2 83 rfl⟩
theorem lw_p18 : lw_okq (⟨"WaxTurns", "isWatche\x72", "(I)Z"⟩, 11) := ⟨⟨by decide +kernel, by decide +kernel⟩, tb_at 0 21 rfl, tb_at 2 95 rfl, tb_at 2 96 rfl⟩
theorem lw_p19 : lw_okq (⟨"WaxTurns", "hasGallery", "()Z"⟩, 11) := ⟨⟨by decide +kernel, by decide +kernel⟩, tb_at 0 21 rfl, tb_at 2 107 rfl, tb_at 2 108 rfl⟩
theorem lw_p20 : lw_okq (⟨"WaxTurns", "turnFromNow", "(I)I"⟩, 11) := ⟨⟨by decide +kernel, by decide +kernel⟩, tb_at 0 21 rfl, tb_at 2 124 rfl, tb_at 2 125 rfl⟩
theorem lw_p21 : lw_okq (⟨"WaxTurns", "roundLength", "()I"⟩, 11) := ⟨⟨by decide +kernel, by decide +kernel⟩, tb_at 0 21 rfl, tb_at 2 143 rfl, tb_at 2 144 rfl⟩
theorem lw_p22 : lw_okq (⟨"WaxTurns", "troubleOfFigureWithin", "(III)I"⟩, 11) := ⟨⟨by decide +kernel, by decide +kernel⟩, tb_at 0 21 rfl, tb_at 2 163 rfl, tb_at 2 164 rfl⟩
theorem lw_p23 : lw_okq (⟨"WaxTurns", "runAhead", "(I)V"⟩, 11) := ⟨⟨by decide +kernel, by decide +kernel⟩, tb_at 0 21 rfl, tb_at 2 167 rfl, tb_at 2 168 rfl⟩
theorem lw_p24 : lw_okq (⟨"WaxTurns", "passAhead", "(I)V"⟩, 11) := ⟨⟨by decide +kernel, by decide +kernel⟩, tb_at 0 21 rfl, tb_at 2 175 rfl, tb_at 2 176 rfl⟩
theorem lw_p25 : lw_okq (⟨"WaxTurns$Hall", "stepsIn", "(II)Z"⟩, 15) := ⟨⟨by decide +kernel, by decide +kernel⟩, tb_at 0 35 rfl, tb_at 2 183 rfl, tb_at 2 184 rfl⟩
theorem lw_p26 : lw_okq (⟨"WaxTurns$Hall", "step", "(LWaxTurns$Scene;ILWaxTurns$Watchers;)V"⟩, 15) := ⟨⟨by decide +kernel, by decide +kernel⟩, tb_at 0 35 rfl, tb_at 2 188 rfl, tb_at 2 189 rfl⟩
theorem lw_p27 : lw_okq (⟨"WaxTurns$Hall", "neare\x72", "(I)I"⟩, 15) := ⟨⟨by decide +kernel, by decide +kernel⟩, tb_at 0 35 rfl, tb_at 2 193 rfl, tb_at 2 194 rfl⟩
theorem lw_p28 : lw_okq (⟨"WaxTurns", "troubleOfNumbe\x72", "(III)I"⟩, 11) := ⟨⟨by decide +kernel, by decide +kernel⟩, tb_at 0 21 rfl, tb_at 2 220 rfl, tb_at 2 221 rfl⟩
theorem lw_p29 : lw_okq (⟨"WaxTurns", "minutesTillGone", "(LWaxTurns$Watchers;I)I"⟩, 11) := ⟨⟨by decide +kernel, by decide +kernel⟩, tb_at 0 21 rfl, tb_at 2 228 rfl, tb_at 2 229 rfl⟩
theorem lw_p30 : lw_okq (⟨"WaxTurns", "placeOfActing", "()I"⟩, 11) := ⟨⟨by decide +kernel, by decide +kernel⟩, tb_at 0 21 rfl, tb_at 3 8 rfl, tb_at 3 9 rfl⟩
theorem lw_p31 : lw_okq (⟨"WaxTurns", "crowdAt", "(I)I"⟩, 11) := ⟨⟨by decide +kernel, by decide +kernel⟩, tb_at 0 21 rfl, tb_at 3 16 rfl, tb_at 3 17 rfl⟩
def lw_privs_2 : List (MethodName × Nat) := [(⟨"WaxTurns", "answered", "(I)I"⟩, 11), (⟨"WaxTurns", "isFigure", "(I)Z"⟩, 11), (⟨"WaxTurns", "isWatche\x72", "(I)Z"⟩, 11), (⟨"WaxTurns", "hasGallery", "()Z"⟩, 11), (⟨"WaxTurns", "turnFromNow", "(I)I"⟩, 11), (⟨"WaxTurns", "roundLength", "()I"⟩, 11), (⟨"WaxTurns", "troubleOfFigureWithin", "(III)I"⟩, 11), (⟨"WaxTurns", "runAhead", "(I)V"⟩, 11), (⟨"WaxTurns", "passAhead", "(I)V"⟩, 11), (⟨"WaxTurns$Hall", "stepsIn", "(II)Z"⟩, 15), (⟨"WaxTurns$Hall", "step", "(LWaxTurns$Scene;ILWaxTurns$Watchers;)V"⟩, 15), (⟨"WaxTurns$Hall", "neare\x72", "(I)I"⟩, 15), (⟨"WaxTurns", "troubleOfNumbe\x72", "(III)I"⟩, 11), (⟨"WaxTurns", "minutesTillGone", "(LWaxTurns$Watchers;I)I"⟩, 11), (⟨"WaxTurns", "placeOfActing", "()I"⟩, 11), (⟨"WaxTurns", "crowdAt", "(I)I"⟩, 11)]
theorem lw_r2 : ∀ q ∈ lw_privs_2, lw_okq q := List.forall_mem_cons.mpr ⟨lw_p16, List.forall_mem_cons.mpr ⟨lw_p17, List.forall_mem_cons.mpr ⟨lw_p18, List.forall_mem_cons.mpr ⟨lw_p19, List.forall_mem_cons.mpr ⟨lw_p20, List.forall_mem_cons.mpr ⟨lw_p21, List.forall_mem_cons.mpr ⟨lw_p22, List.forall_mem_cons.mpr ⟨lw_p23, List.forall_mem_cons.mpr ⟨lw_p24, List.forall_mem_cons.mpr ⟨lw_p25, List.forall_mem_cons.mpr ⟨lw_p26, List.forall_mem_cons.mpr ⟨lw_p27, List.forall_mem_cons.mpr ⟨lw_p28, List.forall_mem_cons.mpr ⟨lw_p29, List.forall_mem_cons.mpr ⟨lw_p30, List.forall_mem_cons.mpr ⟨lw_p31, fun _ h => absurd h List.not_mem_nil⟩⟩⟩⟩⟩⟩⟩⟩⟩⟩⟩⟩⟩⟩⟩⟩
theorem lw_p32 : lw_okq (⟨"WaxTurns", "isPlace", "(I)Z"⟩, 11) := ⟨⟨by decide +kernel, by decide +kernel⟩, tb_at 0 21 rfl, tb_at 3 42 rfl, tb_at 3 43 rfl⟩
theorem lw_p33 : lw_okq (⟨"WaxTurns", "planRoutes", "(I)V"⟩, 11) := ⟨⟨by decide +kernel, by decide +kernel⟩, tb_at 0 21 rfl, tb_at 3 46 rfl, tb_at 3 47 rfl⟩
theorem lw_p34 : lw_okq (⟨"WaxTurns$Routes", "step", "(II)I"⟩, 3) := ⟨⟨by decide +kernel, by decide +kernel⟩, tb_at 1 52 rfl, tb_at 3 60 rfl, tb_at 3 61 rfl⟩
theorem lw_p35 : lw_okq (⟨"WaxTurns$Routes", "worth", "(II)I"⟩, 3) := ⟨⟨by decide +kernel, by decide +kernel⟩, tb_at 1 52 rfl, tb_at 3 64 rfl, tb_at 3 65 rfl⟩
theorem lw_p36 : lw_okq (⟨"WaxTurns", "postsHold", "(II)Z"⟩, 11) := ⟨⟨by decide +kernel, by decide +kernel⟩, tb_at 0 21 rfl, tb_at 3 92 rfl, tb_at 3 93 rfl⟩
theorem lw_p37 : lw_okq (⟨"WaxTurns", "runAheadOnTrial", "(I)V"⟩, 11) := ⟨⟨by decide +kernel, by decide +kernel⟩, tb_at 0 21 rfl, tb_at 3 105 rfl, tb_at 3 106 rfl⟩
theorem lw_p38 : lw_okq (⟨"WaxTurns$Laws", "addIfFit", "(LWaxTurns$Hall;I)V"⟩, 7) := ⟨⟨by decide +kernel, by decide +kernel⟩, tb_at 1 20 rfl, tb_at 3 118 rfl, tb_at 3 119 rfl⟩
theorem lw_p39 : lw_okq (⟨"WaxTurns$Laws", "tally", "(II)V"⟩, 7) := ⟨⟨by decide +kernel, by decide +kernel⟩, tb_at 1 20 rfl, tb_at 3 149 rfl, tb_at 3 150 rfl⟩
theorem lw_p40 : lw_okq (⟨"WaxTurns$Laws", "mostOf", "(I)I"⟩, 7) := ⟨⟨by decide +kernel, by decide +kernel⟩, tb_at 1 20 rfl, tb_at 3 153 rfl, tb_at 3 154 rfl⟩
theorem lw_p41 : lw_okq (⟨"WaxTurns", "ownTurns", "(II)I"⟩, 11) := ⟨⟨by decide +kernel, by decide +kernel⟩, tb_at 0 21 rfl, tb_at 3 205 rfl, tb_at 3 206 rfl⟩
theorem lw_p42 : lw_okq (⟨"WaxTurns", "isShut", "(I)Z"⟩, 11) := ⟨⟨by decide +kernel, by decide +kernel⟩, tb_at 0 21 rfl, tb_at 3 226 rfl, tb_at 3 227 rfl⟩
theorem lw_p43 : lw_okq (⟨"java/lang/Throwable", "fillInStackTrace", "(I)Ljava/lang/Throwable;"⟩, 6) := ⟨⟨by decide +kernel, by decide +kernel⟩, tb_at 4 94 rfl, tb_at 4 92 rfl, tb_at 4 93 rfl⟩
theorem lw_p44 : lw_okq (⟨"WaxTurnsModel", "good", "()V"⟩, 40) := ⟨⟨by decide +kernel, by decide +kernel⟩, tb_at 4 123 rfl, tb_at 5 18 rfl, tb_at 5 19 rfl⟩
theorem lw_p45 : lw_okq (⟨"WaxTurnsModel", "no", "(I)I"⟩, 40) := ⟨⟨by decide +kernel, by decide +kernel⟩, tb_at 4 123 rfl, tb_at 5 25 rfl, tb_at 5 26 rfl⟩
theorem lw_p46 : lw_okq (⟨"WaxTurnsModel", "next", "()V"⟩, 40) := ⟨⟨by decide +kernel, by decide +kernel⟩, tb_at 4 123 rfl, tb_at 5 29 rfl, tb_at 5 30 rfl⟩
theorem lw_p47 : lw_okq (⟨"WaxTurnsModel", "see", "(I)I"⟩, 40) := ⟨⟨by decide +kernel, by decide +kernel⟩, tb_at 4 123 rfl, tb_at 5 33 rfl, tb_at 5 34 rfl⟩
def lw_privs_3 : List (MethodName × Nat) := [(⟨"WaxTurns", "isPlace", "(I)Z"⟩, 11), (⟨"WaxTurns", "planRoutes", "(I)V"⟩, 11), (⟨"WaxTurns$Routes", "step", "(II)I"⟩, 3), (⟨"WaxTurns$Routes", "worth", "(II)I"⟩, 3), (⟨"WaxTurns", "postsHold", "(II)Z"⟩, 11), (⟨"WaxTurns", "runAheadOnTrial", "(I)V"⟩, 11), (⟨"WaxTurns$Laws", "addIfFit", "(LWaxTurns$Hall;I)V"⟩, 7), (⟨"WaxTurns$Laws", "tally", "(II)V"⟩, 7), (⟨"WaxTurns$Laws", "mostOf", "(I)I"⟩, 7), (⟨"WaxTurns", "ownTurns", "(II)I"⟩, 11), (⟨"WaxTurns", "isShut", "(I)Z"⟩, 11), (⟨"java/lang/Throwable", "fillInStackTrace", "(I)Ljava/lang/Throwable;"⟩, 6), (⟨"WaxTurnsModel", "good", "()V"⟩, 40), (⟨"WaxTurnsModel", "no", "(I)I"⟩, 40), (⟨"WaxTurnsModel", "next", "()V"⟩, 40), (⟨"WaxTurnsModel", "see", "(I)I"⟩, 40)]
theorem lw_r3 : ∀ q ∈ lw_privs_3, lw_okq q := List.forall_mem_cons.mpr ⟨lw_p32, List.forall_mem_cons.mpr ⟨lw_p33, List.forall_mem_cons.mpr ⟨lw_p34, List.forall_mem_cons.mpr ⟨lw_p35, List.forall_mem_cons.mpr ⟨lw_p36, List.forall_mem_cons.mpr ⟨lw_p37, List.forall_mem_cons.mpr ⟨lw_p38, List.forall_mem_cons.mpr ⟨lw_p39, List.forall_mem_cons.mpr ⟨lw_p40, List.forall_mem_cons.mpr ⟨lw_p41, List.forall_mem_cons.mpr ⟨lw_p42, List.forall_mem_cons.mpr ⟨lw_p43, List.forall_mem_cons.mpr ⟨lw_p44, List.forall_mem_cons.mpr ⟨lw_p45, List.forall_mem_cons.mpr ⟨lw_p46, List.forall_mem_cons.mpr ⟨lw_p47, fun _ h => absurd h List.not_mem_nil⟩⟩⟩⟩⟩⟩⟩⟩⟩⟩⟩⟩⟩⟩⟩⟩
theorem lw_p48 : lw_okq (⟨"WaxTurnsModel", "readLine", "()V"⟩, 40) := ⟨⟨by decide +kernel, by decide +kernel⟩, tb_at 4 123 rfl, tb_at 5 43 rfl, tb_at 5 44 rfl⟩
theorem lw_p49 : lw_okq (⟨"WaxTurnsModel", "isWord", "(Ljava/lang/String;)Z"⟩, 40) := ⟨⟨by decide +kernel, by decide +kernel⟩, tb_at 4 123 rfl, tb_at 5 48 rfl, tb_at 5 49 rfl⟩
theorem lw_p50 : lw_okq (⟨"WaxTurnsModel", "galleryLine", "()V"⟩, 40) := ⟨⟨by decide +kernel, by decide +kernel⟩, tb_at 4 123 rfl, tb_at 5 54 rfl, tb_at 5 55 rfl⟩
theorem lw_p51 : lw_okq (⟨"WaxTurnsModel", "wrong", "(II)V"⟩, 40) := ⟨⟨by decide +kernel, by decide +kernel⟩, tb_at 4 123 rfl, tb_at 5 58 rfl, tb_at 5 59 rfl⟩
theorem lw_p52 : lw_okq (⟨"WaxTurnsModel", "afte\x72", "(Ljava/lang/String;II)I"⟩, 40) := ⟨⟨by decide +kernel, by decide +kernel⟩, tb_at 4 123 rfl, tb_at 5 63 rfl, tb_at 5 64 rfl⟩
theorem lw_p53 : lw_okq (⟨"WaxTurnsModel", "must", "(Ljava/lang/String;)V"⟩, 40) := ⟨⟨by decide +kernel, by decide +kernel⟩, tb_at 4 123 rfl, tb_at 5 67 rfl, tb_at 5 68 rfl⟩
theorem lw_p54 : lw_okq (⟨"WaxTurnsModel", "takesWord", "(Ljava/lang/String;)Z"⟩, 40) := ⟨⟨by decide +kernel, by decide +kernel⟩, tb_at 4 123 rfl, tb_at 5 71 rfl, tb_at 5 72 rfl⟩
theorem lw_p55 : lw_okq (⟨"WaxTurnsModel", "numbe\x72", "(II)I"⟩, 40) := ⟨⟨by decide +kernel, by decide +kernel⟩, tb_at 4 123 rfl, tb_at 5 75 rfl, tb_at 5 76 rfl⟩
theorem lw_p56 : lw_okq (⟨"WaxTurnsModel", "numberHere", "(II)I"⟩, 40) := ⟨⟨by decide +kernel, by decide +kernel⟩, tb_at 4 123 rfl, tb_at 5 79 rfl, tb_at 5 80 rfl⟩
theorem lw_p57 : lw_okq (⟨"WaxTurnsModel", "pass", "()V"⟩, 40) := ⟨⟨by decide +kernel, by decide +kernel⟩, tb_at 4 123 rfl, tb_at 5 83 rfl, tb_at 5 84 rfl⟩
theorem lw_p58 : lw_okq (⟨"WaxTurnsModel", "lawLine", "()V"⟩, 40) := ⟨⟨by decide +kernel, by decide +kernel⟩, tb_at 4 123 rfl, tb_at 5 91 rfl, tb_at 5 92 rfl⟩
theorem lw_p59 : lw_okq (⟨"WaxTurnsModel", "last", "()I"⟩, 40) := ⟨⟨by decide +kernel, by decide +kernel⟩, tb_at 4 123 rfl, tb_at 5 96 rfl, tb_at 5 97 rfl⟩
theorem lw_p60 : lw_okq (⟨"WaxTurnsModel", "begins", "(Ljava/lang/String;Z)Z"⟩, 40) := ⟨⟨by decide +kernel, by decide +kernel⟩, tb_at 4 123 rfl, tb_at 5 103 rfl, tb_at 5 104 rfl⟩
theorem lw_p61 : lw_okq (⟨"WaxTurnsModel", "figureLine", "()V"⟩, 40) := ⟨⟨by decide +kernel, by decide +kernel⟩, tb_at 4 123 rfl, tb_at 5 107 rfl, tb_at 5 108 rfl⟩
theorem lw_p62 : lw_okq (⟨"WaxTurnsModel", "newName", "(I)V"⟩, 40) := ⟨⟨by decide +kernel, by decide +kernel⟩, tb_at 4 123 rfl, tb_at 5 111 rfl, tb_at 5 112 rfl⟩
theorem lw_p63 : lw_okq (⟨"WaxTurnsModel", "isKnown", "()Z"⟩, 40) := ⟨⟨by decide +kernel, by decide +kernel⟩, tb_at 4 123 rfl, tb_at 5 117 rfl, tb_at 5 118 rfl⟩
def lw_privs_4 : List (MethodName × Nat) := [(⟨"WaxTurnsModel", "readLine", "()V"⟩, 40), (⟨"WaxTurnsModel", "isWord", "(Ljava/lang/String;)Z"⟩, 40), (⟨"WaxTurnsModel", "galleryLine", "()V"⟩, 40), (⟨"WaxTurnsModel", "wrong", "(II)V"⟩, 40), (⟨"WaxTurnsModel", "afte\x72", "(Ljava/lang/String;II)I"⟩, 40), (⟨"WaxTurnsModel", "must", "(Ljava/lang/String;)V"⟩, 40), (⟨"WaxTurnsModel", "takesWord", "(Ljava/lang/String;)Z"⟩, 40), (⟨"WaxTurnsModel", "numbe\x72", "(II)I"⟩, 40), (⟨"WaxTurnsModel", "numberHere", "(II)I"⟩, 40), (⟨"WaxTurnsModel", "pass", "()V"⟩, 40), (⟨"WaxTurnsModel", "lawLine", "()V"⟩, 40), (⟨"WaxTurnsModel", "last", "()I"⟩, 40), (⟨"WaxTurnsModel", "begins", "(Ljava/lang/String;Z)Z"⟩, 40), (⟨"WaxTurnsModel", "figureLine", "()V"⟩, 40), (⟨"WaxTurnsModel", "newName", "(I)V"⟩, 40), (⟨"WaxTurnsModel", "isKnown", "()Z"⟩, 40)]
theorem lw_r4 : ∀ q ∈ lw_privs_4, lw_okq q := List.forall_mem_cons.mpr ⟨lw_p48, List.forall_mem_cons.mpr ⟨lw_p49, List.forall_mem_cons.mpr ⟨lw_p50, List.forall_mem_cons.mpr ⟨lw_p51, List.forall_mem_cons.mpr ⟨lw_p52, List.forall_mem_cons.mpr ⟨lw_p53, List.forall_mem_cons.mpr ⟨lw_p54, List.forall_mem_cons.mpr ⟨lw_p55, List.forall_mem_cons.mpr ⟨lw_p56, List.forall_mem_cons.mpr ⟨lw_p57, List.forall_mem_cons.mpr ⟨lw_p58, List.forall_mem_cons.mpr ⟨lw_p59, List.forall_mem_cons.mpr ⟨lw_p60, List.forall_mem_cons.mpr ⟨lw_p61, List.forall_mem_cons.mpr ⟨lw_p62, List.forall_mem_cons.mpr ⟨lw_p63, fun _ h => absurd h List.not_mem_nil⟩⟩⟩⟩⟩⟩⟩⟩⟩⟩⟩⟩⟩⟩⟩⟩
theorem lw_p64 : lw_okq (⟨"WaxTurnsModel", "watcherLine", "()V"⟩, 40) := ⟨⟨by decide +kernel, by decide +kernel⟩, tb_at 4 123 rfl, tb_at 5 124 rfl, tb_at 5 125 rfl⟩
theorem lw_p65 : lw_okq (⟨"WaxTurnsModel", "seenLine", "()V"⟩, 40) := ⟨⟨by decide +kernel, by decide +kernel⟩, tb_at 4 123 rfl, tb_at 5 130 rfl, tb_at 5 131 rfl⟩
theorem lw_p66 : lw_okq (⟨"WaxTurnsModel", "isFigure", "(I)Z"⟩, 40) := ⟨⟨by decide +kernel, by decide +kernel⟩, tb_at 4 123 rfl, tb_at 5 150 rfl, tb_at 5 151 rfl⟩
theorem lw_p67 : lw_okq (⟨"WaxTurnsModel", "isWatche\x72", "(I)Z"⟩, 40) := ⟨⟨by decide +kernel, by decide +kernel⟩, tb_at 4 123 rfl, tb_at 5 158 rfl, tb_at 5 159 rfl⟩
theorem lw_p68 : lw_okq (⟨"WaxTurnsModel", "watchAsTold", "()V"⟩, 40) := ⟨⟨by decide +kernel, by decide +kernel⟩, tb_at 4 123 rfl, tb_at 5 162 rfl, tb_at 5 163 rfl⟩
theorem lw_p69 : lw_okq (⟨"WaxTurnsModel", "watcherAt", "(II)I"⟩, 40) := ⟨⟨by decide +kernel, by decide +kernel⟩, tb_at 4 123 rfl, tb_at 5 166 rfl, tb_at 5 167 rfl⟩
theorem lw_p70 : lw_okq (⟨"WaxTurnsModel", "why", "(ZZ)I"⟩, 40) := ⟨⟨by decide +kernel, by decide +kernel⟩, tb_at 4 123 rfl, tb_at 5 187 rfl, tb_at 5 188 rfl⟩
theorem lw_p71 : lw_okq (⟨"WaxTurnsModel", "goRound", "()V"⟩, 40) := ⟨⟨by decide +kernel, by decide +kernel⟩, tb_at 4 123 rfl, tb_at 5 191 rfl, tb_at 5 192 rfl⟩
theorem lw_p72 : lw_okq (⟨"WaxTurnsModel", "nextOf", "(I)I"⟩, 40) := ⟨⟨by decide +kernel, by decide +kernel⟩, tb_at 4 123 rfl, tb_at 5 195 rfl, tb_at 5 196 rfl⟩
theorem lw_p73 : lw_okq (⟨"WaxTurnsModel", "turnAt", "(I)I"⟩, 40) := ⟨⟨by decide +kernel, by decide +kernel⟩, tb_at 4 123 rfl, tb_at 5 199 rfl, tb_at 5 200 rfl⟩
theorem lw_p74 : lw_okq (⟨"WaxTurnsModel", "aheadWhy", "(ZII)I"⟩, 40) := ⟨⟨by decide +kernel, by decide +kernel⟩, tb_at 4 123 rfl, tb_at 5 227 rfl, tb_at 5 228 rfl⟩
theorem lw_p75 : lw_okq (⟨"WaxTurnsModel", "minutesOn", "(I)V"⟩, 40) := ⟨⟨by decide +kernel, by decide +kernel⟩, tb_at 4 123 rfl, tb_at 5 231 rfl, tb_at 5 232 rfl⟩
theorem lw_p76 : lw_okq (⟨"WaxTurnsModel", "begin", "()V"⟩, 40) := ⟨⟨by decide +kernel, by decide +kernel⟩, tb_at 4 123 rfl, tb_at 5 235 rfl, tb_at 5 236 rfl⟩
theorem lw_p77 : lw_okq (⟨"WaxTurnsModel", "minuteOn", "([I)V"⟩, 40) := ⟨⟨by decide +kernel, by decide +kernel⟩, tb_at 4 123 rfl, tb_at 5 239 rfl, tb_at 6 0 rfl⟩
theorem lw_p78 : lw_okq (⟨"WaxTurnsModel", "walkOn", "([II)V"⟩, 40) := ⟨⟨by decide +kernel, by decide +kernel⟩, tb_at 4 123 rfl, tb_at 6 6 rfl, tb_at 6 7 rfl⟩
theorem lw_p79 : lw_okq (⟨"WaxTurnsModel", "isWatched", "(II)Z"⟩, 40) := ⟨⟨by decide +kernel, by decide +kernel⟩, tb_at 4 123 rfl, tb_at 6 10 rfl, tb_at 6 11 rfl⟩
def lw_privs_5 : List (MethodName × Nat) := [(⟨"WaxTurnsModel", "watcherLine", "()V"⟩, 40), (⟨"WaxTurnsModel", "seenLine", "()V"⟩, 40), (⟨"WaxTurnsModel", "isFigure", "(I)Z"⟩, 40), (⟨"WaxTurnsModel", "isWatche\x72", "(I)Z"⟩, 40), (⟨"WaxTurnsModel", "watchAsTold", "()V"⟩, 40), (⟨"WaxTurnsModel", "watcherAt", "(II)I"⟩, 40), (⟨"WaxTurnsModel", "why", "(ZZ)I"⟩, 40), (⟨"WaxTurnsModel", "goRound", "()V"⟩, 40), (⟨"WaxTurnsModel", "nextOf", "(I)I"⟩, 40), (⟨"WaxTurnsModel", "turnAt", "(I)I"⟩, 40), (⟨"WaxTurnsModel", "aheadWhy", "(ZII)I"⟩, 40), (⟨"WaxTurnsModel", "minutesOn", "(I)V"⟩, 40), (⟨"WaxTurnsModel", "begin", "()V"⟩, 40), (⟨"WaxTurnsModel", "minuteOn", "([I)V"⟩, 40), (⟨"WaxTurnsModel", "walkOn", "([II)V"⟩, 40), (⟨"WaxTurnsModel", "isWatched", "(II)Z"⟩, 40)]
theorem lw_r5 : ∀ q ∈ lw_privs_5, lw_okq q := List.forall_mem_cons.mpr ⟨lw_p64, List.forall_mem_cons.mpr ⟨lw_p65, List.forall_mem_cons.mpr ⟨lw_p66, List.forall_mem_cons.mpr ⟨lw_p67, List.forall_mem_cons.mpr ⟨lw_p68, List.forall_mem_cons.mpr ⟨lw_p69, List.forall_mem_cons.mpr ⟨lw_p70, List.forall_mem_cons.mpr ⟨lw_p71, List.forall_mem_cons.mpr ⟨lw_p72, List.forall_mem_cons.mpr ⟨lw_p73, List.forall_mem_cons.mpr ⟨lw_p74, List.forall_mem_cons.mpr ⟨lw_p75, List.forall_mem_cons.mpr ⟨lw_p76, List.forall_mem_cons.mpr ⟨lw_p77, List.forall_mem_cons.mpr ⟨lw_p78, List.forall_mem_cons.mpr ⟨lw_p79, fun _ h => absurd h List.not_mem_nil⟩⟩⟩⟩⟩⟩⟩⟩⟩⟩⟩⟩⟩⟩⟩⟩
theorem lw_p80 : lw_okq (⟨"WaxTurnsModel", "speakOn", "([II)V"⟩, 40) := ⟨⟨by decide +kernel, by decide +kernel⟩, tb_at 4 123 rfl, tb_at 6 14 rfl, tb_at 6 15 rfl⟩
theorem lw_p81 : lw_okq (⟨"WaxTurnsModel", "nextGone", "()I"⟩, 40) := ⟨⟨by decide +kernel, by decide +kernel⟩, tb_at 4 123 rfl, tb_at 6 30 rfl, tb_at 6 31 rfl⟩
theorem lw_p82 : lw_okq (⟨"WaxTurnsModel", "routeWhy", "(II)I"⟩, 40) := ⟨⟨by decide +kernel, by decide +kernel⟩, tb_at 4 123 rfl, tb_at 6 85 rfl, tb_at 6 86 rfl⟩
theorem lw_p83 : lw_okq (⟨"WaxTurnsModel", "layRoute", "(I)V"⟩, 40) := ⟨⟨by decide +kernel, by decide +kernel⟩, tb_at 4 123 rfl, tb_at 6 89 rfl, tb_at 6 90 rfl⟩
theorem lw_p84 : lw_okq (⟨"WaxTurnsModel", "bestFrom", "(IIZ)I"⟩, 40) := ⟨⟨by decide +kernel, by decide +kernel⟩, tb_at 4 123 rfl, tb_at 6 93 rfl, tb_at 6 94 rfl⟩
theorem lw_p85 : lw_okq (⟨"WaxTurnsModel", "codes", "()I"⟩, 40) := ⟨⟨by decide +kernel, by decide +kernel⟩, tb_at 4 123 rfl, tb_at 6 113 rfl, tb_at 6 114 rfl⟩
theorem lw_p86 : lw_okq (⟨"WaxTurnsModel", "doesFit", "(I)Z"⟩, 40) := ⟨⟨by decide +kernel, by decide +kernel⟩, tb_at 4 123 rfl, tb_at 6 117 rfl, tb_at 6 118 rfl⟩
theorem lw_p87 : lw_okq (⟨"WaxTurnsModel", "byCode", "(II)I"⟩, 40) := ⟨⟨by decide +kernel, by decide +kernel⟩, tb_at 4 123 rfl, tb_at 6 121 rfl, tb_at 6 122 rfl⟩
theorem lw_p88 : lw_okq (⟨"WaxTurnsModel", "turnBy", "(IIII)I"⟩, 40) := ⟨⟨by decide +kernel, by decide +kernel⟩, tb_at 4 123 rfl, tb_at 6 125 rfl, tb_at 6 126 rfl⟩
theorem lw_p89 : lw_okq (⟨"WaxTurnsModel", "numberOf", "(I)I"⟩, 40) := ⟨⟨by decide +kernel, by decide +kernel⟩, tb_at 4 123 rfl, tb_at 6 133 rfl, tb_at 6 134 rfl⟩
theorem lw_p90 : lw_okq (⟨"WaxTurnsModel", "layOften", "(I)V"⟩, 40) := ⟨⟨by decide +kernel, by decide +kernel⟩, tb_at 4 123 rfl, tb_at 6 141 rfl, tb_at 6 142 rfl⟩
theorem lw_p91 : lw_okq (⟨"WaxTurnsModel", "lookOf", "()I"⟩, 40) := ⟨⟨by decide +kernel, by decide +kernel⟩, tb_at 4 123 rfl, tb_at 6 153 rfl, tb_at 6 154 rfl⟩
theorem lw_p92 : lw_okq (⟨"WaxTurnsModel", "seekRests", "(I)I"⟩, 40) := ⟨⟨by decide +kernel, by decide +kernel⟩, tb_at 4 123 rfl, tb_at 6 187 rfl, tb_at 6 188 rfl⟩
theorem lw_p93 : lw_okq (⟨"WaxTurnsModel", "turnsOf", "(II)I"⟩, 40) := ⟨⟨by decide +kernel, by decide +kernel⟩, tb_at 4 123 rfl, tb_at 6 199 rfl, tb_at 6 200 rfl⟩
theorem lw_p94 : lw_okq (⟨"WaxTurnsModel", "drawWhy", "(ZIII)I"⟩, 40) := ⟨⟨by decide +kernel, by decide +kernel⟩, tb_at 4 123 rfl, tb_at 6 215 rfl, tb_at 6 216 rfl⟩
theorem lw_p95 : lw_okq (⟨"WaxTurnsModel", "note", "()V"⟩, 40) := ⟨⟨by decide +kernel, by decide +kernel⟩, tb_at 4 123 rfl, tb_at 6 229 rfl, tb_at 6 230 rfl⟩
def lw_privs_6 : List (MethodName × Nat) := [(⟨"WaxTurnsModel", "speakOn", "([II)V"⟩, 40), (⟨"WaxTurnsModel", "nextGone", "()I"⟩, 40), (⟨"WaxTurnsModel", "routeWhy", "(II)I"⟩, 40), (⟨"WaxTurnsModel", "layRoute", "(I)V"⟩, 40), (⟨"WaxTurnsModel", "bestFrom", "(IIZ)I"⟩, 40), (⟨"WaxTurnsModel", "codes", "()I"⟩, 40), (⟨"WaxTurnsModel", "doesFit", "(I)Z"⟩, 40), (⟨"WaxTurnsModel", "byCode", "(II)I"⟩, 40), (⟨"WaxTurnsModel", "turnBy", "(IIII)I"⟩, 40), (⟨"WaxTurnsModel", "numberOf", "(I)I"⟩, 40), (⟨"WaxTurnsModel", "layOften", "(I)V"⟩, 40), (⟨"WaxTurnsModel", "lookOf", "()I"⟩, 40), (⟨"WaxTurnsModel", "seekRests", "(I)I"⟩, 40), (⟨"WaxTurnsModel", "turnsOf", "(II)I"⟩, 40), (⟨"WaxTurnsModel", "drawWhy", "(ZIII)I"⟩, 40), (⟨"WaxTurnsModel", "note", "()V"⟩, 40)]
theorem lw_r6 : ∀ q ∈ lw_privs_6, lw_okq q := List.forall_mem_cons.mpr ⟨lw_p80, List.forall_mem_cons.mpr ⟨lw_p81, List.forall_mem_cons.mpr ⟨lw_p82, List.forall_mem_cons.mpr ⟨lw_p83, List.forall_mem_cons.mpr ⟨lw_p84, List.forall_mem_cons.mpr ⟨lw_p85, List.forall_mem_cons.mpr ⟨lw_p86, List.forall_mem_cons.mpr ⟨lw_p87, List.forall_mem_cons.mpr ⟨lw_p88, List.forall_mem_cons.mpr ⟨lw_p89, List.forall_mem_cons.mpr ⟨lw_p90, List.forall_mem_cons.mpr ⟨lw_p91, List.forall_mem_cons.mpr ⟨lw_p92, List.forall_mem_cons.mpr ⟨lw_p93, List.forall_mem_cons.mpr ⟨lw_p94, List.forall_mem_cons.mpr ⟨lw_p95, fun _ h => absurd h List.not_mem_nil⟩⟩⟩⟩⟩⟩⟩⟩⟩⟩⟩⟩⟩⟩⟩⟩
theorem lw_p96 : lw_okq (⟨"WaxTurnsModel", "isNot", "(I)Z"⟩, 40) := ⟨⟨by decide +kernel, by decide +kernel⟩, tb_at 4 123 rfl, tb_at 7 5 rfl, tb_at 7 6 rfl⟩
def lw_privs_7 : List (MethodName × Nat) := [(⟨"WaxTurnsModel", "isNot", "(I)Z"⟩, 40)]
theorem lw_r7 : ∀ q ∈ lw_privs_7, lw_okq q := List.forall_mem_cons.mpr ⟨lw_p96, fun _ h => absurd h List.not_mem_nil⟩
def lw_privs : List (MethodName × Nat) := lw_privs_1 ++ (lw_privs_2 ++ (lw_privs_3 ++ (lw_privs_4 ++ (lw_privs_5 ++ (lw_privs_6 ++ (lw_privs_7))))))
def lw_tbl : List Cond := k2_sels lw_privs ++ tables_1
theorem lw_privs_ok : ∀ q ∈ lw_privs, lw_okq q := by
  show ∀ q ∈ lw_privs_1 ++ (lw_privs_2 ++ (lw_privs_3 ++ (lw_privs_4 ++ (lw_privs_5 ++ (lw_privs_6 ++ (lw_privs_7)))))), lw_okq q
  exact List.forall_mem_append.mpr ⟨lw_r1, List.forall_mem_append.mpr ⟨lw_r2, List.forall_mem_append.mpr ⟨lw_r3, List.forall_mem_append.mpr ⟨lw_r4, List.forall_mem_append.mpr ⟨lw_r5, List.forall_mem_append.mpr ⟨lw_r6, lw_r7⟩⟩⟩⟩⟩⟩
end P01_tables
section P02_names0
/-! ===== BEGIN words of one list among another's, by their places ===== -/
theorem goodIn_r {big : List Cond} (ws : List Cond) (ps : List Nat) (hp : ws = ps.filterMap (fun i => big[i]?)) (h : ws.all goodWord = true) : GoodIn big ws := by
  intro w hw
  have h1 := List.all_eq_true.mp h w hw
  rw [hp] at hw
  obtain ⟨i, -, hi⟩ := List.mem_filterMap.mp hw
  have hm : w ∈ big := by first | exact List.mem_of_getElem? hi | exact List.getElem?_mem hi
  exact ⟨hm, good_of_word h1⟩
theorem goodIn_app {big a b : List Cond} (ha : GoodIn big a) (hb : GoodIn big b) : GoodIn big (a ++ b) := fun w h => (List.mem_append.mp h).elim (ha w) (hb w)
theorem goodIn_ca {big a b : List Cond} {c : Cond} (ha : GoodIn big (c :: a)) (hb : GoodIn big b) : GoodIn big (c :: (a ++ b)) := fun w h => (List.mem_cons.mp h).elim (fun e => ha w (List.mem_cons.mpr (Or.inl e))) (fun h => (List.mem_append.mp h).elim (fun h => ha w (List.mem_cons.mpr (Or.inr h))) (hb w))
theorem goodIn_sub {big ws : List Cond} (hm : ∀ w ∈ ws, w ∈ big) (h : ws.all goodWord = true) : GoodIn big ws := fun w hw => ⟨hm w hw, good_of_word (List.all_eq_true.mp h w hw)⟩
/-! ===== END ===== -/

/-! ===== BEGIN exceptions that leave a method, and their catching by the caller (launches without stack traces) ===== -/
section VXA
/-! The laws vx_back, vx_callV, vx_callS, vx_callSW, vx_throw0, vx_throwS follow proofs of the library, with one case more: JvmDerived/Free/Laws.lean (Back.of_free), Shelf42/LK1.lean (callV, callS), Shelf/KitTraced.lean (throwNew0V, throwNewS). -/
/-- where a method has thrown q: the class by its name, the cell, what was written, the world -/
def vx_T (XC : String → State → State → Prop) (st : State) (q : Addr) (t : State) (mc ms : Nat) (free : Addr → Prop) : Prop :=
  ∃ (E : String) (ce : Cell) (L : List Loc), XC E st t ∧ t.heap[q]? = some ce ∧ ce.vm = .none ∧ st.vm.findClass E = some ce.cls ∧ st.WarmedH t.vm ∧ st.sameButNew ({ t with vm := st.vm } : State) L mc ms ∧ ∀ z ∈ L, free z.base
def vx_Q (Qc : Array Value → State → Outcome → State → Prop) (XC : String → State → State → Prop) (mc ms : Nat) (free : Addr → Prop) : Array Value → State → Outcome → State → Prop := fun a st o t =>
  (Qc a st o t ∧ ∃ L, FrameEnd st o t L mc ms ∧ ∀ q ∈ L, free q.base) ∨ ∃ q, o = .threw q ∧ vx_T XC st q t mc ms free
/-- a callee that returns or throws -/
def vx_Met (l : Launch) (y : MethodName) (ws : List Cond) (rm : Room) (Pc : Array Value → State → Prop) (Qc : Array Value → State → Outcome → State → Prop) (XC : String → State → State → Prop) (mc ms : Nat) (free : Addr → Prop) : Prop :=
  MetFree l y (headSpec ws rm) Pc (fun _ _ _ _ _ => True) (vx_Q Qc XC mc ms free)
def vx_Post (XC : String → State → State → Prop) (mc ms : Nat) (free : Addr → Prop) : Pt → Array Value → Addr → Pt → Prop := fun A a q B =>
  ∃ (g : JFrame) (mk : MethodId) (t : State) (L : List Loc) (E : String) (ce : Cell), B.U.heap = t.heap ∧ B.U.vm = t.vm ∧ XC E (A.U.calling g mk a) t ∧ t.heap[q]? = some ce ∧ ce.vm = .none ∧ A.U.vm.findClass E = some ce.cls ∧ B.locs = A.locs ++ L ∧ (∀ z ∈ L, free z.base) ∧ B.cells = A.cells + mc ∧ B.slots = A.slots + ms
def vx_Back (l : Launch) (R : Room) (p : Program) (e : Env) (below : List Frame) (s : State) (sargs : Array Value) (y : MethodName) (len W9 : Nat)
    (Pre : Pt → Array Value → Prop) (Post : Pt → Array Value → Option Value → Pt → Prop) (PostX : Pt → Array Value → Addr → Pt → Prop) : Prop :=
  ∀ (m : MethodId) (meth : Method) (c : Code) (A : Pt) (g : JFrame) (ig : Instr) (mk : MethodId) (a : Array Value),
    Stand p l e R s m sargs below meth c A.U A.locs A.cells A.slots → g.method = m → g.locals.size = c.maxLocals → decode c.code g.pc = .ok (ig, len) →
    2 * g.monitorRoom + (g.stack.map fun v => v.category).sum ≤ W9 → A.U.methodNamed? y = some mk → Pre A a →
    (∃ (v : Option Value) (B : Pt), Stand p l e R s m sargs below meth c B.U B.locs B.cells B.slots ∧ Post A a v B ∧
      Steps p.tables e below (doInvoke e (A.U.setTop g) [] mk a).1 (B.U.setTop { g with pc := g.pc + len, stack := v.toList ++ g.stack })) ∨
    (∃ (q : Addr) (B : Pt), Stand p l e R s m sargs below meth c B.U B.locs B.cells B.slots ∧ PostX A a q B ∧
      Steps p.tables e below (doInvoke e (A.U.setTop g) [] mk a).1 ((B.U.setTop g).pushFrame (.throwing q)))
section Payer
variable {l : Launch} {R : Room} {p : Program} {e : Env} {below : List Frame} {s : State} {sargs : Array Value} {y : MethodName} {len W9 : Nat}
theorem vx_back {ws : List Cond} {rm : Room} {Pc : Array Value → State → Prop} {Qc : Array Value → State → Outcome → State → Prop} {XC : String → State → State → Prop} {mc ms : Nat} {free : Addr → Prop} {bytes : ByteArray} {maxL : Nat} {ret : Option FieldType}
    (hM : vx_Met l y ws rm Pc Qc XC mc ms free) (hblind : FrameBlind Pc) (hrc : rm.cells = mc) (hrs : rm.slots = ms)
    (hframes : rm.frames + 1 ≤ R.frames) (hlocals : W9 + (maxL + 11) + rm.locals ≤ R.locals)
    (hws : ∀ w ∈ ws, ∀ a' U, s.WarmedH U.vm → w.before a' U = true) (hcode : Cond.code y bytes maxL ret ∈ ws) (hinit : ∀ a' U, s.WarmedH U.vm → (Cond.initialized y.cls).before a' U = true) :
    vx_Back l R p e below s sargs y len W9 (PreOf R mc ms Pc) (PostOf Qc mc ms free) (vx_Post XC mc ms free) := by
  intro m meth c A g ig mk a X hg hsize hdg hW hn hp
  have h1 : (headSpec ws rm).pre.before a A.U = true := atoms_intro fun w hw => hws w hw _ _ X.warmed
  have h2 : (Cond.code y bytes maxL ret).before a A.U = true := hws _ hcode _ _ X.warmed
  have h3 : (Cond.initialized y.cls).before a A.U = true := hinit _ _ X.warmed
  have h4 : A.cells + (headSpec ws rm).room.cells ≤ R.cells := by rw [show (headSpec ws rm).room.cells = mc from hrc]; exact hp.1
  have h5 : A.slots + (headSpec ws rm).room.slots ≤ R.slots := by rw [show (headSpec ws rm).room.slots = ms from hrs]; exact hp.2.1
  have hPc : Pc a (A.U.calling g mk a) := hblind _ _ _ _ hp.2.2
  obtain ⟨U, Ls, c0, s0⟩ := A
  dsimp only [Pt.U, Pt.locs, Pt.cells, Pt.slots] at h1 h2 h3 h4 h5 X hn hPc ⊢
  obtain ⟨methY, cY, hmY, hcY, -, hlY, -, -, -, -⟩ := Cond.code_spec hn h2
  obtain ⟨kY, hkY, -⟩ := className_of_methodNamed hn
  have hinitY : kY.init = .initialized := Cond.initialized_spec (findClass_of_methodNamed hn) hkY h3
  have h : At U g.method c below := by rw [hg]; exact X.here
  have hlocals9 : W9 + (maxL + 11) + (headSpec ws rm).room.locals ≤ R.locals := hlocals
  have happ : (headSpec ws rm).appliesLoose y e.platform (U.calling g mk a) = true :=
    Spec.appliesLoose_calling (g := g) h hdg hn hkY hinitY
      (X.room_calling (g := g) (R' := (headSpec ws rm).room) hsize hmY hcY hframes (by rw [hlY]; omega) h4 h5) h1
  obtain ⟨mid, hmid⟩ := h.above
  have hfr : (U.setTop g).frames = (.java g :: mid) ++ below := by rw [State.frames_setTop' g h.top, hmid]; rfl
  obtain ⟨o, s₂, hsteps, -, hend, hq⟩ := Steps.callFree hM p X.admits X.cas X.clock (acts := []) hfr happ hPc trivial
  have hq' : vx_Q Qc XC mc ms free a (U.calling g mk a) o s₂ := hq
  rw [State.frames_setTop' g h.top] at hend
  obtain ⟨g₀, hg0⟩ := Option.isSome_iff_exists.mp h.top
  obtain ⟨r, hr⟩ := State.topJava?_eq_some.mp hg0
  have hr' : (({ U with heap := s₂.heap, slotsUsed := s₂.slotsUsed } : State).setVm s₂.vm).frames = .java g₀ :: r := hr
  rcases hq' with ⟨hqc, L, hfe, hL⟩ | ⟨q, rfl, E, ce, L, hx, hce, hcv, hcl, hW₂, hsm, hL⟩
  · obtain ⟨⟨v, rfl⟩, hW₂, e2, q2, q3, q4, q5, q6⟩ := id hfe
    have e3 : s₂ = ({ (U.calling g mk a).setFrames s₂.frames with heap := s₂.heap, slotsUsed := s₂.slotsUsed } : State).setVm s₂.vm := by
      have : s₂ = ({ s₂ with vm := (U.calling g mk a).vm } : State).setVm s₂.vm := rfl
      rw [e2] at this
      exact this
    obtain ⟨c₂, i₂, len₂, hc₂, hd₂, hf₂⟩ := hend
    have hW' : U.WarmedH s₂.vm := hW₂
    have hcc : c₂ = c := by
      have h1 : s₂.code? g.method = U.code? g.method := by
        rw [State.code?_eq, State.code?_eq, hW'.alike.method?]
      exact Option.some.inj (hc₂.symm.trans (h1.trans h.code))
    subst hcc
    have hlen : len₂ = len := by rw [hdg] at hd₂; cases hd₂; rfl
    subst hlen
    have hs₂ : s₂ = (({ U with heap := s₂.heap, slotsUsed := s₂.slotsUsed } : State).setVm s₂.vm).setTop { g with pc := g.pc + len₂, stack := v.toList ++ g.stack } := by
      refine e3.trans ?_
      rw [hf₂, State.calling_eq h.top, State.setFrames_setFrames, State.setTop_of_frames _ hr', hr]
      rfl
    have hsame : U.sameButNew ({ U with heap := s₂.heap, slotsUsed := s₂.slotsUsed } : State) L mc ms := by
      refine ⟨?_, q2, q3, q4, q5, q6⟩
      obtain ⟨t, ht, -⟩ := State.frames_cons hr
      show ({ U with heap := s₂.heap, slotsUsed := s₂.slotsUsed } : State) = { U.setFrames U.frames with heap := s₂.heap, slotsUsed := s₂.slotsUsed }
      rw [State.setFrames_self ht]
    subst hg
    refine Or.inl ⟨v, ⟨(({ U with heap := s₂.heap, slotsUsed := s₂.slotsUsed } : State).setVm s₂.vm), Ls ++ L, c0 + mc, s0 + ms⟩,
      ⟨X.admits, X.cas, X.clock, X.frames, X.room, X.hears, X.method, X.code, (X.here.setHeapUsed s₂.heap s₂.slotsUsed).setVm hW'.alike, X.tail, State.WarmedH.trans X.warmed hW', X.limits, X.bytes, X.same.trans (hsame.setVm s.vm)⟩,
      ⟨g, mk, s₂, L, rfl, rfl, hqc, rfl, hL, rfl, rfl⟩, ?_⟩
    show Steps p.tables e below _ ((({ U with heap := s₂.heap, slotsUsed := s₂.slotsUsed } : State).setVm s₂.vm).setTop { g with pc := g.pc + len₂, stack := v.toList ++ g.stack })
    rw [← hs₂]
    exact hsteps
  · obtain ⟨e2, q2, q3, q4, q5, q6⟩ := id hsm
    have e3 : s₂ = ({ (U.calling g mk a).setFrames s₂.frames with heap := s₂.heap, slotsUsed := s₂.slotsUsed } : State).setVm s₂.vm := by
      have : s₂ = ({ s₂ with vm := (U.calling g mk a).vm } : State).setVm s₂.vm := rfl
      rw [e2] at this
      exact this
    have hf₂ : s₂.frames = .throwing q :: .java g :: U.frames.tail := hend
    have hW' : U.WarmedH s₂.vm := hW₂
    have hs₂ : s₂ = ((({ U with heap := s₂.heap, slotsUsed := s₂.slotsUsed } : State).setVm s₂.vm).setTop g).pushFrame (.throwing q) := by
      refine e3.trans ?_
      rw [hf₂, State.calling_eq h.top, State.setFrames_setFrames, State.pushFrame, State.frames_setTop _ hr', State.setTop_of_frames _ hr', State.setFrames_setFrames, hr]
      rfl
    have hsame : U.sameButNew ({ U with heap := s₂.heap, slotsUsed := s₂.slotsUsed } : State) L mc ms := by
      refine ⟨?_, q2, q3, q4, q5, q6⟩
      obtain ⟨t, ht, -⟩ := State.frames_cons hr
      show ({ U with heap := s₂.heap, slotsUsed := s₂.slotsUsed } : State) = { U.setFrames U.frames with heap := s₂.heap, slotsUsed := s₂.slotsUsed }
      rw [State.setFrames_self ht]
    subst hg
    refine Or.inr ⟨q, ⟨(({ U with heap := s₂.heap, slotsUsed := s₂.slotsUsed } : State).setVm s₂.vm), Ls ++ L, c0 + mc, s0 + ms⟩,
      ⟨X.admits, X.cas, X.clock, X.frames, X.room, X.hears, X.method, X.code, (X.here.setHeapUsed s₂.heap s₂.slotsUsed).setVm hW'.alike, X.tail, State.WarmedH.trans X.warmed hW', X.limits, X.bytes, X.same.trans (hsame.setVm s.vm)⟩,
      ⟨g, mk, s₂, L, E, ce, rfl, rfl, hx, hce, hcv, hcl, rfl, hL, rfl, rfl⟩, ?_⟩
    show Steps p.tables e below _ (((({ U with heap := s₂.heap, slotsUsed := s₂.slotsUsed } : State).setVm s₂.vm).setTop g).pushFrame (.throwing q))
    rw [← hs₂]
    exact hsteps
end Payer
section Calls
variable {p : Program} {l : Launch} {e : Env} {R : Room} {s : State} {m : MethodId} {args : Array Value} {below : List Frame} {meth : Method} {c : Code} {T : State} {locs : List Loc} {cells slots : Nat}
theorem vx_callV (X : Stand p l e R s m args below meth c T locs cells slots) (hexec : p.tables.exec = Jvm.exec) {own C : String} {index : Nat} {y : MethodName} {bytes : ByteArray} {maxL : Nat} {ret : Option FieldType}
    (hown : s.vm.findClass own = some m.cls) (hlink : (Cond.methodLink own index y).before args s = true) (hinst : (Cond.instanceMethod y).before args s = true) (hsel : (Cond.selects C y y).before args s = true)
    (hcode : (Cond.code y bytes maxL ret).before args s = true) (hy : y.cls ≠ "java/lang/invoke/MethodHandle" ∧ y.cls ≠ "java/lang/invoke/VarHandle")
    {W9 : Nat} {Pre : Pt → Array Value → Prop} {Post : Pt → Array Value → Option Value → Pt → Prop} {PostX : Pt → Array Value → Addr → Pt → Prop} (hK : vx_Back l R p e below s args y 3 W9 Pre Post PostX)
    {b : Addr} {cellB : Cell} (hcell : T.heap[b]? = some cellB) (hobj : cellB.vm.isStatics = false) (hcls : s.vm.findClass C = some cellB.cls)
    {g : JFrame} (hg : g.method = m) (hsize : g.locals.size = c.maxLocals) {argsL rest : List Value} (hlen : ∀ sig, parseMethodDescriptor y.desc = some sig → argsL.length = sig.parameters.length)
    (hstack : g.stack = argsL.reverse ++ .ref b :: rest) (hW : 2 * g.monitorRoom + (rest.map fun v => v.category).sum ≤ W9) (hdg : decode c.code g.pc = .ok (.invokevirtual index, 3))
    (hpre : ∀ vm₁, s.WarmedH vm₁ → Pre ⟨T.setVm vm₁, locs, cells, slots⟩ (Value.ref b :: argsL).toArray) :
    (∃ (v : Option Value) (vm₁ : Vm) (B : Pt), s.WarmedH vm₁ ∧ Stand p l e R s m args below meth c B.U B.locs B.cells B.slots ∧ Post ⟨T.setVm vm₁, locs, cells, slots⟩ (Value.ref b :: argsL).toArray v B ∧
      ∀ target, Steps p.tables e below (B.U.setTop { g with pc := g.pc + 3, stack := v.toList ++ rest }) target → Steps p.tables e below (T.setTop g) target) ∨
    (∃ (q : Addr) (vm₁ : Vm) (B : Pt), s.WarmedH vm₁ ∧ Stand p l e R s m args below meth c B.U B.locs B.cells B.slots ∧ PostX ⟨T.setVm vm₁, locs, cells, slots⟩ (Value.ref b :: argsL).toArray q B ∧
      Steps p.tables e below (T.setTop g) ((B.U.setTop { g with stack := rest }).pushFrame (.throwing q))) := by
  obtain ⟨mk, methM, hnamed, hmethM, hstM, habM⟩ := Cond.instanceMethod_spec hinst
  obtain ⟨methM', cM, hmethM', -, -, -, -, -, -, hsigM⟩ := Cond.code_spec hnamed hcode
  cases hmethM.symm.trans hmethM'
  obtain ⟨c2, r2, m2, q1, q2, q3, q4, kP, hkP, hkPi⟩ := Cond.selects_spec hsel
  cases hcls.symm.trans q1
  cases (State.methodFound?_of_named hnamed hy).symm.trans q2
  cases hnamed.symm.trans q3
  have hselP : selectMethod e.platform s.vm cellB.cls mk = .method mk := by rw [Launch.admits_selectMethod X.admits]; exact q4
  obtain ⟨vm₁, X₁, hstep₁⟩ := X.invokevirtual hexec hown hlink hnamed hmethM hstM hkP hkPi hy (a := b) (cell := cellB) hcell
    (fun z h => by rw [h] at hobj; cases hobj) hselP hmethM habM hkP hkPi (g := g) hg (argsL := argsL) (rest := rest) (hlen _ hsigM) hstack hdg
  rcases hK m meth c ⟨T.setVm vm₁, locs, cells, slots⟩ { g with stack := rest } (.invokevirtual index) mk (Value.ref b :: argsL).toArray X₁ hg hsize hdg hW (X₁.named hnamed) (hpre vm₁ X₁.warmed) with ⟨v, B, X', hpost, hsteps⟩ | ⟨q, B, X', hpost, hsteps⟩
  · exact Or.inl ⟨v, vm₁, B, X₁.warmed, X', hpost, fun target h => hstep₁ _ fun acts => by rw [doInvoke_state]; exact hsteps.trans h⟩
  · exact Or.inr ⟨q, vm₁, B, X₁.warmed, X', hpost, hstep₁ _ fun acts => by rw [doInvoke_state]; exact hsteps⟩
theorem vx_callS (X : Stand p l e R s m args below meth c T locs cells slots) (hexec : p.tables.exec = Jvm.exec) {own : String} {index : Nat} {y : MethodName} {bytes : ByteArray} {maxL : Nat} {ret : Option FieldType}
    (hown : s.vm.findClass own = some m.cls) (hlink : (Cond.methodLink own index y).before args s = true) (hstat : (Cond.static y).before args s = true) (hinit : (Cond.initialized y.cls).before args s = true)
    (hcode : (Cond.code y bytes maxL ret).before args s = true) (hy : y.cls ≠ "java/lang/invoke/MethodHandle" ∧ y.cls ≠ "java/lang/invoke/VarHandle")
    {W9 : Nat} {Pre : Pt → Array Value → Prop} {Post : Pt → Array Value → Option Value → Pt → Prop} {PostX : Pt → Array Value → Addr → Pt → Prop} (hK : vx_Back l R p e below s args y 3 W9 Pre Post PostX)
    {g : JFrame} (hg : g.method = m) (hsize : g.locals.size = c.maxLocals) {argsL rest : List Value} (hlen : ∀ sig, parseMethodDescriptor y.desc = some sig → argsL.length = sig.parameters.length)
    (hstack : g.stack = argsL.reverse ++ rest) (hW : 2 * g.monitorRoom + (rest.map fun v => v.category).sum ≤ W9) (hdg : decode c.code g.pc = .ok (.invokestatic index, 3))
    (hpre : ∀ vm₁, s.WarmedH vm₁ → Pre ⟨T.setVm vm₁, locs, cells, slots⟩ argsL.toArray) :
    (∃ (v : Option Value) (vm₁ : Vm) (B : Pt), s.WarmedH vm₁ ∧ Stand p l e R s m args below meth c B.U B.locs B.cells B.slots ∧ Post ⟨T.setVm vm₁, locs, cells, slots⟩ argsL.toArray v B ∧
      ∀ target, Steps p.tables e below (B.U.setTop { g with pc := g.pc + 3, stack := v.toList ++ rest }) target → Steps p.tables e below (T.setTop g) target) ∨
    (∃ (q : Addr) (vm₁ : Vm) (B : Pt), s.WarmedH vm₁ ∧ Stand p l e R s m args below meth c B.U B.locs B.cells B.slots ∧ PostX ⟨T.setVm vm₁, locs, cells, slots⟩ argsL.toArray q B ∧
      Steps p.tables e below (T.setTop g) ((B.U.setTop { g with stack := rest }).pushFrame (.throwing q))) := by
  obtain ⟨mk, hnamed⟩ := Cond.code_named hcode
  obtain ⟨methM, cM, hmethM, -, -, -, -, -, -, hsigM⟩ := Cond.code_spec hnamed hcode
  have hstatic : methM.isStatic = true := Cond.static_spec hnamed hmethM hstat
  obtain ⟨kP, hkP, -⟩ := className_of_methodNamed hnamed
  have hinitP : kP.init = .initialized := Cond.initialized_spec (findClass_of_methodNamed hnamed) hkP hinit
  obtain ⟨vm₁, X₁, hstep₁⟩ := X.invokestatic hexec hown hlink hnamed hmethM hstatic hkP hinitP hy (g := g) hg (argsL := argsL) (rest := rest) (hlen _ hsigM) hstack hdg
  rcases hK m meth c ⟨T.setVm vm₁, locs, cells, slots⟩ { g with stack := rest } (.invokestatic index) mk argsL.toArray X₁ hg hsize hdg hW (X₁.named hnamed) (hpre vm₁ X₁.warmed) with ⟨v, B, X', hpost, hsteps⟩ | ⟨q, B, X', hpost, hsteps⟩
  · exact Or.inl ⟨v, vm₁, B, X₁.warmed, X', hpost, fun target h => hstep₁ _ fun acts => by rw [doInvoke_state]; exact hsteps.trans h⟩
  · exact Or.inr ⟨q, vm₁, B, X₁.warmed, X', hpost, hstep₁ _ fun acts => by rw [doInvoke_state]; exact hsteps⟩
end Calls
theorem vx_cls {s : State} {T : State} {vm₁ : Vm} {E : String} {k : ClassId} (hW : s.WarmedH vm₁) (h : (T.setVm vm₁).vm.findClass E = some k) : s.vm.findClass E = some k := by
  have h1 : vm₁.findClass E = some k := h
  rw [hW.alike.findClass] at h1
  exact h1
/-- the method's frame g, with q thrown over it -/
def vx_W (p : Program) (l : Launch) (e : Env) (R : Room) (s : State) (m : MethodId) (args : Array Value) (below : List Frame) (meth : Method) (c : Code) (H : Heap) (locs : List Loc) (cells slots : Nat) (Q : State → Prop) (g : JFrame) (q : Addr) : Prop :=
  ∀ T : State, T.heap = H → Stand p l e R s m args below meth c T locs cells slots → ∃ t, Steps p.tables e below ((T.setTop g).pushFrame (.throwing q)) t ∧ Q t
def vx_Run (p : Program) (l : Launch) (e : Env) (R : Room) (s : State) (m : MethodId) (args : Array Value) (below : List Frame) (meth : Method) (c : Code) (H : Heap) (locs : List Loc) (cells slots mc ms : Nat) (g : JFrame) (rest : List Value) (Qa : State → Outcome → State → Prop) (XC : String → State → State → Prop) (free : Addr → Prop) : Prop :=
  ∀ T : State, T.heap = H → Stand p l e R s m args below meth c T locs cells slots →
    (∃ (v : Option Value) (st₀ t T' : State) (L : List Loc), st₀.heap = H ∧ Stand p l e R s m args below meth c T' (locs ++ L) (cells + mc) (slots + ms) ∧ (∀ q ∈ L, free q.base) ∧ T'.heap = t.heap ∧ T'.vm = t.vm ∧ Qa st₀ (.returned v) t ∧
      Goes p e below T g T' { g with pc := g.pc + 3, stack := v.toList ++ rest }) ∨
    (∃ (q : Addr) (st₀ t T' : State) (L : List Loc) (E : String) (ce : Cell), st₀.heap = H ∧ Stand p l e R s m args below meth c T' (locs ++ L) (cells + mc) (slots + ms) ∧ (∀ z ∈ L, free z.base) ∧ T'.heap = t.heap ∧ T'.vm = t.vm ∧ XC E st₀ t ∧ t.heap[q]? = some ce ∧ ce.vm = .none ∧ s.vm.findClass E = some ce.cls ∧
      Steps p.tables e below (T.setTop g) ((T'.setTop { g with stack := rest }).pushFrame (.throwing q)))
def vx_X {S : Type} (px : S → Prop) (B : String → S → State → Prop) (A : Nat → Prop) : String → State → State → Prop := fun E st t => ∃ u : S, px u ∧ B E u t ∧ va_F A st t
section Runs
variable {p : Program} {l : Launch} {e : Env} {R : Room} {s : State} {m : MethodId} {args : Array Value} {below : List Frame} {meth : Method} {c : Code} {H : Heap} {locs : List Loc} {cells slots : Nat}
variable {y : MethodName} {bytes cc : ByteArray} {maxL nL mc ms n index : Nat} {ret : Option FieldType} {ws : List Cond} {rm : Room} {Pc : Array Value → State → Prop} {Qc : Array Value → State → Outcome → State → Prop} {XC : String → State → State → Prop} {free : Addr → Prop} {Ts : List Cond} {own C : String} {b : Addr} {As rest : List Value} {g : JFrame}
theorem vx_callBack (cb : CallB R s args own index y bytes maxL ret ws rm mc ms n) (hM : vx_Met l y ws rm Pc Qc XC mc ms free) (hbl : FrameBlind Pc) : vx_Back l R p e below s args y 3 8 (PreOf R mc ms Pc) (PostOf Qc mc ms free) (vx_Post XC mc ms free) := by
  obtain ⟨hrc, hrs, hfr, hlo, hws, hcw, -, hini, -⟩ := cb
  exact vx_back (bytes := bytes) (maxL := maxL) (ret := ret) hM hbl hrc hrs hfr hlo hws hcw (fun a' U hW => word_at hW (Or.inl (by first | rfl | simp [Cond.onTables, Cond.keeps, Cond.steady])) hini)
theorem vx_runV (S : CallFix p m c cc nL s args Ts own) (hM : vx_Met l y ws rm Pc Qc XC mc ms free) (cw : CallW R s args own C index y bytes maxL ret ws rm mc ms n) (hp : PreV s H C b Pc As)
    (hg : g.method = m) (hn : As.length = n) (hsize : g.locals.size = nL) (hstack : g.stack = As.reverse ++ .ref b :: rest) (hW : 2 * g.monitorRoom + (rest.map fun v => v.category).sum ≤ 8) (hdg : decode cc g.pc = .ok (.invokevirtual index, 3)) (hf : cells + mc ≤ R.cells ∧ slots + ms ≤ R.slots) :
    vx_Run p l e R s m args below meth c H locs cells slots mc ms g rest (Qc (Value.ref b :: As).toArray) XC free := by
  have hK : vx_Back l R p e below s args y 3 8 (PreOf R mc ms Pc) (PostOf Qc mc ms free) (vx_Post XC mc ms free) := vx_callBack cw.1 hM hp.1
  obtain ⟨⟨-, -, -, -, -, -, hcode, -, hy, hlen, hl⟩, hin, hse⟩ := cw
  obtain ⟨hx, hb, hml, ho, -⟩ := S
  obtain ⟨-, ⟨cellB, hcB, hoB, hclB⟩, hPc⟩ := hp
  intro T hT X
  rcases vx_callV X hx (C := C) (bytes := bytes) (maxL := maxL) (ret := ret) ho hl hin hse hcode hy hK (by rw [hT]; exact hcB) hoB hclB hg (hsize.trans hml.symm) (argsL := As) (rest := rest) (fun sig h => hn.trans (hlen sig h)) hstack hW (by rw [hb]; exact hdg)
    (fun vm₁ hW₁ => ⟨hf.1, hf.2, hPc (T.setVm vm₁) hT hW₁⟩) with ⟨v, vm₁, ⟨U', l2, c2, s2⟩, hW₁, X', ⟨g', mk, t, L, e1, e2, hq, h1, hL, h2, h3⟩, st⟩ | ⟨q, vm₁, ⟨U', l2, c2, s2⟩, hW₁, X', ⟨g', mk, t, L, E, ce, e1, e2, hq, hce, hcv, hcl, h1, hL, h2, h3⟩, st⟩
  · dsimp only [Pt.U, Pt.locs, Pt.cells, Pt.slots] at X' e1 e2 h1 h2 h3 st
    subst h1; subst h2; subst h3
    exact Or.inl ⟨v, (T.setVm vm₁).calling g' mk (Value.ref b :: As).toArray, t, U', L, hT, X', hL, e1, e2, hq, st⟩
  · dsimp only [Pt.U, Pt.locs, Pt.cells, Pt.slots] at X' e1 e2 h1 h2 h3 st hcl
    subst h1; subst h2; subst h3
    exact Or.inr ⟨q, (T.setVm vm₁).calling g' mk (Value.ref b :: As).toArray, t, U', L, E, ce, hT, X', hL, e1, e2, hq, hce, hcv, vx_cls hW₁ hcl, st⟩
end Runs
section Rows
variable {p : Program} {l : Launch} {e : Env} {R : Room} {s : State} {m : MethodId} {args : Array Value} {below : List Frame} {meth : Method} {c : Code} {H : Heap} {locs : List Loc} {cells slots : Nat} {Q : State → Prop}
variable {mc ms : Nat} {free : Addr → Prop} {A0 A1 : Nat → Prop} {H0 : Heap} {a : Array Value} {pc : Nat} {ls : Array Slot} {st0 rest : List Value}
theorem vx_keep {st₀ t T' : State} {L : List Loc} (h0 : st₀.heap = H) (e1 : T'.heap = t.heap) (hS : va_S A0 H0 H locs) (hA : ∀ q, q < H.size → A1 q → A0 q) (hf : ∀ q, free q → A0 q) (hL : ∀ q ∈ L, free q.base) (hF : va_F A1 st₀ t) :
    H.size ≤ T'.heap.size ∧ (∀ q : Nat, q < H.size → ¬ A1 q → T'.heap[q]? = H[q]?) ∧ va_S A0 H0 T'.heap (locs ++ L) := by
  obtain ⟨hz, hk⟩ := hF
  rw [h0] at hz hk
  exact ⟨by rw [e1]; exact hz, fun q h1 h2 => by rw [e1]; exact hk q h1 h2,
    ⟨Nat.le_trans hS.1 (by rw [e1]; exact hz), fun q h1 h2 => by rw [e1, hk q (Nat.lt_of_lt_of_le h1 hS.1) (fun z => h2 (hA q (Nat.lt_of_lt_of_le h1 hS.1) z))]; exact hS.2.1 q h1 h2, fun q hq => by
      rcases List.mem_append.mp hq with h | h
      · exact hS.2.2 q h
      · exact hf _ (hL q h)⟩⟩
theorem vx_calli {S SX : Type} {post : Int32 → S → Prop} {px : SX → Prop} {B : S → State → Prop} {BX : String → SX → State → Prop} {AX : Nat → Prop} (hr : vx_Run p l e R s m args below meth c H locs cells slots mc ms (F0 m pc ls st0) rest (va_Qi post B A1 a) (vx_X px BX AX) free) (hS : va_S A0 H0 H locs) (hA : ∀ q, q < H.size → A1 q → A0 q) (hf : ∀ q, free q → A0 q) (hAX : ∀ q, q < H.size → AX q → A0 q)
    (kx : ∀ (E : String) (ce : Cell) (q9 : Addr) (u : SX) (t : State) (H1 : Heap) (locs1 : List Loc), t.heap = H1 → s.vm.Alike t.vm → px u → BX E u t → H.size ≤ H1.size → (∀ q : Nat, q < H.size → ¬ AX q → H1[q]? = H[q]?) → va_S A0 H0 H1 locs1 → H1[q9]? = some ce → ce.vm = .none → s.vm.findClass E = some ce.cls → vx_W p l e R s m args below meth c H1 locs1 (cells + mc) (slots + ms) Q (F0 m pc ls rest) q9)
    (kk : ∀ (r : Int32) (u : S) (t : State) (H1 : Heap) (locs1 : List Loc), t.heap = H1 → s.vm.Alike t.vm → post r u → B u t → H.size ≤ H1.size → (∀ q : Nat, q < H.size → ¬ A1 q → H1[q]? = H[q]?) → va_S A0 H0 H1 locs1 → W p l e R s m args below meth c H1 locs1 (cells + mc) (slots + ms) Q (F0 m (pc + 3) ls (.int r :: rest))) : W p l e R s m args below meth c H locs cells slots Q (F0 m pc ls st0) := by
  intro T hT X
  rcases hr T hT X with ⟨v, st₀, t, T', L, h0, X', hL, e1, e2, ⟨⟨r, u, hv, hp, hb⟩, hF⟩, st⟩ | ⟨q, st₀, t, T', L, E, ce, h0, X', hL, e1, e2, ⟨u, hp, hb, hF⟩, hce, hcv, hcl, st⟩
  · cases hv
    obtain ⟨k1, k2, k3⟩ := vx_keep h0 e1 hS hA hf hL hF
    obtain ⟨t2, a1, b1⟩ := kk r u t T'.heap (locs ++ L) e1.symm (by rw [← e2]; exact X'.warmed.alike) hp hb k1 k2 k3 T' rfl X'
    exact ⟨t2, st t2 a1, b1⟩
  · obtain ⟨k1, k2, k3⟩ := vx_keep h0 e1 hS hAX hf hL hF
    obtain ⟨t2, a1, b1⟩ := kx E ce q u t T'.heap (locs ++ L) e1.symm (by rw [← e2]; exact X'.warmed.alike) hp hb k1 k2 k3 (by rw [e1]; exact hce) hcv hcl T' rfl X'
    exact ⟨t2, st.trans a1, b1⟩
/-- caught by the row x of this method's table; the rows ahead don't take it -/
theorem vx_catch {own name : String} {E : String} {ce : Cell} {q : Addr} (hown : s.vm.findClass own = some m.cls) (pre : List ExceptionTableEntry) (x : ExceptionTableEntry) (suf : List ExceptionTableEntry) (hsplit : c.exceptionTable.toList = pre ++ x :: suf)
    (hpass : ∀ z ∈ pre, covers z pc = false ∨ (z.catchType ≠ 0 ∧ ∃ nm : String, (Cond.classLink own z.catchType nm).before args s = true ∧ va_Nc E nm s)) (hx : covers x pc = true) (h0 : x.catchType ≠ 0)
    (hlink : (Cond.classLink own x.catchType name).before args s = true) (hcast : (Cond.castable E name).before args s = true) (hcell : H[q]? = some ce) (hv : ce.vm = .none) (hcl : s.vm.findClass E = some ce.cls)
    (kk : W p l e R s m args below meth c H locs cells slots Q (F0 m x.handlerPc ls [.ref q])) : vx_W p l e R s m args below meth c H locs cells slots Q (F0 m pc ls rest) q := by
  intro T hT X
  have hpl : e.platform.magicAccessors = ({} : Platform).magicAccessors := by rw [X.admits.platform]
  obtain ⟨c3, c4, hc3, hc4, hasg⟩ := Cond.castable_spec hcast
  cases Option.some.inj (hc3.symm.trans hcl)
  obtain ⟨c5, hc5, hcl5⟩ := Cond.classLink_spec hown hlink e.platform hpl
  cases Option.some.inj (hc4.symm.trans hc5)
  obtain ⟨vm', X', st⟩ := X.thenCaughtThrough q (g := F0 m pc ls rest) rfl (Steps.refl _) (by rw [hT]; exact hcell) (by rw [hv]; rfl) (by obtain ⟨k9, h9, -⟩ := Vm.findClass_spec hcl; exact ⟨k9, h9⟩) pre x suf hsplit
    (fun z hz => by
      rcases hpass z hz with h | ⟨hz0, nm, hl1, hn1⟩
      · exact Or.inl h
      · obtain ⟨c6, hc6, hcl6⟩ := Cond.classLink_spec hown hl1 e.platform hpl
        obtain ⟨a8, b8, h1, h2, h3⟩ := hn1
        cases Option.some.inj (h1.symm.trans hcl)
        cases Option.some.inj (h2.symm.trans hc6)
        exact Or.inr ⟨hz0, _, hcl6, h3⟩) hx (Or.inr ⟨h0, c4, hcl5, hasg⟩)
  obtain ⟨t, a1, b1⟩ := kk (T.setVm vm') hT X'
  exact ⟨t, st.trans a1, b1⟩
end Rows
section Ends
variable {p : Program} {l : Launch} {e : Env} {R : Room} {s : State} {m : MethodId} {args : Array Value} {below : List Frame} {meth : Method} {c : Code} {H : Heap} {locs : List Loc} {cells slots : Nat} {Q : State → Prop}
variable {mc ms : Nat} {free : Addr → Prop} {A0 A1 : Nat → Prop} {H0 : Heap} {a : Array Value} {ls : Array Slot} {st0 rest : List Value}
variable {Qc : Array Value → State → Outcome → State → Prop} {XC : String → State → State → Prop}
/-- what a body that may throw owes at its end -/
def vx_MQ (below : List Frame) (Qc : Array Value → State → Outcome → State → Prop) (XC : String → State → State → Prop) (a : Array Value) (s : State) (mc ms : Nat) (free : Addr → Prop) : State → Prop := fun t =>
  ∃ o, t.status = .running ∧ Ended t below o ∧ vx_Q Qc XC mc ms free a s o t
theorem vx_ret {g : JFrame} {mc ms : Nat} (k : W p l e R s m args below meth c H locs cells slots (MQ below Qc args s mc ms free) g) : W p l e R s m args below meth c H locs cells slots (vx_MQ below Qc XC args s mc ms free) g := by
  intro T hT X
  obtain ⟨t, a1, o, b1, b2, b3, b4⟩ := k T hT X
  exact ⟨t, a1, o, b1, b2, Or.inl ⟨b3, b4⟩⟩
theorem vx_frame {U : State} {k n : Nat} (h : s.sameButNew ({ U with vm := s.vm } : State) locs k n) : s.heap.size ≤ U.heap.size ∧ ∀ q : Nat, q < s.heap.size → (∀ z ∈ locs, z.base ≠ q) → U.heap[q]? = s.heap[q]? := by
  obtain ⟨-, h2, -, -, -, h6⟩ := h
  refine ⟨h2, fun q hq hz => ?_⟩
  obtain ⟨c9, e1, e2, e3, e4⟩ := h6 q _ (Array.getElem?_eq_getElem hq)
  have hs : c9.slots = (s.heap[q]).slots := Array.ext_getElem? fun i => e4 i fun hm => hz _ hm rfl
  have h9 : c9 = s.heap[q] := by
    rw [hs] at e2
    exact e2
  have e5 : U.heap[q]? = some c9 := e1
  rw [e5, h9, Array.getElem?_eq_getElem hq]
/-- the words of a throw but the four that speak of the heap -/
def vx_no (w : Cond) : Bool := decide (w ≠ .isRef (.static Bundle.tN "UNASSIGNED_STACK" Bundle.steD)) && decide (w ≠ .isRef (.static Bundle.tN "SUPPRESSED_SENTINEL" Bundle.listD)) && decide (w ≠ .laysStatic Bundle.tN "UNASSIGNED_STACK" Bundle.steD) && decide (w ≠ .laysStatic Bundle.tN "SUPPRESSED_SENTINEL" Bundle.listD)
def vx_at0 (own : String) (ic : Nat) (X : String) (names : List String) : List Cond := (Bundle.ownAtoms0 own ic X names).filter vx_no
def vx_atS (own : String) (ic : Nat) (X : String) (names : List String) : List Cond := (Bundle.ownAtoms own ic X names).filter vx_no
/-- a word that the tables alone decide, or a good one -/
def vx_ot (w : Cond) : Bool := w.onTables || goodWord w
theorem vx_ot_at {args a' : Array Value} {s U : State} {w : Cond} (hW : s.WarmedH U.vm) (hvm : s.vm = U.vm) (hg : vx_ot w = true) (h : w.before args s = true) : w.before a' U = true := by
  simp only [vx_ot, Bool.or_eq_true] at hg
  rcases hg with hg | hg
  · exact va_tabs hg hvm h
  · exact word_at hW (good_of_word hg) h
/-- a list's words: the good ones out of the method's own list, the others by premises of their own -/
theorem vx_hat {args : Array Value} {s : State} {L B : List Cond} (h1 : ∀ w ∈ L.filter goodWord, w.before args s = true) (h2 : ∀ w ∈ L.filter (fun w => !goodWord w), w ∈ B) (h3 : ∀ w ∈ B, w.before args s = true) : ∀ w ∈ L, w.before args s = true := by
  intro w hw
  by_cases g : goodWord w = true
  · exact h1 w (List.mem_filter.mpr ⟨hw, g⟩)
  · refine h3 w (h2 w (List.mem_filter.mpr ⟨hw, ?_⟩))
    show (!goodWord w) = true
    cases hgw : goodWord w
    · rfl
    · exact absurd hgw g
theorem vx_c {args : Array Value} {s : State} {w : Cond} {B : List Cond} (h : w.before args s = true) (t : ∀ w ∈ B, w.before args s = true) : ∀ w' ∈ w :: B, w'.before args s = true := fun w' h' => (List.mem_cons.mp h').elim (fun e => by rw [e]; exact h) (t w')
theorem vx_n {args : Array Value} {s : State} : ∀ w ∈ ([] : List Cond), w.before args s = true := fun _ h => nomatch h
theorem vx_own {args : Array Value} {s : State} {L : List Cond} (h1 : ∀ w ∈ L.filter vx_no, w.before args s = true)
    (hU : (Cond.isRef (.static Bundle.tN "UNASSIGNED_STACK" Bundle.steD)).before args s = true) (hN : (Cond.isRef (.static Bundle.tN "SUPPRESSED_SENTINEL" Bundle.listD)).before args s = true)
    (lU : (Cond.laysStatic Bundle.tN "UNASSIGNED_STACK" Bundle.steD).before args s = true) (lN : (Cond.laysStatic Bundle.tN "SUPPRESSED_SENTINEL" Bundle.listD).before args s = true) : ∀ w ∈ L, w.before args s = true := by
  intro w hw
  by_cases e1 : w = .isRef (.static Bundle.tN "UNASSIGNED_STACK" Bundle.steD)
  · rw [e1]; exact hU
  · by_cases e2 : w = .isRef (.static Bundle.tN "SUPPRESSED_SENTINEL" Bundle.listD)
    · rw [e2]; exact hN
    · by_cases e3 : w = .laysStatic Bundle.tN "UNASSIGNED_STACK" Bundle.steD
      · rw [e3]; exact lU
      · by_cases e4 : w = .laysStatic Bundle.tN "SUPPRESSED_SENTINEL" Bundle.listD
        · rw [e4]; exact lN
        · exact h1 w (List.mem_filter.mpr ⟨hw, by unfold vx_no; rw [decide_eq_true e1, decide_eq_true e2, decide_eq_true e3, decide_eq_true e4]; rfl⟩)
/-- where a static field lies, its class's statics cell in H -/
def vx_L (C n d : String) (A : Nat → Prop) (U : State) (H : Heap) : Prop := ∃ (c : ClassId) (k : Class) (i : Nat) (f : Field) (a : Nat) (cell : Cell), U.vm.findClass C = some c ∧ U.fieldFound? C n d = some (c, k, i, f) ∧ f.isStatic = true ∧ k.statics = some a ∧ H[a]? = some cell ∧ cell.vm.isStatics = true ∧ cell.cls = c ∧ f.slot < cell.slots.size ∧ k.staticTypes[f.slot]? = some f.type ∧ ¬ A a
theorem vx_L.moved {C n d : String} {A : Nat → Prop} {u U : State} {H : Heap} (hvm : u.vm.Alike U.vm) (h : vx_L C n d A u H) : vx_L C n d A U H := by
  obtain ⟨c, k, i, f, a, cell, h1, h2, h3, h4, h5, h6, h7, h8, h9, h10⟩ := h
  obtain ⟨k', hi', he⟩ := State.fieldFound?_setVm hvm h2
  exact ⟨c, k', i, f, a, cell, by rw [hvm.findClass]; exact h1, hi', h3, by rw [he]; exact h4, h5, h6, h7, h8, by rw [he]; exact h9, h10⟩
theorem vx_L.kept {C n d : String} {A : Nat → Prop} {U : State} {H H1 : Heap} (h : vx_L C n d A U H) (hq : ∀ a : Nat, a < H.size → ¬ A a → H1[a]? = H[a]?) : vx_L C n d A U H1 := by
  obtain ⟨c, k, i, f, a, cell, h1, h2, h3, h4, h5, h6, h7, h8, h9, h10⟩ := h
  exact ⟨c, k, i, f, a, cell, h1, h2, h3, h4, by rw [hq a (Array.getElem?_eq_some_iff.mp h5).1 h10]; exact h5, h6, h7, h8, h9, h10⟩
theorem vx_L.narrow {C n d : String} {A B : Nat → Prop} {U : State} {H : Heap} (h : vx_L C n d A U H) (hAB : ∀ q, B q → A q) : vx_L C n d B U H := by
  obtain ⟨c, k, i, f, a, cell, h1, h2, h3, h4, h5, h6, h7, h8, h9, h10⟩ := h
  exact ⟨c, k, i, f, a, cell, h1, h2, h3, h4, h5, h6, h7, h8, h9, fun z => h10 (hAB _ z)⟩
theorem vx_L.word {C n d : String} {A : Nat → Prop} {s : State} {args : Array Value} (h : vx_L C n d A s s.heap) : (Cond.laysStatic C n d).before args s = true := by
  obtain ⟨c, k, i, f, a, cell, h1, h2, h3, h4, h5, h6, h7, h8, h9, -⟩ := h
  show (Cond.laysStatic C n d).holds args s none s [] = true
  exact Cond.laysStatic_of h1 h2 h3 h4 h5 h6 h7 h8 h9
/-- .. and what it holds: null or some reference -/
def vx_Zq (C n d : String) (A : Nat → Prop) (U : State) (H : Heap) : Prop := va_Zq C n d A U H ∧ vx_L C n d A U H
theorem vx_Zq.moved {C n d : String} {A : Nat → Prop} {u U : State} {H : Heap} (hvm : u.vm.Alike U.vm) (h : vx_Zq C n d A u H) : vx_Zq C n d A U H := ⟨va_Zq.moved hvm h.1, vx_L.moved hvm h.2⟩
theorem vx_Zq.kept {C n d : String} {A : Nat → Prop} {U : State} {H H1 : Heap} (h : vx_Zq C n d A U H) (hq : ∀ a : Nat, a < H.size → ¬ A a → H1[a]? = H[a]?) : vx_Zq C n d A U H1 := ⟨va_Zq.kept h.1 hq, vx_L.kept h.2 hq⟩
theorem vx_Zq.narrow {C n d : String} {A B : Nat → Prop} {U : State} {H : Heap} (h : vx_Zq C n d A U H) (hAB : ∀ q, B q → A q) : vx_Zq C n d B U H := ⟨va_Zq.narrow h.1 hAB, vx_L.narrow h.2 hAB⟩
theorem vx_Zqof {args : Array Value} {s : State} {C n d : String} {A : Nat → Prop} (hl : (Cond.laysStatic C n d).before args s = true) (hini : (Cond.initialized C).before args s = true) (h : (Cond.isRef (.static C n d)).before args s = true) (hA : ∀ a : Nat, a < s.heap.size → ¬ A a) : vx_Zq C n d A s s.heap := by
  refine ⟨va_Zqof hl hini h hA, ?_⟩
  obtain ⟨c, k, i, f, a, cell, h1, h2, h3, h4, h5, h6, h7, h8, h9⟩ := Cond.laysStatic_spec hl
  exact ⟨c, k, i, f, a, cell, h1, h2, h3, h4, h5, h6, h7, h8, h9, hA a (Array.getElem?_eq_some_iff.mp h5).1⟩
theorem vx_isRef {C n d : String} {v : Value} {A : Nat → Prop} {s : State} {args : Array Value} (h : va_Z C n d v A s s.heap) (hv : v.isRef = true) : (Cond.isRef (.static C n d)).before args s = true := by
  obtain ⟨cf, kf, fi, f, a, cell, h1, h2, h3, h4, h5, h6, h7, -⟩ := h
  have he : (Term.static C n d).eval args s none [] s = some v := by
    simp [Term.eval, State.fieldNamed?, h1, h2, h4, h5, h6, h7]
  simp only [Cond.before, Cond.holds, Cond.value, he]
  cases v <;> simp_all [Value.isRef]
theorem vx_isRefq {C n d : String} {A : Nat → Prop} {s : State} {args : Array Value} (h : va_Zq C n d A s s.heap) : (Cond.isRef (.static C n d)).before args s = true := by
  rcases h with h | ⟨t, h⟩
  · exact vx_isRef h rfl
  · exact vx_isRef h rfl
/-- the same frame, seen from here: as if the method were called anew in this heap -/
theorem vx_rebase {T : State} (X : Stand p l e R s m args below meth c T locs cells slots) {R' : Room} (hf : R'.frames ≤ R.frames) (hl : R'.locals ≤ R.locals) (hc : cells + R'.cells ≤ R.cells) (hs : slots + R'.slots ≤ R.slots) :
    Stand p l e R' ((T.setVm s.vm).setFrames (.invoking m args :: below)) m args below meth c T [] 0 0 := by
  have htop : (T.setVm s.vm).topJava?.isSome := X.here.top
  have hF : ((T.setVm s.vm).setFrames (.invoking m args :: below)).frames = .invoking m args :: below := State.frames_setFrames _ (State.cur_lt_of_top htop)
  obtain ⟨g₀, hg0⟩ := Option.isSome_iff_exists.mp htop
  obtain ⟨r, hr⟩ := State.topJava?_eq_some.mp hg0
  have hl9 : e.platform.stackLimits (T.setVm s.vm).me = e.platform.stackLimits s.me := X.limits
  have hb9 : (T.setVm s.vm).me.stackBytes = s.me.stackBytes := X.bytes
  refine ⟨X.admits, X.cas, X.clock, hF, ?_, X.hears, X.method, X.code, X.here, X.tail, X.warmed, ?_, ?_, ?_⟩
  · have h := X.room
    have hU : ((T.setVm s.vm).setFrames (.invoking m args :: below)).localsInUse = s.localsInUse := by
      rw [State.localsInUse_invoking hF (meth := meth) (c := c) X.method X.code, State.localsInUse_invoking X.frames X.method X.code]
    simp only [State.hasRoom, Bool.and_eq_true, decide_eq_true_eq] at h ⊢
    obtain ⟨⟨⟨⟨h1, h2, h3, h4, h5, h6⟩, h7⟩, h8⟩, h9⟩ := h
    rw [X.frames, List.length_cons] at h2 h3
    have q1 := X.heapSize
    have q2 := X.used
    simp only [hF, hU, List.length_cons, State.stackLimits_setFrames, State.stackBytes_setFrames, hl9, hb9]
    refine ⟨⟨⟨⟨by omega, by omega, by omega, by omega, by omega, h6⟩, ?_⟩, ?_⟩, X.book⟩
    · show T.heap.size + R'.cells ≤ e.platform.maxCells
      omega
    · show T.slotsUsed + R'.slots ≤ e.platform.maxSlots
      omega
  · rw [State.stackLimits_setFrames]; rfl
  · rw [State.stackBytes_setFrames]; rfl
  · refine ⟨?_, Nat.le_refl _, Nat.le_refl _, ?_, ?_, fun a c9 h9 => ⟨c9, h9, rfl, rfl, fun _ _ => rfl⟩⟩
    · obtain ⟨t, ht, -⟩ := State.frames_cons hr
      show T.setVm s.vm = { ((T.setVm s.vm).setFrames (.invoking m args :: below)).setFrames (T.setVm s.vm).frames with heap := T.heap, slotsUsed := T.slotsUsed }
      rw [State.setFrames_setFrames, State.setFrames_self ht]
      rfl
    · show T.slotsUsed = T.slotsUsed + ((T.heap.toList.drop T.heap.size).map (·.slots.size)).sum
      rw [List.drop_eq_nil_of_le (Nat.le_of_eq Array.length_toList)]
      rfl
    · show ((T.heap.toList.drop T.heap.size).map (·.slots.size)).sum ≤ 0
      rw [List.drop_eq_nil_of_le (Nat.le_of_eq Array.length_toList)]
      exact Nat.le_refl _
/-- 'throw new E()': new; dup; invokespecial; athrow -/
theorem vx_throw0 {cc : ByteArray} {pc : Nat} (hexec : p.tables.exec = Jvm.exec) (hb : c.code = cc) (hl : l.stackTraces = false) {own cls : String} {names : List String} {ik ic mc ms : Nat} {A : Nat → Prop}
    (hown : s.vm.findClass own = some m.cls) (hcls : Bundle.fit cls = true) (hnames : ∀ n ∈ names, Bundle.fit n = true)
    (hk : (Cond.classLink own ik cls).before args s = true) (hini : (Cond.initialized cls).before args s = true) (hat : ∀ w ∈ vx_at0 own ic cls names, w.before args s = true)
    (hgood : ∀ w ∈ Cond.classLink own ik cls :: Cond.initialized cls :: vx_at0 own ic cls names, vx_ot w = true)
    (hU : vx_Zq Bundle.tN "UNASSIGNED_STACK" Bundle.steD A s s.heap) (hN : vx_Zq Bundle.tN "SUPPRESSED_SENTINEL" Bundle.listD A s s.heap) (hS : va_S A s.heap H locs) (hsize : ls.size = c.maxLocals)
    (d0 : decode cc pc = .ok (.new ik, 3)) (d3 : decode cc (pc + 3) = .ok (.dup, 1)) (d4 : decode cc (pc + 4) = .ok (.invokespecial ic, 3)) (d7 : decode cc (pc + 7) = .ok (.athrow, 1))
    (hout : ∀ x ∈ c.exceptionTable.toList, covers x (pc + 7) = false)
    (hRframes : names.length + 3 < R.frames) (hRlocals : (rest.map fun v => v.category).sum + (13 * (names.length + 1) + 42) ≤ R.locals) (hRcells : cells + 1 ≤ R.cells) (hRslots : slots + 6 ≤ R.slots) (hlocks : meth.locks = false)
    (hx : ∀ t : State, s.vm.Alike t.vm → H.size ≤ t.heap.size → (∀ q : Nat, q < H.size → t.heap[q]? = H[q]?) → XC cls s t)
    (hf : ∀ z ∈ locs, free z.base) (hc : cells + 1 ≤ mc) (hs : slots + 6 ≤ ms) :
    W p l e R s m args below meth c H locs cells slots (vx_MQ below Qc XC args s mc ms free) (F0 m pc ls rest) := by
  intro T hT X
  have htr : e.platform.stackTraces = false := (show e.platform.stackTraces = l.stackTraces by rw [X.admits.platform]).trans hl
  have Y := vx_rebase X (R' := { frames := R.frames, locals := R.locals, cells := 1, slots := 6 }) (Nat.le_refl _) (Nat.le_refl _) hRcells hRslots
  obtain ⟨s', hA⟩ : ∃ z, z = (T.setVm s.vm).setFrames (.invoking m args :: below) := ⟨_, rfl⟩
  rw [← hA] at Y
  have hvm : s'.vm = s.vm := by rw [hA]; rfl
  have hhp : s'.heap = H := by rw [hA]; exact hT
  have hW0 : s.WarmedH s'.vm := by rw [hvm]; exact State.WarmedH.refl s
  have hat' : ∀ w ∈ vx_at0 own ic cls names, w.before args s' = true := fun w hw => vx_ot_at hW0 hvm.symm (hgood w (List.mem_cons_of_mem _ (List.mem_cons_of_mem _ hw))) (hat w hw)
  have hk' : (Cond.classLink own ik cls).before args s' = true := vx_ot_at hW0 hvm.symm (hgood _ List.mem_cons_self) hk
  have hini' : (Cond.initialized cls).before args s' = true := vx_ot_at hW0 hvm.symm (hgood _ (List.mem_cons_of_mem _ List.mem_cons_self)) hini
  have hU' : vx_Zq Bundle.tN "UNASSIGNED_STACK" Bundle.steD A s' s'.heap := by rw [hhp]; exact vx_Zq.moved hW0.alike (hU.kept hS.2.1)
  have hN' : vx_Zq Bundle.tN "SUPPRESSED_SENTINEL" Bundle.listD A s' s'.heap := by rw [hhp]; exact vx_Zq.moved hW0.alike (hN.kept hS.2.1)
  have h : ∀ w ∈ Bundle.ownAtoms0 own ic cls names, w.before args s' = true := vx_own hat' (vx_isRefq hU'.1) (vx_isRefq hN'.1) hU'.2.word hN'.2.word
  have hown' : s'.vm.findClass own = some m.cls := by rw [hvm]; exact hown
  have hins : (Cond.instantiable cls 6).before args s' = true := h _ (by simp [Bundle.ownAtoms0])
  obtain ⟨vm₁, cX, kX, hfX, hkX, -, -, X₁, st1⟩ := Y.newCold hexec (own := own) (C := cls) (index := ik) (n := 6) hown' hk' hins hini'
    (g := F0 m pc ls rest) rfl (by rw [hb]; exact d0) (Nat.le_refl _) (Nat.le_refl _)
  generalize hT1 : (T.setVm vm₁).pushCell { cls := cX, slots := kX.instanceTypes.map defaultValue, vm := .none } = T1 at X₁ st1
  have hcat : (Value.ref T.heap.size).category = 1 := rfl
  have hcellA : T1.heap[T.heap.size]? = some (freshCell cX kX) := by rw [← hT1]; exact State.heap_pushCell_size _ _
  have d3' : decode c.code (pc + 3) = .ok (.dup, 1) := by rw [hb]; exact d3
  obtain ⟨U, hsteps, hrun, hend, hW, hsame, ce, hce, hO⟩ := X₁.ctorThrow0 hexec htr (own := own) (cls := cls) (names := names) (ic := ic) hown' hcls hnames h (fun x hx => nomatch hx) hfX hkX hcellA (by rw [hhp, hT]; exact Nat.le_refl _)
    (g := { method := m, pc := pc + 4, locals := ls, stack := .ref T.heap.size :: .ref T.heap.size :: rest, locked := none }) rfl hsize rfl rfl (rest := rest) rfl
    (by rw [hb]; exact d4) (by rw [hb]; exact d7) hout hRframes (by simp only [List.map_cons, List.sum_cons, hcat]; omega) hlocks
  obtain ⟨f1, f2⟩ := vx_frame hsame
  rw [hhp] at f1 f2
  have hWs : s.WarmedH U.vm := State.WarmedH.trans hW0 hW
  have hcl : s.vm.findClass cls = some ce.cls := by
    have h9 := hO.cls
    rw [hvm] at h9
    exact h9
  have hall : s.sameButNew ({ U with vm := s.vm } : State) locs mc ms := by
    subst hA
    obtain ⟨e1, e2⟩ := hsame
    rw [State.setFrames_setFrames] at e1
    have h2 : (T.setVm s.vm).sameButNew ({ U with vm := s.vm } : State) [] (0 + 1) (0 + 6) := ⟨e1, e2⟩
    have h3 := X.same.trans h2
    rw [List.append_nil] at h3
    exact h3.mono hc hs
  refine ⟨U, ?_, .threw T.heap.size, hrun, hend, Or.inr ⟨T.heap.size, rfl, cls, ce, locs, hx U hWs.alike f1 (fun q hq => f2 q hq (fun z hz => nomatch hz)), hce, hO.vm, hcl, hWs, hall, hf⟩⟩
  refine st1 _ ?_
  show Steps p.tables e below (T1.setTop { method := m, pc := pc + 3, locals := ls, stack := .ref T.heap.size :: rest, locked := none }) _
  jvm_step X₁.here [X₁.here.top, hexec, d3', Value.category]
  exact hsteps
/-- 'throw new E("text")': new; dup; ldc; invokespecial; athrow -/
theorem vx_throwS {cc : ByteArray} {pc : Nat} (hexec : p.tables.exec = Jvm.exec) (hb : c.code = cc) (hl : l.stackTraces = false) {own cls text : String} {names : List String} {ik is ic mc ms sa : Nat} {A : Nat → Prop}
    (hown : s.vm.findClass own = some m.cls) (hcls : Bundle.fit cls = true) (hnames : ∀ n ∈ names, Bundle.fit n = true)
    (hk : (Cond.classLink own ik cls).before args s = true) (hini : (Cond.initialized cls).before args s = true) (hstr : vk_R own is text sa s) (hat : ∀ w ∈ vx_atS own ic cls names, w.before args s = true)
    (hgood : ∀ w ∈ Cond.classLink own ik cls :: Cond.initialized cls :: vx_atS own ic cls names, vx_ot w = true)
    (hU : vx_Zq Bundle.tN "UNASSIGNED_STACK" Bundle.steD A s s.heap) (hN : vx_Zq Bundle.tN "SUPPRESSED_SENTINEL" Bundle.listD A s s.heap) (hS : va_S A s.heap H locs) (hsize : ls.size = c.maxLocals)
    (d0 : decode cc pc = .ok (.new ik, 3)) (d3 : decode cc (pc + 3) = .ok (.dup, 1)) (d4 : decode cc (pc + 4) = .ok (.ldc is, 2)) (d6 : decode cc (pc + 6) = .ok (.invokespecial ic, 3)) (d9 : decode cc (pc + 9) = .ok (.athrow, 1))
    (hout : ∀ x ∈ c.exceptionTable.toList, covers x (pc + 9) = false)
    (hRframes : names.length + 3 < R.frames) (hRlocals : (rest.map fun v => v.category).sum + (13 * (names.length + 1) + 43) ≤ R.locals) (hRcells : cells + 1 ≤ R.cells) (hRslots : slots + 6 ≤ R.slots) (hlocks : meth.locks = false)
    (hx : ∀ t : State, s.vm.Alike t.vm → H.size ≤ t.heap.size → (∀ q : Nat, q < H.size → t.heap[q]? = H[q]?) → XC cls s t)
    (hf : ∀ z ∈ locs, free z.base) (hc : cells + 1 ≤ mc) (hs : slots + 6 ≤ ms) :
    W p l e R s m args below meth c H locs cells slots (vx_MQ below Qc XC args s mc ms free) (F0 m pc ls rest) := by
  intro T hT X
  have htr : e.platform.stackTraces = false := (show e.platform.stackTraces = l.stackTraces by rw [X.admits.platform]).trans hl
  have Y := vx_rebase X (R' := { frames := R.frames, locals := R.locals, cells := 1, slots := 6 }) (Nat.le_refl _) (Nat.le_refl _) hRcells hRslots
  obtain ⟨s', hA⟩ : ∃ z, z = (T.setVm s.vm).setFrames (.invoking m args :: below) := ⟨_, rfl⟩
  rw [← hA] at Y
  have hvm : s'.vm = s.vm := by rw [hA]; rfl
  have hhp : s'.heap = H := by rw [hA]; exact hT
  have hW0 : s.WarmedH s'.vm := by rw [hvm]; exact State.WarmedH.refl s
  have hat' : ∀ w ∈ vx_atS own ic cls names, w.before args s' = true := fun w hw => vx_ot_at hW0 hvm.symm (hgood w (List.mem_cons_of_mem _ (List.mem_cons_of_mem _ hw))) (hat w hw)
  have hk' : (Cond.classLink own ik cls).before args s' = true := vx_ot_at hW0 hvm.symm (hgood _ List.mem_cons_self) hk
  have hini' : (Cond.initialized cls).before args s' = true := vx_ot_at hW0 hvm.symm (hgood _ (List.mem_cons_of_mem _ List.mem_cons_self)) hini
  have hU' : vx_Zq Bundle.tN "UNASSIGNED_STACK" Bundle.steD A s' s'.heap := by rw [hhp]; exact vx_Zq.moved hW0.alike (hU.kept hS.2.1)
  have hN' : vx_Zq Bundle.tN "SUPPRESSED_SENTINEL" Bundle.listD A s' s'.heap := by rw [hhp]; exact vx_Zq.moved hW0.alike (hN.kept hS.2.1)
  have h : ∀ w ∈ Bundle.ownAtoms own ic cls names, w.before args s' = true := vx_own hat' (vx_isRefq hU'.1) (vx_isRefq hN'.1) hU'.2.word hN'.2.word
  have hown' : s'.vm.findClass own = some m.cls := by rw [hvm]; exact hown
  have hins : (Cond.instantiable cls 6).before args s' = true := h _ (by simp [Bundle.ownAtoms])
  obtain ⟨vm₁, cX, kX, hfX, hkX, -, -, X₁, st1⟩ := Y.newCold hexec (own := own) (C := cls) (index := ik) (n := 6) hown' hk' hins hini'
    (g := F0 m pc ls rest) rfl (by rw [hb]; exact d0) (Nat.le_refl _) (Nat.le_refl _)
  generalize hT1 : (T.setVm vm₁).pushCell { cls := cX, slots := kX.instanceTypes.map defaultValue, vm := .none } = T1 at X₁ st1
  have hcat : (Value.ref T.heap.size).category = 1 := rfl
  have hcellA : T1.heap[T.heap.size]? = some (freshCell cX kX) := by rw [← hT1]; exact State.heap_pushCell_size _ _
  have d3' : decode c.code (pc + 3) = .ok (.dup, 1) := by rw [hb]; exact d3
  have d4' : decode c.code (pc + 4) = .ok (.ldc is, 2) := by rw [hb]; exact d4
  have hstr' : vk_R own is text sa s' := vk_R.warm hW0 hstr
  obtain ⟨U, hsteps, hrun, hend, hW, hsame, ce, hce, hO⟩ := X₁.ctorThrowS hexec htr (own := own) (cls := cls) (names := names) (ic := ic) hown' hcls hnames h (fun x hx => nomatch hx) hfX hkX hcellA (by rw [hhp, hT]; exact Nat.le_refl _) (msg := .ref sa) rfl
    (g := { method := m, pc := pc + 6, locals := ls, stack := .ref sa :: .ref T.heap.size :: .ref T.heap.size :: rest, locked := none }) rfl hsize rfl rfl (rest := rest) rfl
    (by rw [hb]; exact d6) (by rw [hb]; exact d9) hout hRframes (by simp only [List.map_cons, List.sum_cons, hcat]; omega) hlocks
  obtain ⟨f1, f2⟩ := vx_frame hsame
  rw [hhp] at f1 f2
  have hWs : s.WarmedH U.vm := State.WarmedH.trans hW0 hW
  have hcl : s.vm.findClass cls = some ce.cls := by
    have h9 := hO.cls
    rw [hvm] at h9
    exact h9
  have hall : s.sameButNew ({ U with vm := s.vm } : State) locs mc ms := by
    subst hA
    obtain ⟨e1, e2⟩ := hsame
    rw [State.setFrames_setFrames] at e1
    have h2 : (T.setVm s.vm).sameButNew ({ U with vm := s.vm } : State) [] (0 + 1) (0 + 6) := ⟨e1, e2⟩
    have h3 := X.same.trans h2
    rw [List.append_nil] at h3
    exact h3.mono hc hs
  refine ⟨U, ?_, .threw T.heap.size, hrun, hend, Or.inr ⟨T.heap.size, rfl, cls, ce, locs, hx U hWs.alike f1 (fun q hq => f2 q hq (fun z hz => nomatch hz)), hce, hO.vm, hcl, hWs, hall, hf⟩⟩
  refine st1 _ ?_
  show Steps p.tables e below (T1.setTop { method := m, pc := pc + 3, locals := ls, stack := .ref T.heap.size :: rest, locked := none }) _
  jvm_step X₁.here [X₁.here.top, hexec, d3', Value.category]
  exact X₁.ldcString hexec (own := own) (text := text) (index := is) (a := sa) hown' hstr'.1 hstr'.2
    (g := { method := m, pc := pc + 4, locals := ls, stack := .ref T.heap.size :: .ref T.heap.size :: rest, locked := none }) rfl d4' _ hsteps
end Ends
section Bodies
variable {l : Launch}
theorem vx_ofW {y : MethodName} {ws ws' : List Cond} {rm : Room} {Pc : Array Value → State → Prop} {Qc : Array Value → State → Outcome → State → Prop} {XC : String → State → State → Prop} {mc ms : Nat} {free : Addr → Prop} {cc : ByteArray} {maxL : Nat} {ret : Option FieldType}
    (hy : plainName y.cls = true) (hw : ws = Cond.code y cc maxL ret :: ws')
    (body : ∀ p e s m args below meth c s₁, BodyLoose p l y (headSpec ws rm) cc maxL ret e s m args below meth c s₁ → c.maxLocals = maxL → (∀ x ∈ c.exceptionTable.toList, False) → Pc args s →
      W p l e (headSpec ws rm).room s m args below meth c s.heap [] 0 0 (vx_MQ below Qc XC args s mc ms free) (entryFrame m args maxL)) : vx_Met l y ws rm Pc Qc XC mc ms free := by
  refine MetFree.of_bodyS (code := cc) (maxLocals := maxL) (ret := ret) hy ?_ ?_
  · intro args s m h hn
    obtain ⟨meth, c, h1, h2, h3, h4, h5, h6, -, -⟩ := Cond.code_spec hn (atoms_spec (ws := ws) h _ (by rw [hw]; exact List.mem_cons_self))
    exact ⟨meth, c, h1, h2, h3, h4, h5, h6⟩
  · intro p e s m args below meth c s₁ B hml hP _
    have hh0 : s₁.heap = s.heap := by rw [B.state]; rfl
    have ht : ∀ x ∈ c.exceptionTable.toList, False := by
      obtain ⟨meth9, c9, h1, h2, -, -, -, -, h7, -⟩ := Cond.code_spec B.named (atoms_spec (ws := ws) B.pre _ (by rw [hw]; exact List.mem_cons_self))
      cases Option.some.inj (h1.symm.trans B.method)
      cases Option.some.inj (h2.symm.trans (Stand.of_body B).code)
      intro x hx
      rw [Array.isEmpty_iff.mp h7] at hx
      cases hx
    obtain ⟨t, a1, o, b1, b2, b3⟩ := body p e s m args below meth c s₁ B hml ht hP s₁ hh0 (Stand.of_body B)
    exact ⟨t, o, a1, b1, b2, b3⟩
/-- the table of a body with handlers -/
theorem vx_table {p : Program} {x y : MethodName} {S : Spec} {cc bytes : ByteArray} {maxL maxL' : Nat} {ret ret' : Option FieldType} {e : Env} {s s₁ : State} {m : MethodId} {args : Array Value} {below : List Frame} {meth : Method} {c : Code} {hh : List (Nat × Nat × Nat × Nat)}
    (B : BodyLoose p l y S cc maxL ret e s m args below meth c s₁) (h : (Cond.codeWith y bytes maxL' ret' hh).before args s = true) : c.exceptionTable.toList = tableOf hh := by
  obtain ⟨m9, meth9, c9, hn9, h1, h2, -, -, h6, -⟩ := Cond.codeWith_spec h
  cases Option.some.inj (hn9.symm.trans B.named)
  cases Option.some.inj (h1.symm.trans B.method)
  cases Option.some.inj (h2.symm.trans (Stand.of_body B).code)
  rw [← h6, table_eq]
end Bodies
end VXA
/-! ===== END ===== -/
/-! ===== BEGIN a static call of a method with an exception table ===== -/
section VXS
variable {p : Program} {l : Launch} {e : Env} {R : Room} {s : State} {m : MethodId} {args : Array Value} {below : List Frame} {meth : Method} {c : Code} {T : State} {H : Heap} {locs : List Loc} {cells slots : Nat}
abbrev vx_CSW (R : Room) (s : State) (args : Array Value) (own : String) (index : Nat) (y : MethodName) (bytes : ByteArray) (maxL : Nat) (ret : Option FieldType) (hh : List (Nat × Nat × Nat × Nat)) (ws : List Cond) (rm : Room) (mc ms n : Nat) : Prop :=
  (rm.cells = mc ∧ rm.slots = ms ∧ rm.frames + 1 ≤ R.frames ∧ 8 + (maxL + 11) + rm.locals ≤ R.locals ∧ (∀ w ∈ ws, ∀ (a' : Array Value) (U : State), s.WarmedH U.vm → w.before a' U = true) ∧ Cond.codeWith y bytes maxL ret hh ∈ ws) ∧
  (Cond.codeWith y bytes maxL ret hh).before args s = true ∧ (Cond.initialized y.cls).before args s = true ∧ (y.cls ≠ "java/lang/invoke/MethodHandle" ∧ y.cls ≠ "java/lang/invoke/VarHandle") ∧
  (∀ sig, parseMethodDescriptor y.desc = some sig → n = sig.parameters.length) ∧ (Cond.methodLink own index y).before args s = true ∧ (Cond.static y).before args s = true
theorem vx_cwSW {own : String} {index maxL mc ms : Nat} {y : MethodName} {bytes : ByteArray} {ret : Option FieldType} {hh : List (Nat × Nat × Nat × Nat)} {Ts ws ws' : List Cond} {rm : Room} (n : Nat) (ht : ∀ w ∈ Ts, w.before args s = true) (hT : GoodIn Ts (va_wsS own index y ws)) (hw : ws = Cond.codeWith y bytes maxL ret hh :: ws') (hrc : rm.cells = mc) (hrs : rm.slots = ms)
    (hd : y.cls ≠ "java/lang/invoke/MethodHandle" ∧ y.cls ≠ "java/lang/invoke/VarHandle" ∧ (parseMethodDescriptor y.desc).map (fun d => d.parameters.length) = some n) (hR : rm.frames + 1 ≤ R.frames ∧ 8 + (maxL + 11) + rm.locals ≤ R.locals) :
    vx_CSW R s args own index y bytes maxL ret hh ws rm mc ms n := by
  have ok : ∀ w ∈ va_wsS own index y ws, w.before args s = true := fun w h => ht w (hT w h).1
  have hG : GoodIn Ts ws := fun w h => hT w (by unfold va_wsS; exact List.mem_append_right _ h)
  have hc : Cond.codeWith y bytes maxL ret hh ∈ ws := by rw [hw]; exact List.mem_cons_self
  refine ⟨⟨hrc, hrs, hR.1, hR.2, pay_in ht hG, hc⟩, ht _ (hG _ hc).1, ok _ (by simp [va_wsS]), ⟨hd.1, hd.2.1⟩, fun sig h => ?_, ok _ (by simp [va_wsS]), ok _ (by simp [va_wsS])⟩
  have h2 := hd.2.2
  rw [h] at h2
  exact (Option.some.inj h2).symm
theorem vx_callSW (X : Stand p l e R s m args below meth c T locs cells slots) (hexec : p.tables.exec = Jvm.exec) {own : String} {index : Nat} {y : MethodName} {bytes : ByteArray} {maxL : Nat} {ret : Option FieldType} {hh : List (Nat × Nat × Nat × Nat)}
    (hown : s.vm.findClass own = some m.cls) (hlink : (Cond.methodLink own index y).before args s = true) (hstat : (Cond.static y).before args s = true) (hinit : (Cond.initialized y.cls).before args s = true)
    (hcode : (Cond.codeWith y bytes maxL ret hh).before args s = true) (hy : y.cls ≠ "java/lang/invoke/MethodHandle" ∧ y.cls ≠ "java/lang/invoke/VarHandle")
    {W9 : Nat} {Pre : Pt → Array Value → Prop} {Post : Pt → Array Value → Option Value → Pt → Prop} (hK : Back l R p e below s args y 3 W9 Pre Post)
    {g : JFrame} (hg : g.method = m) (hsize : g.locals.size = c.maxLocals) {argsL rest : List Value} (hlen : ∀ sig, parseMethodDescriptor y.desc = some sig → argsL.length = sig.parameters.length)
    (hstack : g.stack = argsL.reverse ++ rest) (hW : 2 * g.monitorRoom + (rest.map fun v => v.category).sum ≤ W9) (hdg : decode c.code g.pc = .ok (.invokestatic index, 3))
    (hpre : ∀ vm₁, s.WarmedH vm₁ → Pre ⟨T.setVm vm₁, locs, cells, slots⟩ argsL.toArray) :
    ∃ (v : Option Value) (vm₁ : Vm) (B : Pt), s.WarmedH vm₁ ∧ Stand p l e R s m args below meth c B.U B.locs B.cells B.slots ∧ Post ⟨T.setVm vm₁, locs, cells, slots⟩ argsL.toArray v B ∧
      ∀ target, Steps p.tables e below (B.U.setTop { g with pc := g.pc + 3, stack := v.toList ++ rest }) target → Steps p.tables e below (T.setTop g) target := by
  obtain ⟨mk, methM, cM, hnamed, hmethM, -, -, -, -, -, -, hsigM⟩ := Cond.codeWith_spec hcode
  have hstatic : methM.isStatic = true := Cond.static_spec hnamed hmethM hstat
  obtain ⟨kP, hkP, -⟩ := className_of_methodNamed hnamed
  have hinitP : kP.init = .initialized := Cond.initialized_spec (findClass_of_methodNamed hnamed) hkP hinit
  obtain ⟨vm₁, X₁, hstep₁⟩ := X.invokestatic hexec hown hlink hnamed hmethM hstatic hkP hinitP hy (g := g) hg (argsL := argsL) (rest := rest) (hlen _ hsigM) hstack hdg
  obtain ⟨v, B, X', hpost, hsteps⟩ := hK m meth c ⟨T.setVm vm₁, locs, cells, slots⟩ { g with stack := rest } (.invokestatic index) mk argsL.toArray X₁ hg hsize hdg hW (X₁.named hnamed) (hpre vm₁ X₁.warmed)
  exact ⟨v, vm₁, B, X₁.warmed, X', hpost, fun target h => hstep₁ _ fun acts => by rw [doInvoke_state]; exact hsteps.trans h⟩
/-- not caught here, past rows that name other classes: it goes on to the caller -/
theorem vx_outP {p : Program} {l : Launch} {e : Env} {R : Room} {s : State} {m : MethodId} {args : Array Value} {below : List Frame} {meth : Method} {c : Code} {H : Heap} {locs : List Loc} {cells slots : Nat} {free : Addr → Prop} {ls : Array Slot} {rest : List Value} {Qc : Array Value → State → Outcome → State → Prop} {XC : String → State → State → Prop}
    {pc : Nat} {own E : String} {ce : Cell} {q : Addr} {mc ms : Nat} (hown : s.vm.findClass own = some m.cls) (hlocks : meth.locks = false)
    (hpass : ∀ z ∈ c.exceptionTable.toList, covers z pc = false ∨ (z.catchType ≠ 0 ∧ ∃ nm : String, (Cond.classLink own z.catchType nm).before args s = true ∧ va_Nc E nm s)) (hcell : H[q]? = some ce) (hv : ce.vm = .none) (hcl : s.vm.findClass E = some ce.cls)
    (hx : ∀ t : State, t.heap = H → s.vm.Alike t.vm → XC E s t) (hf : ∀ z ∈ locs, free z.base) (hc : cells ≤ mc) (hs : slots ≤ ms) :
    vx_W p l e R s m args below meth c H locs cells slots (vx_MQ below Qc XC args s mc ms free) (F0 m pc ls rest) q := by
  intro T hT X
  have hpl : e.platform.magicAccessors = ({} : Platform).magicAccessors := by rw [X.admits.platform]
  obtain ⟨vm', hW', X', st⟩ := X.outThrough hlocks q (g := F0 m pc ls rest) rfl rfl rfl (cell := ce) (by rw [hT]; exact hcell) (by rw [hv]; rfl)
    (by obtain ⟨k9, h9, -⟩ := Vm.findClass_spec hcl; exact ⟨k9, h9⟩) (fun z hz => by
      rcases hpass z hz with h | ⟨hz0, nm, hl1, hn1⟩
      · exact Or.inl h
      · obtain ⟨c6, hc6, hcl6⟩ := Cond.classLink_spec hown hl1 e.platform hpl
        obtain ⟨a8, b8, h1, h2, h3⟩ := hn1
        cases Option.some.inj (h1.symm.trans hcl)
        cases Option.some.inj (h2.symm.trans hc6)
        exact Or.inr ⟨hz0, _, hcl6, h3⟩)
  obtain ⟨g₀, hfr⟩ := X'.frames_eq
  have hcell9 : ((T.setVm vm').setFrames (.throwing q :: below)).heap[q]? = some ce := by
    show T.heap[q]? = some ce
    rw [hT]; exact hcell
  have hend : Ended ((T.setVm vm').setFrames (.throwing q :: below)) below (.threw q) := State.frames_setFrames _ (State.cur_lt_of_frames hfr)
  refine ⟨(T.setVm vm').setFrames (.throwing q :: below), ?_, .threw q, X'.here.running, hend, Or.inr ⟨q, rfl, E, ce, locs, hx _ hT (X'.ends _).1.alike, hcell9, hv, hcl, (X'.ends _).1, (X'.ends _).2.mono hc hs, hf⟩⟩
  rw [X.pushThrowing_eq]
  exact st
/-- a thing of a world lies in the heap -/
theorem vx_lt {D : va_G} {cl : List vw_C} {ws : va_W} {H1 : Heap} (h : va_P D cl ws H1) {k : Nat} {q : Nat × va_E} (hk : ws[k]? = some q) : q.1 < H1.size := (h k q hk).lt
end VXS
/-! ===== END ===== -/
/-! ===== BEGIN methods with a table of their own: called by a name, returning or throwing ===== -/
section VXH
/-! vx_backW, vx_callVX, vx_callSX, vx_callVW, vx_runVW, vx_runVX, vx_runSX, vx_ofWH follow the same proofs as their sisters above (Free/Laws.lean, Shelf42/LK1.lean); vx_outP calls Shelf42/NT130.lean (outThrough). -/
section
variable {l : Launch} {R : Room} {p : Program} {e : Env} {below : List Frame} {s : State} {sargs : Array Value} {y : MethodName} {len W9 : Nat}
theorem vx_backW {ws : List Cond} {rm : Room} {Pc : Array Value → State → Prop} {Qc : Array Value → State → Outcome → State → Prop} {XC : String → State → State → Prop} {mc ms : Nat} {free : Addr → Prop} {bytes : ByteArray} {maxL : Nat} {ret : Option FieldType} {hh : List (Nat × Nat × Nat × Nat)}
    (hM : vx_Met l y ws rm Pc Qc XC mc ms free) (hblind : FrameBlind Pc) (hrc : rm.cells = mc) (hrs : rm.slots = ms)
    (hframes : rm.frames + 1 ≤ R.frames) (hlocals : W9 + (maxL + 11) + rm.locals ≤ R.locals)
    (hws : ∀ w ∈ ws, ∀ a' U, s.WarmedH U.vm → w.before a' U = true) (hcode : Cond.codeWith y bytes maxL ret hh ∈ ws) (hinit : ∀ a' U, s.WarmedH U.vm → (Cond.initialized y.cls).before a' U = true) :
    vx_Back l R p e below s sargs y len W9 (PreOf R mc ms Pc) (PostOf Qc mc ms free) (vx_Post XC mc ms free) := by
  intro m meth c A g ig mk a X hg hsize hdg hW hn hp
  have h1 : (headSpec ws rm).pre.before a A.U = true := atoms_intro fun w hw => hws w hw _ _ X.warmed
  have h2 : (Cond.codeWith y bytes maxL ret hh).before a A.U = true := hws _ hcode _ _ X.warmed
  have h3 : (Cond.initialized y.cls).before a A.U = true := hinit _ _ X.warmed
  have h4 : A.cells + (headSpec ws rm).room.cells ≤ R.cells := by rw [show (headSpec ws rm).room.cells = mc from hrc]; exact hp.1
  have h5 : A.slots + (headSpec ws rm).room.slots ≤ R.slots := by rw [show (headSpec ws rm).room.slots = ms from hrs]; exact hp.2.1
  have hPc : Pc a (A.U.calling g mk a) := hblind _ _ _ _ hp.2.2
  obtain ⟨U, Ls, c0, s0⟩ := A
  dsimp only [Pt.U, Pt.locs, Pt.cells, Pt.slots] at h1 h2 h3 h4 h5 X hn hPc ⊢
  obtain ⟨m9, methY, cY, hn9, hmY, hcY, -, hlY, -⟩ := Cond.codeWith_spec h2
  cases Option.some.inj (hn9.symm.trans hn)
  obtain ⟨kY, hkY, -⟩ := className_of_methodNamed hn
  have hinitY : kY.init = .initialized := Cond.initialized_spec (findClass_of_methodNamed hn) hkY h3
  have h : At U g.method c below := by rw [hg]; exact X.here
  have hlocals9 : W9 + (maxL + 11) + (headSpec ws rm).room.locals ≤ R.locals := hlocals
  have happ : (headSpec ws rm).appliesLoose y e.platform (U.calling g mk a) = true :=
    Spec.appliesLoose_calling (g := g) h hdg hn hkY hinitY
      (X.room_calling (g := g) (R' := (headSpec ws rm).room) hsize hmY hcY hframes (by rw [hlY]; omega) h4 h5) h1
  obtain ⟨mid, hmid⟩ := h.above
  have hfr : (U.setTop g).frames = (.java g :: mid) ++ below := by rw [State.frames_setTop' g h.top, hmid]; rfl
  obtain ⟨o, s₂, hsteps, -, hend, hq⟩ := Steps.callFree hM p X.admits X.cas X.clock (acts := []) hfr happ hPc trivial
  have hq' : vx_Q Qc XC mc ms free a (U.calling g mk a) o s₂ := hq
  rw [State.frames_setTop' g h.top] at hend
  obtain ⟨g₀, hg0⟩ := Option.isSome_iff_exists.mp h.top
  obtain ⟨r, hr⟩ := State.topJava?_eq_some.mp hg0
  have hr' : (({ U with heap := s₂.heap, slotsUsed := s₂.slotsUsed } : State).setVm s₂.vm).frames = .java g₀ :: r := hr
  rcases hq' with ⟨hqc, L, hfe, hL⟩ | ⟨q, rfl, E, ce, L, hx, hce, hcv, hcl, hW₂, hsm, hL⟩
  · obtain ⟨⟨v, rfl⟩, hW₂, e2, q2, q3, q4, q5, q6⟩ := id hfe
    have e3 : s₂ = ({ (U.calling g mk a).setFrames s₂.frames with heap := s₂.heap, slotsUsed := s₂.slotsUsed } : State).setVm s₂.vm := by
      have : s₂ = ({ s₂ with vm := (U.calling g mk a).vm } : State).setVm s₂.vm := rfl
      rw [e2] at this
      exact this
    obtain ⟨c₂, i₂, len₂, hc₂, hd₂, hf₂⟩ := hend
    have hW' : U.WarmedH s₂.vm := hW₂
    have hcc : c₂ = c := by
      have h1 : s₂.code? g.method = U.code? g.method := by
        rw [State.code?_eq, State.code?_eq, hW'.alike.method?]
      exact Option.some.inj (hc₂.symm.trans (h1.trans h.code))
    subst hcc
    have hlen : len₂ = len := by rw [hdg] at hd₂; cases hd₂; rfl
    subst hlen
    have hs₂ : s₂ = (({ U with heap := s₂.heap, slotsUsed := s₂.slotsUsed } : State).setVm s₂.vm).setTop { g with pc := g.pc + len₂, stack := v.toList ++ g.stack } := by
      refine e3.trans ?_
      rw [hf₂, State.calling_eq h.top, State.setFrames_setFrames, State.setTop_of_frames _ hr', hr]
      rfl
    have hsame : U.sameButNew ({ U with heap := s₂.heap, slotsUsed := s₂.slotsUsed } : State) L mc ms := by
      refine ⟨?_, q2, q3, q4, q5, q6⟩
      obtain ⟨t, ht, -⟩ := State.frames_cons hr
      show ({ U with heap := s₂.heap, slotsUsed := s₂.slotsUsed } : State) = { U.setFrames U.frames with heap := s₂.heap, slotsUsed := s₂.slotsUsed }
      rw [State.setFrames_self ht]
    subst hg
    refine Or.inl ⟨v, ⟨(({ U with heap := s₂.heap, slotsUsed := s₂.slotsUsed } : State).setVm s₂.vm), Ls ++ L, c0 + mc, s0 + ms⟩,
      ⟨X.admits, X.cas, X.clock, X.frames, X.room, X.hears, X.method, X.code, (X.here.setHeapUsed s₂.heap s₂.slotsUsed).setVm hW'.alike, X.tail, State.WarmedH.trans X.warmed hW', X.limits, X.bytes, X.same.trans (hsame.setVm s.vm)⟩,
      ⟨g, mk, s₂, L, rfl, rfl, hqc, rfl, hL, rfl, rfl⟩, ?_⟩
    show Steps p.tables e below _ ((({ U with heap := s₂.heap, slotsUsed := s₂.slotsUsed } : State).setVm s₂.vm).setTop { g with pc := g.pc + len₂, stack := v.toList ++ g.stack })
    rw [← hs₂]
    exact hsteps
  · obtain ⟨e2, q2, q3, q4, q5, q6⟩ := id hsm
    have e3 : s₂ = ({ (U.calling g mk a).setFrames s₂.frames with heap := s₂.heap, slotsUsed := s₂.slotsUsed } : State).setVm s₂.vm := by
      have : s₂ = ({ s₂ with vm := (U.calling g mk a).vm } : State).setVm s₂.vm := rfl
      rw [e2] at this
      exact this
    have hf₂ : s₂.frames = .throwing q :: .java g :: U.frames.tail := hend
    have hW' : U.WarmedH s₂.vm := hW₂
    have hs₂ : s₂ = ((({ U with heap := s₂.heap, slotsUsed := s₂.slotsUsed } : State).setVm s₂.vm).setTop g).pushFrame (.throwing q) := by
      refine e3.trans ?_
      rw [hf₂, State.calling_eq h.top, State.setFrames_setFrames, State.pushFrame, State.frames_setTop _ hr', State.setTop_of_frames _ hr', State.setFrames_setFrames, hr]
      rfl
    have hsame : U.sameButNew ({ U with heap := s₂.heap, slotsUsed := s₂.slotsUsed } : State) L mc ms := by
      refine ⟨?_, q2, q3, q4, q5, q6⟩
      obtain ⟨t, ht, -⟩ := State.frames_cons hr
      show ({ U with heap := s₂.heap, slotsUsed := s₂.slotsUsed } : State) = { U.setFrames U.frames with heap := s₂.heap, slotsUsed := s₂.slotsUsed }
      rw [State.setFrames_self ht]
    subst hg
    refine Or.inr ⟨q, ⟨(({ U with heap := s₂.heap, slotsUsed := s₂.slotsUsed } : State).setVm s₂.vm), Ls ++ L, c0 + mc, s0 + ms⟩,
      ⟨X.admits, X.cas, X.clock, X.frames, X.room, X.hears, X.method, X.code, (X.here.setHeapUsed s₂.heap s₂.slotsUsed).setVm hW'.alike, X.tail, State.WarmedH.trans X.warmed hW', X.limits, X.bytes, X.same.trans (hsame.setVm s.vm)⟩,
      ⟨g, mk, s₂, L, E, ce, rfl, rfl, hx, hce, hcv, hcl, rfl, hL, rfl, rfl⟩, ?_⟩
    show Steps p.tables e below _ (((({ U with heap := s₂.heap, slotsUsed := s₂.slotsUsed } : State).setVm s₂.vm).setTop g).pushFrame (.throwing q))
    rw [← hs₂]
    exact hsteps
end
variable {p : Program} {l : Launch} {e : Env} {R : Room} {s : State} {m : MethodId} {args : Array Value} {below : List Frame} {meth : Method} {c : Code} {T : State} {H : Heap} {locs : List Loc} {cells slots : Nat}
theorem vx_callVX (X : Stand p l e R s m args below meth c T locs cells slots) (hexec : p.tables.exec = Jvm.exec) {own C : String} {index : Nat} {y : MethodName} {bytes : ByteArray} {maxL : Nat} {ret : Option FieldType} {hh : List (Nat × Nat × Nat × Nat)}
    (hown : s.vm.findClass own = some m.cls) (hlink : (Cond.methodLink own index y).before args s = true) (hinst : (Cond.instanceMethod y).before args s = true) (hsel : (Cond.selects C y y).before args s = true)
    (hcode : (Cond.codeWith y bytes maxL ret hh).before args s = true) (hy : y.cls ≠ "java/lang/invoke/MethodHandle" ∧ y.cls ≠ "java/lang/invoke/VarHandle")
    {W9 : Nat} {Pre : Pt → Array Value → Prop} {Post : Pt → Array Value → Option Value → Pt → Prop} {PostX : Pt → Array Value → Addr → Pt → Prop} (hK : vx_Back l R p e below s args y 3 W9 Pre Post PostX)
    {b : Addr} {cellB : Cell} (hcell : T.heap[b]? = some cellB) (hobj : cellB.vm.isStatics = false) (hcls : s.vm.findClass C = some cellB.cls)
    {g : JFrame} (hg : g.method = m) (hsize : g.locals.size = c.maxLocals) {argsL rest : List Value} (hlen : ∀ sig, parseMethodDescriptor y.desc = some sig → argsL.length = sig.parameters.length)
    (hstack : g.stack = argsL.reverse ++ .ref b :: rest) (hW : 2 * g.monitorRoom + (rest.map fun v => v.category).sum ≤ W9) (hdg : decode c.code g.pc = .ok (.invokevirtual index, 3))
    (hpre : ∀ vm₁, s.WarmedH vm₁ → Pre ⟨T.setVm vm₁, locs, cells, slots⟩ (Value.ref b :: argsL).toArray) :
    (∃ (v : Option Value) (vm₁ : Vm) (B : Pt), s.WarmedH vm₁ ∧ Stand p l e R s m args below meth c B.U B.locs B.cells B.slots ∧ Post ⟨T.setVm vm₁, locs, cells, slots⟩ (Value.ref b :: argsL).toArray v B ∧
      ∀ target, Steps p.tables e below (B.U.setTop { g with pc := g.pc + 3, stack := v.toList ++ rest }) target → Steps p.tables e below (T.setTop g) target) ∨
    (∃ (q : Addr) (vm₁ : Vm) (B : Pt), s.WarmedH vm₁ ∧ Stand p l e R s m args below meth c B.U B.locs B.cells B.slots ∧ PostX ⟨T.setVm vm₁, locs, cells, slots⟩ (Value.ref b :: argsL).toArray q B ∧
      Steps p.tables e below (T.setTop g) ((B.U.setTop { g with stack := rest }).pushFrame (.throwing q))) := by
  obtain ⟨mk, methM, hnamed, hmethM, hstM, habM⟩ := Cond.instanceMethod_spec hinst
  obtain ⟨m8, methM', cM, hn8, hmethM', -, -, -, -, -, -, hsigM⟩ := Cond.codeWith_spec hcode
  cases Option.some.inj (hn8.symm.trans hnamed)
  cases hmethM.symm.trans hmethM'
  obtain ⟨c2, r2, m2, q1, q2, q3, q4, kP, hkP, hkPi⟩ := Cond.selects_spec hsel
  cases hcls.symm.trans q1
  cases (State.methodFound?_of_named hnamed hy).symm.trans q2
  cases hnamed.symm.trans q3
  have hselP : selectMethod e.platform s.vm cellB.cls mk = .method mk := by rw [Launch.admits_selectMethod X.admits]; exact q4
  obtain ⟨vm₁, X₁, hstep₁⟩ := X.invokevirtual hexec hown hlink hnamed hmethM hstM hkP hkPi hy (a := b) (cell := cellB) hcell
    (fun z h => by rw [h] at hobj; cases hobj) hselP hmethM habM hkP hkPi (g := g) hg (argsL := argsL) (rest := rest) (hlen _ hsigM) hstack hdg
  rcases hK m meth c ⟨T.setVm vm₁, locs, cells, slots⟩ { g with stack := rest } (.invokevirtual index) mk (Value.ref b :: argsL).toArray X₁ hg hsize hdg hW (X₁.named hnamed) (hpre vm₁ X₁.warmed) with ⟨v, B, X', hpost, hsteps⟩ | ⟨q, B, X', hpost, hsteps⟩
  · exact Or.inl ⟨v, vm₁, B, X₁.warmed, X', hpost, fun target h => hstep₁ _ fun acts => by rw [doInvoke_state]; exact hsteps.trans h⟩
  · exact Or.inr ⟨q, vm₁, B, X₁.warmed, X', hpost, hstep₁ _ fun acts => by rw [doInvoke_state]; exact hsteps⟩
theorem vx_callSX (X : Stand p l e R s m args below meth c T locs cells slots) (hexec : p.tables.exec = Jvm.exec) {own : String} {index : Nat} {y : MethodName} {bytes : ByteArray} {maxL : Nat} {ret : Option FieldType} {hh : List (Nat × Nat × Nat × Nat)}
    (hown : s.vm.findClass own = some m.cls) (hlink : (Cond.methodLink own index y).before args s = true) (hstat : (Cond.static y).before args s = true) (hinit : (Cond.initialized y.cls).before args s = true)
    (hcode : (Cond.codeWith y bytes maxL ret hh).before args s = true) (hy : y.cls ≠ "java/lang/invoke/MethodHandle" ∧ y.cls ≠ "java/lang/invoke/VarHandle")
    {W9 : Nat} {Pre : Pt → Array Value → Prop} {Post : Pt → Array Value → Option Value → Pt → Prop} {PostX : Pt → Array Value → Addr → Pt → Prop} (hK : vx_Back l R p e below s args y 3 W9 Pre Post PostX)
    {g : JFrame} (hg : g.method = m) (hsize : g.locals.size = c.maxLocals) {argsL rest : List Value} (hlen : ∀ sig, parseMethodDescriptor y.desc = some sig → argsL.length = sig.parameters.length)
    (hstack : g.stack = argsL.reverse ++ rest) (hW : 2 * g.monitorRoom + (rest.map fun v => v.category).sum ≤ W9) (hdg : decode c.code g.pc = .ok (.invokestatic index, 3))
    (hpre : ∀ vm₁, s.WarmedH vm₁ → Pre ⟨T.setVm vm₁, locs, cells, slots⟩ argsL.toArray) :
    (∃ (v : Option Value) (vm₁ : Vm) (B : Pt), s.WarmedH vm₁ ∧ Stand p l e R s m args below meth c B.U B.locs B.cells B.slots ∧ Post ⟨T.setVm vm₁, locs, cells, slots⟩ argsL.toArray v B ∧
      ∀ target, Steps p.tables e below (B.U.setTop { g with pc := g.pc + 3, stack := v.toList ++ rest }) target → Steps p.tables e below (T.setTop g) target) ∨
    (∃ (q : Addr) (vm₁ : Vm) (B : Pt), s.WarmedH vm₁ ∧ Stand p l e R s m args below meth c B.U B.locs B.cells B.slots ∧ PostX ⟨T.setVm vm₁, locs, cells, slots⟩ argsL.toArray q B ∧
      Steps p.tables e below (T.setTop g) ((B.U.setTop { g with stack := rest }).pushFrame (.throwing q))) := by
  obtain ⟨mk, methM, cM, hnamed, hmethM, -, -, -, -, -, -, hsigM⟩ := Cond.codeWith_spec hcode
  have hstatic : methM.isStatic = true := Cond.static_spec hnamed hmethM hstat
  obtain ⟨kP, hkP, -⟩ := className_of_methodNamed hnamed
  have hinitP : kP.init = .initialized := Cond.initialized_spec (findClass_of_methodNamed hnamed) hkP hinit
  obtain ⟨vm₁, X₁, hstep₁⟩ := X.invokestatic hexec hown hlink hnamed hmethM hstatic hkP hinitP hy (g := g) hg (argsL := argsL) (rest := rest) (hlen _ hsigM) hstack hdg
  rcases hK m meth c ⟨T.setVm vm₁, locs, cells, slots⟩ { g with stack := rest } (.invokestatic index) mk argsL.toArray X₁ hg hsize hdg hW (X₁.named hnamed) (hpre vm₁ X₁.warmed) with ⟨v, B, X', hpost, hsteps⟩ | ⟨q, B, X', hpost, hsteps⟩
  · exact Or.inl ⟨v, vm₁, B, X₁.warmed, X', hpost, fun target h => hstep₁ _ fun acts => by rw [doInvoke_state]; exact hsteps.trans h⟩
  · exact Or.inr ⟨q, vm₁, B, X₁.warmed, X', hpost, hstep₁ _ fun acts => by rw [doInvoke_state]; exact hsteps⟩
theorem vx_callVW (X : Stand p l e R s m args below meth c T locs cells slots) (hexec : p.tables.exec = Jvm.exec) {own C : String} {index : Nat} {y : MethodName} {bytes : ByteArray} {maxL : Nat} {ret : Option FieldType} {hh : List (Nat × Nat × Nat × Nat)}
    (hown : s.vm.findClass own = some m.cls) (hlink : (Cond.methodLink own index y).before args s = true) (hinst : (Cond.instanceMethod y).before args s = true) (hsel : (Cond.selects C y y).before args s = true)
    (hcode : (Cond.codeWith y bytes maxL ret hh).before args s = true) (hy : y.cls ≠ "java/lang/invoke/MethodHandle" ∧ y.cls ≠ "java/lang/invoke/VarHandle")
    {W9 : Nat} {Pre : Pt → Array Value → Prop} {Post : Pt → Array Value → Option Value → Pt → Prop} (hK : Back l R p e below s args y 3 W9 Pre Post)
    {b : Addr} {cellB : Cell} (hcell : T.heap[b]? = some cellB) (hobj : cellB.vm.isStatics = false) (hcls : s.vm.findClass C = some cellB.cls)
    {g : JFrame} (hg : g.method = m) (hsize : g.locals.size = c.maxLocals) {argsL rest : List Value} (hlen : ∀ sig, parseMethodDescriptor y.desc = some sig → argsL.length = sig.parameters.length)
    (hstack : g.stack = argsL.reverse ++ .ref b :: rest) (hW : 2 * g.monitorRoom + (rest.map fun v => v.category).sum ≤ W9) (hdg : decode c.code g.pc = .ok (.invokevirtual index, 3))
    (hpre : ∀ vm₁, s.WarmedH vm₁ → Pre ⟨T.setVm vm₁, locs, cells, slots⟩ (Value.ref b :: argsL).toArray) :
    ∃ (v : Option Value) (vm₁ : Vm) (B : Pt), s.WarmedH vm₁ ∧ Stand p l e R s m args below meth c B.U B.locs B.cells B.slots ∧ Post ⟨T.setVm vm₁, locs, cells, slots⟩ (Value.ref b :: argsL).toArray v B ∧
      ∀ target, Steps p.tables e below (B.U.setTop { g with pc := g.pc + 3, stack := v.toList ++ rest }) target → Steps p.tables e below (T.setTop g) target := by
  obtain ⟨mk, methM, hnamed, hmethM, hstM, habM⟩ := Cond.instanceMethod_spec hinst
  obtain ⟨m8, methM', cM, hn8, hmethM', -, -, -, -, -, -, hsigM⟩ := Cond.codeWith_spec hcode
  cases Option.some.inj (hn8.symm.trans hnamed)
  cases hmethM.symm.trans hmethM'
  obtain ⟨c2, r2, m2, q1, q2, q3, q4, kP, hkP, hkPi⟩ := Cond.selects_spec hsel
  cases hcls.symm.trans q1
  cases (State.methodFound?_of_named hnamed hy).symm.trans q2
  cases hnamed.symm.trans q3
  have hselP : selectMethod e.platform s.vm cellB.cls mk = .method mk := by rw [Launch.admits_selectMethod X.admits]; exact q4
  obtain ⟨vm₁, X₁, hstep₁⟩ := X.invokevirtual hexec hown hlink hnamed hmethM hstM hkP hkPi hy (a := b) (cell := cellB) hcell
    (fun z h => by rw [h] at hobj; cases hobj) hselP hmethM habM hkP hkPi (g := g) hg (argsL := argsL) (rest := rest) (hlen _ hsigM) hstack hdg
  obtain ⟨v, B, X', hpost, hsteps⟩ := hK m meth c ⟨T.setVm vm₁, locs, cells, slots⟩ { g with stack := rest } (.invokevirtual index) mk (Value.ref b :: argsL).toArray X₁ hg hsize hdg hW (X₁.named hnamed) (hpre vm₁ X₁.warmed)
  exact ⟨v, vm₁, B, X₁.warmed, X', hpost, fun target h => hstep₁ _ fun acts => by rw [doInvoke_state]; exact hsteps.trans h⟩
abbrev vx_CVW (R : Room) (s : State) (args : Array Value) (own C : String) (index : Nat) (y : MethodName) (bytes : ByteArray) (maxL : Nat) (ret : Option FieldType) (hh : List (Nat × Nat × Nat × Nat)) (ws : List Cond) (rm : Room) (mc ms n : Nat) : Prop :=
  (rm.cells = mc ∧ rm.slots = ms ∧ rm.frames + 1 ≤ R.frames ∧ 8 + (maxL + 11) + rm.locals ≤ R.locals ∧ (∀ w ∈ ws, ∀ (a' : Array Value) (U : State), s.WarmedH U.vm → w.before a' U = true) ∧ Cond.codeWith y bytes maxL ret hh ∈ ws) ∧
  (Cond.codeWith y bytes maxL ret hh).before args s = true ∧ (Cond.initialized y.cls).before args s = true ∧ (y.cls ≠ "java/lang/invoke/MethodHandle" ∧ y.cls ≠ "java/lang/invoke/VarHandle") ∧
  (∀ sig, parseMethodDescriptor y.desc = some sig → n = sig.parameters.length) ∧ (Cond.methodLink own index y).before args s = true ∧ (Cond.instanceMethod y).before args s = true ∧ (Cond.selects C y y).before args s = true
theorem vx_runVW {y : MethodName} {bytes cc : ByteArray} {maxL nL mc ms n index : Nat} {ret : Option FieldType} {hh : List (Nat × Nat × Nat × Nat)} {ws : List Cond} {rm : Room} {Pc : Array Value → State → Prop} {Qc : Array Value → State → Outcome → State → Prop} {free : Addr → Prop} {Ts : List Cond} {own C : String} {b : Addr} {As rest : List Value} {g : JFrame}
    (S : CallFix p m c cc nL s args Ts own) (hM : Met l y ws rm Pc Qc mc ms free) (cw : vx_CVW R s args own C index y bytes maxL ret hh ws rm mc ms n) (hp : PreV s H C b Pc As)
    (hg : g.method = m) (hn : As.length = n) (hsize : g.locals.size = nL) (hstack : g.stack = As.reverse ++ .ref b :: rest) (hW : 2 * g.monitorRoom + (rest.map fun v => v.category).sum ≤ 8) (hdg : decode cc g.pc = .ok (.invokevirtual index, 3)) (hf : cells + mc ≤ R.cells ∧ slots + ms ≤ R.slots) :
    va_Run p l e R s m args below meth c H locs cells slots mc ms g rest (Qc (Value.ref b :: As).toArray) free := by
  obtain ⟨⟨hrc, hrs, hfr, hlo, hws, hcw⟩, hcode, hini, hy, hlen, hl, hin, hse⟩ := cw
  have hK : Back l R p e below s args y 3 8 (PreOf R mc ms Pc) (PostOf Qc mc ms free) := va_backW (hh := hh) (bytes := bytes) (maxL := maxL) (ret := ret) hM hp.1 hrc hrs hfr hlo hws hcw (fun a' U hW => word_at hW (Or.inl (by first | rfl | simp [Cond.onTables, Cond.keeps, Cond.steady])) hini)
  obtain ⟨hx, hb, hml, ho, -⟩ := S
  obtain ⟨-, ⟨cellB, hcB, hoB, hclB⟩, hPc⟩ := hp
  intro T hT X
  obtain ⟨v, vm₁, ⟨U', l2, c2, s2⟩, hW₁, X', ⟨g', mk, t, L, e1, e2, hq, h1, hL, h2, h3⟩, st⟩ := vx_callVW X hx (C := C) (hh := hh) (bytes := bytes) (maxL := maxL) (ret := ret) ho hl hin hse hcode hy hK (by rw [hT]; exact hcB) hoB hclB hg (hsize.trans hml.symm) (argsL := As) (rest := rest) (fun sig h => hn.trans (hlen sig h)) hstack hW (by rw [hb]; exact hdg)
    (fun vm₁ hW₁ => ⟨hf.1, hf.2, hPc (T.setVm vm₁) hT hW₁⟩)
  dsimp only [Pt.U, Pt.locs, Pt.cells, Pt.slots] at X' e1 e2 h1 h2 h3 st
  subst h1; subst h2; subst h3
  exact ⟨v, (T.setVm vm₁).calling g' mk (Value.ref b :: As).toArray, t, U', L, hT, X', hL, e1, e2, hq, st⟩
section
variable {y : MethodName} {bytes cc : ByteArray} {maxL nL mc ms n index : Nat} {ret : Option FieldType} {ws : List Cond} {rm : Room} {Pc : Array Value → State → Prop} {Qc : Array Value → State → Outcome → State → Prop} {XC : String → State → State → Prop} {free : Addr → Prop} {Ts : List Cond} {own C : String} {b : Addr} {As rest : List Value} {g : JFrame}
theorem vx_runVX {hh : List (Nat × Nat × Nat × Nat)} (S : CallFix p m c cc nL s args Ts own) (hM : vx_Met l y ws rm Pc Qc XC mc ms free) (cw : vx_CVW R s args own C index y bytes maxL ret hh ws rm mc ms n) (hp : PreV s H C b Pc As)
    (hg : g.method = m) (hn : As.length = n) (hsize : g.locals.size = nL) (hstack : g.stack = As.reverse ++ .ref b :: rest) (hW : 2 * g.monitorRoom + (rest.map fun v => v.category).sum ≤ 8) (hdg : decode cc g.pc = .ok (.invokevirtual index, 3)) (hf : cells + mc ≤ R.cells ∧ slots + ms ≤ R.slots) :
    vx_Run p l e R s m args below meth c H locs cells slots mc ms g rest (Qc (Value.ref b :: As).toArray) XC free := by
  obtain ⟨⟨hrc, hrs, hfr, hlo, hws, hcw⟩, hcode, hini, hy, hlen, hl, hin, hse⟩ := cw
  have hK : vx_Back l R p e below s args y 3 8 (PreOf R mc ms Pc) (PostOf Qc mc ms free) (vx_Post XC mc ms free) := vx_backW (hh := hh) (bytes := bytes) (maxL := maxL) (ret := ret) hM hp.1 hrc hrs hfr hlo hws hcw (fun a' U hW => word_at hW (Or.inl (by first | rfl | simp [Cond.onTables, Cond.keeps, Cond.steady])) hini)
  obtain ⟨hx, hb, hml, ho, -⟩ := S
  obtain ⟨-, ⟨cellB, hcB, hoB, hclB⟩, hPc⟩ := hp
  intro T hT X
  rcases vx_callVX X hx (C := C) (hh := hh) (bytes := bytes) (maxL := maxL) (ret := ret) ho hl hin hse hcode hy hK (by rw [hT]; exact hcB) hoB hclB hg (hsize.trans hml.symm) (argsL := As) (rest := rest) (fun sig h => hn.trans (hlen sig h)) hstack hW (by rw [hb]; exact hdg)
    (fun vm₁ hW₁ => ⟨hf.1, hf.2, hPc (T.setVm vm₁) hT hW₁⟩) with ⟨v, vm₁, ⟨U', l2, c2, s2⟩, hW₁, X', ⟨g', mk, t, L, e1, e2, hq, h1, hL, h2, h3⟩, st⟩ | ⟨q, vm₁, ⟨U', l2, c2, s2⟩, hW₁, X', ⟨g', mk, t, L, E, ce, e1, e2, hq, hce, hcv, hcl, h1, hL, h2, h3⟩, st⟩
  · dsimp only [Pt.U, Pt.locs, Pt.cells, Pt.slots] at X' e1 e2 h1 h2 h3 st
    subst h1; subst h2; subst h3
    exact Or.inl ⟨v, (T.setVm vm₁).calling g' mk (Value.ref b :: As).toArray, t, U', L, hT, X', hL, e1, e2, hq, st⟩
  · dsimp only [Pt.U, Pt.locs, Pt.cells, Pt.slots] at X' e1 e2 h1 h2 h3 st hcl
    subst h1; subst h2; subst h3
    exact Or.inr ⟨q, (T.setVm vm₁).calling g' mk (Value.ref b :: As).toArray, t, U', L, E, ce, hT, X', hL, e1, e2, hq, hce, hcv, vx_cls hW₁ hcl, st⟩
theorem vx_runSX {hh : List (Nat × Nat × Nat × Nat)} (S : CallFix p m c cc nL s args Ts own) (hM : vx_Met l y ws rm Pc Qc XC mc ms free) (cw : vx_CSW R s args own index y bytes maxL ret hh ws rm mc ms n) (hp : PreS s H Pc As)
    (hg : g.method = m) (hn : As.length = n) (hsize : g.locals.size = nL) (hstack : g.stack = As.reverse ++ rest) (hW : 2 * g.monitorRoom + (rest.map fun v => v.category).sum ≤ 8) (hdg : decode cc g.pc = .ok (.invokestatic index, 3)) (hf : cells + mc ≤ R.cells ∧ slots + ms ≤ R.slots) :
    vx_Run p l e R s m args below meth c H locs cells slots mc ms g rest (Qc As.toArray) XC free := by
  obtain ⟨⟨hrc, hrs, hfr, hlo, hws, hcw⟩, hcode, hini, hy, hlen, hl, hstt⟩ := cw
  have hK : vx_Back l R p e below s args y 3 8 (PreOf R mc ms Pc) (PostOf Qc mc ms free) (vx_Post XC mc ms free) := vx_backW (hh := hh) (bytes := bytes) (maxL := maxL) (ret := ret) hM hp.1 hrc hrs hfr hlo hws hcw (fun a' U hW => word_at hW (Or.inl (by first | rfl | simp [Cond.onTables, Cond.keeps, Cond.steady])) hini)
  obtain ⟨hx, hb, hml, ho, -⟩ := S
  intro T hT X
  rcases vx_callSX X hx (hh := hh) (bytes := bytes) (maxL := maxL) (ret := ret) ho hl hstt hini hcode hy hK hg (hsize.trans hml.symm) (argsL := As) (rest := rest) (fun sig h => hn.trans (hlen sig h)) hstack hW (by rw [hb]; exact hdg)
    (fun vm₁ hW₁ => ⟨hf.1, hf.2, hp.2 (T.setVm vm₁) hT hW₁⟩) with ⟨v, vm₁, ⟨U', l2, c2, s2⟩, hW₁, X', ⟨g', mk, t, L, e1, e2, hq, h1, hL, h2, h3⟩, st⟩ | ⟨q, vm₁, ⟨U', l2, c2, s2⟩, hW₁, X', ⟨g', mk, t, L, E, ce, e1, e2, hq, hce, hcv, hcl, h1, hL, h2, h3⟩, st⟩
  · dsimp only [Pt.U, Pt.locs, Pt.cells, Pt.slots] at X' e1 e2 h1 h2 h3 st
    subst h1; subst h2; subst h3
    exact Or.inl ⟨v, (T.setVm vm₁).calling g' mk As.toArray, t, U', L, hT, X', hL, e1, e2, hq, st⟩
  · dsimp only [Pt.U, Pt.locs, Pt.cells, Pt.slots] at X' e1 e2 h1 h2 h3 st hcl
    subst h1; subst h2; subst h3
    exact Or.inr ⟨q, (T.setVm vm₁).calling g' mk As.toArray, t, U', L, E, ce, hT, X', hL, e1, e2, hq, hce, hcv, vx_cls hW₁ hcl, st⟩
end
end VXH
theorem vx_ofWH {l : Launch} {y : MethodName} {ws ws' : List Cond} {rm : Room} {Pc : Array Value → State → Prop} {Qc : Array Value → State → Outcome → State → Prop} {XC : String → State → State → Prop} {mc ms : Nat} {free : Addr → Prop} {cc : ByteArray} {maxL : Nat} {ret : Option FieldType} {hh : List (Nat × Nat × Nat × Nat)}
    (hy : plainName y.cls = true) (hw : ws = Cond.codeWith y cc maxL ret hh :: ws')
    (body : ∀ p e s m args below meth c s₁, BodyLoose p l y (headSpec ws rm) cc maxL ret e s m args below meth c s₁ → c.maxLocals = maxL → Pc args s →
      W p l e (headSpec ws rm).room s m args below meth c s.heap [] 0 0 (vx_MQ below Qc XC args s mc ms free) (entryFrame m args maxL)) : vx_Met l y ws rm Pc Qc XC mc ms free := by
  refine MetFree.of_bodyS (code := cc) (maxLocals := maxL) (ret := ret) hy ?_ ?_
  · intro args s m h hn
    obtain ⟨m9, meth, c, hn9, h1, h2, h3, h4, -, h5, h6, -⟩ := Cond.codeWith_spec (atoms_spec (ws := ws) h _ (by rw [hw]; exact List.mem_cons_self))
    cases hn.symm.trans hn9
    exact ⟨meth, c, h1, h2, h3, h4, h5, h6⟩
  · intro p e s m args below meth c s₁ B hml hP _
    have hh0 : s₁.heap = s.heap := by rw [B.state]; rfl
    obtain ⟨t, a1, o, b1, b2, b3⟩ := body p e s m args below meth c s₁ B hml hP s₁ hh0 (Stand.of_body B)
    exact ⟨t, o, a1, b1, b2, b3⟩
/-! ===== END ===== -/
end P02_names0
section P02_names1_0
def RX0 : String := "WaxTurns$Hall"
def TX0 : u_T := fun k => match k with
  | 0 => ("WaxTurns$Hall", "figures", "I", false)
  | 1 => ("WaxTurns$Hall", "span", "I", false)
  | 2 => ("WaxTurns$Hall", "stairsPlace", "I", false)
  | 3 => ("WaxTurns$Hall", "shut", "I", false)
  | 4 => ("WaxTurns$Hall", "lawTold", "Z", false)
  | 5 => ("WaxTurns$Hall", "times", "I", false)
  | 6 => ("WaxTurns$Hall", "plus", "I", false)
  | 7 => ("WaxTurns$Hall", "first", "I", false)
  | 8 => ("WaxTurns$Hall", "toldBits", "I", false)
  | 9 => ("WaxTurns$Hall", "seenCount", "I", false)
  | 10 => ("WaxTurns$Hall", "kinds", "[I", true)
  | 11 => ("WaxTurns$Hall", "measures", "[I", true)
  | 12 => ("WaxTurns$Hall", "seenFigures", "[I", true)
  | 13 => ("WaxTurns$Hall", "seenMinutes", "[I", true)
  | _ => ("WaxTurns$Hall", "watchers", "LWaxTurns$Watchers;", true)
def tyX0 : Nat → FieldType := fun k => match k with
  | 0 => .int
  | 1 => .int
  | 2 => .int
  | 3 => .int
  | 4 => .boolean
  | 5 => .int
  | 6 => .int
  | 7 => .int
  | 8 => .int
  | 9 => .int
  | 10 => .array .int
  | 11 => .array .int
  | 12 => .array .int
  | 13 => .array .int
  | _ => .object "WaxTurns$Watchers"
abbrev wsX00 : List Cond := u_ws RX0 TX0 15
theorem nmX0 : ∀ a, a < 15 → ∀ b, b < 15 → a ≠ b → (TX0 a).2.1 ≠ (TX0 b).2.1 := by decide +kernel
theorem tyX0_ok : ∀ k, k < 15 → parseFieldDescriptor (TX0 k).2.2.1 = some (tyX0 k) := by decide +kernel
abbrev cX0_init : ByteArray := prog_2_method_1_code
def yX0_init : MethodName := ⟨RX0, "<init>", "()V"⟩
abbrev cX0_clear : ByteArray := prog_2_method_2_code
def yX0_clear : MethodName := ⟨RX0, "clea\x72", "()V"⟩
abbrev cX0_addFigure : ByteArray := prog_2_method_3_code
def yX0_addFigure : MethodName := ⟨RX0, "addFigure", "(III)V"⟩
abbrev cX0_addSeen : ByteArray := prog_2_method_4_code
def yX0_addSeen : MethodName := ⟨RX0, "addSeen", "(II)V"⟩
abbrev cX0_isSeenMinute : ByteArray := prog_2_method_5_code
def yX0_isSeenMinute : MethodName := ⟨RX0, "isSeenMinute", "(I)Z"⟩
abbrev cX0_sizeTold : ByteArray := prog_2_method_6_code
def yX0_sizeTold : MethodName := ⟨RX0, "sizeTold", "(I)I"⟩
abbrev cX0_next : ByteArray := prog_2_method_7_code
def yX0_next : MethodName := ⟨RX0, "next", "(I)I"⟩
abbrev cX0_aliveByLaw : ByteArray := prog_2_method_8_code
def yX0_aliveByLaw : MethodName := ⟨RX0, "aliveByLaw", "(II)I"⟩
abbrev cX0_goesLike : ByteArray := prog_2_method_9_code
def yX0_goesLike : MethodName := ⟨RX0, "goesLike", "(II)Z"⟩
abbrev cX0_pass : ByteArray := prog_2_method_10_code
def yX0_pass : MethodName := ⟨RX0, "pass", "(LWaxTurns$Scene;LWaxTurns$Watchers;)V"⟩
abbrev cX0_stepsIn : ByteArray := prog_2_method_11_code
def yX0_stepsIn : MethodName := ⟨RX0, "stepsIn", "(II)Z"⟩
abbrev cX0_step : ByteArray := prog_2_method_12_code
def yX0_step : MethodName := ⟨RX0, "step", "(LWaxTurns$Scene;ILWaxTurns$Watchers;)V"⟩
abbrev cX0_nearer : ByteArray := prog_2_method_13_code
def yX0_nearer : MethodName := ⟨RX0, "neare\x72", "(I)I"⟩
abbrev cX0_isHeardAt : ByteArray := prog_2_method_14_code
def yX0_isHeardAt : MethodName := ⟨RX0, "isHeardAt", "(II)Z"⟩
abbrev cX0_partSaid : ByteArray := prog_2_method_15_code
def yX0_partSaid : MethodName := ⟨RX0, "partSaid", "(II)I"⟩
def RX1 : String := "WaxTurns$History"
def TX1 : u_T := fun k => match k with
  | 0 => ("WaxTurns$History", "keptCount", "I", false)
  | 1 => ("WaxTurns$History", "imageCount", "I", false)
  | 2 => ("WaxTurns$History", "latest", "I", false)
  | 3 => ("WaxTurns$History", "kept", "[LWaxTurns$Scene;", true)
  | _ => ("WaxTurns$History", "images", "[LWaxTurns$Scene;", true)
def tyX1 : Nat → FieldType := fun k => match k with
  | 0 => .int
  | 1 => .int
  | 2 => .int
  | 3 => .array (.object "WaxTurns$Scene")
  | _ => .array (.object "WaxTurns$Scene")
abbrev wsX10 : List Cond := u_ws RX1 TX1 5
theorem nmX1 : ∀ a, a < 5 → ∀ b, b < 5 → a ≠ b → (TX1 a).2.1 ≠ (TX1 b).2.1 := by decide +kernel
theorem tyX1_ok : ∀ k, k < 5 → parseFieldDescriptor (TX1 k).2.2.1 = some (tyX1 k) := by decide +kernel
abbrev cX1_init : ByteArray := prog_3_method_1_code
def yX1_init : MethodName := ⟨RX1, "<init>", "()V"⟩
abbrev cX1_clear : ByteArray := prog_3_method_2_code
def yX1_clear : MethodName := ⟨RX1, "clea\x72", "()V"⟩
abbrev cX1_keep : ByteArray := prog_3_method_3_code
def yX1_keep : MethodName := ⟨RX1, "keep", "(LWaxTurns$Scene;)V"⟩
abbrev cX1_takeLatest : ByteArray := prog_3_method_4_code
def yX1_takeLatest : MethodName := ⟨RX1, "takeLatest", "(LWaxTurns$Scene;)Z"⟩
abbrev cX1_addImage : ByteArray := prog_3_method_5_code
def yX1_addImage : MethodName := ⟨RX1, "addImage", "(LWaxTurns$Scene;)I"⟩
abbrev cX1_goBack : ByteArray := prog_3_method_6_code
def yX1_goBack : MethodName := ⟨RX1, "goBack", "(ILWaxTurns$Scene;)Z"⟩
def RX2 : String := "WaxTurns$Laws"
def TX2 : u_T := fun k => match k with
  | 0 => ("WaxTurns$Laws", "fitCount", "I", false)
  | 1 => ("WaxTurns$Laws", "lookMinute", "I", false)
  | 2 => ("WaxTurns$Laws", "lookMost", "I", false)
  | 3 => ("WaxTurns$Laws", "fitting", "[I", true)
  | 4 => ("WaxTurns$Laws", "tallies", "[I", true)
  | 5 => ("WaxTurns$Laws", "listed", "Z", false)
  | _ => ("WaxTurns$Laws", "looked", "Z", false)
def tyX2 : Nat → FieldType := fun k => match k with
  | 0 => .int
  | 1 => .int
  | 2 => .int
  | 3 => .array .int
  | 4 => .array .int
  | 5 => .boolean
  | _ => .boolean
abbrev wsX20 : List Cond := u_ws RX2 TX2 7
theorem nmX2 : ∀ a, a < 7 → ∀ b, b < 7 → a ≠ b → (TX2 a).2.1 ≠ (TX2 b).2.1 := by decide +kernel
theorem tyX2_ok : ∀ k, k < 7 → parseFieldDescriptor (TX2 k).2.2.1 = some (tyX2 k) := by decide +kernel
abbrev cX2_init : ByteArray := prog_4_method_1_code
def yX2_init : MethodName := ⟨RX2, "<init>", "()V"⟩
abbrev cX2_forget : ByteArray := prog_4_method_2_code
def yX2_forget : MethodName := ⟨RX2, "forget", "()V"⟩
abbrev cX2_list : ByteArray := prog_4_method_3_code
def yX2_list : MethodName := ⟨RX2, "list", "(LWaxTurns$Hall;)V"⟩
abbrev cX2_addIfFit : ByteArray := prog_4_method_4_code
def yX2_addIfFit : MethodName := ⟨RX2, "addIfFit", "(LWaxTurns$Hall;I)V"⟩
abbrev cX2_chooseLook : ByteArray := prog_4_method_5_code
def yX2_chooseLook : MethodName := ⟨RX2, "chooseLook", "(LWaxTurns$Hall;)V"⟩
abbrev cX2_tally : ByteArray := prog_4_method_6_code
def yX2_tally : MethodName := ⟨RX2, "tally", "(II)V"⟩
abbrev cX2_mostOf : ByteArray := prog_4_method_7_code
def yX2_mostOf : MethodName := ⟨RX2, "mostOf", "(I)I"⟩
def RX3 : String := "WaxTurns$Reade\x72"
def TX3 : u_T := fun k => match k with
  | 0 => ("WaxTurns$Reade\x72", "tapeSize", "I", false)
  | 1 => ("WaxTurns$Reade\x72", "faultNumbe\x72", "I", false)
  | 2 => ("WaxTurns$Reade\x72", "faultPlace", "I", false)
  | 3 => ("WaxTurns$Reade\x72", "tape", "[B", true)
  | 4 => ("WaxTurns$Reade\x72", "names", "[J", true)
  | 5 => ("WaxTurns$Reade\x72", "draft", "LWaxTurns$Hall;", false)
  | 6 => ("WaxTurns$Reade\x72", "nameCount", "I", false)
  | 7 => ("WaxTurns$Reade\x72", "end", "I", false)
  | 8 => ("WaxTurns$Reade\x72", "start", "I", false)
  | 9 => ("WaxTurns$Reade\x72", "behind", "I", false)
  | 10 => ("WaxTurns$Reade\x72", "token", "I", false)
  | 11 => ("WaxTurns$Reade\x72", "word", "J", false)
  | 12 => ("WaxTurns$Reade\x72", "whole", "I", false)
  | _ => ("WaxTurns$Reade\x72", "taken", "I", false)
def tyX3 : Nat → FieldType := fun k => match k with
  | 0 => .int
  | 1 => .int
  | 2 => .int
  | 3 => .array .byte
  | 4 => .array .long
  | 5 => .object "WaxTurns$Hall"
  | 6 => .int
  | 7 => .int
  | 8 => .int
  | 9 => .int
  | 10 => .int
  | 11 => .long
  | 12 => .int
  | _ => .int
abbrev wsX30 : List Cond := u_ws RX3 TX3 14
theorem nmX3 : ∀ a, a < 14 → ∀ b, b < 14 → a ≠ b → (TX3 a).2.1 ≠ (TX3 b).2.1 := by decide +kernel
theorem tyX3_ok : ∀ k, k < 14 → parseFieldDescriptor (TX3 k).2.2.1 = some (tyX3 k) := by decide +kernel
abbrev cX3_init : ByteArray := prog_5_method_1_code
def yX3_init : MethodName := ⟨RX3, "<init>", "()V"⟩
abbrev cX3_append : ByteArray := prog_5_method_2_code
def yX3_append : MethodName := ⟨RX3, "append", "(I)V"⟩
abbrev cX3_exchange : ByteArray := prog_5_method_3_code
def yX3_exchange : MethodName := ⟨RX3, "exchange", "(LWaxTurns$Hall;)LWaxTurns$Hall;"⟩
abbrev cX3_read : ByteArray := prog_5_method_4_code
def yX3_read : MethodName := ⟨RX3, "read", "(I)Z"⟩
abbrev cX3_fails : ByteArray := prog_5_method_5_code
def yX3_fails : MethodName := ⟨RX3, "fails", "(I)Z"⟩
abbrev cX3_advance : ByteArray := prog_5_method_6_code
def yX3_advance : MethodName := ⟨RX3, "advance", "()V"⟩
abbrev cX3_scanWord : ByteArray := prog_5_method_7_code
def yX3_scanWord : MethodName := ⟨RX3, "scanWord", "()V"⟩
abbrev cX3_scanWhole : ByteArray := prog_5_method_8_code
def yX3_scanWhole : MethodName := ⟨RX3, "scanWhole", "()V"⟩
abbrev cX3_isWord : ByteArray := prog_5_method_9_code
def yX3_isWord : MethodName := ⟨RX3, "isWord", "(Ljava/lang/String;)Z"⟩
abbrev cX3_readLine : ByteArray := prog_5_method_10_code
def yX3_readLine : MethodName := ⟨RX3, "readLine", "()Z"⟩
abbrev cX3_readHall : ByteArray := prog_5_method_11_code
def yX3_readHall : MethodName := ⟨RX3, "readHall", "()Z"⟩
abbrev cX3_readLaw : ByteArray := prog_5_method_12_code
def yX3_readLaw : MethodName := ⟨RX3, "readLaw", "()Z"⟩
abbrev cX3_readFigure : ByteArray := prog_5_method_13_code
def yX3_readFigure : MethodName := ⟨RX3, "readFigure", "()Z"⟩
abbrev cX3_readWatcher : ByteArray := prog_5_method_14_code
def yX3_readWatcher : MethodName := ⟨RX3, "readWatche\x72", "()Z"⟩
abbrev cX3_readSeen : ByteArray := prog_5_method_15_code
def yX3_readSeen : MethodName := ⟨RX3, "readSeen", "()Z"⟩
abbrev cX3_takeWord : ByteArray := prog_5_method_16_code
def yX3_takeWord : MethodName := ⟨RX3, "takeWord", "(Ljava/lang/String;)Z"⟩
abbrev cX3_isWholeWithin : ByteArray := prog_5_method_17_code
def yX3_isWholeWithin : MethodName := ⟨RX3, "isWholeWithin", "(II)Z"⟩
abbrev cX3_takeWhole : ByteArray := prog_5_method_18_code
def yX3_takeWhole : MethodName := ⟨RX3, "takeWhole", "(Ljava/lang/String;II)Z"⟩
abbrev cX3_takeName : ByteArray := prog_5_method_19_code
def yX3_takeName : MethodName := ⟨RX3, "takeName", "()Z"⟩
def RX4 : String := "WaxTurns$Routes"
def TX4 : u_T := fun k => match k with
  | 0 => ("WaxTurns$Routes", "figures", "I", false)
  | 1 => ("WaxTurns$Routes", "aims", "[I", true)
  | _ => ("WaxTurns$Routes", "bestBehind", "[I", true)
def tyX4 : Nat → FieldType := fun k => match k with
  | 0 => .int
  | 1 => .array .int
  | _ => .array .int
abbrev wsX40 : List Cond := u_ws RX4 TX4 3
theorem nmX4 : ∀ a, a < 3 → ∀ b, b < 3 → a ≠ b → (TX4 a).2.1 ≠ (TX4 b).2.1 := by decide +kernel
theorem tyX4_ok : ∀ k, k < 3 → parseFieldDescriptor (TX4 k).2.2.1 = some (tyX4 k) := by decide +kernel
abbrev cX4_init : ByteArray := prog_6_method_1_code
def yX4_init : MethodName := ⟨RX4, "<init>", "()V"⟩
abbrev cX4_aim : ByteArray := prog_6_method_2_code
def yX4_aim : MethodName := ⟨RX4, "aim", "(II)V"⟩
abbrev cX4_weigh : ByteArray := prog_6_method_3_code
def yX4_weigh : MethodName := ⟨RX4, "weigh", "(II)V"⟩
abbrev cX4_worth : ByteArray := prog_6_method_4_code
def yX4_worth : MethodName := ⟨RX4, "worth", "(II)I"⟩
abbrev cX4_step : ByteArray := prog_6_method_5_code
def yX4_step : MethodName := ⟨RX4, "step", "(II)I"⟩
abbrev cX4_minutesWith : ByteArray := prog_6_method_6_code
def yX4_minutesWith : MethodName := ⟨RX4, "minutesWith", "(I)I"⟩
abbrev cX4_placeIn : ByteArray := prog_6_method_7_code
def yX4_placeIn : MethodName := ⟨RX4, "placeIn", "(II)I"⟩
def RX5 : String := "WaxTurns$Scene"
def TX5 : u_T := fun k => match k with
  | 0 => ("WaxTurns$Scene", "minute", "I", false)
  | 1 => ("WaxTurns$Scene", "turn", "I", false)
  | 2 => ("WaxTurns$Scene", "spent", "I", false)
  | 3 => ("WaxTurns$Scene", "goneBits", "I", false)
  | 4 => ("WaxTurns$Scene", "catchCount", "I", false)
  | 5 => ("WaxTurns$Scene", "places", "[I", true)
  | _ => ("WaxTurns$Scene", "heardBits", "[I", true)
def tyX5 : Nat → FieldType := fun k => match k with
  | 0 => .int
  | 1 => .int
  | 2 => .int
  | 3 => .int
  | 4 => .int
  | 5 => .array .int
  | _ => .array .int
abbrev wsX50 : List Cond := u_ws RX5 TX5 7
theorem nmX5 : ∀ a, a < 7 → ∀ b, b < 7 → a ≠ b → (TX5 a).2.1 ≠ (TX5 b).2.1 := by decide +kernel
theorem tyX5_ok : ∀ k, k < 7 → parseFieldDescriptor (TX5 k).2.2.1 = some (tyX5 k) := by decide +kernel
abbrev cX5_init : ByteArray := prog_7_method_1_code
def yX5_init : MethodName := ⟨RX5, "<init>", "()V"⟩
abbrev cX5_begin : ByteArray := prog_7_method_2_code
def yX5_begin : MethodName := ⟨RX5, "begin", "(I)V"⟩
abbrev cX5_startTurn : ByteArray := prog_7_method_3_code
def yX5_startTurn : MethodName := ⟨RX5, "startTurn", "(I)V"⟩
abbrev cX5_copyFrom : ByteArray := prog_7_method_4_code
def yX5_copyFrom : MethodName := ⟨RX5, "copyFrom", "(LWaxTurns$Scene;)V"⟩
abbrev cX5_isGone : ByteArray := prog_7_method_5_code
def yX5_isGone : MethodName := ⟨RX5, "isGone", "(I)Z"⟩
def RX6 : String := "WaxTurns$Watchers"
def TX6 : u_T := fun k => match k with
  | 0 => ("WaxTurns$Watchers", "count", "I", false)
  | 1 => ("WaxTurns$Watchers", "posts", "I", false)
  | 2 => ("WaxTurns$Watchers", "from", "[I", true)
  | _ => ("WaxTurns$Watchers", "to", "[I", true)
def tyX6 : Nat → FieldType := fun k => match k with
  | 0 => .int
  | 1 => .int
  | 2 => .array .int
  | _ => .array .int
abbrev wsX60 : List Cond := u_ws RX6 TX6 4
theorem nmX6 : ∀ a, a < 4 → ∀ b, b < 4 → a ≠ b → (TX6 a).2.1 ≠ (TX6 b).2.1 := by decide +kernel
theorem tyX6_ok : ∀ k, k < 4 → parseFieldDescriptor (TX6 k).2.2.1 = some (tyX6 k) := by decide +kernel
abbrev cX6_init : ByteArray := prog_8_method_1_code
def yX6_init : MethodName := ⟨RX6, "<init>", "()V"⟩
abbrev cX6_add : ByteArray := prog_8_method_2_code
def yX6_add : MethodName := ⟨RX6, "add", "(II)V"⟩
abbrev cX6_copyFrom : ByteArray := prog_8_method_3_code
def yX6_copyFrom : MethodName := ⟨RX6, "copyFrom", "(LWaxTurns$Watchers;)V"⟩
abbrev cX6_placeOf : ByteArray := prog_8_method_4_code
def yX6_placeOf : MethodName := ⟨RX6, "placeOf", "(II)I"⟩
abbrev cX6_placesIn : ByteArray := prog_8_method_5_code
def yX6_placesIn : MethodName := ⟨RX6, "placesIn", "(I)I"⟩
def RX7 : String := "WaxTurns"
def TX7 : u_T := fun k => match k with
  | 0 => ("WaxTurns", "reade\x72", "LWaxTurns$Reader;", true)
  | 1 => ("WaxTurns", "now", "LWaxTurns$Scene;", true)
  | 2 => ("WaxTurns", "ahead", "LWaxTurns$Scene;", true)
  | 3 => ("WaxTurns", "trial", "LWaxTurns$Watchers;", true)
  | 4 => ("WaxTurns", "history", "LWaxTurns$History;", true)
  | 5 => ("WaxTurns", "laws", "LWaxTurns$Laws;", true)
  | 6 => ("WaxTurns", "routes", "LWaxTurns$Routes;", true)
  | 7 => ("WaxTurns", "hall", "LWaxTurns$Hall;", false)
  | 8 => ("WaxTurns", "latestTrouble", "I", false)
  | 9 => ("WaxTurns", "latestFault", "I", false)
  | _ => ("WaxTurns", "faultPlace", "I", false)
def tyX7 : Nat → FieldType := fun k => match k with
  | 0 => .object "WaxTurns$Reade\x72"
  | 1 => .object "WaxTurns$Scene"
  | 2 => .object "WaxTurns$Scene"
  | 3 => .object "WaxTurns$Watchers"
  | 4 => .object "WaxTurns$History"
  | 5 => .object "WaxTurns$Laws"
  | 6 => .object "WaxTurns$Routes"
  | 7 => .object "WaxTurns$Hall"
  | 8 => .int
  | 9 => .int
  | _ => .int
abbrev wsX70 : List Cond := u_ws RX7 TX7 11
theorem nmX7 : ∀ a, a < 11 → ∀ b, b < 11 → a ≠ b → (TX7 a).2.1 ≠ (TX7 b).2.1 := by decide +kernel
theorem tyX7_ok : ∀ k, k < 11 → parseFieldDescriptor (TX7 k).2.2.1 = some (tyX7 k) := by decide +kernel
abbrev cX7_init : ByteArray := prog_1_method_1_code
def yX7_init : MethodName := ⟨RX7, "<init>", "()V"⟩
abbrev cX7_feed : ByteArray := prog_1_method_2_code
def yX7_feed : MethodName := ⟨RX7, "feed", "(IIIII)I"⟩
abbrev cX7_gallery : ByteArray := prog_1_method_3_code
def yX7_gallery : MethodName := ⟨RX7, "gallery", "(I)I"⟩
abbrev cX7_fault : ByteArray := prog_1_method_4_code
def yX7_fault : MethodName := ⟨RX7, "fault", "()I"⟩
abbrev cX7_where : ByteArray := prog_1_method_5_code
def yX7_where : MethodName := ⟨RX7, "where", "()I"⟩
abbrev cX7_figure : ByteArray := prog_1_method_6_code
def yX7_figure : MethodName := ⟨RX7, "figure", "(II)I"⟩
abbrev cX7_watcher : ByteArray := prog_1_method_7_code
def yX7_watcher : MethodName := ⟨RX7, "watche\x72", "(II)I"⟩
abbrev cX7_alive : ByteArray := prog_1_method_8_code
def yX7_alive : MethodName := ⟨RX7, "alive", "()I"⟩
abbrev cX7_left : ByteArray := prog_1_method_9_code
def yX7_left : MethodName := ⟨RX7, "left", "()I"⟩
abbrev cX7_caught : ByteArray := prog_1_method_10_code
def yX7_caught : MethodName := ⟨RX7, "caught", "()I"⟩
abbrev cX7_turnOf : ByteArray := prog_1_method_11_code
def yX7_turnOf : MethodName := ⟨RX7, "turnOf", "(I)I"⟩
abbrev cX7_turnIn : ByteArray := prog_1_method_12_code
def yX7_turnIn : MethodName := ⟨RX7, "turnIn", "(I)I"⟩
abbrev cX7_settles : ByteArray := prog_1_method_13_code
def yX7_settles : MethodName := ⟨RX7, "settles", "()I"⟩
abbrev cX7_round : ByteArray := prog_1_method_14_code
def yX7_round : MethodName := ⟨RX7, "round", "()I"⟩
abbrev cX7_called : ByteArray := prog_1_method_15_code
def yX7_called : MethodName := ⟨RX7, "called", "()I"⟩
abbrev cX7_minutesOf : ByteArray := prog_1_method_16_code
def yX7_minutesOf : MethodName := ⟨RX7, "minutesOf", "(II)I"⟩
abbrev cX7_place : ByteArray := prog_1_method_17_code
def yX7_place : MethodName := ⟨RX7, "place", "(II)I"⟩
abbrev cX7_watch : ByteArray := prog_1_method_18_code
def yX7_watch : MethodName := ⟨RX7, "watch", "(II)I"⟩
abbrev cX7_gone : ByteArray := prog_1_method_19_code
def yX7_gone : MethodName := ⟨RX7, "gone", "(I)I"⟩
abbrev cX7_stairs : ByteArray := prog_1_method_20_code
def yX7_stairs : MethodName := ⟨RX7, "stairs", "()I"⟩
abbrev cX7_catches : ByteArray := prog_1_method_21_code
def yX7_catches : MethodName := ⟨RX7, "catches", "(I)I"⟩
abbrev cX7_heard : ByteArray := prog_1_method_22_code
def yX7_heard : MethodName := ⟨RX7, "heard", "(II)I"⟩
abbrev cX7_allIn : ByteArray := prog_1_method_23_code
def yX7_allIn : MethodName := ⟨RX7, "allIn", "(I)I"⟩
abbrev cX7_meets : ByteArray := prog_1_method_24_code
def yX7_meets : MethodName := ⟨RX7, "meets", "(I)I"⟩
abbrev cX7_crowd : ByteArray := prog_1_method_25_code
def yX7_crowd : MethodName := ⟨RX7, "crowd", "(I)I"⟩
abbrev cX7_farthest : ByteArray := prog_1_method_26_code
def yX7_farthest : MethodName := ⟨RX7, "farthest", "(I)I"⟩
abbrev cX7_nearBy : ByteArray := prog_1_method_27_code
def yX7_nearBy : MethodName := ⟨RX7, "nearBy", "(II)I"⟩
abbrev cX7_spoken : ByteArray := prog_1_method_28_code
def yX7_spoken : MethodName := ⟨RX7, "spoken", "(II)I"⟩
abbrev cX7_route : ByteArray := prog_1_method_29_code
def yX7_route : MethodName := ⟨RX7, "route", "(II)I"⟩
abbrev cX7_routeAt : ByteArray := prog_1_method_30_code
def yX7_routeAt : MethodName := ⟨RX7, "routeAt", "(III)I"⟩
abbrev cX7_stand : ByteArray := prog_1_method_31_code
def yX7_stand : MethodName := ⟨RX7, "stand", "(I)I"⟩
abbrev cX7_guard : ByteArray := prog_1_method_32_code
def yX7_guard : MethodName := ⟨RX7, "guard", "(I)I"⟩
abbrev cX7_windBest : ByteArray := prog_1_method_33_code
def yX7_windBest : MethodName := ⟨RX7, "windBest", "()I"⟩
abbrev cX7_patrol : ByteArray := prog_1_method_34_code
def yX7_patrol : MethodName := ⟨RX7, "patrol", "(II)I"⟩
abbrev cX7_fits : ByteArray := prog_1_method_35_code
def yX7_fits : MethodName := ⟨RX7, "fits", "()I"⟩
abbrev cX7_fitAt : ByteArray := prog_1_method_36_code
def yX7_fitAt : MethodName := ⟨RX7, "fitAt", "(I)I"⟩
abbrev cX7_could : ByteArray := prog_1_method_37_code
def yX7_could : MethodName := ⟨RX7, "could", "(I)I"⟩
abbrev cX7_aliveBy : ByteArray := prog_1_method_38_code
def yX7_aliveBy : MethodName := ⟨RX7, "aliveBy", "(II)I"⟩
abbrev cX7_look : ByteArray := prog_1_method_39_code
def yX7_look : MethodName := ⟨RX7, "look", "()I"⟩
abbrev cX7_lookLeaves : ByteArray := prog_1_method_40_code
def yX7_lookLeaves : MethodName := ⟨RX7, "lookLeaves", "()I"⟩
abbrev cX7_lawsLike : ByteArray := prog_1_method_41_code
def yX7_lawsLike : MethodName := ⟨RX7, "lawsLike", "()I"⟩
abbrev cX7_lawFor : ByteArray := prog_1_method_42_code
def yX7_lawFor : MethodName := ⟨RX7, "lawFo\x72", "(II)I"⟩
abbrev cX7_judge : ByteArray := prog_1_method_43_code
def yX7_judge : MethodName := ⟨RX7, "judge", "()I"⟩
abbrev cX7_dares : ByteArray := prog_1_method_44_code
def yX7_dares : MethodName := ⟨RX7, "dares", "(IZZZ)I"⟩
abbrev cX7_rests : ByteArray := prog_1_method_45_code
def yX7_rests : MethodName := ⟨RX7, "rests", "(I)I"⟩
abbrev cX7_rest : ByteArray := prog_1_method_46_code
def yX7_rest : MethodName := ⟨RX7, "rest", "(I)I"⟩
abbrev cX7_odds : ByteArray := prog_1_method_47_code
def yX7_odds : MethodName := ⟨RX7, "odds", "(IIZ)J"⟩
abbrev cX7_mean : ByteArray := prog_1_method_48_code
def yX7_mean : MethodName := ⟨RX7, "mean", "(IIZ)J"⟩
abbrev cX7_drawn : ByteArray := prog_1_method_49_code
def yX7_drawn : MethodName := ⟨RX7, "drawn", "(III)I"⟩
abbrev cX7_firstShut : ByteArray := prog_1_method_50_code
def yX7_firstShut : MethodName := ⟨RX7, "firstShut", "(II)I"⟩
abbrev cX7_go : ByteArray := prog_1_method_51_code
def yX7_go : MethodName := ⟨RX7, "go", "(I)I"⟩
abbrev cX7_put : ByteArray := prog_1_method_52_code
def yX7_put : MethodName := ⟨RX7, "put", "(I)I"⟩
abbrev cX7_wind : ByteArray := prog_1_method_53_code
def yX7_wind : MethodName := ⟨RX7, "wind", "(I)I"⟩
abbrev cX7_undo : ByteArray := prog_1_method_54_code
def yX7_undo : MethodName := ⟨RX7, "undo", "()Z"⟩
abbrev cX7_image : ByteArray := prog_1_method_55_code
def yX7_image : MethodName := ⟨RX7, "image", "()I"⟩
abbrev cX7_back : ByteArray := prog_1_method_56_code
def yX7_back : MethodName := ⟨RX7, "back", "(I)Z"⟩
abbrev cX7_led : ByteArray := prog_1_method_57_code
def yX7_led : MethodName := ⟨RX7, "led", "(I)I"⟩
abbrev cX7_size : ByteArray := prog_1_method_58_code
def yX7_size : MethodName := ⟨RX7, "size", "(I)I"⟩
abbrev cX7_trouble : ByteArray := prog_1_method_59_code
def yX7_trouble : MethodName := ⟨RX7, "trouble", "()I"⟩
abbrev cX7_answered : ByteArray := prog_1_method_60_code
def yX7_answered : MethodName := ⟨RX7, "answered", "(I)I"⟩
abbrev cX7_refused : ByteArray := prog_1_method_61_code
def yX7_refused : MethodName := ⟨RX7, "refused", "(I)I"⟩
abbrev cX7_within : ByteArray := prog_1_method_62_code
def yX7_within : MethodName := ⟨RX7, "within", "(III)Z"⟩
abbrev cX7_hasBit : ByteArray := prog_1_method_63_code
def yX7_hasBit : MethodName := ⟨RX7, "hasBit", "(II)Z"⟩
abbrev cX7_hasGallery : ByteArray := prog_1_method_64_code
def yX7_hasGallery : MethodName := ⟨RX7, "hasGallery", "()Z"⟩
abbrev cX7_isFigure : ByteArray := prog_1_method_65_code
def yX7_isFigure : MethodName := ⟨RX7, "isFigure", "(I)Z"⟩
abbrev cX7_isPlace : ByteArray := prog_1_method_66_code
def yX7_isPlace : MethodName := ⟨RX7, "isPlace", "(I)Z"⟩
abbrev cX7_isWatcher : ByteArray := prog_1_method_67_code
def yX7_isWatcher : MethodName := ⟨RX7, "isWatche\x72", "(I)Z"⟩
abbrev cX7_troubleOfNumber : ByteArray := prog_1_method_68_code
def yX7_troubleOfNumber : MethodName := ⟨RX7, "troubleOfNumbe\x72", "(III)I"⟩
abbrev cX7_troubleOfFigureWithin : ByteArray := prog_1_method_69_code
def yX7_troubleOfFigureWithin : MethodName := ⟨RX7, "troubleOfFigureWithin", "(III)I"⟩
abbrev cX7_turnFromNow : ByteArray := prog_1_method_70_code
def yX7_turnFromNow : MethodName := ⟨RX7, "turnFromNow", "(I)I"⟩
abbrev cX7_roundLength : ByteArray := prog_1_method_71_code
def yX7_roundLength : MethodName := ⟨RX7, "roundLength", "()I"⟩
abbrev cX7_laterTurn : ByteArray := prog_1_method_72_code
def yX7_laterTurn : MethodName := ⟨RX7, "laterTurn", "(IIIII)I"⟩
abbrev cX7_runAhead : ByteArray := prog_1_method_73_code
def yX7_runAhead : MethodName := ⟨RX7, "runAhead", "(I)V"⟩
abbrev cX7_passAhead : ByteArray := prog_1_method_74_code
def yX7_passAhead : MethodName := ⟨RX7, "passAhead", "(I)V"⟩
abbrev cX7_runAheadOnTrial : ByteArray := prog_1_method_75_code
def yX7_runAheadOnTrial : MethodName := ⟨RX7, "runAheadOnTrial", "(I)V"⟩
abbrev cX7_placeOfActing : ByteArray := prog_1_method_76_code
def yX7_placeOfActing : MethodName := ⟨RX7, "placeOfActing", "()I"⟩
abbrev cX7_minutesTillGone : ByteArray := prog_1_method_77_code
def yX7_minutesTillGone : MethodName := ⟨RX7, "minutesTillGone", "(LWaxTurns$Watchers;I)I"⟩
abbrev cX7_crowdAt : ByteArray := prog_1_method_78_code
def yX7_crowdAt : MethodName := ⟨RX7, "crowdAt", "(I)I"⟩
abbrev cX7_planRoutes : ByteArray := prog_1_method_79_code
def yX7_planRoutes : MethodName := ⟨RX7, "planRoutes", "(I)V"⟩
abbrev cX7_postsHold : ByteArray := prog_1_method_80_code
def yX7_postsHold : MethodName := ⟨RX7, "postsHold", "(II)Z"⟩
abbrev cX7_figureShare : ByteArray := prog_1_method_81_code
def yX7_figureShare : MethodName := ⟨RX7, "figureShare", "(IZZ)I"⟩
abbrev cX7_attendantShare : ByteArray := prog_1_method_82_code
def yX7_attendantShare : MethodName := ⟨RX7, "attendantShare", "(ZZ)I"⟩
abbrev cX7_isRest : ByteArray := prog_1_method_83_code
def yX7_isRest : MethodName := ⟨RX7, "isRest", "(IZZ)Z"⟩
abbrev cX7_ownTurns : ByteArray := prog_1_method_84_code
def yX7_ownTurns : MethodName := ⟨RX7, "ownTurns", "(II)I"⟩
abbrev cX7_inLowestTerms : ByteArray := prog_1_method_85_code
def yX7_inLowestTerms : MethodName := ⟨RX7, "inLowestTerms", "(JJZ)J"⟩
abbrev cX7_nextDraw : ByteArray := prog_1_method_86_code
def yX7_nextDraw : MethodName := ⟨RX7, "nextDraw", "(I)I"⟩
abbrev cX7_isShut : ByteArray := prog_1_method_87_code
def yX7_isShut : MethodName := ⟨RX7, "isShut", "(I)Z"⟩
def RX8 : String := "WaxTurnsModel"
def TX8 : u_T := fun k => match k with
  | 0 => ("WaxTurnsModel", "thrown", "I", false)
  | 1 => ("WaxTurnsModel", "tape", "[I", true)
  | 2 => ("WaxTurnsModel", "taped", "I", false)
  | 3 => ("WaxTurnsModel", "size", "I", false)
  | 4 => ("WaxTurnsModel", "at", "I", false)
  | 5 => ("WaxTurnsModel", "end", "I", false)
  | 6 => ("WaxTurnsModel", "token", "I", false)
  | 7 => ("WaxTurnsModel", "whole", "I", false)
  | 8 => ("WaxTurnsModel", "nameSize", "I", false)
  | 9 => ("WaxTurnsModel", "fault", "I", false)
  | 10 => ("WaxTurnsModel", "place", "I", false)
  | 11 => ("WaxTurnsModel", "trouble", "I", false)
  | 12 => ("WaxTurnsModel", "letters", "[I", true)
  | 13 => ("WaxTurnsModel", "failed", "Z", false)
  | 14 => ("WaxTurnsModel", "hasGallery", "Z", false)
  | 15 => ("WaxTurnsModel", "\x72", "[I", true)
  | 16 => ("WaxTurnsModel", "fresh", "[I", true)
  | 17 => ("WaxTurnsModel", "st", "[I", true)
  | 18 => ("WaxTurnsModel", "trial", "[I", true)
  | 19 => ("WaxTurnsModel", "undone", "[I", true)
  | 20 => ("WaxTurnsModel", "kept", "[I", true)
  | 21 => ("WaxTurnsModel", "undos", "I", false)
  | 22 => ("WaxTurnsModel", "images", "I", false)
  | 23 => ("WaxTurnsModel", "from", "[I", true)
  | 24 => ("WaxTurnsModel", "to", "[I", true)
  | 25 => ("WaxTurnsModel", "stood", "I", false)
  | 26 => ("WaxTurnsModel", "lived", "I", false)
  | 27 => ("WaxTurnsModel", "livedAt", "I", false)
  | 28 => ("WaxTurnsModel", "said", "I", false)
  | 29 => ("WaxTurnsModel", "row", "[I", true)
  | 30 => ("WaxTurnsModel", "settled", "I", false)
  | 31 => ("WaxTurnsModel", "again", "I", false)
  | 32 => ("WaxTurnsModel", "liveAt", "[I", true)
  | 33 => ("WaxTurnsModel", "with", "[I", true)
  | 34 => ("WaxTurnsModel", "metAt", "[I", true)
  | 35 => ("WaxTurnsModel", "often", "[I", true)
  | 36 => ("WaxTurnsModel", "leastLeft", "I", false)
  | 37 => ("WaxTurnsModel", "firstRest", "I", false)
  | 38 => ("WaxTurnsModel", "shutFirst", "I", false)
  | _ => ("WaxTurnsModel", "aliveOften", "I", false)
def tyX8 : Nat → FieldType := fun k => match k with
  | 0 => .int
  | 1 => .array .int
  | 2 => .int
  | 3 => .int
  | 4 => .int
  | 5 => .int
  | 6 => .int
  | 7 => .int
  | 8 => .int
  | 9 => .int
  | 10 => .int
  | 11 => .int
  | 12 => .array .int
  | 13 => .boolean
  | 14 => .boolean
  | 15 => .array .int
  | 16 => .array .int
  | 17 => .array .int
  | 18 => .array .int
  | 19 => .array .int
  | 20 => .array .int
  | 21 => .int
  | 22 => .int
  | 23 => .array .int
  | 24 => .array .int
  | 25 => .int
  | 26 => .int
  | 27 => .int
  | 28 => .int
  | 29 => .array .int
  | 30 => .int
  | 31 => .int
  | 32 => .array .int
  | 33 => .array .int
  | 34 => .array .int
  | 35 => .array .int
  | 36 => .int
  | 37 => .int
  | 38 => .int
  | _ => .int
abbrev wsX80 : List Cond := u_ws RX8 TX8 40
theorem nmX8 : ∀ a, a < 40 → ∀ b, b < 40 → a ≠ b → (TX8 a).2.1 ≠ (TX8 b).2.1 := by decide +kernel
theorem tyX8_ok : ∀ k, k < 40 → parseFieldDescriptor (TX8 k).2.2.1 = some (tyX8 k) := by decide +kernel
abbrev cX8_init : ByteArray := prog_10_method_1_code
def yX8_init : MethodName := ⟨RX8, "<init>", "()V"⟩
abbrev cX8_good : ByteArray := prog_10_method_3_code
def yX8_good : MethodName := ⟨RX8, "good", "()V"⟩
abbrev cX8_no : ByteArray := prog_10_method_4_code
def yX8_no : MethodName := ⟨RX8, "no", "(I)I"⟩
abbrev cX8_isNot : ByteArray := prog_10_method_5_code
def yX8_isNot : MethodName := ⟨RX8, "isNot", "(I)Z"⟩
abbrev cX8_in : ByteArray := prog_10_method_6_code
def yX8_in : MethodName := ⟨RX8, "in", "(III)Z"⟩
abbrev cX8_hasBit : ByteArray := prog_10_method_7_code
def yX8_hasBit : MethodName := ⟨RX8, "hasBit", "(II)Z"⟩
abbrev cX8_ones : ByteArray := prog_10_method_8_code
def yX8_ones : MethodName := ⟨RX8, "ones", "(I)I"⟩
abbrev cX8_copy : ByteArray := prog_10_method_9_code
def yX8_copy : MethodName := ⟨RX8, "copy", "([II[III)V"⟩
abbrev cX8_lowest : ByteArray := prog_10_method_10_code
def yX8_lowest : MethodName := ⟨RX8, "lowest", "(JJZ)J"⟩
abbrev cX8_feed : ByteArray := prog_10_method_11_code
def yX8_feed : MethodName := ⟨RX8, "feed", "(IIIII)I"⟩
abbrev cX8_see : ByteArray := prog_10_method_12_code
def yX8_see : MethodName := ⟨RX8, "see", "(I)I"⟩
abbrev cX8_isSmall : ByteArray := prog_10_method_13_code
def yX8_isSmall : MethodName := ⟨RX8, "isSmall", "(I)Z"⟩
abbrev cX8_isDigit : ByteArray := prog_10_method_14_code
def yX8_isDigit : MethodName := ⟨RX8, "isDigit", "(I)Z"⟩
abbrev cX8_next : ByteArray := prog_10_method_15_code
def yX8_next : MethodName := ⟨RX8, "next", "()V"⟩
abbrev cX8_wrong : ByteArray := prog_10_method_16_code
def yX8_wrong : MethodName := ⟨RX8, "wrong", "(II)V"⟩
abbrev cX8_isWord : ByteArray := prog_10_method_17_code
def yX8_isWord : MethodName := ⟨RX8, "isWord", "(Ljava/lang/String;)Z"⟩
abbrev cX8_takesWord : ByteArray := prog_10_method_18_code
def yX8_takesWord : MethodName := ⟨RX8, "takesWord", "(Ljava/lang/String;)Z"⟩
abbrev cX8_must : ByteArray := prog_10_method_19_code
def yX8_must : MethodName := ⟨RX8, "must", "(Ljava/lang/String;)V"⟩
abbrev cX8_isKnown : ByteArray := prog_10_method_20_code
def yX8_isKnown : MethodName := ⟨RX8, "isKnown", "()Z"⟩
abbrev cX8_newName : ByteArray := prog_10_method_21_code
def yX8_newName : MethodName := ⟨RX8, "newName", "(I)V"⟩
abbrev cX8_pass : ByteArray := prog_10_method_22_code
def yX8_pass : MethodName := ⟨RX8, "pass", "()V"⟩
abbrev cX8_numberHere : ByteArray := prog_10_method_23_code
def yX8_numberHere : MethodName := ⟨RX8, "numberHere", "(II)I"⟩
abbrev cX8_number : ByteArray := prog_10_method_24_code
def yX8_number : MethodName := ⟨RX8, "numbe\x72", "(II)I"⟩
abbrev cX8_after : ByteArray := prog_10_method_25_code
def yX8_after : MethodName := ⟨RX8, "afte\x72", "(Ljava/lang/String;II)I"⟩
abbrev cX8_gallery : ByteArray := prog_10_method_26_code
def yX8_gallery : MethodName := ⟨RX8, "gallery", "(I)I"⟩
abbrev cX8_begins : ByteArray := prog_10_method_27_code
def yX8_begins : MethodName := ⟨RX8, "begins", "(Ljava/lang/String;Z)Z"⟩
abbrev cX8_readLine : ByteArray := prog_10_method_28_code
def yX8_readLine : MethodName := ⟨RX8, "readLine", "()V"⟩
abbrev cX8_galleryLine : ByteArray := prog_10_method_29_code
def yX8_galleryLine : MethodName := ⟨RX8, "galleryLine", "()V"⟩
abbrev cX8_last : ByteArray := prog_10_method_30_code
def yX8_last : MethodName := ⟨RX8, "last", "()I"⟩
abbrev cX8_lawLine : ByteArray := prog_10_method_31_code
def yX8_lawLine : MethodName := ⟨RX8, "lawLine", "()V"⟩
abbrev cX8_figureLine : ByteArray := prog_10_method_32_code
def yX8_figureLine : MethodName := ⟨RX8, "figureLine", "()V"⟩
abbrev cX8_watcherLine : ByteArray := prog_10_method_33_code
def yX8_watcherLine : MethodName := ⟨RX8, "watcherLine", "()V"⟩
abbrev cX8_seenLine : ByteArray := prog_10_method_34_code
def yX8_seenLine : MethodName := ⟨RX8, "seenLine", "()V"⟩
abbrev cX8_fault : ByteArray := prog_10_method_35_code
def yX8_fault : MethodName := ⟨RX8, "fault", "()I"⟩
abbrev cX8_where : ByteArray := prog_10_method_36_code
def yX8_where : MethodName := ⟨RX8, "where", "()I"⟩
abbrev cX8_isFigure : ByteArray := prog_10_method_37_code
def yX8_isFigure : MethodName := ⟨RX8, "isFigure", "(I)Z"⟩
abbrev cX8_isWatcher : ByteArray := prog_10_method_38_code
def yX8_isWatcher : MethodName := ⟨RX8, "isWatche\x72", "(I)Z"⟩
abbrev cX8_why : ByteArray := prog_10_method_39_code
def yX8_why : MethodName := ⟨RX8, "why", "(ZZ)I"⟩
abbrev cX8_watchAsTold : ByteArray := prog_10_method_40_code
def yX8_watchAsTold : MethodName := ⟨RX8, "watchAsTold", "()V"⟩
abbrev cX8_watcherAt : ByteArray := prog_10_method_41_code
def yX8_watcherAt : MethodName := ⟨RX8, "watcherAt", "(II)I"⟩
abbrev cX8_isWatched : ByteArray := prog_10_method_42_code
def yX8_isWatched : MethodName := ⟨RX8, "isWatched", "(II)Z"⟩
abbrev cX8_nextOf : ByteArray := prog_10_method_43_code
def yX8_nextOf : MethodName := ⟨RX8, "nextOf", "(I)I"⟩
abbrev cX8_walkOn : ByteArray := prog_10_method_44_code
def yX8_walkOn : MethodName := ⟨RX8, "walkOn", "([II)V"⟩
abbrev cX8_speakOn : ByteArray := prog_10_method_45_code
def yX8_speakOn : MethodName := ⟨RX8, "speakOn", "([II)V"⟩
abbrev cX8_minuteOn : ByteArray := prog_10_method_46_code
def yX8_minuteOn : MethodName := ⟨RX8, "minuteOn", "([I)V"⟩
abbrev cX8_begin : ByteArray := prog_10_method_47_code
def yX8_begin : MethodName := ⟨RX8, "begin", "()V"⟩
abbrev cX8_minutesOn : ByteArray := prog_10_method_48_code
def yX8_minutesOn : MethodName := ⟨RX8, "minutesOn", "(I)V"⟩
abbrev cX8_figure : ByteArray := prog_10_method_49_code
def yX8_figure : MethodName := ⟨RX8, "figure", "(II)I"⟩
abbrev cX8_watcher : ByteArray := prog_10_method_50_code
def yX8_watcher : MethodName := ⟨RX8, "watche\x72", "(II)I"⟩
abbrev cX8_alive : ByteArray := prog_10_method_51_code
def yX8_alive : MethodName := ⟨RX8, "alive", "()I"⟩
abbrev cX8_left : ByteArray := prog_10_method_52_code
def yX8_left : MethodName := ⟨RX8, "left", "()I"⟩
abbrev cX8_caught : ByteArray := prog_10_method_53_code
def yX8_caught : MethodName := ⟨RX8, "caught", "()I"⟩
abbrev cX8_goRound : ByteArray := prog_10_method_54_code
def yX8_goRound : MethodName := ⟨RX8, "goRound", "()V"⟩
abbrev cX8_turnAt : ByteArray := prog_10_method_55_code
def yX8_turnAt : MethodName := ⟨RX8, "turnAt", "(I)I"⟩
abbrev cX8_turnOf : ByteArray := prog_10_method_56_code
def yX8_turnOf : MethodName := ⟨RX8, "turnOf", "(I)I"⟩
abbrev cX8_turnIn : ByteArray := prog_10_method_57_code
def yX8_turnIn : MethodName := ⟨RX8, "turnIn", "(I)I"⟩
abbrev cX8_settles : ByteArray := prog_10_method_58_code
def yX8_settles : MethodName := ⟨RX8, "settles", "()I"⟩
abbrev cX8_round : ByteArray := prog_10_method_59_code
def yX8_round : MethodName := ⟨RX8, "round", "()I"⟩
abbrev cX8_called : ByteArray := prog_10_method_60_code
def yX8_called : MethodName := ⟨RX8, "called", "()I"⟩
abbrev cX8_minutesOf : ByteArray := prog_10_method_61_code
def yX8_minutesOf : MethodName := ⟨RX8, "minutesOf", "(II)I"⟩
abbrev cX8_aheadWhy : ByteArray := prog_10_method_62_code
def yX8_aheadWhy : MethodName := ⟨RX8, "aheadWhy", "(ZII)I"⟩
abbrev cX8_place : ByteArray := prog_10_method_63_code
def yX8_place : MethodName := ⟨RX8, "place", "(II)I"⟩
abbrev cX8_watch : ByteArray := prog_10_method_64_code
def yX8_watch : MethodName := ⟨RX8, "watch", "(II)I"⟩
abbrev cX8_gone : ByteArray := prog_10_method_65_code
def yX8_gone : MethodName := ⟨RX8, "gone", "(I)I"⟩
abbrev cX8_nextGone : ByteArray := prog_10_method_66_code
def yX8_nextGone : MethodName := ⟨RX8, "nextGone", "()I"⟩
abbrev cX8_stairs : ByteArray := prog_10_method_67_code
def yX8_stairs : MethodName := ⟨RX8, "stairs", "()I"⟩
abbrev cX8_catches : ByteArray := prog_10_method_68_code
def yX8_catches : MethodName := ⟨RX8, "catches", "(I)I"⟩
abbrev cX8_heard : ByteArray := prog_10_method_69_code
def yX8_heard : MethodName := ⟨RX8, "heard", "(II)I"⟩
abbrev cX8_allIn : ByteArray := prog_10_method_70_code
def yX8_allIn : MethodName := ⟨RX8, "allIn", "(I)I"⟩
abbrev cX8_meets : ByteArray := prog_10_method_71_code
def yX8_meets : MethodName := ⟨RX8, "meets", "(I)I"⟩
abbrev cX8_crowd : ByteArray := prog_10_method_72_code
def yX8_crowd : MethodName := ⟨RX8, "crowd", "(I)I"⟩
abbrev cX8_between : ByteArray := prog_10_method_73_code
def yX8_between : MethodName := ⟨RX8, "between", "(II)I"⟩
abbrev cX8_farthest : ByteArray := prog_10_method_74_code
def yX8_farthest : MethodName := ⟨RX8, "farthest", "(I)I"⟩
abbrev cX8_nearBy : ByteArray := prog_10_method_75_code
def yX8_nearBy : MethodName := ⟨RX8, "nearBy", "(II)I"⟩
abbrev cX8_spoken : ByteArray := prog_10_method_76_code
def yX8_spoken : MethodName := ⟨RX8, "spoken", "(II)I"⟩
abbrev cX8_windBest : ByteArray := prog_10_method_77_code
def yX8_windBest : MethodName := ⟨RX8, "windBest", "()I"⟩
abbrev cX8_patrol : ByteArray := prog_10_method_78_code
def yX8_patrol : MethodName := ⟨RX8, "patrol", "(II)I"⟩
abbrev cX8_layRoute : ByteArray := prog_10_method_79_code
def yX8_layRoute : MethodName := ⟨RX8, "layRoute", "(I)V"⟩
abbrev cX8_bestFrom : ByteArray := prog_10_method_80_code
def yX8_bestFrom : MethodName := ⟨RX8, "bestFrom", "(IIZ)I"⟩
abbrev cX8_routeWhy : ByteArray := prog_10_method_81_code
def yX8_routeWhy : MethodName := ⟨RX8, "routeWhy", "(II)I"⟩
abbrev cX8_route : ByteArray := prog_10_method_82_code
def yX8_route : MethodName := ⟨RX8, "route", "(II)I"⟩
abbrev cX8_routeAt : ByteArray := prog_10_method_83_code
def yX8_routeAt : MethodName := ⟨RX8, "routeAt", "(III)I"⟩
abbrev cX8_stand : ByteArray := prog_10_method_84_code
def yX8_stand : MethodName := ⟨RX8, "stand", "(I)I"⟩
abbrev cX8_guard : ByteArray := prog_10_method_85_code
def yX8_guard : MethodName := ⟨RX8, "guard", "(I)I"⟩
abbrev cX8_turnBy : ByteArray := prog_10_method_86_code
def yX8_turnBy : MethodName := ⟨RX8, "turnBy", "(IIII)I"⟩
abbrev cX8_codes : ByteArray := prog_10_method_87_code
def yX8_codes : MethodName := ⟨RX8, "codes", "()I"⟩
abbrev cX8_byCode : ByteArray := prog_10_method_88_code
def yX8_byCode : MethodName := ⟨RX8, "byCode", "(II)I"⟩
abbrev cX8_numberOf : ByteArray := prog_10_method_89_code
def yX8_numberOf : MethodName := ⟨RX8, "numberOf", "(I)I"⟩
abbrev cX8_doesFit : ByteArray := prog_10_method_90_code
def yX8_doesFit : MethodName := ⟨RX8, "doesFit", "(I)Z"⟩
abbrev cX8_fits : ByteArray := prog_10_method_91_code
def yX8_fits : MethodName := ⟨RX8, "fits", "()I"⟩
abbrev cX8_fitAt : ByteArray := prog_10_method_92_code
def yX8_fitAt : MethodName := ⟨RX8, "fitAt", "(I)I"⟩
abbrev cX8_layOften : ByteArray := prog_10_method_93_code
def yX8_layOften : MethodName := ⟨RX8, "layOften", "(I)V"⟩
abbrev cX8_could : ByteArray := prog_10_method_94_code
def yX8_could : MethodName := ⟨RX8, "could", "(I)I"⟩
abbrev cX8_aliveBy : ByteArray := prog_10_method_95_code
def yX8_aliveBy : MethodName := ⟨RX8, "aliveBy", "(II)I"⟩
abbrev cX8_lookOf : ByteArray := prog_10_method_96_code
def yX8_lookOf : MethodName := ⟨RX8, "lookOf", "()I"⟩
abbrev cX8_look : ByteArray := prog_10_method_97_code
def yX8_look : MethodName := ⟨RX8, "look", "()I"⟩
abbrev cX8_lookLeaves : ByteArray := prog_10_method_98_code
def yX8_lookLeaves : MethodName := ⟨RX8, "lookLeaves", "()I"⟩
abbrev cX8_judge : ByteArray := prog_10_method_99_code
def yX8_judge : MethodName := ⟨RX8, "judge", "()I"⟩
abbrev cX8_lawsLike : ByteArray := prog_10_method_100_code
def yX8_lawsLike : MethodName := ⟨RX8, "lawsLike", "()I"⟩
abbrev cX8_lawFor : ByteArray := prog_10_method_101_code
def yX8_lawFor : MethodName := ⟨RX8, "lawFo\x72", "(II)I"⟩
abbrev cX8_figureHas : ByteArray := prog_10_method_102_code
def yX8_figureHas : MethodName := ⟨RX8, "figureHas", "(IZZ)I"⟩
abbrev cX8_otherHas : ByteArray := prog_10_method_103_code
def yX8_otherHas : MethodName := ⟨RX8, "otherHas", "(ZZ)I"⟩
abbrev cX8_dares : ByteArray := prog_10_method_104_code
def yX8_dares : MethodName := ⟨RX8, "dares", "(IZZZ)I"⟩
abbrev cX8_seekRests : ByteArray := prog_10_method_105_code
def yX8_seekRests : MethodName := ⟨RX8, "seekRests", "(I)I"⟩
abbrev cX8_rests : ByteArray := prog_10_method_106_code
def yX8_rests : MethodName := ⟨RX8, "rests", "(I)I"⟩
abbrev cX8_rest : ByteArray := prog_10_method_107_code
def yX8_rest : MethodName := ⟨RX8, "rest", "(I)I"⟩
abbrev cX8_turnsOf : ByteArray := prog_10_method_108_code
def yX8_turnsOf : MethodName := ⟨RX8, "turnsOf", "(II)I"⟩
abbrev cX8_odds : ByteArray := prog_10_method_109_code
def yX8_odds : MethodName := ⟨RX8, "odds", "(IIZ)J"⟩
abbrev cX8_mean : ByteArray := prog_10_method_110_code
def yX8_mean : MethodName := ⟨RX8, "mean", "(IIZ)J"⟩
abbrev cX8_drawWhy : ByteArray := prog_10_method_111_code
def yX8_drawWhy : MethodName := ⟨RX8, "drawWhy", "(ZIII)I"⟩
abbrev cX8_drawn : ByteArray := prog_10_method_112_code
def yX8_drawn : MethodName := ⟨RX8, "drawn", "(III)I"⟩
abbrev cX8_firstShut : ByteArray := prog_10_method_113_code
def yX8_firstShut : MethodName := ⟨RX8, "firstShut", "(II)I"⟩
abbrev cX8_note : ByteArray := prog_10_method_114_code
def yX8_note : MethodName := ⟨RX8, "note", "()V"⟩
abbrev cX8_go : ByteArray := prog_10_method_115_code
def yX8_go : MethodName := ⟨RX8, "go", "(I)I"⟩
abbrev cX8_put : ByteArray := prog_10_method_116_code
def yX8_put : MethodName := ⟨RX8, "put", "(I)I"⟩
abbrev cX8_wind : ByteArray := prog_10_method_117_code
def yX8_wind : MethodName := ⟨RX8, "wind", "(I)I"⟩
abbrev cX8_undo : ByteArray := prog_10_method_118_code
def yX8_undo : MethodName := ⟨RX8, "undo", "()Z"⟩
abbrev cX8_image : ByteArray := prog_10_method_119_code
def yX8_image : MethodName := ⟨RX8, "image", "()I"⟩
abbrev cX8_back : ByteArray := prog_10_method_120_code
def yX8_back : MethodName := ⟨RX8, "back", "(I)Z"⟩
abbrev cX8_led : ByteArray := prog_10_method_121_code
def yX8_led : MethodName := ⟨RX8, "led", "(I)I"⟩
abbrev cX8_size : ByteArray := prog_10_method_122_code
def yX8_size : MethodName := ⟨RX8, "size", "(I)I"⟩
abbrev cX8_trouble : ByteArray := prog_10_method_123_code
def yX8_trouble : MethodName := ⟨RX8, "trouble", "()I"⟩
def RJ6 : String := "java/lang/Intege\x72"
abbrev cJ6_bitCount_0f7a4 : ByteArray := prog_15_method_49_code
def yJ6_bitCount_0f7a4 : MethodName := ⟨RJ6, "bitCount", "(I)I"⟩
def RJ0 : String := "java/lang/String"
abbrev cJ0_length_8abf5 : ByteArray := prog_18_method_54_code
def yJ0_length_8abf5 : MethodName := ⟨RJ0, "length", "()I"⟩
abbrev cJ0_charAt_5068e : ByteArray := prog_18_method_56_code
def yJ0_charAt_5068e : MethodName := ⟨RJ0, "charAt", "(I)C"⟩
abbrev cJ0_coder_7d493 : ByteArray := prog_18_method_152_code
def yJ0_coder_7d493 : MethodName := ⟨RJ0, "code\x72", "()B"⟩
abbrev cJ0_isLatin1_aae02 : ByteArray := prog_18_method_154_code
def yJ0_isLatin1_aae02 : MethodName := ⟨RJ0, "isLatin1", "()Z"⟩
abbrev cJ0_checkIndex_df160 : ByteArray := prog_18_method_155_code
def yJ0_checkIndex_df160 : MethodName := ⟨RJ0, "checkIndex", "(II)V"⟩
def RJ1 : String := "java/lang/StringLatin1"
abbrev cJ1_charAt_3b067 : ByteArray := prog_19_method_2_code
def yJ1_charAt_3b067 : MethodName := ⟨RJ1, "charAt", "([BI)C"⟩
def RJ2 : String := "java/lang/StringUTF16"
abbrev cJ2_getChar_3b067 : ByteArray := prog_20_method_5_code
def yJ2_getChar_3b067 : MethodName := ⟨RJ2, "getCha\x72", "([BI)C"⟩
abbrev cJ2_length_9d52b : ByteArray := prog_20_method_6_code
def yJ2_length_9d52b : MethodName := ⟨RJ2, "length", "([B)I"⟩
abbrev cJ2_charAt_3b067 : ByteArray := prog_20_method_83_code
def yJ2_charAt_3b067 : MethodName := ⟨RJ2, "charAt", "([BI)C"⟩
abbrev cJ2_checkIndex_2214a : ByteArray := prog_20_method_91_code
def yJ2_checkIndex_2214a : MethodName := ⟨RJ2, "checkIndex", "(I[B)V"⟩
def RJ3 : String := "jdk/internal/util/Preconditions"
abbrev cJ3_checkIndex_8e157 : ByteArray := prog_25_method_11_code
def yJ3_checkIndex_8e157 : MethodName := ⟨RJ3, "checkIndex", "(IILjava/util/function/BiFunction;)I"⟩
def RL : String := "WaxTurnsLaw"
abbrev cL_led : ByteArray := method_3_code
def yL_led : MethodName := ⟨RL, "led", "(LWaxTurns;I[J)I"⟩
abbrev cL_law : ByteArray := code
end P02_names1_0
section P02_names1_0w
def zw0 : Cond := .methodLink RX6 3 objectInit
def zw1 : Cond := .instanceMethod objectInit
def zw2 : Cond := .code objectInit ⟨#[0xb1]⟩ 1 none
def zw3 : Cond := .arrayClass .int
def zw4 : Cond := .fieldLink RX6 9 "WaxTurns$Watchers" "from" "[I"
def zw5 : Cond := .fieldLink RX6 15 "WaxTurns$Watchers" "to" "[I"
def zw6 : Cond := .methodLink RX0 3 objectInit
def zw7 : Cond := .fieldLink RX0 9 "WaxTurns$Hall" "kinds" "[I"
def zw8 : Cond := .fieldLink RX0 15 "WaxTurns$Hall" "measures" "[I"
def zw9 : Cond := .fieldLink RX0 18 "WaxTurns$Hall" "seenFigures" "[I"
def zw10 : Cond := .fieldLink RX0 21 "WaxTurns$Hall" "seenMinutes" "[I"
def zw11 : Cond := .classLink RX0 24 RX6
def zw12 : Cond := .instantiable RX6 4
def zw13 : Cond := .initialized RX6
def zw14 : Cond := .fieldLink RX0 27 "WaxTurns$Hall" "watchers" "LWaxTurns$Watchers;"
def zw15 : Cond := .methodLink RX0 26 yX6_init
def zw16 : Cond := .instanceMethod yX6_init
def zw17 : Cond := .code yX6_init cX6_init 1 none
def zw18 : Cond := .fieldLink RX0 31 "WaxTurns$Hall" "figures" "I"
def zw19 : Cond := .fieldLink RX0 35 "WaxTurns$Hall" "lawTold" "Z"
def zw20 : Cond := .fieldLink RX0 39 "WaxTurns$Hall" "toldBits" "I"
def zw21 : Cond := .fieldLink RX0 42 "WaxTurns$Hall" "seenCount" "I"
def zw22 : Cond := .fieldLink RX0 45 "WaxTurns$Watchers" "count" "I"
def zw23 : Cond := .constant RJ6 265 (1431655765)
def zw24 : Cond := .constant RJ6 266 (858993459)
def zw25 : Cond := .constant RJ6 267 (252645135)
def zw26 : Cond := .fieldLink RX0 48 "WaxTurns$Hall" "span" "I"
def zw27 : Cond := .fieldLink RX0 51 "WaxTurns$Hall" "stairsPlace" "I"
def zw28 : Cond := .fieldLink RX0 54 "WaxTurns$Hall" "shut" "I"
def zw29 : Cond := .fieldLink RX0 63 "WaxTurns$Hall" "times" "I"
def zw30 : Cond := .fieldLink RX0 66 "WaxTurns$Hall" "plus" "I"
def zw31 : Cond := .fieldLink RX0 69 "WaxTurns$Hall" "first" "I"
def zw32 : Cond := .methodLink RX0 57 yJ6_bitCount_0f7a4
def zw33 : Cond := .static yJ6_bitCount_0f7a4
def zw34 : Cond := .initialized RJ6
def zw35 : Cond := .code yJ6_bitCount_0f7a4 cJ6_bitCount_0f7a4 1 (some .int)
def zw36 : Cond := .static yX7_laterTurn
def zw37 : Cond := .initialized RX7
def zw38 : Cond := .code yX7_laterTurn cX7_laterTurn 9 (some .int)
def zw39 : Cond := .methodLink RX0 76 yX0_next
def zw40 : Cond := .instanceMethod yX0_next
def zw41 : Cond := .selects RX0 yX0_next yX0_next
def zw42 : Cond := .initialized RX0
def zw43 : Cond := .code yX0_next cX0_next 2 (some .int)
def zw44 : Cond := .static yX7_within
def zw45 : Cond := .code yX7_within cX7_within 3 (some .boolean)
def zw46 : Cond := .fieldLink RX5 22 "WaxTurns$Scene" "goneBits" "I"
def zw47 : Cond := .static yX7_hasBit
def zw48 : Cond := .code yX7_hasBit cX7_hasBit 2 (some .boolean)
def zw49 : Cond := .fieldLink RX6 22 "WaxTurns$Watchers" "posts" "I"
def zw50 : Cond := .fieldLink RX6 18 "WaxTurns$Watchers" "count" "I"
def zw51 : Cond := .methodLink RX6 25 yX6_placeOf
def zw52 : Cond := .instanceMethod yX6_placeOf
def zw53 : Cond := .selects RX6 yX6_placeOf yX6_placeOf
def zw54 : Cond := .code yX6_placeOf cX6_placeOf 7 (some .int)
def zw55 : Cond := .fieldLink RX0 99 "WaxTurns$Scene" "places" "[I"
def zw56 : Cond := .fieldLink RX0 102 "WaxTurns$Scene" "minute" "I"
def zw57 : Cond := .fieldLink RX0 132 "WaxTurns$Scene" "catchCount" "I"
def zw58 : Cond := .fieldLink RX0 135 "WaxTurns$Scene" "goneBits" "I"
def zw59 : Cond := .methodLink RX0 122 yX5_isGone
def zw60 : Cond := .instanceMethod yX5_isGone
def zw61 : Cond := .selects RX5 yX5_isGone yX5_isGone
def zw62 : Cond := .initialized RX5
def zw63 : Cond := .code yX5_isGone cX5_isGone 2 (some .boolean)
def zw64 : Cond := .methodLink RX0 126 yX0_nearer
def zw65 : Cond := .instanceMethod yX0_nearer
def zw66 : Cond := .selects RX0 yX0_nearer yX0_nearer
def zw67 : Cond := .code yX0_nearer cX0_nearer 2 (some .int)
def zw68 : Cond := .methodLink RX0 105 yX6_placesIn
def zw69 : Cond := .instanceMethod yX6_placesIn
def zw70 : Cond := .selects RX6 yX6_placesIn yX6_placesIn
def zw71 : Cond := .code yX6_placesIn cX6_placesIn 4 (some .int)
def zw72 : Cond := .fieldLink RX5 32 "WaxTurns$Scene" "turn" "I"
def zw73 : Cond := .fieldLink RX5 35 "WaxTurns$Scene" "spent" "I"
def zw74 : Cond := .fieldLink RX0 79 "WaxTurns$Scene" "turn" "I"
def zw75 : Cond := .fieldLink RX0 84 "WaxTurns$Scene" "spent" "I"
def zw76 : Cond := .fieldLink RX0 111 "WaxTurns$Scene" "heardBits" "[I"
def zw77 : Cond := .methodLink RX0 87 yX0_stepsIn
def zw78 : Cond := .instanceMethod yX0_stepsIn
def zw79 : Cond := .selects RX0 yX0_stepsIn yX0_stepsIn
def zw80 : Cond := .code yX0_stepsIn cX0_stepsIn 4 (some .boolean)
def zw81 : Cond := .methodLink RX0 91 yX0_step
def zw82 : Cond := .instanceMethod yX0_step
def zw83 : Cond := .selects RX0 yX0_step yX0_step
def zw84 : Cond := .code yX0_step cX0_step 5 none
def zw85 : Cond := .methodLink RX0 95 yX0_partSaid
def zw86 : Cond := .instanceMethod yX0_partSaid
def zw87 : Cond := .selects RX0 yX0_partSaid yX0_partSaid
def zw88 : Cond := .code yX0_partSaid cX0_partSaid 4 (some .int)
def zw89 : Cond := .methodLink RX0 108 yX0_isHeardAt
def zw90 : Cond := .static yX0_isHeardAt
def zw91 : Cond := .code yX0_isHeardAt cX0_isHeardAt 2 (some .boolean)
def zw92 : Cond := .methodLink RX0 114 yX5_startTurn
def zw93 : Cond := .instanceMethod yX5_startTurn
def zw94 : Cond := .selects RX5 yX5_startTurn yX5_startTurn
def zw95 : Cond := .code yX5_startTurn cX5_startTurn 2 none
def zw96 : Cond := .methodLink RX5 3 objectInit
def zw97 : Cond := .fieldLink RX5 9 "WaxTurns$Scene" "places" "[I"
def zw98 : Cond := .fieldLink RX5 15 "WaxTurns$Scene" "heardBits" "[I"
def zw99 : Cond := .methodLink RX1 3 objectInit
def zw100 : Cond := .classLink RX1 9 RX5
def zw101 : Cond := .fieldLink RX1 11 "WaxTurns$History" "kept" "[LWaxTurns$Scene;"
def zw102 : Cond := .instantiable RX5 7
def zw103 : Cond := .fieldLink RX1 18 "WaxTurns$History" "images" "[LWaxTurns$Scene;"
def zw104 : Cond := .methodLink RX1 17 yX5_init
def zw105 : Cond := .instanceMethod yX5_init
def zw106 : Cond := .code yX5_init cX5_init 1 none
def zw107 : Cond := .fieldLink RX1 21 "WaxTurns$History" "keptCount" "I"
def zw108 : Cond := .fieldLink RX1 25 "WaxTurns$History" "imageCount" "I"
def zw109 : Cond := .fieldLink RX5 18 "WaxTurns$Scene" "minute" "I"
def zw110 : Cond := .fieldLink RX5 25 "WaxTurns$Scene" "catchCount" "I"
def zw111 : Cond := .fieldLink RX1 28 "WaxTurns$History" "latest" "I"
def zw112 : Cond := .methodLink RX1 35 Lib.Math.min.name
def zw113 : Cond := .static Lib.Math.min.name
def zw114 : Cond := .initialized "java/lang/Math"
def zw115 : Cond := .code Lib.Math.min.name Lib.Math.min.code 2 (some .int)
def zw116 : Cond := .methodLink RX1 31 yX5_copyFrom
def zw117 : Cond := .instanceMethod yX5_copyFrom
def zw118 : Cond := .selects RX5 yX5_copyFrom yX5_copyFrom
def zw119 : Cond := .code yX5_copyFrom cX5_copyFrom 3 none
def zw120 : Cond := .methodLink RX2 3 objectInit
def zw121 : Cond := .fieldLink RX2 9 "WaxTurns$Laws" "fitting" "[I"
def zw122 : Cond := .fieldLink RX2 15 "WaxTurns$Laws" "tallies" "[I"
def zw123 : Cond := .fieldLink RX2 18 "WaxTurns$Laws" "listed" "Z"
def zw124 : Cond := .fieldLink RX2 22 "WaxTurns$Laws" "looked" "Z"
def zw125 : Cond := .fieldLink RX2 38 "WaxTurns$Hall" "seenCount" "I"
def zw126 : Cond := .fieldLink RX2 41 "WaxTurns$Hall" "seenMinutes" "[I"
def zw127 : Cond := .fieldLink RX2 48 "WaxTurns$Hall" "seenFigures" "[I"
def zw128 : Cond := .fieldLink RX2 25 "WaxTurns$Laws" "fitCount" "I"
def zw129 : Cond := .methodLink RX2 44 yX0_aliveByLaw
def zw130 : Cond := .instanceMethod yX0_aliveByLaw
def zw131 : Cond := .selects RX0 yX0_aliveByLaw yX0_aliveByLaw
def zw132 : Cond := .code yX0_aliveByLaw cX0_aliveByLaw 4 (some .int)
def zw133 : Cond := .fieldLink RX2 29 "WaxTurns$Hall" "figures" "I"
def zw134 : Cond := .methodLink RX2 34 yX2_addIfFit
def zw135 : Cond := .instanceMethod yX2_addIfFit
def zw136 : Cond := .selects RX2 yX2_addIfFit yX2_addIfFit
def zw137 : Cond := .initialized RX2
def zw138 : Cond := .code yX2_addIfFit cX2_addIfFit 4 none
def zw139 : Cond := .methodLink RX2 72 Lib.Math.max.name
def zw140 : Cond := .static Lib.Math.max.name
def zw141 : Cond := .code Lib.Math.max.name Lib.Math.max.code 2 (some .int)
def zw142 : Cond := .fieldLink RX2 55 "WaxTurns$Laws" "lookMinute" "I"
def zw143 : Cond := .fieldLink RX2 58 "WaxTurns$Laws" "lookMost" "I"
def zw144 : Cond := .fieldLink RX2 61 "WaxTurns$Hall" "span" "I"
def zw145 : Cond := .methodLink RX2 51 yX2_list
def zw146 : Cond := .instanceMethod yX2_list
def zw147 : Cond := .selects RX2 yX2_list yX2_list
def zw148 : Cond := .code yX2_list cX2_list 5 none
def zw149 : Cond := .methodLink RX2 64 yX2_tally
def zw150 : Cond := .instanceMethod yX2_tally
def zw151 : Cond := .selects RX2 yX2_tally yX2_tally
def zw152 : Cond := .code yX2_tally cX2_tally 8 none
def zw153 : Cond := .methodLink RX2 68 yX2_mostOf
def zw154 : Cond := .instanceMethod yX2_mostOf
def zw155 : Cond := .selects RX2 yX2_mostOf yX2_mostOf
def zw156 : Cond := .code yX2_mostOf cX2_mostOf 4 (some .int)
def zw157 : Cond := .methodLink RX3 3 objectInit
def zw158 : Cond := .arrayClass .byte
def zw159 : Cond := .fieldLink RX3 9 "WaxTurns$Reade\x72" "tape" "[B"
def zw160 : Cond := .arrayClass .long
def zw161 : Cond := .fieldLink RX3 15 "WaxTurns$Reade\x72" "names" "[J"
def zw162 : Cond := .classLink RX3 19 RX0
def zw163 : Cond := .instantiable RX0 15
def zw164 : Cond := .fieldLink RX3 22 "WaxTurns$Reade\x72" "draft" "LWaxTurns$Hall;"
def zw165 : Cond := .methodLink RX3 21 yX0_init
def zw166 : Cond := .instanceMethod yX0_init
def zw167 : Cond := .code yX0_init cX0_init 1 none
def zw168 : Cond := .fieldLink RX3 26 "WaxTurns$Reade\x72" "tapeSize" "I"
def zw169 : Cond := .fieldLink RX3 81 "WaxTurns$Reade\x72" "word" "J"
def zw170 : Cond := .fieldLink RX3 51 "WaxTurns$Reade\x72" "behind" "I"
def zw171 : Cond := .fieldLink RX3 36 "WaxTurns$Reade\x72" "end" "I"
def zw172 : Cond := .fieldLink RX3 72 "WaxTurns$Reade\x72" "start" "I"
def zw173 : Cond := .fieldLink RX3 61 "WaxTurns$Reade\x72" "token" "I"
def zw174 : Cond := .fieldLink RX3 85 "WaxTurns$Reade\x72" "whole" "I"
def zw175 : Cond := .methodLink RX3 75 yX3_scanWord
def zw176 : Cond := .instanceMethod yX3_scanWord
def zw177 : Cond := .selects RX3 yX3_scanWord yX3_scanWord
def zw178 : Cond := .initialized RX3
def zw179 : Cond := .code yX3_scanWord cX3_scanWord 1 none
def zw180 : Cond := .methodLink RX3 78 yX3_scanWhole
def zw181 : Cond := .instanceMethod yX3_scanWhole
def zw182 : Cond := .selects RX3 yX3_scanWhole yX3_scanWhole
def zw183 : Cond := .code yX3_scanWhole cX3_scanWhole 1 none
def zw184 : Cond := .fieldLink RJ0 38 "java/lang/String" "COMPACT_STRINGS" "Z"
def zw185 : Cond := .fieldLink RJ0 15 "java/lang/String" "code\x72" "B"
def zw186 : Cond := .fieldLink RJ0 9 "java/lang/String" "value" "[B"
def zw187 : Cond := .methodLink RJ0 335 yJ0_coder_7d493
def zw188 : Cond := .instanceMethod yJ0_coder_7d493
def zw189 : Cond := .selects RJ0 yJ0_coder_7d493 yJ0_coder_7d493
def zw190 : Cond := .initialized RJ0
def zw191 : Cond := .code yJ0_coder_7d493 cJ0_coder_7d493 1 (some .byte)
def zw192 : Cond := .fieldLink RJ0 1053 "jdk/internal/util/Preconditions" "SIOOBE_FORMATTER" "Ljava/util/function/BiFunction;"
def zw193 : Cond := .methodLink RJ0 1059 yJ3_checkIndex_8e157
def zw194 : Cond := .static yJ3_checkIndex_8e157
def zw195 : Cond := .initialized RJ3
def zw196 : Cond := .code yJ3_checkIndex_8e157 cJ3_checkIndex_8e157 3 (some .int)
def zw197 : Cond := .methodLink RJ1 9 yJ0_checkIndex_df160
def zw198 : Cond := .static yJ0_checkIndex_df160
def zw199 : Cond := .code yJ0_checkIndex_df160 cJ0_checkIndex_df160 2 none
def zw200 : Cond := .methodLink RJ2 48 yJ2_length_9d52b
def zw201 : Cond := .static yJ2_length_9d52b
def zw202 : Cond := .initialized RJ2
def zw203 : Cond := .code yJ2_length_9d52b cJ2_length_9d52b 1 (some .int)
def zw204 : Cond := .methodLink RJ2 414 yJ0_checkIndex_df160
def zw205 : Cond := .fieldLink RJ2 44 "java/lang/StringUTF16" "$assertionsDisabled" "Z"
def zw206 : Cond := .fieldLink RJ2 59 "java/lang/StringUTF16" "HI_BYTE_SHIFT" "I"
def zw207 : Cond := .fieldLink RJ2 63 "java/lang/StringUTF16" "LO_BYTE_SHIFT" "I"
def zw208 : Cond := .methodLink RJ2 67 yJ2_checkIndex_2214a
def zw209 : Cond := .static yJ2_checkIndex_2214a
def zw210 : Cond := .code yJ2_checkIndex_2214a cJ2_checkIndex_2214a 2 none
def zw211 : Cond := .methodLink RJ2 71 yJ2_getChar_3b067
def zw212 : Cond := .static yJ2_getChar_3b067
def zw213 : Cond := .code yJ2_getChar_3b067 cJ2_getChar_3b067 2 (some .char)
def zw214 : Cond := .methodLink RJ0 492 yJ0_isLatin1_aae02
def zw215 : Cond := .instanceMethod yJ0_isLatin1_aae02
def zw216 : Cond := .selects RJ0 yJ0_isLatin1_aae02 yJ0_isLatin1_aae02
def zw217 : Cond := .code yJ0_isLatin1_aae02 cJ0_isLatin1_aae02 1 (some .boolean)
def zw218 : Cond := .methodLink RJ0 495 yJ1_charAt_3b067
def zw219 : Cond := .static yJ1_charAt_3b067
def zw220 : Cond := .initialized RJ1
def zw221 : Cond := .code yJ1_charAt_3b067 cJ1_charAt_3b067 2 (some .char)
def zw222 : Cond := .methodLink RJ0 498 yJ2_charAt_3b067
def zw223 : Cond := .static yJ2_charAt_3b067
def zw224 : Cond := .code yJ2_charAt_3b067 cJ2_charAt_3b067 2 (some .char)
def zw225 : Cond := .methodLink RX3 88 yJ0_length_8abf5
def zw226 : Cond := .instanceMethod yJ0_length_8abf5
def zw227 : Cond := .selects RJ0 yJ0_length_8abf5 yJ0_length_8abf5
def zw228 : Cond := .code yJ0_length_8abf5 cJ0_length_8abf5 1 (some .int)
def zw229 : Cond := .methodLink RX3 94 yJ0_charAt_5068e
def zw230 : Cond := .instanceMethod yJ0_charAt_5068e
def zw231 : Cond := .selects RJ0 yJ0_charAt_5068e yJ0_charAt_5068e
def zw232 : Cond := .code yJ0_charAt_5068e cJ0_charAt_5068e 2 (some .char)
def zw233 : Cond := .fieldLink RX3 45 "WaxTurns$Reade\x72" "faultNumbe\x72" "I"
def zw234 : Cond := .fieldLink RX3 48 "WaxTurns$Reade\x72" "faultPlace" "I"
def zw235 : Cond := .methodLink RX3 64 yX3_fails
def zw236 : Cond := .instanceMethod yX3_fails
def zw237 : Cond := .selects RX3 yX3_fails yX3_fails
def zw238 : Cond := .code yX3_fails cX3_fails 2 (some .boolean)
def zw239 : Cond := .fieldLink RX3 156 "WaxTurns$Reade\x72" "taken" "I"
def zw240 : Cond := .methodLink RX3 100 yX3_isWord
def zw241 : Cond := .instanceMethod yX3_isWord
def zw242 : Cond := .selects RX3 yX3_isWord yX3_isWord
def zw243 : Cond := .code yX3_isWord cX3_isWord 5 (some .boolean)
def zw244 : Cond := .methodLink RX3 54 yX3_advance
def zw245 : Cond := .instanceMethod yX3_advance
def zw246 : Cond := .selects RX3 yX3_advance yX3_advance
def zw247 : Cond := .code yX3_advance cX3_advance 1 none
def zw248 : Cond := .methodLink RX3 192 yX3_isWholeWithin
def zw249 : Cond := .instanceMethod yX3_isWholeWithin
def zw250 : Cond := .selects RX3 yX3_isWholeWithin yX3_isWholeWithin
def zw251 : Cond := .code yX3_isWholeWithin cX3_isWholeWithin 3 (some .boolean)
def zw252 : Cond := .fieldLink RX3 161 "WaxTurns$Hall" "span" "I"
def zw253 : Cond := .fieldLink RX3 165 "WaxTurns$Hall" "stairsPlace" "I"
def zw254 : Cond := .fieldLink RX3 170 "WaxTurns$Hall" "shut" "I"
def zw255 : Cond := .fieldLink RX3 104 "WaxTurns$Hall" "figures" "I"
def zw256 : Cond := .methodLink RX3 152 yX3_takeWhole
def zw257 : Cond := .instanceMethod yX3_takeWhole
def zw258 : Cond := .selects RX3 yX3_takeWhole yX3_takeWhole
def zw259 : Cond := .code yX3_takeWhole cX3_takeWhole 4 (some .boolean)
def zw260 : Cond := .fieldLink RX3 174 "WaxTurns$Hall" "times" "I"
def zw261 : Cond := .fieldLink RX3 178 "WaxTurns$Hall" "plus" "I"
def zw262 : Cond := .fieldLink RX3 182 "WaxTurns$Hall" "first" "I"
def zw263 : Cond := .fieldLink RX3 68 "WaxTurns$Hall" "lawTold" "Z"
def zw264 : Cond := .fieldLink RX3 42 "WaxTurns$Reade\x72" "nameCount" "I"
def zw265 : Cond := .fieldLink RX3 121 "WaxTurns$Hall" "toldBits" "I"
def zw266 : Cond := .methodLink RX3 184 yX3_takeName
def zw267 : Cond := .instanceMethod yX3_takeName
def zw268 : Cond := .selects RX3 yX3_takeName yX3_takeName
def zw269 : Cond := .code yX3_takeName cX3_takeName 2 (some .boolean)
def zw270 : Cond := .methodLink RX3 189 yX3_takeWord
def zw271 : Cond := .instanceMethod yX3_takeWord
def zw272 : Cond := .selects RX3 yX3_takeWord yX3_takeWord
def zw273 : Cond := .code yX3_takeWord cX3_takeWord 2 (some .boolean)
def zw274 : Cond := .methodLink RX3 203 yX0_addFigure
def zw275 : Cond := .instanceMethod yX0_addFigure
def zw276 : Cond := .selects RX0 yX0_addFigure yX0_addFigure
def zw277 : Cond := .code yX0_addFigure cX0_addFigure 4 none
def zw278 : Cond := .fieldLink RX3 133 "WaxTurns$Hall" "watchers" "LWaxTurns$Watchers;"
def zw279 : Cond := .methodLink RX3 211 yX6_add
def zw280 : Cond := .instanceMethod yX6_add
def zw281 : Cond := .selects RX6 yX6_add yX6_add
def zw282 : Cond := .code yX6_add cX6_add 3 none
def zw283 : Cond := .methodLink RX3 217 yX0_isSeenMinute
def zw284 : Cond := .instanceMethod yX0_isSeenMinute
def zw285 : Cond := .selects RX0 yX0_isSeenMinute yX0_isSeenMinute
def zw286 : Cond := .code yX0_isSeenMinute cX0_isSeenMinute 3 (some .boolean)
def zw287 : Cond := .methodLink RX3 220 yX0_addSeen
def zw288 : Cond := .instanceMethod yX0_addSeen
def zw289 : Cond := .selects RX0 yX0_addSeen yX0_addSeen
def zw290 : Cond := .code yX0_addSeen cX0_addSeen 3 none
def zw291 : Cond := .fieldLink RX3 137 "WaxTurns$Watchers" "count" "I"
def zw292 : Cond := .fieldLink RX3 145 "WaxTurns$Hall" "seenCount" "I"
def zw293 : Cond := .methodLink RX3 107 yX3_readHall
def zw294 : Cond := .instanceMethod yX3_readHall
def zw295 : Cond := .selects RX3 yX3_readHall yX3_readHall
def zw296 : Cond := .code yX3_readHall cX3_readHall 2 (some .boolean)
def zw297 : Cond := .methodLink RX3 118 yX3_readLaw
def zw298 : Cond := .instanceMethod yX3_readLaw
def zw299 : Cond := .selects RX3 yX3_readLaw yX3_readLaw
def zw300 : Cond := .code yX3_readLaw cX3_readLaw 1 (some .boolean)
def zw301 : Cond := .methodLink RX3 124 yJ6_bitCount_0f7a4
def zw302 : Cond := .methodLink RX3 130 yX3_readFigure
def zw303 : Cond := .instanceMethod yX3_readFigure
def zw304 : Cond := .selects RX3 yX3_readFigure yX3_readFigure
def zw305 : Cond := .code yX3_readFigure cX3_readFigure 3 (some .boolean)
def zw306 : Cond := .methodLink RX3 142 yX3_readWatcher
def zw307 : Cond := .instanceMethod yX3_readWatcher
def zw308 : Cond := .selects RX3 yX3_readWatcher yX3_readWatcher
def zw309 : Cond := .code yX3_readWatcher cX3_readWatcher 2 (some .boolean)
def zw310 : Cond := .methodLink RX3 148 yX3_readSeen
def zw311 : Cond := .instanceMethod yX3_readSeen
def zw312 : Cond := .selects RX3 yX3_readSeen yX3_readSeen
def zw313 : Cond := .code yX3_readSeen cX3_readSeen 2 (some .boolean)
def zw314 : Cond := .methodLink RX3 30 Lib.Math.min.name
def zw315 : Cond := .methodLink RX3 39 yX0_clear
def zw316 : Cond := .instanceMethod yX0_clear
def zw317 : Cond := .selects RX0 yX0_clear yX0_clear
def zw318 : Cond := .code yX0_clear cX0_clear 2 none
def zw319 : Cond := .methodLink RX3 57 yX3_readLine
def zw320 : Cond := .instanceMethod yX3_readLine
def zw321 : Cond := .selects RX3 yX3_readLine yX3_readLine
def zw322 : Cond := .code yX3_readLine cX3_readLine 1 (some .boolean)
def zw323 : Cond := .methodLink RX4 3 objectInit
def zw324 : Cond := .fieldLink RX4 9 "WaxTurns$Routes" "aims" "[I"
def zw325 : Cond := .fieldLink RX4 15 "WaxTurns$Routes" "bestBehind" "[I"
def zw326 : Cond := .fieldLink RX4 28 "WaxTurns$Routes" "figures" "I"
def zw327 : Cond := .methodLink RX4 35 yX4_worth
def zw328 : Cond := .instanceMethod yX4_worth
def zw329 : Cond := .selects RX4 yX4_worth yX4_worth
def zw330 : Cond := .initialized RX4
def zw331 : Cond := .code yX4_worth cX4_worth 3 (some .int)
def zw332 : Cond := .methodLink RX4 22 Lib.Math.min.name
def zw333 : Cond := .methodLink RX4 32 yX4_step
def zw334 : Cond := .instanceMethod yX4_step
def zw335 : Cond := .selects RX4 yX4_step yX4_step
def zw336 : Cond := .code yX4_step cX4_step 4 (some .int)
def zw337 : Cond := .methodLink RX5 28 yX5_startTurn
def zw338 : Cond := .methodLink RX7 3 objectInit
def zw339 : Cond := .classLink RX7 9 RX3
def zw340 : Cond := .instantiable RX3 14
def zw341 : Cond := .fieldLink RX7 12 "WaxTurns" "reade\x72" "LWaxTurns$Reader;"
def zw342 : Cond := .classLink RX7 16 RX5
def zw343 : Cond := .fieldLink RX7 19 "WaxTurns" "now" "LWaxTurns$Scene;"
def zw344 : Cond := .fieldLink RX7 23 "WaxTurns" "ahead" "LWaxTurns$Scene;"
def zw345 : Cond := .classLink RX7 26 RX6
def zw346 : Cond := .fieldLink RX7 29 "WaxTurns" "trial" "LWaxTurns$Watchers;"
def zw347 : Cond := .classLink RX7 33 RX1
def zw348 : Cond := .instantiable RX1 5
def zw349 : Cond := .initialized RX1
def zw350 : Cond := .fieldLink RX7 36 "WaxTurns" "history" "LWaxTurns$History;"
def zw351 : Cond := .classLink RX7 40 RX2
def zw352 : Cond := .instantiable RX2 7
def zw353 : Cond := .fieldLink RX7 43 "WaxTurns" "laws" "LWaxTurns$Laws;"
def zw354 : Cond := .classLink RX7 47 RX4
def zw355 : Cond := .instantiable RX4 3
def zw356 : Cond := .fieldLink RX7 50 "WaxTurns" "routes" "LWaxTurns$Routes;"
def zw357 : Cond := .classLink RX7 54 RX0
def zw358 : Cond := .fieldLink RX7 57 "WaxTurns" "hall" "LWaxTurns$Hall;"
def zw359 : Cond := .fieldLink RX7 61 "WaxTurns" "latestTrouble" "I"
def zw360 : Cond := .fieldLink RX7 65 "WaxTurns" "latestFault" "I"
def zw361 : Cond := .fieldLink RX7 68 "WaxTurns" "faultPlace" "I"
def zw362 : Cond := .methodLink RX7 11 yX3_init
def zw363 : Cond := .instanceMethod yX3_init
def zw364 : Cond := .code yX3_init cX3_init 1 none
def zw365 : Cond := .methodLink RX7 18 yX5_init
def zw366 : Cond := .methodLink RX7 28 yX6_init
def zw367 : Cond := .methodLink RX7 35 yX1_init
def zw368 : Cond := .instanceMethod yX1_init
def zw369 : Cond := .code yX1_init cX1_init 2 none
def zw370 : Cond := .methodLink RX7 42 yX2_init
def zw371 : Cond := .instanceMethod yX2_init
def zw372 : Cond := .code yX2_init cX2_init 1 none
def zw373 : Cond := .methodLink RX7 49 yX4_init
def zw374 : Cond := .instanceMethod yX4_init
def zw375 : Cond := .code yX4_init cX4_init 1 none
def zw376 : Cond := .methodLink RX7 56 yX0_init
def zw377 : Cond := .fieldLink RX7 71 "WaxTurns$Reade\x72" "tapeSize" "I"
def zw378 : Cond := .methodLink RX7 74 yX3_append
def zw379 : Cond := .instanceMethod yX3_append
def zw380 : Cond := .selects RX3 yX3_append yX3_append
def zw381 : Cond := .code yX3_append cX3_append 3 none
def zw382 : Cond := .fieldLink RX7 90 "WaxTurns$Reade\x72" "faultNumbe\x72" "I"
def zw383 : Cond := .fieldLink RX7 93 "WaxTurns$Reade\x72" "faultPlace" "I"
def zw384 : Cond := .fieldLink RX7 98 "WaxTurns$Hall" "first" "I"
def zw385 : Cond := .fieldLink RX7 110 "WaxTurns$Hall" "figures" "I"
def zw386 : Cond := .methodLink RX7 78 yX7_within
def zw387 : Cond := .methodLink RX7 82 yX7_refused
def zw388 : Cond := .instanceMethod yX7_refused
def zw389 : Cond := .selects RX7 yX7_refused yX7_refused
def zw390 : Cond := .code yX7_refused cX7_refused 2 (some .int)
def zw391 : Cond := .methodLink RX7 86 yX3_read
def zw392 : Cond := .instanceMethod yX3_read
def zw393 : Cond := .selects RX3 yX3_read yX3_read
def zw394 : Cond := .code yX3_read cX3_read 4 (some .boolean)
def zw395 : Cond := .methodLink RX7 94 yX3_exchange
def zw396 : Cond := .instanceMethod yX3_exchange
def zw397 : Cond := .selects RX3 yX3_exchange yX3_exchange
def zw398 : Cond := .code yX3_exchange cX3_exchange 3 (some (.object "WaxTurns$Hall"))
def zw399 : Cond := .methodLink RX7 101 yX5_begin
def zw400 : Cond := .instanceMethod yX5_begin
def zw401 : Cond := .selects RX5 yX5_begin yX5_begin
def zw402 : Cond := .code yX5_begin cX5_begin 3 none
def zw403 : Cond := .methodLink RX7 104 yX1_clear
def zw404 : Cond := .instanceMethod yX1_clear
def zw405 : Cond := .selects RX1 yX1_clear yX1_clear
def zw406 : Cond := .code yX1_clear cX1_clear 1 none
def zw407 : Cond := .methodLink RX7 107 yX2_forget
def zw408 : Cond := .instanceMethod yX2_forget
def zw409 : Cond := .selects RX2 yX2_forget yX2_forget
def zw410 : Cond := .code yX2_forget cX2_forget 1 none
def zw411 : Cond := .methodLink RX7 113 yX7_answered
def zw412 : Cond := .instanceMethod yX7_answered
def zw413 : Cond := .selects RX7 yX7_answered yX7_answered
def zw414 : Cond := .code yX7_answered cX7_answered 2 (some .int)
def zw415 : Cond := .fieldLink RX7 119 "WaxTurns$Hall" "kinds" "[I"
def zw416 : Cond := .fieldLink RX7 123 "WaxTurns$Hall" "measures" "[I"
def zw417 : Cond := .fieldLink RX7 126 "WaxTurns$Scene" "places" "[I"
def zw418 : Cond := .fieldLink RX7 132 "WaxTurns$Scene" "heardBits" "[I"
def zw419 : Cond := .methodLink RX7 116 yX7_isFigure
def zw420 : Cond := .instanceMethod yX7_isFigure
def zw421 : Cond := .selects RX7 yX7_isFigure yX7_isFigure
def zw422 : Cond := .code yX7_isFigure cX7_isFigure 2 (some .boolean)
def zw423 : Cond := .methodLink RX7 129 yX5_isGone
def zw424 : Cond := .fieldLink RX7 138 "WaxTurns$Hall" "watchers" "LWaxTurns$Watchers;"
def zw425 : Cond := .fieldLink RX7 361 "WaxTurns$Watchers" "count" "I"
def zw426 : Cond := .fieldLink RX7 141 "WaxTurns$Watchers" "from" "[I"
def zw427 : Cond := .fieldLink RX7 144 "WaxTurns$Watchers" "to" "[I"
def zw428 : Cond := .fieldLink RX7 147 "WaxTurns$Scene" "minute" "I"
def zw429 : Cond := .methodLink RX7 135 yX7_isWatcher
def zw430 : Cond := .instanceMethod yX7_isWatcher
def zw431 : Cond := .selects RX7 yX7_isWatcher yX7_isWatcher
def zw432 : Cond := .code yX7_isWatcher cX7_isWatcher 2 (some .boolean)
def zw433 : Cond := .methodLink RX7 150 yX6_placeOf
def zw434 : Cond := .fieldLink RX7 158 "WaxTurns$Scene" "turn" "I"
def zw435 : Cond := .methodLink RX7 154 yX7_hasGallery
def zw436 : Cond := .instanceMethod yX7_hasGallery
def zw437 : Cond := .selects RX7 yX7_hasGallery yX7_hasGallery
def zw438 : Cond := .code yX7_hasGallery cX7_hasGallery 1 (some .boolean)
def zw439 : Cond := .fieldLink RX7 161 "WaxTurns$Hall" "span" "I"
def zw440 : Cond := .fieldLink RX7 164 "WaxTurns$Scene" "spent" "I"
def zw441 : Cond := .fieldLink RX7 167 "WaxTurns$Scene" "catchCount" "I"
def zw442 : Cond := .fieldLink RX7 284 "WaxTurns$Hall" "times" "I"
def zw443 : Cond := .fieldLink RX7 287 "WaxTurns$Hall" "plus" "I"
def zw444 : Cond := .methodLink RX7 364 yX7_laterTurn
def zw445 : Cond := .constant RX7 170 (2000000000)
def zw446 : Cond := .methodLink RX7 171 yX7_turnFromNow
def zw447 : Cond := .instanceMethod yX7_turnFromNow
def zw448 : Cond := .selects RX7 yX7_turnFromNow yX7_turnFromNow
def zw449 : Cond := .code yX7_turnFromNow cX7_turnFromNow 2 (some .int)
def zw450 : Cond := .methodLink RX7 174 yX0_next
def zw451 : Cond := .methodLink RX7 177 yX7_roundLength
def zw452 : Cond := .instanceMethod yX7_roundLength
def zw453 : Cond := .selects RX7 yX7_roundLength yX7_roundLength
def zw454 : Cond := .code yX7_roundLength cX7_roundLength 4 (some .int)
def zw455 : Cond := .methodLink RX7 205 yX0_pass
def zw456 : Cond := .instanceMethod yX0_pass
def zw457 : Cond := .selects RX0 yX0_pass yX0_pass
def zw458 : Cond := .code yX0_pass cX0_pass 6 none
def zw459 : Cond := .methodLink RX7 194 yX5_copyFrom
def zw460 : Cond := .methodLink RX7 202 yX7_passAhead
def zw461 : Cond := .instanceMethod yX7_passAhead
def zw462 : Cond := .selects RX7 yX7_passAhead yX7_passAhead
def zw463 : Cond := .code yX7_passAhead cX7_passAhead 3 none
def zw464 : Cond := .methodLink RX7 181 yX7_troubleOfFigureWithin
def zw465 : Cond := .instanceMethod yX7_troubleOfFigureWithin
def zw466 : Cond := .selects RX7 yX7_troubleOfFigureWithin yX7_troubleOfFigureWithin
def zw467 : Cond := .code yX7_troubleOfFigureWithin cX7_troubleOfFigureWithin 4 (some .int)
def zw468 : Cond := .methodLink RX7 185 yX7_runAhead
def zw469 : Cond := .instanceMethod yX7_runAhead
def zw470 : Cond := .selects RX7 yX7_runAhead yX7_runAhead
def zw471 : Cond := .code yX7_runAhead cX7_runAhead 2 none
def zw472 : Cond := .fieldLink RX7 191 "WaxTurns$Scene" "goneBits" "I"
def zw473 : Cond := .methodLink RX7 188 yX7_troubleOfNumber
def zw474 : Cond := .instanceMethod yX7_troubleOfNumber
def zw475 : Cond := .selects RX7 yX7_troubleOfNumber yX7_troubleOfNumber
def zw476 : Cond := .code yX7_troubleOfNumber cX7_troubleOfNumber 4 (some .int)
def zw477 : Cond := .methodLink RX7 198 yX7_minutesTillGone
def zw478 : Cond := .instanceMethod yX7_minutesTillGone
def zw479 : Cond := .selects RX7 yX7_minutesTillGone yX7_minutesTillGone
def zw480 : Cond := .code yX7_minutesTillGone cX7_minutesTillGone 5 (some .int)
def zw481 : Cond := .methodLink RX7 209 yX7_placeOfActing
def zw482 : Cond := .instanceMethod yX7_placeOfActing
def zw483 : Cond := .selects RX7 yX7_placeOfActing yX7_placeOfActing
def zw484 : Cond := .code yX7_placeOfActing cX7_placeOfActing 2 (some .int)
def zw485 : Cond := .methodLink RX7 212 yX7_crowdAt
def zw486 : Cond := .instanceMethod yX7_crowdAt
def zw487 : Cond := .selects RX7 yX7_crowdAt yX7_crowdAt
def zw488 : Cond := .code yX7_crowdAt cX7_crowdAt 4 (some .int)
def zw489 : Cond := .methodLink RX7 215 Lib.Math.abs.name
def zw490 : Cond := .static Lib.Math.abs.name
def zw491 : Cond := .code Lib.Math.abs.name Lib.Math.abs.code 1 (some .int)
def zw492 : Cond := .methodLink RX7 220 yX6_placesIn
def zw493 : Cond := .methodLink RX7 223 yX7_hasBit
def zw494 : Cond := .methodLink RX7 227 yX0_partSaid
def zw495 : Cond := .methodLink RX7 368 yX4_aim
def zw496 : Cond := .instanceMethod yX4_aim
def zw497 : Cond := .selects RX4 yX4_aim yX4_aim
def zw498 : Cond := .code yX4_aim cX4_aim 3 none
def zw499 : Cond := .methodLink RX7 372 yX4_weigh
def zw500 : Cond := .instanceMethod yX4_weigh
def zw501 : Cond := .selects RX4 yX4_weigh yX4_weigh
def zw502 : Cond := .code yX4_weigh cX4_weigh 6 none
def zw503 : Cond := .methodLink RX7 230 yX7_isPlace
def zw504 : Cond := .instanceMethod yX7_isPlace
def zw505 : Cond := .selects RX7 yX7_isPlace yX7_isPlace
def zw506 : Cond := .code yX7_isPlace cX7_isPlace 2 (some .boolean)
def zw507 : Cond := .methodLink RX7 233 yX7_planRoutes
def zw508 : Cond := .instanceMethod yX7_planRoutes
def zw509 : Cond := .selects RX7 yX7_planRoutes yX7_planRoutes
def zw510 : Cond := .code yX7_planRoutes cX7_planRoutes 3 none
def zw511 : Cond := .methodLink RX7 236 yX4_minutesWith
def zw512 : Cond := .instanceMethod yX4_minutesWith
def zw513 : Cond := .selects RX4 yX4_minutesWith yX4_minutesWith
def zw514 : Cond := .code yX4_minutesWith cX4_minutesWith 2 (some .int)
def zw515 : Cond := .methodLink RX7 239 yX4_placeIn
def zw516 : Cond := .instanceMethod yX4_placeIn
def zw517 : Cond := .selects RX4 yX4_placeIn yX4_placeIn
def zw518 : Cond := .code yX4_placeIn cX4_placeIn 5 (some .int)
def zw519 : Cond := .fieldLink RX7 375 "WaxTurns$Watchers" "posts" "I"
def zw520 : Cond := .methodLink RX7 242 yX6_copyFrom
def zw521 : Cond := .instanceMethod yX6_copyFrom
def zw522 : Cond := .selects RX6 yX6_copyFrom yX6_copyFrom
def zw523 : Cond := .code yX6_copyFrom cX6_copyFrom 3 none
def zw524 : Cond := .methodLink RX7 245 yX7_postsHold
def zw525 : Cond := .instanceMethod yX7_postsHold
def zw526 : Cond := .selects RX7 yX7_postsHold yX7_postsHold
def zw527 : Cond := .code yX7_postsHold cX7_postsHold 3 (some .boolean)
def zw528 : Cond := .methodLink RX7 248 yX5_startTurn
def zw529 : Cond := .methodLink RX7 251 yX7_runAheadOnTrial
def zw530 : Cond := .instanceMethod yX7_runAheadOnTrial
def zw531 : Cond := .selects RX7 yX7_runAheadOnTrial yX7_runAheadOnTrial
def zw532 : Cond := .code yX7_runAheadOnTrial cX7_runAheadOnTrial 3 none
def zw533 : Cond := .methodLink RX7 254 yJ6_bitCount_0f7a4
def zw534 : Cond := .fieldLink RX7 263 "WaxTurns$Laws" "fitCount" "I"
def zw535 : Cond := .methodLink RX7 259 yX2_list
def zw536 : Cond := .fieldLink RX7 266 "WaxTurns$Laws" "fitting" "[I"
def zw537 : Cond := .methodLink RX7 269 yX0_aliveByLaw
def zw538 : Cond := .fieldLink RX7 275 "WaxTurns$Laws" "lookMinute" "I"
def zw539 : Cond := .methodLink RX7 272 yX2_chooseLook
def zw540 : Cond := .instanceMethod yX2_chooseLook
def zw541 : Cond := .selects RX2 yX2_chooseLook yX2_chooseLook
def zw542 : Cond := .code yX2_chooseLook cX2_chooseLook 5 none
def zw543 : Cond := .fieldLink RX7 278 "WaxTurns$Laws" "lookMost" "I"
def zw544 : Cond := .methodLink RX7 281 yX0_goesLike
def zw545 : Cond := .instanceMethod yX0_goesLike
def zw546 : Cond := .selects RX0 yX0_goesLike yX0_goesLike
def zw547 : Cond := .code yX0_goesLike cX0_goesLike 6 (some .boolean)
def zw548 : Cond := .fieldLink RX7 290 "WaxTurns$Hall" "seenCount" "I"
def zw549 : Cond := .fieldLink RX7 293 "WaxTurns$Hall" "seenMinutes" "[I"
def zw550 : Cond := .fieldLink RX7 296 "WaxTurns$Hall" "seenFigures" "[I"
def zw551 : Cond := .methodLink RX7 299 yX7_attendantShare
def zw552 : Cond := .static yX7_attendantShare
def zw553 : Cond := .code yX7_attendantShare cX7_attendantShare 2 (some .int)
def zw554 : Cond := .methodLink RX7 303 yX7_figureShare
def zw555 : Cond := .static yX7_figureShare
def zw556 : Cond := .code yX7_figureShare cX7_figureShare 3 (some .int)
def zw557 : Cond := .methodLink RX7 307 yX7_isRest
def zw558 : Cond := .static yX7_isRest
def zw559 : Cond := .code yX7_isRest cX7_isRest 3 (some .boolean)
def zw560 : Cond := .constantLong RX7 314 (100)
def zw561 : Cond := .fieldLink RX7 316 "WaxTurns$Hall" "shut" "I"
def zw562 : Cond := .methodLink RX7 311 yX7_ownTurns
def zw563 : Cond := .instanceMethod yX7_ownTurns
def zw564 : Cond := .selects RX7 yX7_ownTurns yX7_ownTurns
def zw565 : Cond := .code yX7_ownTurns cX7_ownTurns 6 (some .int)
def zw566 : Cond := .methodLink RX7 319 yX7_inLowestTerms
def zw567 : Cond := .static yX7_inLowestTerms
def zw568 : Cond := .code yX7_inLowestTerms cX7_inLowestTerms 12 (some .long)
def zw569 : Cond := .constant RX7 378 (65537)
def zw570 : Cond := .constant RX7 323 (65536)
def zw571 : Cond := .methodLink RX7 324 yX7_nextDraw
def zw572 : Cond := .static yX7_nextDraw
def zw573 : Cond := .code yX7_nextDraw cX7_nextDraw 1 (some .int)
def zw574 : Cond := .methodLink RX7 327 yX7_isShut
def zw575 : Cond := .instanceMethod yX7_isShut
def zw576 : Cond := .selects RX7 yX7_isShut yX7_isShut
def zw577 : Cond := .code yX7_isShut cX7_isShut 2 (some .boolean)
def zw578 : Cond := .methodLink RX7 330 yX1_keep
def zw579 : Cond := .instanceMethod yX1_keep
def zw580 : Cond := .selects RX1 yX1_keep yX1_keep
def zw581 : Cond := .code yX1_keep cX1_keep 2 none
def zw582 : Cond := .methodLink RX7 333 yX1_takeLatest
def zw583 : Cond := .instanceMethod yX1_takeLatest
def zw584 : Cond := .selects RX1 yX1_takeLatest yX1_takeLatest
def zw585 : Cond := .code yX1_takeLatest cX1_takeLatest 2 (some .boolean)
def zw586 : Cond := .fieldLink RX7 337 "WaxTurns$History" "imageCount" "I"
def zw587 : Cond := .methodLink RX7 340 yX1_addImage
def zw588 : Cond := .instanceMethod yX1_addImage
def zw589 : Cond := .selects RX1 yX1_addImage yX1_addImage
def zw590 : Cond := .code yX1_addImage cX1_addImage 2 (some .int)
def zw591 : Cond := .methodLink RX7 344 yX1_goBack
def zw592 : Cond := .instanceMethod yX1_goBack
def zw593 : Cond := .selects RX1 yX1_goBack yX1_goBack
def zw594 : Cond := .code yX1_goBack cX1_goBack 3 (some .boolean)
def zw595 : Cond := .fieldLink RX7 355 "WaxTurns$History" "keptCount" "I"
def zw596 : Cond := .methodLink RX7 358 yX0_sizeTold
def zw597 : Cond := .instanceMethod yX0_sizeTold
def zw598 : Cond := .selects RX0 yX0_sizeTold yX0_sizeTold
def zw599 : Cond := .code yX0_sizeTold cX0_sizeTold 2 (some .int)
def zw600 : Cond := .methodLink RX8 1 objectInit
def zw601 : Cond := .fieldLink RX8 7 "WaxTurnsModel" "tape" "[I"
def zw602 : Cond := .fieldLink RX8 13 "WaxTurnsModel" "place" "I"
def zw603 : Cond := .fieldLink RX8 17 "WaxTurnsModel" "letters" "[I"
def zw604 : Cond := .fieldLink RX8 20 "WaxTurnsModel" "\x72" "[I"
def zw605 : Cond := .fieldLink RX8 23 "WaxTurnsModel" "fresh" "[I"
def zw606 : Cond := .fieldLink RX8 26 "WaxTurnsModel" "st" "[I"
def zw607 : Cond := .fieldLink RX8 29 "WaxTurnsModel" "trial" "[I"
def zw608 : Cond := .fieldLink RX8 32 "WaxTurnsModel" "undone" "[I"
def zw609 : Cond := .fieldLink RX8 35 "WaxTurnsModel" "kept" "[I"
def zw610 : Cond := .fieldLink RX8 38 "WaxTurnsModel" "from" "[I"
def zw611 : Cond := .fieldLink RX8 41 "WaxTurnsModel" "to" "[I"
def zw612 : Cond := .fieldLink RX8 44 "WaxTurnsModel" "row" "[I"
def zw613 : Cond := .fieldLink RX8 47 "WaxTurnsModel" "liveAt" "[I"
def zw614 : Cond := .fieldLink RX8 50 "WaxTurnsModel" "with" "[I"
def zw615 : Cond := .fieldLink RX8 53 "WaxTurnsModel" "metAt" "[I"
def zw616 : Cond := .fieldLink RX8 56 "WaxTurnsModel" "often" "[I"
def zw617 : Cond := .fieldLink RX8 59 "WaxTurnsModel" "thrown" "I"
def zw618 : Cond := .fieldLink RX8 62 "WaxTurnsModel" "trouble" "I"
def zw619 : Cond := .fieldLink RX8 65 "WaxTurnsModel" "taped" "I"
def zw620 : Cond := .fieldLink RX8 68 "WaxTurnsModel" "size" "I"
def zw621 : Cond := .fieldLink RX8 71 "WaxTurnsModel" "end" "I"
def zw622 : Cond := .fieldLink RX8 78 "WaxTurnsModel" "at" "I"
def zw623 : Cond := .fieldLink RX8 81 "WaxTurnsModel" "nameSize" "I"
def zw624 : Cond := .fieldLink RX8 84 "WaxTurnsModel" "whole" "I"
def zw625 : Cond := .fieldLink RX8 87 "WaxTurnsModel" "token" "I"
def zw626 : Cond := .methodLink RX8 74 yX8_see
def zw627 : Cond := .instanceMethod yX8_see
def zw628 : Cond := .selects RX8 yX8_see yX8_see
def zw629 : Cond := .initialized RX8
def zw630 : Cond := .code yX8_see cX8_see 2 (some .int)
def zw631 : Cond := .methodLink RX8 90 yX8_isSmall
def zw632 : Cond := .static yX8_isSmall
def zw633 : Cond := .code yX8_isSmall cX8_isSmall 1 (some .boolean)
def zw634 : Cond := .methodLink RX8 94 yX8_isDigit
def zw635 : Cond := .static yX8_isDigit
def zw636 : Cond := .code yX8_isDigit cX8_isDigit 1 (some .boolean)
def zw637 : Cond := .fieldLink RX8 97 "WaxTurnsModel" "failed" "Z"
def zw638 : Cond := .fieldLink RX8 101 "WaxTurnsModel" "fault" "I"
def zw639 : Cond := .methodLink RX8 104 yJ0_length_8abf5
def zw640 : Cond := .methodLink RX8 110 yJ0_charAt_5068e
def zw641 : Cond := .methodLink RX8 114 yX8_isWord
def zw642 : Cond := .instanceMethod yX8_isWord
def zw643 : Cond := .selects RX8 yX8_isWord yX8_isWord
def zw644 : Cond := .code yX8_isWord cX8_isWord 4 (some .boolean)
def zw645 : Cond := .methodLink RX8 118 yX8_next
def zw646 : Cond := .instanceMethod yX8_next
def zw647 : Cond := .selects RX8 yX8_next yX8_next
def zw648 : Cond := .code yX8_next cX8_next 4 none
def zw649 : Cond := .methodLink RX8 121 yX8_takesWord
def zw650 : Cond := .instanceMethod yX8_takesWord
def zw651 : Cond := .selects RX8 yX8_takesWord yX8_takesWord
def zw652 : Cond := .code yX8_takesWord cX8_takesWord 2 (some .boolean)
def zw653 : Cond := .methodLink RX8 124 yX8_wrong
def zw654 : Cond := .instanceMethod yX8_wrong
def zw655 : Cond := .selects RX8 yX8_wrong yX8_wrong
def zw656 : Cond := .code yX8_wrong cX8_wrong 3 none
def zw657 : Cond := .methodLink RX8 138 yX8_isKnown
def zw658 : Cond := .instanceMethod yX8_isKnown
def zw659 : Cond := .selects RX8 yX8_isKnown yX8_isKnown
def zw660 : Cond := .code yX8_isKnown cX8_isKnown 4 (some .boolean)
def zw661 : Cond := .methodLink RX8 142 yX8_in
def zw662 : Cond := .static yX8_in
def zw663 : Cond := .code yX8_in cX8_in 3 (some .boolean)
def zw664 : Cond := .methodLink RX8 146 yX8_numberHere
def zw665 : Cond := .instanceMethod yX8_numberHere
def zw666 : Cond := .selects RX8 yX8_numberHere yX8_numberHere
def zw667 : Cond := .code yX8_numberHere cX8_numberHere 3 (some .int)
def zw668 : Cond := .methodLink RX8 150 yX8_pass
def zw669 : Cond := .instanceMethod yX8_pass
def zw670 : Cond := .selects RX8 yX8_pass yX8_pass
def zw671 : Cond := .code yX8_pass cX8_pass 1 none
def zw672 : Cond := .methodLink RX8 153 yX8_must
def zw673 : Cond := .instanceMethod yX8_must
def zw674 : Cond := .selects RX8 yX8_must yX8_must
def zw675 : Cond := .code yX8_must cX8_must 2 none
def zw676 : Cond := .methodLink RX8 157 yX8_number
def zw677 : Cond := .instanceMethod yX8_number
def zw678 : Cond := .selects RX8 yX8_number yX8_number
def zw679 : Cond := .code yX8_number cX8_number 4 (some .int)
def zw680 : Cond := .methodLink RX8 203 yX8_after
def zw681 : Cond := .instanceMethod yX8_after
def zw682 : Cond := .selects RX8 yX8_after yX8_after
def zw683 : Cond := .code yX8_after cX8_after 4 (some .int)
def zw684 : Cond := .methodLink RX8 215 yX8_last
def zw685 : Cond := .instanceMethod yX8_last
def zw686 : Cond := .selects RX8 yX8_last yX8_last
def zw687 : Cond := .code yX8_last cX8_last 1 (some .int)
def zw688 : Cond := .methodLink RX8 222 yX8_newName
def zw689 : Cond := .instanceMethod yX8_newName
def zw690 : Cond := .selects RX8 yX8_newName yX8_newName
def zw691 : Cond := .code yX8_newName cX8_newName 3 none
def zw692 : Cond := .methodLink RX8 182 yX8_galleryLine
def zw693 : Cond := .instanceMethod yX8_galleryLine
def zw694 : Cond := .selects RX8 yX8_galleryLine yX8_galleryLine
def zw695 : Cond := .code yX8_galleryLine cX8_galleryLine 1 none
def zw696 : Cond := .methodLink RX8 185 yX8_lawLine
def zw697 : Cond := .instanceMethod yX8_lawLine
def zw698 : Cond := .selects RX8 yX8_lawLine yX8_lawLine
def zw699 : Cond := .code yX8_lawLine cX8_lawLine 1 none
def zw700 : Cond := .methodLink RX8 188 yX8_begins
def zw701 : Cond := .instanceMethod yX8_begins
def zw702 : Cond := .selects RX8 yX8_begins yX8_begins
def zw703 : Cond := .code yX8_begins cX8_begins 3 (some .boolean)
def zw704 : Cond := .methodLink RX8 192 yX8_figureLine
def zw705 : Cond := .instanceMethod yX8_figureLine
def zw706 : Cond := .selects RX8 yX8_figureLine yX8_figureLine
def zw707 : Cond := .code yX8_figureLine cX8_figureLine 4 none
def zw708 : Cond := .methodLink RX8 195 yX8_watcherLine
def zw709 : Cond := .instanceMethod yX8_watcherLine
def zw710 : Cond := .selects RX8 yX8_watcherLine yX8_watcherLine
def zw711 : Cond := .code yX8_watcherLine cX8_watcherLine 2 none
def zw712 : Cond := .methodLink RX8 198 yX8_seenLine
def zw713 : Cond := .instanceMethod yX8_seenLine
def zw714 : Cond := .selects RX8 yX8_seenLine yX8_seenLine
def zw715 : Cond := .code yX8_seenLine cX8_seenLine 5 none
def zw716 : Cond := .fieldLink RX8 173 "WaxTurnsModel" "hasGallery" "Z"
def zw717 : Cond := .fieldLink RX8 176 "WaxTurnsModel" "undos" "I"
def zw718 : Cond := .fieldLink RX8 179 "WaxTurnsModel" "images" "I"
def zw719 : Cond := .methodLink RX8 160 yX8_good
def zw720 : Cond := .instanceMethod yX8_good
def zw721 : Cond := .selects RX8 yX8_good yX8_good
def zw722 : Cond := .code yX8_good cX8_good 1 none
def zw723 : Cond := .methodLink RX8 163 yX8_no
def zw724 : Cond := .instanceMethod yX8_no
def zw725 : Cond := .selects RX8 yX8_no yX8_no
def zw726 : Cond := .code yX8_no cX8_no 2 (some .int)
def zw727 : Cond := .methodLink RX8 166 yX8_readLine
def zw728 : Cond := .instanceMethod yX8_readLine
def zw729 : Cond := .selects RX8 yX8_readLine yX8_readLine
def zw730 : Cond := .code yX8_readLine cX8_readLine 1 none
def zw731 : Cond := .methodLink RX8 169 yX8_copy
def zw732 : Cond := .static yX8_copy
def zw733 : Cond := .code yX8_copy cX8_copy 6 none
def zw734 : Cond := .fieldLink RX8 235 "WaxTurnsModel" "stood" "I"
def zw735 : Cond := .methodLink RX8 238 yX8_hasBit
def zw736 : Cond := .static yX8_hasBit
def zw737 : Cond := .code yX8_hasBit cX8_hasBit 2 (some .boolean)
def zw738 : Cond := .methodLink RX8 242 yX8_watcherAt
def zw739 : Cond := .instanceMethod yX8_watcherAt
def zw740 : Cond := .selects RX8 yX8_watcherAt yX8_watcherAt
def zw741 : Cond := .code yX8_watcherAt cX8_watcherAt 6 (some .int)
def zw742 : Cond := .methodLink RX8 245 yX8_isWatched
def zw743 : Cond := .instanceMethod yX8_isWatched
def zw744 : Cond := .selects RX8 yX8_isWatched yX8_isWatched
def zw745 : Cond := .code yX8_isWatched cX8_isWatched 4 (some .boolean)
def zw746 : Cond := .fieldLink RX8 248 "WaxTurnsModel" "said" "I"
def zw747 : Cond := .fieldLink RX8 258 "WaxTurnsModel" "lived" "I"
def zw748 : Cond := .fieldLink RX8 261 "WaxTurnsModel" "livedAt" "I"
def zw749 : Cond := .methodLink RX8 251 yX8_walkOn
def zw750 : Cond := .instanceMethod yX8_walkOn
def zw751 : Cond := .selects RX8 yX8_walkOn yX8_walkOn
def zw752 : Cond := .code yX8_walkOn cX8_walkOn 3 none
def zw753 : Cond := .methodLink RX8 255 yX8_speakOn
def zw754 : Cond := .instanceMethod yX8_speakOn
def zw755 : Cond := .selects RX8 yX8_speakOn yX8_speakOn
def zw756 : Cond := .code yX8_speakOn cX8_speakOn 6 none
def zw757 : Cond := .methodLink RX8 264 yX8_nextOf
def zw758 : Cond := .instanceMethod yX8_nextOf
def zw759 : Cond := .selects RX8 yX8_nextOf yX8_nextOf
def zw760 : Cond := .code yX8_nextOf cX8_nextOf 2 (some .int)
def zw761 : Cond := .methodLink RX8 267 yX8_watchAsTold
def zw762 : Cond := .instanceMethod yX8_watchAsTold
def zw763 : Cond := .selects RX8 yX8_watchAsTold yX8_watchAsTold
def zw764 : Cond := .code yX8_watchAsTold cX8_watchAsTold 2 none
def zw765 : Cond := .methodLink RX8 270 yX8_begin
def zw766 : Cond := .instanceMethod yX8_begin
def zw767 : Cond := .selects RX8 yX8_begin yX8_begin
def zw768 : Cond := .code yX8_begin cX8_begin 1 none
def zw769 : Cond := .methodLink RX8 273 yX8_minuteOn
def zw770 : Cond := .instanceMethod yX8_minuteOn
def zw771 : Cond := .selects RX8 yX8_minuteOn yX8_minuteOn
def zw772 : Cond := .code yX8_minuteOn cX8_minuteOn 3 none
def zw773 : Cond := .methodLink RX8 277 yX8_isFigure
def zw774 : Cond := .instanceMethod yX8_isFigure
def zw775 : Cond := .selects RX8 yX8_isFigure yX8_isFigure
def zw776 : Cond := .code yX8_isFigure cX8_isFigure 2 (some .boolean)
def zw777 : Cond := .methodLink RX8 280 yX8_isWatcher
def zw778 : Cond := .instanceMethod yX8_isWatcher
def zw779 : Cond := .selects RX8 yX8_isWatcher yX8_isWatcher
def zw780 : Cond := .code yX8_isWatcher cX8_isWatcher 2 (some .boolean)
def zw781 : Cond := .fieldLink RX8 283 "WaxTurnsModel" "settled" "I"
def zw782 : Cond := .fieldLink RX8 286 "WaxTurnsModel" "again" "I"
def zw783 : Cond := .constant RX8 289 (2000000000)
def zw784 : Cond := .methodLink RX8 290 yX8_why
def zw785 : Cond := .instanceMethod yX8_why
def zw786 : Cond := .selects RX8 yX8_why yX8_why
def zw787 : Cond := .code yX8_why cX8_why 3 (some .int)
def zw788 : Cond := .methodLink RX8 294 yX8_goRound
def zw789 : Cond := .instanceMethod yX8_goRound
def zw790 : Cond := .selects RX8 yX8_goRound yX8_goRound
def zw791 : Cond := .code yX8_goRound cX8_goRound 4 none
def zw792 : Cond := .methodLink RX8 297 yX8_turnAt
def zw793 : Cond := .instanceMethod yX8_turnAt
def zw794 : Cond := .selects RX8 yX8_turnAt yX8_turnAt
def zw795 : Cond := .code yX8_turnAt cX8_turnAt 2 (some .int)
def zw796 : Cond := .methodLink RX8 300 yX8_aheadWhy
def zw797 : Cond := .instanceMethod yX8_aheadWhy
def zw798 : Cond := .selects RX8 yX8_aheadWhy yX8_aheadWhy
def zw799 : Cond := .code yX8_aheadWhy cX8_aheadWhy 4 (some .int)
def zw800 : Cond := .methodLink RX8 304 yX8_minutesOn
def zw801 : Cond := .instanceMethod yX8_minutesOn
def zw802 : Cond := .selects RX8 yX8_minutesOn yX8_minutesOn
def zw803 : Cond := .code yX8_minutesOn cX8_minutesOn 3 none
def zw804 : Cond := .methodLink RX8 307 yX8_nextGone
def zw805 : Cond := .instanceMethod yX8_nextGone
def zw806 : Cond := .selects RX8 yX8_nextGone yX8_nextGone
def zw807 : Cond := .code yX8_nextGone cX8_nextGone 3 (some .int)
def zw808 : Cond := .methodLink RX8 310 yX8_between
def zw809 : Cond := .static yX8_between
def zw810 : Cond := .code yX8_between cX8_between 2 (some .int)
def zw811 : Cond := .constant RX8 313 (100000000)
def zw812 : Cond := .methodLink RX8 314 yX8_ones
def zw813 : Cond := .static yX8_ones
def zw814 : Cond := .code yX8_ones cX8_ones 3 (some .int)
def zw815 : Cond := .methodLink RX8 317 yX8_bestFrom
def zw816 : Cond := .instanceMethod yX8_bestFrom
def zw817 : Cond := .selects RX8 yX8_bestFrom yX8_bestFrom
def zw818 : Cond := .code yX8_bestFrom cX8_bestFrom 9 (some .int)
def zw819 : Cond := .methodLink RX8 321 yX8_routeWhy
def zw820 : Cond := .instanceMethod yX8_routeWhy
def zw821 : Cond := .selects RX8 yX8_routeWhy yX8_routeWhy
def zw822 : Cond := .code yX8_routeWhy cX8_routeWhy 3 (some .int)
def zw823 : Cond := .methodLink RX8 324 yX8_layRoute
def zw824 : Cond := .instanceMethod yX8_layRoute
def zw825 : Cond := .selects RX8 yX8_layRoute yX8_layRoute
def zw826 : Cond := .code yX8_layRoute cX8_layRoute 4 none
def zw827 : Cond := .methodLink RX8 327 yX8_turnBy
def zw828 : Cond := .instanceMethod yX8_turnBy
def zw829 : Cond := .selects RX8 yX8_turnBy yX8_turnBy
def zw830 : Cond := .code yX8_turnBy cX8_turnBy 9 (some .int)
def zw831 : Cond := .methodLink RX8 331 yX8_byCode
def zw832 : Cond := .instanceMethod yX8_byCode
def zw833 : Cond := .selects RX8 yX8_byCode yX8_byCode
def zw834 : Cond := .code yX8_byCode cX8_byCode 3 (some .int)
def zw835 : Cond := .methodLink RX8 334 yX8_codes
def zw836 : Cond := .instanceMethod yX8_codes
def zw837 : Cond := .selects RX8 yX8_codes yX8_codes
def zw838 : Cond := .code yX8_codes cX8_codes 1 (some .int)
def zw839 : Cond := .methodLink RX8 337 yX8_doesFit
def zw840 : Cond := .instanceMethod yX8_doesFit
def zw841 : Cond := .selects RX8 yX8_doesFit yX8_doesFit
def zw842 : Cond := .code yX8_doesFit cX8_doesFit 3 (some .boolean)
def zw843 : Cond := .methodLink RX8 340 yX8_numberOf
def zw844 : Cond := .instanceMethod yX8_numberOf
def zw845 : Cond := .selects RX8 yX8_numberOf yX8_numberOf
def zw846 : Cond := .code yX8_numberOf cX8_numberOf 2 (some .int)
def zw847 : Cond := .methodLink RX8 343 yX8_layOften
def zw848 : Cond := .instanceMethod yX8_layOften
def zw849 : Cond := .selects RX8 yX8_layOften yX8_layOften
def zw850 : Cond := .code yX8_layOften cX8_layOften 3 none
def zw851 : Cond := .fieldLink RX8 346 "WaxTurnsModel" "leastLeft" "I"
def zw852 : Cond := .methodLink RX8 349 yX8_lookOf
def zw853 : Cond := .instanceMethod yX8_lookOf
def zw854 : Cond := .selects RX8 yX8_lookOf yX8_lookOf
def zw855 : Cond := .code yX8_lookOf cX8_lookOf 5 (some .int)
def zw856 : Cond := .methodLink RX8 352 yX8_otherHas
def zw857 : Cond := .static yX8_otherHas
def zw858 : Cond := .code yX8_otherHas cX8_otherHas 2 (some .int)
def zw859 : Cond := .methodLink RX8 355 yX8_figureHas
def zw860 : Cond := .static yX8_figureHas
def zw861 : Cond := .code yX8_figureHas cX8_figureHas 3 (some .int)
def zw862 : Cond := .fieldLink RX8 359 "WaxTurnsModel" "firstRest" "I"
def zw863 : Cond := .methodLink RX8 362 yX8_seekRests
def zw864 : Cond := .instanceMethod yX8_seekRests
def zw865 : Cond := .selects RX8 yX8_seekRests yX8_seekRests
def zw866 : Cond := .code yX8_seekRests cX8_seekRests 6 (some .int)
def zw867 : Cond := .constantLong RX8 368 (100)
def zw868 : Cond := .methodLink RX8 365 yX8_turnsOf
def zw869 : Cond := .instanceMethod yX8_turnsOf
def zw870 : Cond := .selects RX8 yX8_turnsOf yX8_turnsOf
def zw871 : Cond := .code yX8_turnsOf cX8_turnsOf 5 (some .int)
def zw872 : Cond := .methodLink RX8 370 yX8_lowest
def zw873 : Cond := .static yX8_lowest
def zw874 : Cond := .code yX8_lowest cX8_lowest 11 (some .long)
def zw875 : Cond := .constant RX8 374 (65536)
def zw876 : Cond := .fieldLink RX8 375 "WaxTurnsModel" "shutFirst" "I"
def zw877 : Cond := .fieldLink RX8 378 "WaxTurnsModel" "aliveOften" "I"
def zw878 : Cond := .constant RX8 381 (65537)
def zw879 : Cond := .methodLink RX8 382 yX8_drawWhy
def zw880 : Cond := .instanceMethod yX8_drawWhy
def zw881 : Cond := .selects RX8 yX8_drawWhy yX8_drawWhy
def zw882 : Cond := .code yX8_drawWhy cX8_drawWhy 9 (some .int)
def zw883 : Cond := .methodLink RX8 386 yX8_note
def zw884 : Cond := .instanceMethod yX8_note
def zw885 : Cond := .selects RX8 yX8_note yX8_note
def zw886 : Cond := .code yX8_note cX8_note 2 none
def zw887 : Cond := .methodLink RX8 389 yX8_isNot
def zw888 : Cond := .instanceMethod yX8_isNot
def zw889 : Cond := .selects RX8 yX8_isNot yX8_isNot
def zw890 : Cond := .code yX8_isNot cX8_isNot 2 (some .boolean)
end P02_names1_0w
section P02_names1_1
def wsX6_init : List Cond := .code yX6_init cX6_init 1 none :: ([zw0, zw1, zw2, zw3, zw4, zw5] ++ wsX60)
def wsX0_init : List Cond := .code yX0_init cX0_init 1 none :: ([zw6, zw1, zw2, zw3, zw7, zw8, zw9, zw10, zw11, zw12, zw13, zw14, zw15, zw16, zw17, zw0, zw4, zw5] ++ wsX00 ++ wsX60)
def wsX0_clear : List Cond := .code yX0_clear cX0_clear 2 none :: ([zw18, zw19, zw20, zw21, zw14, zw22, zw7, zw8] ++ wsX00 ++ wsX60)
def wsX0_addFigure : List Cond := .code yX0_addFigure cX0_addFigure 4 none :: ([zw20, zw7, zw8] ++ wsX00)
def wsX0_addSeen : List Cond := .code yX0_addSeen cX0_addSeen 3 none :: ([zw21, zw9, zw10] ++ wsX00)
def wsX0_isSeenMinute : List Cond := .code yX0_isSeenMinute cX0_isSeenMinute 3 (some .boolean) :: ([zw21, zw10] ++ wsX00)
def wsJ6_bitCount_0f7a4 : List Cond := .code yJ6_bitCount_0f7a4 cJ6_bitCount_0f7a4 1 (some .int) :: ([zw23, zw24, zw25])
def wsX0_sizeTold : List Cond := .code yX0_sizeTold cX0_sizeTold 2 (some .int) :: ([zw18, zw26, zw27, zw28, zw20, zw14, zw22, zw21, zw29, zw30, zw31, zw32, zw33, zw34, zw35, zw23, zw24, zw25] ++ wsX00 ++ wsX60)
def wsX0_next : List Cond := .code yX0_next cX0_next 2 (some .int) :: ([zw18, zw29, zw30] ++ wsX00)
def wsX7_laterTurn : List Cond := .code yX7_laterTurn cX7_laterTurn 9 (some .int) :: ([])
def wsX0_aliveByLaw : List Cond := .code yX0_aliveByLaw cX0_aliveByLaw 4 (some .int) :: ([zw26, zw18, zw36, zw37, zw38] ++ wsX00)
def wsX0_goesLike : List Cond := .code yX0_goesLike cX0_goesLike 6 (some .boolean) :: ([zw31, zw18, zw39, zw40, zw41, zw42, zw43, zw29, zw30] ++ wsX00)
def wsX7_within : List Cond := .code yX7_within cX7_within 3 (some .boolean) :: ([])
def wsX0_stepsIn : List Cond := .code yX0_stepsIn cX0_stepsIn 4 (some .boolean) :: ([zw7, zw8, zw44, zw37, zw45] ++ wsX00)
def wsX7_hasBit : List Cond := .code yX7_hasBit cX7_hasBit 2 (some .boolean) :: ([])
def wsX5_isGone : List Cond := .code yX5_isGone cX5_isGone 2 (some .boolean) :: ([zw46, zw47, zw37, zw48] ++ wsX50)
def wsX0_nearer : List Cond := .code yX0_nearer cX0_nearer 2 (some .int) :: ([zw27] ++ wsX00)
def wsX6_placeOf : List Cond := .code yX6_placeOf cX6_placeOf 7 (some .int) :: ([zw5, zw4] ++ wsX60)
def wsX6_placesIn : List Cond := .code yX6_placesIn cX6_placesIn 4 (some .int) :: ([zw49, zw50, zw51, zw52, zw53, zw13, zw54, zw5, zw4] ++ wsX60)
def wsX0_step_r1 : List Cond := [zw55, zw56, zw57, zw27, zw58, zw59, zw60, zw61, zw62, zw63, zw46, zw47, zw37, zw48, zw64, zw65, zw66, zw42, zw67, zw68, zw69, zw70, zw13, zw71]
def wsX0_step_r2 : List Cond := [zw49, zw50, zw51, zw52, zw53, zw54, zw5, zw4]
def wsX0_step : List Cond := .code yX0_step cX0_step 5 none :: ((wsX0_step_r1 ++ wsX0_step_r2) ++ wsX50 ++ wsX00 ++ wsX60)
def wsX0_partSaid : List Cond := .code yX0_partSaid cX0_partSaid 4 (some .int) :: ([zw7, zw8, zw44, zw37, zw45] ++ wsX00)
def wsX0_isHeardAt : List Cond := .code yX0_isHeardAt cX0_isHeardAt 2 (some .boolean) :: ([])
def wsX5_startTurn : List Cond := .code yX5_startTurn cX5_startTurn 2 none :: ([zw72, zw73] ++ wsX50)
def wsX0_pass_r1 : List Cond := [zw74, zw75, zw55, zw56, zw76, zw26, zw77, zw78, zw79, zw42, zw80, zw7, zw8, zw44, zw37, zw45, zw81, zw82, zw83, zw84, zw57, zw27, zw58, zw59]
def wsX0_pass_r2 : List Cond := [zw60, zw61, zw62, zw63, zw46, zw47, zw48, zw64, zw65, zw66, zw67, zw68, zw69, zw70, zw13, zw71, zw49, zw50, zw51, zw52, zw53, zw54, zw5, zw4]
def wsX0_pass_r3 : List Cond := [zw85, zw86, zw87, zw88, zw89, zw90, zw91, zw39, zw40, zw41, zw43, zw18, zw29, zw30, zw92, zw93, zw94, zw95, zw72, zw73]
def wsX0_pass : List Cond := .code yX0_pass cX0_pass 6 none :: ((wsX0_pass_r1 ++ (wsX0_pass_r2 ++ wsX0_pass_r3)) ++ wsX50 ++ wsX00 ++ wsX60)
def wsX5_init : List Cond := .code yX5_init cX5_init 1 none :: ([zw96, zw1, zw2, zw3, zw97, zw98] ++ wsX50)
def wsX1_init : List Cond := .code yX1_init cX1_init 2 none :: ([zw99, zw1, zw2, zw100, zw101, zw102, zw62, zw103, zw104, zw105, zw106, zw96, zw3, zw97, zw98] ++ wsX10 ++ wsX50)
def wsX1_clear : List Cond := .code yX1_clear cX1_clear 1 none :: ([zw107, zw108] ++ wsX10)
def wsX5_copyFrom : List Cond := .code yX5_copyFrom cX5_copyFrom 3 none :: ([zw109, zw72, zw73, zw46, zw110, zw97, zw98] ++ wsX50)
def wsX1_keep : List Cond := .code yX1_keep cX1_keep 2 none :: ([zw111, zw101, zw107, zw112, zw113, zw114, zw115, zw116, zw117, zw118, zw62, zw119, zw109, zw72, zw73, zw46, zw110, zw97, zw98] ++ wsX10 ++ wsX50)
def wsX1_takeLatest : List Cond := .code yX1_takeLatest cX1_takeLatest 2 (some .boolean) :: ([zw107, zw101, zw111, zw116, zw117, zw118, zw62, zw119, zw109, zw72, zw73, zw46, zw110, zw97, zw98] ++ wsX10 ++ wsX50)
def wsX1_addImage : List Cond := .code yX1_addImage cX1_addImage 2 (some .int) :: ([zw108, zw103, zw116, zw117, zw118, zw62, zw119, zw109, zw72, zw73, zw46, zw110, zw97, zw98] ++ wsX10 ++ wsX50)
def wsX1_goBack : List Cond := .code yX1_goBack cX1_goBack 3 (some .boolean) :: ([zw108, zw103, zw107, zw44, zw37, zw45, zw116, zw117, zw118, zw62, zw119, zw109, zw72, zw73, zw46, zw110, zw97, zw98] ++ wsX10 ++ wsX50)
def wsX2_init : List Cond := .code yX2_init cX2_init 1 none :: ([zw120, zw1, zw2, zw3, zw121, zw122] ++ wsX20)
def wsX2_forget : List Cond := .code yX2_forget cX2_forget 1 none :: ([zw123, zw124] ++ wsX20)
def wsX2_addIfFit : List Cond := .code yX2_addIfFit cX2_addIfFit 4 none :: ([zw125, zw126, zw127, zw128, zw121, zw129, zw130, zw131, zw42, zw132, zw26, zw18, zw36, zw37, zw38] ++ wsX00 ++ wsX20)
def wsX2_list : List Cond := .code yX2_list cX2_list 5 none :: ([zw123, zw128, zw133, zw134, zw135, zw136, zw137, zw138, zw125, zw126, zw127, zw121, zw129, zw130, zw131, zw42, zw132, zw26, zw18, zw36, zw37, zw38] ++ wsX20 ++ wsX00)
def wsX2_tally : List Cond := .code yX2_tally cX2_tally 8 none :: ([zw122, zw128, zw121] ++ wsX20)
def wsX2_mostOf : List Cond := .code yX2_mostOf cX2_mostOf 4 (some .int) :: ([zw122, zw139, zw140, zw114, zw141] ++ wsX20)
def wsX2_chooseLook_r1 : List Cond := [zw124, zw142, zw143, zw128, zw144, zw133, zw145, zw146, zw147, zw137, zw148, zw123, zw134, zw135, zw136, zw138, zw125, zw126, zw127, zw121, zw129, zw130, zw131, zw42]
def wsX2_chooseLook_r2 : List Cond := [zw132, zw26, zw18, zw36, zw37, zw38, zw149, zw150, zw151, zw152, zw122, zw153, zw154, zw155, zw156, zw139, zw140, zw114, zw141]
def wsX2_chooseLook : List Cond := .code yX2_chooseLook cX2_chooseLook 5 none :: ((wsX2_chooseLook_r1 ++ wsX2_chooseLook_r2) ++ wsX20 ++ wsX00)
def wsX3_init_r1 : List Cond := [zw157, zw1, zw2, zw158, zw159, zw160, zw161, zw162, zw163, zw42, zw164, zw165, zw166, zw167, zw6, zw3, zw7, zw8, zw9, zw10, zw11, zw12, zw13, zw14]
def wsX3_init_r2 : List Cond := [zw15, zw16, zw17, zw0, zw4, zw5]
def wsX3_init : List Cond := .code yX3_init cX3_init 1 none :: ((wsX3_init_r1 ++ wsX3_init_r2) ++ wsX30 ++ wsX00 ++ wsX60)
def wsX3_append : List Cond := .code yX3_append cX3_append 3 none :: ([zw168, zw159] ++ wsX30)
def wsX3_exchange : List Cond := .code yX3_exchange cX3_exchange 3 (some (.object "WaxTurns$Hall")) :: ([zw164] ++ wsX30)
def wsX3_scanWord : List Cond := .code yX3_scanWord cX3_scanWord 1 none :: ([zw169, zw170, zw171, zw159, zw172, zw173] ++ wsX30)
def wsX3_scanWhole : List Cond := .code yX3_scanWhole cX3_scanWhole 1 none :: ([zw174, zw170, zw171, zw159, zw172, zw173] ++ wsX30)
def wsX3_advance : List Cond := .code yX3_advance cX3_advance 1 none :: ([zw170, zw171, zw159, zw172, zw173, zw175, zw176, zw177, zw178, zw179, zw169, zw180, zw181, zw182, zw183, zw174] ++ wsX30)
def wsJ0_coder_7d493 : List Cond := .code yJ0_coder_7d493 cJ0_coder_7d493 1 (some .byte) :: ([zw184, zw185])
def wsJ0_length_8abf5 : List Cond := .code yJ0_length_8abf5 cJ0_length_8abf5 1 (some .int) :: ([zw186, zw187, zw188, zw189, zw190, zw191, zw184, zw185])
def wsJ0_isLatin1_aae02 : List Cond := .code yJ0_isLatin1_aae02 cJ0_isLatin1_aae02 1 (some .boolean) :: ([zw184, zw185])
def wsJ3_checkIndex_8e157 : List Cond := .code yJ3_checkIndex_8e157 cJ3_checkIndex_8e157 3 (some .int) :: ([])
def wsJ0_checkIndex_df160 : List Cond := .code yJ0_checkIndex_df160 cJ0_checkIndex_df160 2 none :: ([zw192, zw193, zw194, zw195, zw196])
def wsJ1_charAt_3b067 : List Cond := .code yJ1_charAt_3b067 cJ1_charAt_3b067 2 (some .char) :: ([zw197, zw198, zw190, zw199, zw192, zw193, zw194, zw195, zw196])
def wsJ0_charAt_5068e_r1 : List Cond := [zw186, zw214, zw215, zw216, zw190, zw217, zw184, zw185, zw218, zw219, zw220, zw221, zw197, zw198, zw199, zw192, zw193, zw194, zw195, zw196, zw222, zw223, zw202, zw224]
def wsJ0_charAt_5068e_r2 : List Cond := [zw208, zw209, zw210, zw200, zw201, zw203, zw204, zw211, zw212, zw213, zw205, zw206, zw207]
def wsJ0_charAt_5068e : List Cond := .code yJ0_charAt_5068e cJ0_charAt_5068e 2 (some .char) :: ((wsJ0_charAt_5068e_r1 ++ wsJ0_charAt_5068e_r2))
def wsX3_isWord_r1 : List Cond := [zw173, zw169, zw225, zw226, zw227, zw190, zw228, zw186, zw187, zw188, zw189, zw191, zw184, zw185, zw229, zw230, zw231, zw232, zw214, zw215, zw216, zw217, zw218, zw219]
def wsX3_isWord_r2 : List Cond := [zw220, zw221, zw197, zw198, zw199, zw192, zw193, zw194, zw195, zw196, zw222, zw223, zw202, zw224, zw208, zw209, zw210, zw200, zw201, zw203, zw204, zw211, zw212, zw213]
def wsX3_isWord_r3 : List Cond := [zw205, zw206, zw207]
def wsX3_isWord : List Cond := .code yX3_isWord cX3_isWord 5 (some .boolean) :: ((wsX3_isWord_r1 ++ (wsX3_isWord_r2 ++ wsX3_isWord_r3)) ++ wsX30)
def wsX3_fails : List Cond := .code yX3_fails cX3_fails 2 (some .boolean) :: ([zw233, zw172, zw234] ++ wsX30)
def wsX3_isWholeWithin : List Cond := .code yX3_isWholeWithin cX3_isWholeWithin 3 (some .boolean) :: ([zw173, zw174, zw235, zw236, zw237, zw178, zw238, zw233, zw172, zw234, zw44, zw37, zw45] ++ wsX30)
def wsX3_takeWhole_r1 : List Cond := [zw174, zw239, zw240, zw241, zw242, zw178, zw243, zw173, zw169, zw225, zw226, zw227, zw190, zw228, zw186, zw187, zw188, zw189, zw191, zw184, zw185, zw229, zw230, zw231]
def wsX3_takeWhole_r2 : List Cond := [zw232, zw214, zw215, zw216, zw217, zw218, zw219, zw220, zw221, zw197, zw198, zw199, zw192, zw193, zw194, zw195, zw196, zw222, zw223, zw202, zw224, zw208, zw209, zw210]
def wsX3_takeWhole_r3 : List Cond := [zw200, zw201, zw203, zw204, zw211, zw212, zw213, zw205, zw206, zw207, zw235, zw236, zw237, zw238, zw233, zw172, zw234, zw244, zw245, zw246, zw247, zw170, zw171, zw159]
def wsX3_takeWhole_r4 : List Cond := [zw175, zw176, zw177, zw179, zw180, zw181, zw182, zw183, zw248, zw249, zw250, zw251, zw44, zw37, zw45]
def wsX3_takeWhole : List Cond := .code yX3_takeWhole cX3_takeWhole 4 (some .boolean) :: ((wsX3_takeWhole_r1 ++ (wsX3_takeWhole_r2 ++ (wsX3_takeWhole_r3 ++ wsX3_takeWhole_r4))) ++ wsX30)
def wsX3_readHall_r1 : List Cond := [zw239, zw164, zw252, zw253, zw254, zw255, zw244, zw245, zw246, zw178, zw247, zw170, zw171, zw159, zw172, zw173, zw175, zw176, zw177, zw179, zw169, zw180, zw181, zw182]
def wsX3_readHall_r2 : List Cond := [zw183, zw174, zw256, zw257, zw258, zw259, zw240, zw241, zw242, zw243, zw225, zw226, zw227, zw190, zw228, zw186, zw187, zw188, zw189, zw191, zw184, zw185, zw229, zw230]
def wsX3_readHall_r3 : List Cond := [zw231, zw232, zw214, zw215, zw216, zw217, zw218, zw219, zw220, zw221, zw197, zw198, zw199, zw192, zw193, zw194, zw195, zw196, zw222, zw223, zw202, zw224, zw208, zw209]
def wsX3_readHall_r4 : List Cond := [zw210, zw200, zw201, zw203, zw204, zw211, zw212, zw213, zw205, zw206, zw207, zw235, zw236, zw237, zw238, zw233, zw234, zw248, zw249, zw250, zw251, zw44, zw37, zw45]
def wsX3_readHall : List Cond := .code yX3_readHall cX3_readHall 2 (some .boolean) :: ((wsX3_readHall_r1 ++ (wsX3_readHall_r2 ++ (wsX3_readHall_r3 ++ wsX3_readHall_r4))) ++ wsX30 ++ wsX00)
def wsX3_readLaw_r1 : List Cond := [zw164, zw255, zw239, zw260, zw261, zw262, zw263, zw244, zw245, zw246, zw178, zw247, zw170, zw171, zw159, zw172, zw173, zw175, zw176, zw177, zw179, zw169, zw180, zw181]
def wsX3_readLaw_r2 : List Cond := [zw182, zw183, zw174, zw256, zw257, zw258, zw259, zw240, zw241, zw242, zw243, zw225, zw226, zw227, zw190, zw228, zw186, zw187, zw188, zw189, zw191, zw184, zw185, zw229]
def wsX3_readLaw_r3 : List Cond := [zw230, zw231, zw232, zw214, zw215, zw216, zw217, zw218, zw219, zw220, zw221, zw197, zw198, zw199, zw192, zw193, zw194, zw195, zw196, zw222, zw223, zw202, zw224, zw208]
def wsX3_readLaw_r4 : List Cond := [zw209, zw210, zw200, zw201, zw203, zw204, zw211, zw212, zw213, zw205, zw206, zw207, zw235, zw236, zw237, zw238, zw233, zw234, zw248, zw249, zw250, zw251, zw44, zw37]
def wsX3_readLaw_r5 : List Cond := [zw45]
def wsX3_readLaw : List Cond := .code yX3_readLaw cX3_readLaw 1 (some .boolean) :: ((wsX3_readLaw_r1 ++ (wsX3_readLaw_r2 ++ (wsX3_readLaw_r3 ++ (wsX3_readLaw_r4 ++ wsX3_readLaw_r5)))) ++ wsX30 ++ wsX00)
def wsX3_takeName_r1 : List Cond := [zw173, zw264, zw161, zw169, zw240, zw241, zw242, zw178, zw243, zw225, zw226, zw227, zw190, zw228, zw186, zw187, zw188, zw189, zw191, zw184, zw185, zw229, zw230, zw231]
def wsX3_takeName_r2 : List Cond := [zw232, zw214, zw215, zw216, zw217, zw218, zw219, zw220, zw221, zw197, zw198, zw199, zw192, zw193, zw194, zw195, zw196, zw222, zw223, zw202, zw224, zw208, zw209, zw210]
def wsX3_takeName_r3 : List Cond := [zw200, zw201, zw203, zw204, zw211, zw212, zw213, zw205, zw206, zw207, zw235, zw236, zw237, zw238, zw233, zw172, zw234, zw244, zw245, zw246, zw247, zw170, zw171, zw159]
def wsX3_takeName_r4 : List Cond := [zw175, zw176, zw177, zw179, zw180, zw181, zw182, zw183, zw174]
def wsX3_takeName : List Cond := .code yX3_takeName cX3_takeName 2 (some .boolean) :: ((wsX3_takeName_r1 ++ (wsX3_takeName_r2 ++ (wsX3_takeName_r3 ++ wsX3_takeName_r4))) ++ wsX30)
def wsX3_takeWord_r1 : List Cond := [zw240, zw241, zw242, zw178, zw243, zw173, zw169, zw225, zw226, zw227, zw190, zw228, zw186, zw187, zw188, zw189, zw191, zw184, zw185, zw229, zw230, zw231, zw232, zw214]
def wsX3_takeWord_r2 : List Cond := [zw215, zw216, zw217, zw218, zw219, zw220, zw221, zw197, zw198, zw199, zw192, zw193, zw194, zw195, zw196, zw222, zw223, zw202, zw224, zw208, zw209, zw210, zw200, zw201]
def wsX3_takeWord_r3 : List Cond := [zw203, zw204, zw211, zw212, zw213, zw205, zw206, zw207, zw235, zw236, zw237, zw238, zw233, zw172, zw234, zw244, zw245, zw246, zw247, zw170, zw171, zw159, zw175, zw176]
def wsX3_takeWord_r4 : List Cond := [zw177, zw179, zw180, zw181, zw182, zw183, zw174]
def wsX3_takeWord : List Cond := .code yX3_takeWord cX3_takeWord 2 (some .boolean) :: ((wsX3_takeWord_r1 ++ (wsX3_takeWord_r2 ++ (wsX3_takeWord_r3 ++ wsX3_takeWord_r4))) ++ wsX30)
def wsX3_readFigure_r1 : List Cond := [zw164, zw255, zw174, zw265, zw239, zw244, zw245, zw246, zw178, zw247, zw170, zw171, zw159, zw172, zw173, zw175, zw176, zw177, zw179, zw169, zw180, zw181, zw182, zw183]
def wsX3_readFigure_r2 : List Cond := [zw266, zw267, zw268, zw269, zw264, zw161, zw240, zw241, zw242, zw243, zw225, zw226, zw227, zw190, zw228, zw186, zw187, zw188, zw189, zw191, zw184, zw185, zw229, zw230]
def wsX3_readFigure_r3 : List Cond := [zw231, zw232, zw214, zw215, zw216, zw217, zw218, zw219, zw220, zw221, zw197, zw198, zw199, zw192, zw193, zw194, zw195, zw196, zw222, zw223, zw202, zw224, zw208, zw209]
def wsX3_readFigure_r4 : List Cond := [zw210, zw200, zw201, zw203, zw204, zw211, zw212, zw213, zw205, zw206, zw207, zw235, zw236, zw237, zw238, zw233, zw234, zw270, zw271, zw272, zw273, zw248, zw249, zw250]
def wsX3_readFigure_r5 : List Cond := [zw251, zw44, zw37, zw45, zw47, zw48, zw256, zw257, zw258, zw259, zw274, zw275, zw276, zw42, zw277, zw20, zw7, zw8]
def wsX3_readFigure : List Cond := .code yX3_readFigure cX3_readFigure 3 (some .boolean) :: ((wsX3_readFigure_r1 ++ (wsX3_readFigure_r2 ++ (wsX3_readFigure_r3 ++ (wsX3_readFigure_r4 ++ wsX3_readFigure_r5)))) ++ wsX30 ++ wsX00)
def wsX6_add : List Cond := .code yX6_add cX6_add 3 none :: ([zw50, zw4, zw5] ++ wsX60)
def wsX3_readWatcher_r1 : List Cond := [zw164, zw255, zw239, zw278, zw244, zw245, zw246, zw178, zw247, zw170, zw171, zw159, zw172, zw173, zw175, zw176, zw177, zw179, zw169, zw180, zw181, zw182, zw183, zw174]
def wsX3_readWatcher_r2 : List Cond := [zw266, zw267, zw268, zw269, zw264, zw161, zw240, zw241, zw242, zw243, zw225, zw226, zw227, zw190, zw228, zw186, zw187, zw188, zw189, zw191, zw184, zw185, zw229, zw230]
def wsX3_readWatcher_r3 : List Cond := [zw231, zw232, zw214, zw215, zw216, zw217, zw218, zw219, zw220, zw221, zw197, zw198, zw199, zw192, zw193, zw194, zw195, zw196, zw222, zw223, zw202, zw224, zw208, zw209]
def wsX3_readWatcher_r4 : List Cond := [zw210, zw200, zw201, zw203, zw204, zw211, zw212, zw213, zw205, zw206, zw207, zw235, zw236, zw237, zw238, zw233, zw234, zw256, zw257, zw258, zw259, zw248, zw249, zw250]
def wsX3_readWatcher_r5 : List Cond := [zw251, zw44, zw37, zw45, zw279, zw280, zw281, zw13, zw282, zw50, zw4, zw5]
def wsX3_readWatcher : List Cond := .code yX3_readWatcher cX3_readWatcher 2 (some .boolean) :: ((wsX3_readWatcher_r1 ++ (wsX3_readWatcher_r2 ++ (wsX3_readWatcher_r3 ++ (wsX3_readWatcher_r4 ++ wsX3_readWatcher_r5)))) ++ wsX30 ++ wsX00 ++ wsX60)
def wsX3_readSeen_r1 : List Cond := [zw164, zw255, zw239, zw174, zw256, zw257, zw258, zw178, zw259, zw240, zw241, zw242, zw243, zw173, zw169, zw225, zw226, zw227, zw190, zw228, zw186, zw187, zw188, zw189]
def wsX3_readSeen_r2 : List Cond := [zw191, zw184, zw185, zw229, zw230, zw231, zw232, zw214, zw215, zw216, zw217, zw218, zw219, zw220, zw221, zw197, zw198, zw199, zw192, zw193, zw194, zw195, zw196, zw222]
def wsX3_readSeen_r3 : List Cond := [zw223, zw202, zw224, zw208, zw209, zw210, zw200, zw201, zw203, zw204, zw211, zw212, zw213, zw205, zw206, zw207, zw235, zw236, zw237, zw238, zw233, zw172, zw234, zw244]
def wsX3_readSeen_r4 : List Cond := [zw245, zw246, zw247, zw170, zw171, zw159, zw175, zw176, zw177, zw179, zw180, zw181, zw182, zw183, zw248, zw249, zw250, zw251, zw44, zw37, zw45, zw270, zw271, zw272]
def wsX3_readSeen_r5 : List Cond := [zw273, zw283, zw284, zw285, zw42, zw286, zw21, zw10, zw287, zw288, zw289, zw290, zw9]
def wsX3_readSeen : List Cond := .code yX3_readSeen cX3_readSeen 2 (some .boolean) :: ((wsX3_readSeen_r1 ++ (wsX3_readSeen_r2 ++ (wsX3_readSeen_r3 ++ (wsX3_readSeen_r4 ++ wsX3_readSeen_r5)))) ++ wsX30 ++ wsX00)
def wsX3_readLine_r1 : List Cond := [zw164, zw255, zw263, zw265, zw278, zw291, zw292, zw240, zw241, zw242, zw178, zw243, zw173, zw169, zw225, zw226, zw227, zw190, zw228, zw186, zw187, zw188, zw189, zw191]
def wsX3_readLine_r2 : List Cond := [zw184, zw185, zw229, zw230, zw231, zw232, zw214, zw215, zw216, zw217, zw218, zw219, zw220, zw221, zw197, zw198, zw199, zw192, zw193, zw194, zw195, zw196, zw222, zw223]
def wsX3_readLine_r3 : List Cond := [zw202, zw224, zw208, zw209, zw210, zw200, zw201, zw203, zw204, zw211, zw212, zw213, zw205, zw206, zw207, zw235, zw236, zw237, zw238, zw233, zw172, zw234, zw293, zw294]
def wsX3_readLine_r4 : List Cond := [zw295, zw296, zw239, zw252, zw253, zw254, zw244, zw245, zw246, zw247, zw170, zw171, zw159, zw175, zw176, zw177, zw179, zw180, zw181, zw182, zw183, zw174, zw256, zw257]
def wsX3_readLine_r5 : List Cond := [zw258, zw259, zw248, zw249, zw250, zw251, zw44, zw37, zw45, zw297, zw298, zw299, zw300, zw260, zw261, zw262, zw301, zw33, zw34, zw35, zw23, zw24, zw25, zw302]
def wsX3_readLine_r6 : List Cond := [zw303, zw304, zw305, zw266, zw267, zw268, zw269, zw264, zw161, zw270, zw271, zw272, zw273, zw47, zw48, zw274, zw275, zw276, zw42, zw277, zw20, zw7, zw8, zw306]
def wsX3_readLine_r7 : List Cond := [zw307, zw308, zw309, zw279, zw280, zw281, zw13, zw282, zw50, zw4, zw5, zw310, zw311, zw312, zw313, zw283, zw284, zw285, zw286, zw21, zw10, zw287, zw288, zw289]
def wsX3_readLine_r8 : List Cond := [zw290, zw9]
def wsX3_readLine : List Cond := .code yX3_readLine cX3_readLine 1 (some .boolean) :: ((wsX3_readLine_r1 ++ (wsX3_readLine_r2 ++ (wsX3_readLine_r3 ++ (wsX3_readLine_r4 ++ (wsX3_readLine_r5 ++ (wsX3_readLine_r6 ++ (wsX3_readLine_r7 ++ wsX3_readLine_r8))))))) ++ wsX30 ++ wsX00 ++ wsX60)
def wsX3_read_r1 : List Cond := [zw168, zw314, zw113, zw114, zw115, zw171, zw164, zw264, zw233, zw234, zw170, zw173, zw263, zw315, zw316, zw317, zw42, zw318, zw18, zw19, zw20, zw21, zw14, zw22]
def wsX3_read_r2 : List Cond := [zw7, zw8, zw244, zw245, zw246, zw178, zw247, zw159, zw172, zw175, zw176, zw177, zw179, zw169, zw180, zw181, zw182, zw183, zw174, zw319, zw320, zw321, zw322, zw255]
def wsX3_read_r3 : List Cond := [zw265, zw278, zw291, zw292, zw240, zw241, zw242, zw243, zw225, zw226, zw227, zw190, zw228, zw186, zw187, zw188, zw189, zw191, zw184, zw185, zw229, zw230, zw231, zw232]
def wsX3_read_r4 : List Cond := [zw214, zw215, zw216, zw217, zw218, zw219, zw220, zw221, zw197, zw198, zw199, zw192, zw193, zw194, zw195, zw196, zw222, zw223, zw202, zw224, zw208, zw209, zw210, zw200]
def wsX3_read_r5 : List Cond := [zw201, zw203, zw204, zw211, zw212, zw213, zw205, zw206, zw207, zw235, zw236, zw237, zw238, zw293, zw294, zw295, zw296, zw239, zw252, zw253, zw254, zw256, zw257, zw258]
def wsX3_read_r6 : List Cond := [zw259, zw248, zw249, zw250, zw251, zw44, zw37, zw45, zw297, zw298, zw299, zw300, zw260, zw261, zw262, zw301, zw33, zw34, zw35, zw23, zw24, zw25, zw302, zw303]
def wsX3_read_r7 : List Cond := [zw304, zw305, zw266, zw267, zw268, zw269, zw161, zw270, zw271, zw272, zw273, zw47, zw48, zw274, zw275, zw276, zw277, zw306, zw307, zw308, zw309, zw279, zw280, zw281]
def wsX3_read_r8 : List Cond := [zw13, zw282, zw50, zw4, zw5, zw310, zw311, zw312, zw313, zw283, zw284, zw285, zw286, zw10, zw287, zw288, zw289, zw290, zw9]
def wsX3_read : List Cond := .code yX3_read cX3_read 4 (some .boolean) :: ((wsX3_read_r1 ++ (wsX3_read_r2 ++ (wsX3_read_r3 ++ (wsX3_read_r4 ++ (wsX3_read_r5 ++ (wsX3_read_r6 ++ (wsX3_read_r7 ++ wsX3_read_r8))))))) ++ wsX30 ++ wsX00 ++ wsX60)
def wsX4_init : List Cond := .code yX4_init cX4_init 1 none :: ([zw323, zw1, zw2, zw3, zw324, zw325] ++ wsX40)
def wsX4_aim : List Cond := .code yX4_aim cX4_aim 3 none :: ([zw324, zw44, zw37, zw45] ++ wsX40)
def wsX4_worth : List Cond := .code yX4_worth cX4_worth 3 (some .int) :: ([zw325, zw324] ++ wsX40)
def wsX4_step : List Cond := .code yX4_step cX4_step 4 (some .int) :: ([zw326, zw327, zw328, zw329, zw330, zw331, zw325, zw324] ++ wsX40)
def wsX4_weigh : List Cond := .code yX4_weigh cX4_weigh 6 none :: ([zw332, zw113, zw114, zw115, zw326, zw325, zw333, zw334, zw335, zw330, zw336, zw327, zw328, zw329, zw331, zw324] ++ wsX40)
def wsX4_minutesWith : List Cond := .code yX4_minutesWith cX4_minutesWith 2 (some .int) :: ([zw326, zw325, zw44, zw37, zw45] ++ wsX40)
def wsX4_placeIn : List Cond := .code yX4_placeIn cX4_placeIn 5 (some .int) :: ([zw333, zw334, zw335, zw330, zw336, zw326, zw327, zw328, zw329, zw331, zw325, zw324] ++ wsX40)
def wsX5_begin : List Cond := .code yX5_begin cX5_begin 3 none :: ([zw109, zw46, zw110, zw97, zw98, zw337, zw93, zw94, zw62, zw95, zw72, zw73] ++ wsX50)
def wsX6_copyFrom : List Cond := .code yX6_copyFrom cX6_copyFrom 3 none :: ([zw50, zw49, zw4, zw5] ++ wsX60)
def wsX7_init_r1 : List Cond := [zw338, zw1, zw2, zw339, zw340, zw178, zw341, zw342, zw102, zw62, zw343, zw344, zw345, zw12, zw13, zw346, zw347, zw348, zw349, zw350, zw351, zw352, zw137, zw353]
def wsX7_init_r2 : List Cond := [zw354, zw355, zw330, zw356, zw357, zw163, zw42, zw358, zw359, zw360, zw361, zw362, zw363, zw364, zw157, zw158, zw159, zw160, zw161, zw162, zw164, zw165, zw166, zw167]
def wsX7_init_r3 : List Cond := [zw6, zw3, zw7, zw8, zw9, zw10, zw11, zw14, zw15, zw16, zw17, zw0, zw4, zw5, zw365, zw105, zw106, zw96, zw97, zw98, zw366, zw367, zw368, zw369]
def wsX7_init_r4 : List Cond := [zw99, zw100, zw101, zw103, zw104, zw370, zw371, zw372, zw120, zw121, zw122, zw373, zw374, zw375, zw323, zw324, zw325, zw376]
def wsX7_init : List Cond := .code yX7_init cX7_init 1 none :: ((wsX7_init_r1 ++ (wsX7_init_r2 ++ (wsX7_init_r3 ++ wsX7_init_r4))) ++ wsX30 ++ wsX70 ++ wsX50 ++ wsX60 ++ wsX10 ++ wsX20 ++ wsX40 ++ wsX00)
def wsX7_feed : List Cond := .code yX7_feed cX7_feed 6 (some .int) :: ([zw341, zw377, zw378, zw379, zw380, zw178, zw381, zw168, zw159] ++ wsX70 ++ wsX30)
def wsX7_refused : List Cond := .code yX7_refused cX7_refused 2 (some .int) :: ([zw359] ++ wsX70)
def wsX7_answered : List Cond := .code yX7_answered cX7_answered 2 (some .int) :: ([zw359] ++ wsX70)
def wsX7_gallery_r1 : List Cond := [zw341, zw377, zw382, zw360, zw383, zw361, zw358, zw343, zw384, zw350, zw353, zw385, zw386, zw44, zw37, zw45, zw387, zw388, zw389, zw390, zw359, zw391, zw392, zw393]
def wsX7_gallery_r2 : List Cond := [zw178, zw394, zw168, zw314, zw113, zw114, zw115, zw171, zw164, zw264, zw233, zw234, zw170, zw173, zw263, zw315, zw316, zw317, zw42, zw318, zw18, zw19, zw20, zw21]
def wsX7_gallery_r3 : List Cond := [zw14, zw22, zw7, zw8, zw244, zw245, zw246, zw247, zw159, zw172, zw175, zw176, zw177, zw179, zw169, zw180, zw181, zw182, zw183, zw174, zw319, zw320, zw321, zw322]
def wsX7_gallery_r4 : List Cond := [zw255, zw265, zw278, zw291, zw292, zw240, zw241, zw242, zw243, zw225, zw226, zw227, zw190, zw228, zw186, zw187, zw188, zw189, zw191, zw184, zw185, zw229, zw230, zw231]
def wsX7_gallery_r5 : List Cond := [zw232, zw214, zw215, zw216, zw217, zw218, zw219, zw220, zw221, zw197, zw198, zw199, zw192, zw193, zw194, zw195, zw196, zw222, zw223, zw202, zw224, zw208, zw209, zw210]
def wsX7_gallery_r6 : List Cond := [zw200, zw201, zw203, zw204, zw211, zw212, zw213, zw205, zw206, zw207, zw235, zw236, zw237, zw238, zw293, zw294, zw295, zw296, zw239, zw252, zw253, zw254, zw256, zw257]
def wsX7_gallery_r7 : List Cond := [zw258, zw259, zw248, zw249, zw250, zw251, zw297, zw298, zw299, zw300, zw260, zw261, zw262, zw301, zw33, zw34, zw35, zw23, zw24, zw25, zw302, zw303, zw304, zw305]
def wsX7_gallery_r8 : List Cond := [zw266, zw267, zw268, zw269, zw161, zw270, zw271, zw272, zw273, zw47, zw48, zw274, zw275, zw276, zw277, zw306, zw307, zw308, zw309, zw279, zw280, zw281, zw13, zw282]
def wsX7_gallery_r9 : List Cond := [zw50, zw4, zw5, zw310, zw311, zw312, zw313, zw283, zw284, zw285, zw286, zw10, zw287, zw288, zw289, zw290, zw9, zw395, zw396, zw397, zw398, zw399, zw400, zw401]
def wsX7_gallery_r10 : List Cond := [zw62, zw402, zw109, zw46, zw110, zw97, zw98, zw337, zw93, zw94, zw95, zw72, zw73, zw403, zw404, zw405, zw349, zw406, zw107, zw108, zw407, zw408, zw409, zw137]
def wsX7_gallery_r11 : List Cond := [zw410, zw123, zw124, zw411, zw412, zw413, zw414]
def wsX7_gallery : List Cond := .code yX7_gallery cX7_gallery 3 (some .int) :: ((wsX7_gallery_r1 ++ (wsX7_gallery_r2 ++ (wsX7_gallery_r3 ++ (wsX7_gallery_r4 ++ (wsX7_gallery_r5 ++ (wsX7_gallery_r6 ++ (wsX7_gallery_r7 ++ (wsX7_gallery_r8 ++ (wsX7_gallery_r9 ++ (wsX7_gallery_r10 ++ wsX7_gallery_r11)))))))))) ++ wsX70 ++ wsX30 ++ wsX00 ++ wsX60 ++ wsX50 ++ wsX10 ++ wsX20)
def wsX7_fault : List Cond := .code yX7_fault cX7_fault 1 (some .int) :: ([zw360] ++ wsX70)
def wsX7_where : List Cond := .code yX7_where cX7_where 1 (some .int) :: ([zw359, zw361] ++ wsX70)
def wsX7_isFigure : List Cond := .code yX7_isFigure cX7_isFigure 2 (some .boolean) :: ([zw358, zw385, zw386, zw44, zw37, zw45] ++ wsX70 ++ wsX00)
def wsX7_figure_r1 : List Cond := [zw358, zw415, zw416, zw343, zw417, zw418, zw419, zw420, zw421, zw37, zw422, zw385, zw386, zw44, zw45, zw387, zw388, zw389, zw390, zw359, zw411, zw412, zw413, zw414]
def wsX7_figure_r2 : List Cond := [zw423, zw60, zw61, zw62, zw63, zw46, zw47, zw48]
def wsX7_figure : List Cond := .code yX7_figure cX7_figure 3 (some .int) :: ((wsX7_figure_r1 ++ wsX7_figure_r2) ++ wsX70 ++ wsX00 ++ wsX50)
def wsX7_isWatcher : List Cond := .code yX7_isWatcher cX7_isWatcher 2 (some .boolean) :: ([zw358, zw424, zw425, zw386, zw44, zw37, zw45] ++ wsX70 ++ wsX00 ++ wsX60)
def wsX7_watcher_r1 : List Cond := [zw358, zw424, zw426, zw427, zw343, zw428, zw429, zw430, zw431, zw37, zw432, zw425, zw386, zw44, zw45, zw387, zw388, zw389, zw390, zw359, zw411, zw412, zw413, zw414]
def wsX7_watcher_r2 : List Cond := [zw433, zw52, zw53, zw13, zw54, zw5, zw4]
def wsX7_watcher : List Cond := .code yX7_watcher cX7_watcher 3 (some .int) :: ((wsX7_watcher_r1 ++ wsX7_watcher_r2) ++ wsX70 ++ wsX00 ++ wsX60 ++ wsX50)
def wsX7_hasGallery : List Cond := .code yX7_hasGallery cX7_hasGallery 1 (some .boolean) :: ([zw358, zw385] ++ wsX70 ++ wsX00)
def wsX7_alive : List Cond := .code yX7_alive cX7_alive 1 (some .int) :: ([zw343, zw434, zw435, zw436, zw437, zw37, zw438, zw358, zw385, zw387, zw388, zw389, zw390, zw359, zw411, zw412, zw413, zw414] ++ wsX70 ++ wsX50 ++ wsX00)
def wsX7_left : List Cond := .code yX7_left cX7_left 1 (some .int) :: ([zw358, zw439, zw343, zw440, zw435, zw436, zw437, zw37, zw438, zw385, zw387, zw388, zw389, zw390, zw359, zw411, zw412, zw413, zw414] ++ wsX70 ++ wsX00 ++ wsX50)
def wsX7_caught : List Cond := .code yX7_caught cX7_caught 1 (some .int) :: ([zw343, zw441, zw435, zw436, zw437, zw37, zw438, zw358, zw385, zw387, zw388, zw389, zw390, zw359, zw411, zw412, zw413, zw414] ++ wsX70 ++ wsX50 ++ wsX00)
def wsX7_turnFromNow : List Cond := .code yX7_turnFromNow cX7_turnFromNow 2 (some .int) :: ([zw358, zw385, zw442, zw443, zw343, zw434, zw444, zw36, zw37, zw38] ++ wsX70 ++ wsX00 ++ wsX50)
def wsX7_turnOf_r1 : List Cond := [zw445, zw435, zw436, zw437, zw37, zw438, zw358, zw385, zw387, zw388, zw389, zw390, zw359, zw386, zw44, zw45, zw446, zw447, zw448, zw449, zw442, zw443, zw343, zw434]
def wsX7_turnOf_r2 : List Cond := [zw444, zw36, zw38, zw411, zw412, zw413, zw414]
def wsX7_turnOf : List Cond := .code yX7_turnOf cX7_turnOf 2 (some .int) :: ((wsX7_turnOf_r1 ++ wsX7_turnOf_r2) ++ wsX70 ++ wsX00 ++ wsX50)
def wsX7_turnIn_r1 : List Cond := [zw343, zw434, zw358, zw385, zw419, zw420, zw421, zw37, zw422, zw386, zw44, zw45, zw387, zw388, zw389, zw390, zw359, zw411, zw412, zw413, zw414, zw450, zw40, zw41]
def wsX7_turnIn_r2 : List Cond := [zw42, zw43, zw18, zw29, zw30]
def wsX7_turnIn : List Cond := .code yX7_turnIn cX7_turnIn 4 (some .int) :: ((wsX7_turnIn_r1 ++ wsX7_turnIn_r2) ++ wsX70 ++ wsX50 ++ wsX00)
def wsX7_roundLength : List Cond := .code yX7_roundLength cX7_roundLength 4 (some .int) :: ([zw358, zw385, zw446, zw447, zw448, zw37, zw449, zw442, zw443, zw343, zw434, zw444, zw36, zw38, zw450, zw40, zw41, zw42, zw43, zw18, zw29, zw30] ++ wsX70 ++ wsX00 ++ wsX50)
def wsX7_settles_r1 : List Cond := [zw358, zw385, zw435, zw436, zw437, zw37, zw438, zw387, zw388, zw389, zw390, zw359, zw451, zw452, zw453, zw454, zw446, zw447, zw448, zw449, zw442, zw443, zw343, zw434]
def wsX7_settles_r2 : List Cond := [zw444, zw36, zw38, zw450, zw40, zw41, zw42, zw43, zw18, zw29, zw30, zw411, zw412, zw413, zw414]
def wsX7_settles : List Cond := .code yX7_settles cX7_settles 3 (some .int) :: ((wsX7_settles_r1 ++ wsX7_settles_r2) ++ wsX70 ++ wsX00 ++ wsX50)
def wsX7_round_r1 : List Cond := [zw435, zw436, zw437, zw37, zw438, zw358, zw385, zw387, zw388, zw389, zw390, zw359, zw451, zw452, zw453, zw454, zw446, zw447, zw448, zw449, zw442, zw443, zw343, zw434]
def wsX7_round_r2 : List Cond := [zw444, zw36, zw38, zw450, zw40, zw41, zw42, zw43, zw18, zw29, zw30, zw411, zw412, zw413, zw414]
def wsX7_round : List Cond := .code yX7_round cX7_round 1 (some .int) :: ((wsX7_round_r1 ++ wsX7_round_r2) ++ wsX70 ++ wsX00 ++ wsX50)
def wsX7_called_r1 : List Cond := [zw343, zw434, zw358, zw385, zw435, zw436, zw437, zw37, zw438, zw387, zw388, zw389, zw390, zw359, zw450, zw40, zw41, zw42, zw43, zw18, zw29, zw30, zw411, zw412]
def wsX7_called_r2 : List Cond := [zw413, zw414]
def wsX7_called : List Cond := .code yX7_called cX7_called 4 (some .int) :: ((wsX7_called_r1 ++ wsX7_called_r2) ++ wsX70 ++ wsX50 ++ wsX00)
def wsX7_minutesOf_r1 : List Cond := [zw343, zw434, zw440, zw358, zw439, zw419, zw420, zw421, zw37, zw422, zw385, zw386, zw44, zw45, zw387, zw388, zw389, zw390, zw359, zw450, zw40, zw41, zw42, zw43]
def wsX7_minutesOf_r2 : List Cond := [zw18, zw29, zw30, zw411, zw412, zw413, zw414]
def wsX7_minutesOf : List Cond := .code yX7_minutesOf cX7_minutesOf 7 (some .int) :: ((wsX7_minutesOf_r1 ++ wsX7_minutesOf_r2) ++ wsX70 ++ wsX50 ++ wsX00)
def wsX7_troubleOfFigureWithin : List Cond := .code yX7_troubleOfFigureWithin cX7_troubleOfFigureWithin 4 (some .int) :: ([zw419, zw420, zw421, zw37, zw422, zw358, zw385, zw386, zw44, zw45] ++ wsX70 ++ wsX00)
def wsX7_passAhead_r1 : List Cond := [zw358, zw344, zw424, zw455, zw456, zw457, zw42, zw458, zw74, zw75, zw55, zw56, zw76, zw26, zw77, zw78, zw79, zw80, zw7, zw8, zw44, zw37, zw45, zw81]
def wsX7_passAhead_r2 : List Cond := [zw82, zw83, zw84, zw57, zw27, zw58, zw59, zw60, zw61, zw62, zw63, zw46, zw47, zw48, zw64, zw65, zw66, zw67, zw68, zw69, zw70, zw13, zw71, zw49]
def wsX7_passAhead_r3 : List Cond := [zw50, zw51, zw52, zw53, zw54, zw5, zw4, zw85, zw86, zw87, zw88, zw89, zw90, zw91, zw39, zw40, zw41, zw43, zw18, zw29, zw30, zw92, zw93, zw94]
def wsX7_passAhead_r4 : List Cond := [zw95, zw72, zw73]
def wsX7_passAhead : List Cond := .code yX7_passAhead cX7_passAhead 3 none :: ((wsX7_passAhead_r1 ++ (wsX7_passAhead_r2 ++ (wsX7_passAhead_r3 ++ wsX7_passAhead_r4))) ++ wsX70 ++ wsX00 ++ wsX50 ++ wsX60)
def wsX7_runAhead_r1 : List Cond := [zw344, zw343, zw459, zw117, zw118, zw62, zw119, zw109, zw72, zw73, zw46, zw110, zw97, zw98, zw460, zw461, zw462, zw37, zw463, zw358, zw424, zw455, zw456, zw457]
def wsX7_runAhead_r2 : List Cond := [zw42, zw458, zw74, zw75, zw55, zw56, zw76, zw26, zw77, zw78, zw79, zw80, zw7, zw8, zw44, zw45, zw81, zw82, zw83, zw84, zw57, zw27, zw58, zw59]
def wsX7_runAhead_r3 : List Cond := [zw60, zw61, zw63, zw47, zw48, zw64, zw65, zw66, zw67, zw68, zw69, zw70, zw13, zw71, zw49, zw50, zw51, zw52, zw53, zw54, zw5, zw4, zw85, zw86]
def wsX7_runAhead_r4 : List Cond := [zw87, zw88, zw89, zw90, zw91, zw39, zw40, zw41, zw43, zw18, zw29, zw30, zw92, zw93, zw94, zw95]
def wsX7_runAhead : List Cond := .code yX7_runAhead cX7_runAhead 2 none :: ((wsX7_runAhead_r1 ++ (wsX7_runAhead_r2 ++ (wsX7_runAhead_r3 ++ wsX7_runAhead_r4))) ++ wsX70 ++ wsX50 ++ wsX00 ++ wsX60)
def wsX7_place_r1 : List Cond := [zw344, zw417, zw464, zw465, zw466, zw37, zw467, zw419, zw420, zw421, zw422, zw358, zw385, zw386, zw44, zw45, zw387, zw388, zw389, zw390, zw359, zw468, zw469, zw470]
def wsX7_place_r2 : List Cond := [zw471, zw343, zw459, zw117, zw118, zw62, zw119, zw109, zw72, zw73, zw46, zw110, zw97, zw98, zw460, zw461, zw462, zw463, zw424, zw455, zw456, zw457, zw42, zw458]
def wsX7_place_r3 : List Cond := [zw74, zw75, zw55, zw56, zw76, zw26, zw77, zw78, zw79, zw80, zw7, zw8, zw81, zw82, zw83, zw84, zw57, zw27, zw58, zw59, zw60, zw61, zw63, zw47]
def wsX7_place_r4 : List Cond := [zw48, zw64, zw65, zw66, zw67, zw68, zw69, zw70, zw13, zw71, zw49, zw50, zw51, zw52, zw53, zw54, zw5, zw4, zw85, zw86, zw87, zw88, zw89, zw90]
def wsX7_place_r5 : List Cond := [zw91, zw39, zw40, zw41, zw43, zw18, zw29, zw30, zw92, zw93, zw94, zw95, zw411, zw412, zw413, zw414]
def wsX7_place : List Cond := .code yX7_place cX7_place 4 (some .int) :: ((wsX7_place_r1 ++ (wsX7_place_r2 ++ (wsX7_place_r3 ++ (wsX7_place_r4 ++ wsX7_place_r5)))) ++ wsX70 ++ wsX50 ++ wsX00 ++ wsX60)
def wsX7_watch_r1 : List Cond := [zw358, zw424, zw343, zw428, zw429, zw430, zw431, zw37, zw432, zw425, zw386, zw44, zw45, zw387, zw388, zw389, zw390, zw359, zw433, zw52, zw53, zw13, zw54, zw5]
def wsX7_watch_r2 : List Cond := [zw4, zw411, zw412, zw413, zw414]
def wsX7_watch : List Cond := .code yX7_watch cX7_watch 3 (some .int) :: ((wsX7_watch_r1 ++ wsX7_watch_r2) ++ wsX70 ++ wsX00 ++ wsX50 ++ wsX60)
def wsX7_troubleOfNumber : List Cond := .code yX7_troubleOfNumber cX7_troubleOfNumber 4 (some .int) :: ([zw435, zw436, zw437, zw37, zw438, zw358, zw385, zw386, zw44, zw45] ++ wsX70 ++ wsX00)
def wsX7_gone_r1 : List Cond := [zw344, zw472, zw473, zw474, zw475, zw37, zw476, zw435, zw436, zw437, zw438, zw358, zw385, zw386, zw44, zw45, zw387, zw388, zw389, zw390, zw359, zw468, zw469, zw470]
def wsX7_gone_r2 : List Cond := [zw471, zw343, zw459, zw117, zw118, zw62, zw119, zw109, zw72, zw73, zw46, zw110, zw97, zw98, zw460, zw461, zw462, zw463, zw424, zw455, zw456, zw457, zw42, zw458]
def wsX7_gone_r3 : List Cond := [zw74, zw75, zw55, zw56, zw76, zw26, zw77, zw78, zw79, zw80, zw7, zw8, zw81, zw82, zw83, zw84, zw57, zw27, zw58, zw59, zw60, zw61, zw63, zw47]
def wsX7_gone_r4 : List Cond := [zw48, zw64, zw65, zw66, zw67, zw68, zw69, zw70, zw13, zw71, zw49, zw50, zw51, zw52, zw53, zw54, zw5, zw4, zw85, zw86, zw87, zw88, zw89, zw90]
def wsX7_gone_r5 : List Cond := [zw91, zw39, zw40, zw41, zw43, zw18, zw29, zw30, zw92, zw93, zw94, zw95, zw411, zw412, zw413, zw414]
def wsX7_gone : List Cond := .code yX7_gone cX7_gone 3 (some .int) :: ((wsX7_gone_r1 ++ (wsX7_gone_r2 ++ (wsX7_gone_r3 ++ (wsX7_gone_r4 ++ wsX7_gone_r5)))) ++ wsX70 ++ wsX50 ++ wsX00 ++ wsX60)
def wsX7_minutesTillGone_r1 : List Cond := [zw344, zw472, zw358, zw455, zw456, zw457, zw42, zw458, zw74, zw75, zw55, zw56, zw76, zw26, zw77, zw78, zw79, zw80, zw7, zw8, zw44, zw37, zw45, zw81]
def wsX7_minutesTillGone_r2 : List Cond := [zw82, zw83, zw84, zw57, zw27, zw58, zw59, zw60, zw61, zw62, zw63, zw46, zw47, zw48, zw64, zw65, zw66, zw67, zw68, zw69, zw70, zw13, zw71, zw49]
def wsX7_minutesTillGone_r3 : List Cond := [zw50, zw51, zw52, zw53, zw54, zw5, zw4, zw85, zw86, zw87, zw88, zw89, zw90, zw91, zw39, zw40, zw41, zw43, zw18, zw29, zw30, zw92, zw93, zw94]
def wsX7_minutesTillGone_r4 : List Cond := [zw95, zw72, zw73]
def wsX7_minutesTillGone : List Cond := .code yX7_minutesTillGone cX7_minutesTillGone 5 (some .int) :: ((wsX7_minutesTillGone_r1 ++ (wsX7_minutesTillGone_r2 ++ (wsX7_minutesTillGone_r3 ++ wsX7_minutesTillGone_r4))) ++ wsX70 ++ wsX50 ++ wsX00 ++ wsX60)
def wsX7_stairs_r1 : List Cond := [zw344, zw343, zw358, zw424, zw435, zw436, zw437, zw37, zw438, zw385, zw387, zw388, zw389, zw390, zw359, zw459, zw117, zw118, zw62, zw119, zw109, zw72, zw73, zw46]
def wsX7_stairs_r2 : List Cond := [zw110, zw97, zw98, zw477, zw478, zw479, zw480, zw472, zw455, zw456, zw457, zw42, zw458, zw74, zw75, zw55, zw56, zw76, zw26, zw77, zw78, zw79, zw80, zw7]
def wsX7_stairs_r3 : List Cond := [zw8, zw44, zw45, zw81, zw82, zw83, zw84, zw57, zw27, zw58, zw59, zw60, zw61, zw63, zw47, zw48, zw64, zw65, zw66, zw67, zw68, zw69, zw70, zw13]
def wsX7_stairs_r4 : List Cond := [zw71, zw49, zw50, zw51, zw52, zw53, zw54, zw5, zw4, zw85, zw86, zw87, zw88, zw89, zw90, zw91, zw39, zw40, zw41, zw43, zw18, zw29, zw30, zw92]
def wsX7_stairs_r5 : List Cond := [zw93, zw94, zw95, zw411, zw412, zw413, zw414]
def wsX7_stairs : List Cond := .code yX7_stairs cX7_stairs 1 (some .int) :: ((wsX7_stairs_r1 ++ (wsX7_stairs_r2 ++ (wsX7_stairs_r3 ++ (wsX7_stairs_r4 ++ wsX7_stairs_r5)))) ++ wsX70 ++ wsX00 ++ wsX50 ++ wsX60)
def wsX7_catches_r1 : List Cond := [zw344, zw441, zw343, zw473, zw474, zw475, zw37, zw476, zw435, zw436, zw437, zw438, zw358, zw385, zw386, zw44, zw45, zw387, zw388, zw389, zw390, zw359, zw468, zw469]
def wsX7_catches_r2 : List Cond := [zw470, zw471, zw459, zw117, zw118, zw62, zw119, zw109, zw72, zw73, zw46, zw110, zw97, zw98, zw460, zw461, zw462, zw463, zw424, zw455, zw456, zw457, zw42, zw458]
def wsX7_catches_r3 : List Cond := [zw74, zw75, zw55, zw56, zw76, zw26, zw77, zw78, zw79, zw80, zw7, zw8, zw81, zw82, zw83, zw84, zw57, zw27, zw58, zw59, zw60, zw61, zw63, zw47]
def wsX7_catches_r4 : List Cond := [zw48, zw64, zw65, zw66, zw67, zw68, zw69, zw70, zw13, zw71, zw49, zw50, zw51, zw52, zw53, zw54, zw5, zw4, zw85, zw86, zw87, zw88, zw89, zw90]
def wsX7_catches_r5 : List Cond := [zw91, zw39, zw40, zw41, zw43, zw18, zw29, zw30, zw92, zw93, zw94, zw95, zw411, zw412, zw413, zw414]
def wsX7_catches : List Cond := .code yX7_catches cX7_catches 3 (some .int) :: ((wsX7_catches_r1 ++ (wsX7_catches_r2 ++ (wsX7_catches_r3 ++ (wsX7_catches_r4 ++ wsX7_catches_r5)))) ++ wsX70 ++ wsX50 ++ wsX00 ++ wsX60)
def wsX7_heard_r1 : List Cond := [zw344, zw343, zw418, zw464, zw465, zw466, zw37, zw467, zw419, zw420, zw421, zw422, zw358, zw385, zw386, zw44, zw45, zw387, zw388, zw389, zw390, zw359, zw459, zw117]
def wsX7_heard_r2 : List Cond := [zw118, zw62, zw119, zw109, zw72, zw73, zw46, zw110, zw97, zw98, zw460, zw461, zw462, zw463, zw424, zw455, zw456, zw457, zw42, zw458, zw74, zw75, zw55, zw56]
def wsX7_heard_r3 : List Cond := [zw76, zw26, zw77, zw78, zw79, zw80, zw7, zw8, zw81, zw82, zw83, zw84, zw57, zw27, zw58, zw59, zw60, zw61, zw63, zw47, zw48, zw64, zw65, zw66]
def wsX7_heard_r4 : List Cond := [zw67, zw68, zw69, zw70, zw13, zw71, zw49, zw50, zw51, zw52, zw53, zw54, zw5, zw4, zw85, zw86, zw87, zw88, zw89, zw90, zw91, zw39, zw40, zw41]
def wsX7_heard_r5 : List Cond := [zw43, zw18, zw29, zw30, zw92, zw93, zw94, zw95, zw411, zw412, zw413, zw414]
def wsX7_heard : List Cond := .code yX7_heard cX7_heard 4 (some .int) :: ((wsX7_heard_r1 ++ (wsX7_heard_r2 ++ (wsX7_heard_r3 ++ (wsX7_heard_r4 ++ wsX7_heard_r5)))) ++ wsX70 ++ wsX50 ++ wsX00 ++ wsX60)
def wsX7_allIn_r1 : List Cond := [zw358, zw415, zw416, zw344, zw343, zw418, zw424, zw419, zw420, zw421, zw37, zw422, zw385, zw386, zw44, zw45, zw387, zw388, zw389, zw390, zw359, zw411, zw412, zw413]
def wsX7_allIn_r2 : List Cond := [zw414, zw459, zw117, zw118, zw62, zw119, zw109, zw72, zw73, zw46, zw110, zw97, zw98, zw455, zw456, zw457, zw42, zw458, zw74, zw75, zw55, zw56, zw76, zw26]
def wsX7_allIn_r3 : List Cond := [zw77, zw78, zw79, zw80, zw7, zw8, zw81, zw82, zw83, zw84, zw57, zw27, zw58, zw59, zw60, zw61, zw63, zw47, zw48, zw64, zw65, zw66, zw67, zw68]
def wsX7_allIn_r4 : List Cond := [zw69, zw70, zw13, zw71, zw49, zw50, zw51, zw52, zw53, zw54, zw5, zw4, zw85, zw86, zw87, zw88, zw89, zw90, zw91, zw39, zw40, zw41, zw43, zw18]
def wsX7_allIn_r5 : List Cond := [zw29, zw30, zw92, zw93, zw94, zw95]
def wsX7_allIn : List Cond := .code yX7_allIn cX7_allIn 4 (some .int) :: ((wsX7_allIn_r1 ++ (wsX7_allIn_r2 ++ (wsX7_allIn_r3 ++ (wsX7_allIn_r4 ++ wsX7_allIn_r5)))) ++ wsX70 ++ wsX00 ++ wsX50 ++ wsX60)
def wsX7_placeOfActing_r1 : List Cond := [zw344, zw434, zw358, zw424, zw417, zw455, zw456, zw457, zw42, zw458, zw74, zw75, zw55, zw56, zw76, zw26, zw77, zw78, zw79, zw80, zw7, zw8, zw44, zw37]
def wsX7_placeOfActing_r2 : List Cond := [zw45, zw81, zw82, zw83, zw84, zw57, zw27, zw58, zw59, zw60, zw61, zw62, zw63, zw46, zw47, zw48, zw64, zw65, zw66, zw67, zw68, zw69, zw70, zw13]
def wsX7_placeOfActing_r3 : List Cond := [zw71, zw49, zw50, zw51, zw52, zw53, zw54, zw5, zw4, zw85, zw86, zw87, zw88, zw89, zw90, zw91, zw39, zw40, zw41, zw43, zw18, zw29, zw30, zw92]
def wsX7_placeOfActing_r4 : List Cond := [zw93, zw94, zw95, zw72, zw73, zw423]
def wsX7_placeOfActing : List Cond := .code yX7_placeOfActing cX7_placeOfActing 2 (some .int) :: ((wsX7_placeOfActing_r1 ++ (wsX7_placeOfActing_r2 ++ (wsX7_placeOfActing_r3 ++ wsX7_placeOfActing_r4))) ++ wsX70 ++ wsX50 ++ wsX00 ++ wsX60)
def wsX7_meets_r1 : List Cond := [zw344, zw343, zw358, zw424, zw428, zw429, zw430, zw431, zw37, zw432, zw425, zw386, zw44, zw45, zw387, zw388, zw389, zw390, zw359, zw459, zw117, zw118, zw62, zw119]
def wsX7_meets_r2 : List Cond := [zw109, zw72, zw73, zw46, zw110, zw97, zw98, zw433, zw52, zw53, zw13, zw54, zw5, zw4, zw481, zw482, zw483, zw484, zw434, zw417, zw455, zw456, zw457, zw42]
def wsX7_meets_r3 : List Cond := [zw458, zw74, zw75, zw55, zw56, zw76, zw26, zw77, zw78, zw79, zw80, zw7, zw8, zw81, zw82, zw83, zw84, zw57, zw27, zw58, zw59, zw60, zw61, zw63]
def wsX7_meets_r4 : List Cond := [zw47, zw48, zw64, zw65, zw66, zw67, zw68, zw69, zw70, zw71, zw49, zw50, zw51, zw85, zw86, zw87, zw88, zw89, zw90, zw91, zw39, zw40, zw41, zw43]
def wsX7_meets_r5 : List Cond := [zw18, zw29, zw30, zw92, zw93, zw94, zw95, zw423, zw411, zw412, zw413, zw414]
def wsX7_meets : List Cond := .code yX7_meets cX7_meets 4 (some .int) :: ((wsX7_meets_r1 ++ (wsX7_meets_r2 ++ (wsX7_meets_r3 ++ (wsX7_meets_r4 ++ wsX7_meets_r5)))) ++ wsX70 ++ wsX00 ++ wsX50 ++ wsX60)
def wsX7_crowdAt : List Cond := .code yX7_crowdAt cX7_crowdAt 4 (some .int) :: ([zw358, zw385, zw344, zw417, zw423, zw60, zw61, zw62, zw63, zw46, zw47, zw37, zw48] ++ wsX70 ++ wsX00 ++ wsX50)
def wsX7_crowd_r1 : List Cond := [zw358, zw385, zw473, zw474, zw475, zw37, zw476, zw435, zw436, zw437, zw438, zw386, zw44, zw45, zw387, zw388, zw389, zw390, zw359, zw468, zw469, zw470, zw471, zw344]
def wsX7_crowd_r2 : List Cond := [zw343, zw459, zw117, zw118, zw62, zw119, zw109, zw72, zw73, zw46, zw110, zw97, zw98, zw460, zw461, zw462, zw463, zw424, zw455, zw456, zw457, zw42, zw458, zw74]
def wsX7_crowd_r3 : List Cond := [zw75, zw55, zw56, zw76, zw26, zw77, zw78, zw79, zw80, zw7, zw8, zw81, zw82, zw83, zw84, zw57, zw27, zw58, zw59, zw60, zw61, zw63, zw47, zw48]
def wsX7_crowd_r4 : List Cond := [zw64, zw65, zw66, zw67, zw68, zw69, zw70, zw13, zw71, zw49, zw50, zw51, zw52, zw53, zw54, zw5, zw4, zw85, zw86, zw87, zw88, zw89, zw90, zw91]
def wsX7_crowd_r5 : List Cond := [zw39, zw40, zw41, zw43, zw18, zw29, zw30, zw92, zw93, zw94, zw95, zw485, zw486, zw487, zw488, zw417, zw423, zw411, zw412, zw413, zw414]
def wsX7_crowd : List Cond := .code yX7_crowd cX7_crowd 5 (some .int) :: ((wsX7_crowd_r1 ++ (wsX7_crowd_r2 ++ (wsX7_crowd_r3 ++ (wsX7_crowd_r4 ++ wsX7_crowd_r5)))) ++ wsX70 ++ wsX00 ++ wsX50 ++ wsX60)
def wsX7_farthest_r1 : List Cond := [zw358, zw385, zw344, zw417, zw489, zw490, zw114, zw491, zw473, zw474, zw475, zw37, zw476, zw435, zw436, zw437, zw438, zw386, zw44, zw45, zw387, zw388, zw389, zw390]
def wsX7_farthest_r2 : List Cond := [zw359, zw468, zw469, zw470, zw471, zw343, zw459, zw117, zw118, zw62, zw119, zw109, zw72, zw73, zw46, zw110, zw97, zw98, zw460, zw461, zw462, zw463, zw424, zw455]
def wsX7_farthest_r3 : List Cond := [zw456, zw457, zw42, zw458, zw74, zw75, zw55, zw56, zw76, zw26, zw77, zw78, zw79, zw80, zw7, zw8, zw81, zw82, zw83, zw84, zw57, zw27, zw58, zw59]
def wsX7_farthest_r4 : List Cond := [zw60, zw61, zw63, zw47, zw48, zw64, zw65, zw66, zw67, zw68, zw69, zw70, zw13, zw71, zw49, zw50, zw51, zw52, zw53, zw54, zw5, zw4, zw85, zw86]
def wsX7_farthest_r5 : List Cond := [zw87, zw88, zw89, zw90, zw91, zw39, zw40, zw41, zw43, zw18, zw29, zw30, zw92, zw93, zw94, zw95, zw411, zw412, zw413, zw414]
def wsX7_farthest : List Cond := .code yX7_farthest cX7_farthest 5 (some .int) :: ((wsX7_farthest_r1 ++ (wsX7_farthest_r2 ++ (wsX7_farthest_r3 ++ (wsX7_farthest_r4 ++ wsX7_farthest_r5)))) ++ wsX70 ++ wsX00 ++ wsX50 ++ wsX60)
def wsX7_nearBy_r1 : List Cond := [zw344, zw343, zw358, zw424, zw428, zw417, zw464, zw465, zw466, zw37, zw467, zw419, zw420, zw421, zw422, zw385, zw386, zw44, zw45, zw387, zw388, zw389, zw390, zw359]
def wsX7_nearBy_r2 : List Cond := [zw459, zw117, zw118, zw62, zw119, zw109, zw72, zw73, zw46, zw110, zw97, zw98, zw492, zw69, zw70, zw13, zw71, zw49, zw50, zw51, zw52, zw53, zw54, zw5]
def wsX7_nearBy_r3 : List Cond := [zw4, zw455, zw456, zw457, zw42, zw458, zw74, zw75, zw55, zw56, zw76, zw26, zw77, zw78, zw79, zw80, zw7, zw8, zw81, zw82, zw83, zw84, zw57, zw27]
def wsX7_nearBy_r4 : List Cond := [zw58, zw59, zw60, zw61, zw63, zw47, zw48, zw64, zw65, zw66, zw67, zw68, zw85, zw86, zw87, zw88, zw89, zw90, zw91, zw39, zw40, zw41, zw43, zw18]
def wsX7_nearBy_r5 : List Cond := [zw29, zw30, zw92, zw93, zw94, zw95, zw423, zw493, zw411, zw412, zw413, zw414]
def wsX7_nearBy : List Cond := .code yX7_nearBy cX7_nearBy 7 (some .int) :: ((wsX7_nearBy_r1 ++ (wsX7_nearBy_r2 ++ (wsX7_nearBy_r3 ++ (wsX7_nearBy_r4 ++ wsX7_nearBy_r5)))) ++ wsX70 ++ wsX00 ++ wsX50 ++ wsX60)
def wsX7_spoken_r1 : List Cond := [zw344, zw343, zw434, zw358, zw440, zw424, zw464, zw465, zw466, zw37, zw467, zw419, zw420, zw421, zw422, zw385, zw386, zw44, zw45, zw387, zw388, zw389, zw390, zw359]
def wsX7_spoken_r2 : List Cond := [zw459, zw117, zw118, zw62, zw119, zw109, zw72, zw73, zw46, zw110, zw97, zw98, zw494, zw86, zw87, zw42, zw88, zw7, zw8, zw455, zw456, zw457, zw458, zw74]
def wsX7_spoken_r3 : List Cond := [zw75, zw55, zw56, zw76, zw26, zw77, zw78, zw79, zw80, zw81, zw82, zw83, zw84, zw57, zw27, zw58, zw59, zw60, zw61, zw63, zw47, zw48, zw64, zw65]
def wsX7_spoken_r4 : List Cond := [zw66, zw67, zw68, zw69, zw70, zw13, zw71, zw49, zw50, zw51, zw52, zw53, zw54, zw5, zw4, zw85, zw89, zw90, zw91, zw39, zw40, zw41, zw43, zw18]
def wsX7_spoken_r5 : List Cond := [zw29, zw30, zw92, zw93, zw94, zw95, zw411, zw412, zw413, zw414]
def wsX7_spoken : List Cond := .code yX7_spoken cX7_spoken 6 (some .int) :: ((wsX7_spoken_r1 ++ (wsX7_spoken_r2 ++ (wsX7_spoken_r3 ++ (wsX7_spoken_r4 ++ wsX7_spoken_r5)))) ++ wsX70 ++ wsX50 ++ wsX00 ++ wsX60)
def wsX7_isPlace : List Cond := .code yX7_isPlace cX7_isPlace 2 (some .boolean) :: ([zw358, zw385, zw386, zw44, zw37, zw45] ++ wsX70 ++ wsX00)
def wsX7_planRoutes_r1 : List Cond := [zw344, zw343, zw356, zw358, zw385, zw459, zw117, zw118, zw62, zw119, zw109, zw72, zw73, zw46, zw110, zw97, zw98, zw481, zw482, zw483, zw37, zw484, zw434, zw424]
def wsX7_planRoutes_r2 : List Cond := [zw417, zw455, zw456, zw457, zw42, zw458, zw74, zw75, zw55, zw56, zw76, zw26, zw77, zw78, zw79, zw80, zw7, zw8, zw44, zw45, zw81, zw82, zw83, zw84]
def wsX7_planRoutes_r3 : List Cond := [zw57, zw27, zw58, zw59, zw60, zw61, zw63, zw47, zw48, zw64, zw65, zw66, zw67, zw68, zw69, zw70, zw13, zw71, zw49, zw50, zw51, zw52, zw53, zw54]
def wsX7_planRoutes_r4 : List Cond := [zw5, zw4, zw85, zw86, zw87, zw88, zw89, zw90, zw91, zw39, zw40, zw41, zw43, zw18, zw29, zw30, zw92, zw93, zw94, zw95, zw423, zw495, zw496, zw497]
def wsX7_planRoutes_r5 : List Cond := [zw330, zw498, zw324, zw499, zw500, zw501, zw502, zw332, zw113, zw114, zw115, zw326, zw325, zw333, zw334, zw335, zw336, zw327, zw328, zw329, zw331]
def wsX7_planRoutes : List Cond := .code yX7_planRoutes cX7_planRoutes 3 none :: ((wsX7_planRoutes_r1 ++ (wsX7_planRoutes_r2 ++ (wsX7_planRoutes_r3 ++ (wsX7_planRoutes_r4 ++ wsX7_planRoutes_r5)))) ++ wsX70 ++ wsX00 ++ wsX50 ++ wsX60 ++ wsX40)
def wsX7_route_r1 : List Cond := [zw356, zw503, zw504, zw505, zw37, zw506, zw358, zw385, zw386, zw44, zw45, zw387, zw388, zw389, zw390, zw359, zw507, zw508, zw509, zw510, zw344, zw343, zw459, zw117]
def wsX7_route_r2 : List Cond := [zw118, zw62, zw119, zw109, zw72, zw73, zw46, zw110, zw97, zw98, zw481, zw482, zw483, zw484, zw434, zw424, zw417, zw455, zw456, zw457, zw42, zw458, zw74, zw75]
def wsX7_route_r3 : List Cond := [zw55, zw56, zw76, zw26, zw77, zw78, zw79, zw80, zw7, zw8, zw81, zw82, zw83, zw84, zw57, zw27, zw58, zw59, zw60, zw61, zw63, zw47, zw48, zw64]
def wsX7_route_r4 : List Cond := [zw65, zw66, zw67, zw68, zw69, zw70, zw13, zw71, zw49, zw50, zw51, zw52, zw53, zw54, zw5, zw4, zw85, zw86, zw87, zw88, zw89, zw90, zw91, zw39]
def wsX7_route_r5 : List Cond := [zw40, zw41, zw43, zw18, zw29, zw30, zw92, zw93, zw94, zw95, zw423, zw495, zw496, zw497, zw330, zw498, zw324, zw499, zw500, zw501, zw502, zw332, zw113, zw114]
def wsX7_route_r6 : List Cond := [zw115, zw326, zw325, zw333, zw334, zw335, zw336, zw327, zw328, zw329, zw331, zw511, zw512, zw513, zw514, zw411, zw412, zw413, zw414]
def wsX7_route : List Cond := .code yX7_route cX7_route 3 (some .int) :: ((wsX7_route_r1 ++ (wsX7_route_r2 ++ (wsX7_route_r3 ++ (wsX7_route_r4 ++ (wsX7_route_r5 ++ wsX7_route_r6))))) ++ wsX70 ++ wsX00 ++ wsX50 ++ wsX60 ++ wsX40)
def wsX7_routeAt_r1 : List Cond := [zw356, zw503, zw504, zw505, zw37, zw506, zw358, zw385, zw386, zw44, zw45, zw387, zw388, zw389, zw390, zw359, zw507, zw508, zw509, zw510, zw344, zw343, zw459, zw117]
def wsX7_routeAt_r2 : List Cond := [zw118, zw62, zw119, zw109, zw72, zw73, zw46, zw110, zw97, zw98, zw481, zw482, zw483, zw484, zw434, zw424, zw417, zw455, zw456, zw457, zw42, zw458, zw74, zw75]
def wsX7_routeAt_r3 : List Cond := [zw55, zw56, zw76, zw26, zw77, zw78, zw79, zw80, zw7, zw8, zw81, zw82, zw83, zw84, zw57, zw27, zw58, zw59, zw60, zw61, zw63, zw47, zw48, zw64]
def wsX7_routeAt_r4 : List Cond := [zw65, zw66, zw67, zw68, zw69, zw70, zw13, zw71, zw49, zw50, zw51, zw52, zw53, zw54, zw5, zw4, zw85, zw86, zw87, zw88, zw89, zw90, zw91, zw39]
def wsX7_routeAt_r5 : List Cond := [zw40, zw41, zw43, zw18, zw29, zw30, zw92, zw93, zw94, zw95, zw423, zw495, zw496, zw497, zw330, zw498, zw324, zw499, zw500, zw501, zw502, zw332, zw113, zw114]
def wsX7_routeAt_r6 : List Cond := [zw115, zw326, zw325, zw333, zw334, zw335, zw336, zw327, zw328, zw329, zw331, zw515, zw516, zw517, zw518, zw411, zw412, zw413, zw414]
def wsX7_routeAt : List Cond := .code yX7_routeAt cX7_routeAt 4 (some .int) :: ((wsX7_routeAt_r1 ++ (wsX7_routeAt_r2 ++ (wsX7_routeAt_r3 ++ (wsX7_routeAt_r4 ++ (wsX7_routeAt_r5 ++ wsX7_routeAt_r6))))) ++ wsX70 ++ wsX00 ++ wsX50 ++ wsX60 ++ wsX40)
def wsX7_stand_r1 : List Cond := [zw358, zw385, zw356, zw473, zw474, zw475, zw37, zw476, zw435, zw436, zw437, zw438, zw386, zw44, zw45, zw387, zw388, zw389, zw390, zw359, zw507, zw508, zw509, zw510]
def wsX7_stand_r2 : List Cond := [zw344, zw343, zw459, zw117, zw118, zw62, zw119, zw109, zw72, zw73, zw46, zw110, zw97, zw98, zw481, zw482, zw483, zw484, zw434, zw424, zw417, zw455, zw456, zw457]
def wsX7_stand_r3 : List Cond := [zw42, zw458, zw74, zw75, zw55, zw56, zw76, zw26, zw77, zw78, zw79, zw80, zw7, zw8, zw81, zw82, zw83, zw84, zw57, zw27, zw58, zw59, zw60, zw61]
def wsX7_stand_r4 : List Cond := [zw63, zw47, zw48, zw64, zw65, zw66, zw67, zw68, zw69, zw70, zw13, zw71, zw49, zw50, zw51, zw52, zw53, zw54, zw5, zw4, zw85, zw86, zw87, zw88]
def wsX7_stand_r5 : List Cond := [zw89, zw90, zw91, zw39, zw40, zw41, zw43, zw18, zw29, zw30, zw92, zw93, zw94, zw95, zw423, zw495, zw496, zw497, zw330, zw498, zw324, zw499, zw500, zw501]
def wsX7_stand_r6 : List Cond := [zw502, zw332, zw113, zw114, zw115, zw326, zw325, zw333, zw334, zw335, zw336, zw327, zw328, zw329, zw331, zw511, zw512, zw513, zw514, zw411, zw412, zw413, zw414]
def wsX7_stand : List Cond := .code yX7_stand cX7_stand 5 (some .int) :: ((wsX7_stand_r1 ++ (wsX7_stand_r2 ++ (wsX7_stand_r3 ++ (wsX7_stand_r4 ++ (wsX7_stand_r5 ++ wsX7_stand_r6))))) ++ wsX70 ++ wsX00 ++ wsX50 ++ wsX60 ++ wsX40)
def wsX7_postsHold_r1 : List Cond := [zw346, zw519, zw344, zw343, zw459, zw117, zw118, zw62, zw119, zw109, zw72, zw73, zw46, zw110, zw97, zw98, zw477, zw478, zw479, zw37, zw480, zw472, zw358, zw455]
def wsX7_postsHold_r2 : List Cond := [zw456, zw457, zw42, zw458, zw74, zw75, zw55, zw56, zw76, zw26, zw77, zw78, zw79, zw80, zw7, zw8, zw44, zw45, zw81, zw82, zw83, zw84, zw57, zw27]
def wsX7_postsHold_r3 : List Cond := [zw58, zw59, zw60, zw61, zw63, zw47, zw48, zw64, zw65, zw66, zw67, zw68, zw69, zw70, zw13, zw71, zw49, zw50, zw51, zw52, zw53, zw54, zw5, zw4]
def wsX7_postsHold_r4 : List Cond := [zw85, zw86, zw87, zw88, zw89, zw90, zw91, zw39, zw40, zw41, zw43, zw18, zw29, zw30, zw92, zw93, zw94, zw95]
def wsX7_postsHold : List Cond := .code yX7_postsHold cX7_postsHold 3 (some .boolean) :: ((wsX7_postsHold_r1 ++ (wsX7_postsHold_r2 ++ (wsX7_postsHold_r3 ++ wsX7_postsHold_r4))) ++ wsX70 ++ wsX60 ++ wsX50 ++ wsX00)
def wsX7_guard_r1 : List Cond := [zw346, zw358, zw424, zw385, zw473, zw474, zw475, zw37, zw476, zw435, zw436, zw437, zw438, zw386, zw44, zw45, zw387, zw388, zw389, zw390, zw359, zw520, zw521, zw522]
def wsX7_guard_r2 : List Cond := [zw13, zw523, zw50, zw49, zw4, zw5, zw524, zw525, zw526, zw527, zw519, zw344, zw343, zw459, zw117, zw118, zw62, zw119, zw109, zw72, zw73, zw46, zw110, zw97]
def wsX7_guard_r3 : List Cond := [zw98, zw477, zw478, zw479, zw480, zw472, zw455, zw456, zw457, zw42, zw458, zw74, zw75, zw55, zw56, zw76, zw26, zw77, zw78, zw79, zw80, zw7, zw8, zw81]
def wsX7_guard_r4 : List Cond := [zw82, zw83, zw84, zw57, zw27, zw58, zw59, zw60, zw61, zw63, zw47, zw48, zw64, zw65, zw66, zw67, zw68, zw69, zw70, zw71, zw51, zw52, zw53, zw54]
def wsX7_guard_r5 : List Cond := [zw85, zw86, zw87, zw88, zw89, zw90, zw91, zw39, zw40, zw41, zw43, zw18, zw29, zw30, zw92, zw93, zw94, zw95, zw411, zw412, zw413, zw414]
def wsX7_guard : List Cond := .code yX7_guard cX7_guard 4 (some .int) :: ((wsX7_guard_r1 ++ (wsX7_guard_r2 ++ (wsX7_guard_r3 ++ (wsX7_guard_r4 ++ wsX7_guard_r5)))) ++ wsX70 ++ wsX00 ++ wsX60 ++ wsX50)
def wsX7_windBest_r1 : List Cond := [zw358, zw385, zw344, zw343, zw424, zw435, zw436, zw437, zw37, zw438, zw387, zw388, zw389, zw390, zw359, zw459, zw117, zw118, zw62, zw119, zw109, zw72, zw73, zw46]
def wsX7_windBest_r2 : List Cond := [zw110, zw97, zw98, zw528, zw93, zw94, zw95, zw477, zw478, zw479, zw480, zw472, zw455, zw456, zw457, zw42, zw458, zw74, zw75, zw55, zw56, zw76, zw26, zw77]
def wsX7_windBest_r3 : List Cond := [zw78, zw79, zw80, zw7, zw8, zw44, zw45, zw81, zw82, zw83, zw84, zw57, zw27, zw58, zw59, zw60, zw61, zw63, zw47, zw48, zw64, zw65, zw66, zw67]
def wsX7_windBest_r4 : List Cond := [zw68, zw69, zw70, zw13, zw71, zw49, zw50, zw51, zw52, zw53, zw54, zw5, zw4, zw85, zw86, zw87, zw88, zw89, zw90, zw91, zw39, zw40, zw41, zw43]
def wsX7_windBest_r5 : List Cond := [zw18, zw29, zw30, zw92, zw411, zw412, zw413, zw414]
def wsX7_windBest : List Cond := .code yX7_windBest cX7_windBest 5 (some .int) :: ((wsX7_windBest_r1 ++ (wsX7_windBest_r2 ++ (wsX7_windBest_r3 ++ (wsX7_windBest_r4 ++ wsX7_windBest_r5)))) ++ wsX70 ++ wsX00 ++ wsX50 ++ wsX60)
def wsX7_runAheadOnTrial_r1 : List Cond := [zw344, zw343, zw358, zw346, zw459, zw117, zw118, zw62, zw119, zw109, zw72, zw73, zw46, zw110, zw97, zw98, zw455, zw456, zw457, zw42, zw458, zw74, zw75, zw55]
def wsX7_runAheadOnTrial_r2 : List Cond := [zw56, zw76, zw26, zw77, zw78, zw79, zw80, zw7, zw8, zw44, zw37, zw45, zw81, zw82, zw83, zw84, zw57, zw27, zw58, zw59, zw60, zw61, zw63, zw47]
def wsX7_runAheadOnTrial_r3 : List Cond := [zw48, zw64, zw65, zw66, zw67, zw68, zw69, zw70, zw13, zw71, zw49, zw50, zw51, zw52, zw53, zw54, zw5, zw4, zw85, zw86, zw87, zw88, zw89, zw90]
def wsX7_runAheadOnTrial_r4 : List Cond := [zw91, zw39, zw40, zw41, zw43, zw18, zw29, zw30, zw92, zw93, zw94, zw95]
def wsX7_runAheadOnTrial : List Cond := .code yX7_runAheadOnTrial cX7_runAheadOnTrial 3 none :: ((wsX7_runAheadOnTrial_r1 ++ (wsX7_runAheadOnTrial_r2 ++ (wsX7_runAheadOnTrial_r3 ++ wsX7_runAheadOnTrial_r4))) ++ wsX70 ++ wsX50 ++ wsX00 ++ wsX60)
def wsX7_patrol_r1 : List Cond := [zw346, zw358, zw424, zw385, zw426, zw427, zw344, zw472, zw441, zw429, zw430, zw431, zw37, zw432, zw425, zw386, zw44, zw45, zw387, zw388, zw389, zw390, zw359, zw520]
def wsX7_patrol_r2 : List Cond := [zw521, zw522, zw13, zw523, zw50, zw49, zw4, zw5, zw529, zw530, zw531, zw532, zw343, zw459, zw117, zw118, zw62, zw119, zw109, zw72, zw73, zw46, zw110, zw97]
def wsX7_patrol_r3 : List Cond := [zw98, zw455, zw456, zw457, zw42, zw458, zw74, zw75, zw55, zw56, zw76, zw26, zw77, zw78, zw79, zw80, zw7, zw8, zw81, zw82, zw83, zw84, zw57, zw27]
def wsX7_patrol_r4 : List Cond := [zw58, zw59, zw60, zw61, zw63, zw47, zw48, zw64, zw65, zw66, zw67, zw68, zw69, zw70, zw71, zw51, zw52, zw53, zw54, zw85, zw86, zw87, zw88, zw89]
def wsX7_patrol_r5 : List Cond := [zw90, zw91, zw39, zw40, zw41, zw43, zw18, zw29, zw30, zw92, zw93, zw94, zw95, zw533, zw33, zw34, zw35, zw23, zw24, zw25, zw411, zw412, zw413, zw414]
def wsX7_patrol : List Cond := .code yX7_patrol cX7_patrol 9 (some .int) :: ((wsX7_patrol_r1 ++ (wsX7_patrol_r2 ++ (wsX7_patrol_r3 ++ (wsX7_patrol_r4 ++ wsX7_patrol_r5)))) ++ wsX70 ++ wsX00 ++ wsX60 ++ wsX50)
def wsX7_fits_r1 : List Cond := [zw353, zw358, zw534, zw435, zw436, zw437, zw37, zw438, zw385, zw387, zw388, zw389, zw390, zw359, zw535, zw146, zw147, zw137, zw148, zw123, zw128, zw133, zw134, zw135]
def wsX7_fits_r2 : List Cond := [zw136, zw138, zw125, zw126, zw127, zw121, zw129, zw130, zw131, zw42, zw132, zw26, zw18, zw36, zw38, zw411, zw412, zw413, zw414]
def wsX7_fits : List Cond := .code yX7_fits cX7_fits 1 (some .int) :: ((wsX7_fits_r1 ++ wsX7_fits_r2) ++ wsX70 ++ wsX20 ++ wsX00)
def wsX7_fitAt_r1 : List Cond := [zw353, zw358, zw534, zw536, zw435, zw436, zw437, zw37, zw438, zw385, zw387, zw388, zw389, zw390, zw359, zw535, zw146, zw147, zw137, zw148, zw123, zw128, zw133, zw134]
def wsX7_fitAt_r2 : List Cond := [zw135, zw136, zw138, zw125, zw126, zw127, zw121, zw129, zw130, zw131, zw42, zw132, zw26, zw18, zw36, zw38, zw386, zw44, zw45, zw411, zw412, zw413, zw414]
def wsX7_fitAt : List Cond := .code yX7_fitAt cX7_fitAt 2 (some .int) :: ((wsX7_fitAt_r1 ++ wsX7_fitAt_r2) ++ wsX70 ++ wsX20 ++ wsX00)
def wsX7_could_r1 : List Cond := [zw353, zw358, zw534, zw536, zw473, zw474, zw475, zw37, zw476, zw435, zw436, zw437, zw438, zw385, zw386, zw44, zw45, zw387, zw388, zw389, zw390, zw359, zw535, zw146]
def wsX7_could_r2 : List Cond := [zw147, zw137, zw148, zw123, zw128, zw133, zw134, zw135, zw136, zw138, zw125, zw126, zw127, zw121, zw129, zw130, zw131, zw42, zw132, zw26, zw18, zw36, zw38, zw537]
def wsX7_could_r3 : List Cond := [zw411, zw412, zw413, zw414]
def wsX7_could : List Cond := .code yX7_could cX7_could 5 (some .int) :: ((wsX7_could_r1 ++ (wsX7_could_r2 ++ wsX7_could_r3)) ++ wsX70 ++ wsX20 ++ wsX00)
def wsX7_aliveBy_r1 : List Cond := [zw353, zw358, zw534, zw536, zw464, zw465, zw466, zw37, zw467, zw419, zw420, zw421, zw422, zw385, zw386, zw44, zw45, zw387, zw388, zw389, zw390, zw359, zw535, zw146]
def wsX7_aliveBy_r2 : List Cond := [zw147, zw137, zw148, zw123, zw128, zw133, zw134, zw135, zw136, zw138, zw125, zw126, zw127, zw121, zw129, zw130, zw131, zw42, zw132, zw26, zw18, zw36, zw38, zw537]
def wsX7_aliveBy_r3 : List Cond := [zw411, zw412, zw413, zw414]
def wsX7_aliveBy : List Cond := .code yX7_aliveBy cX7_aliveBy 6 (some .int) :: ((wsX7_aliveBy_r1 ++ (wsX7_aliveBy_r2 ++ wsX7_aliveBy_r3)) ++ wsX70 ++ wsX20 ++ wsX00)
def wsX7_look_r1 : List Cond := [zw353, zw358, zw538, zw435, zw436, zw437, zw37, zw438, zw385, zw387, zw388, zw389, zw390, zw359, zw539, zw540, zw541, zw137, zw542, zw124, zw142, zw143, zw128, zw144]
def wsX7_look_r2 : List Cond := [zw133, zw145, zw146, zw147, zw148, zw123, zw134, zw135, zw136, zw138, zw125, zw126, zw127, zw121, zw129, zw130, zw131, zw42, zw132, zw26, zw18, zw36, zw38, zw149]
def wsX7_look_r3 : List Cond := [zw150, zw151, zw152, zw122, zw153, zw154, zw155, zw156, zw139, zw140, zw114, zw141, zw411, zw412, zw413, zw414]
def wsX7_look : List Cond := .code yX7_look cX7_look 1 (some .int) :: ((wsX7_look_r1 ++ (wsX7_look_r2 ++ wsX7_look_r3)) ++ wsX70 ++ wsX20 ++ wsX00)
def wsX7_lookLeaves_r1 : List Cond := [zw353, zw358, zw543, zw435, zw436, zw437, zw37, zw438, zw385, zw387, zw388, zw389, zw390, zw359, zw539, zw540, zw541, zw137, zw542, zw124, zw142, zw143, zw128, zw144]
def wsX7_lookLeaves_r2 : List Cond := [zw133, zw145, zw146, zw147, zw148, zw123, zw134, zw135, zw136, zw138, zw125, zw126, zw127, zw121, zw129, zw130, zw131, zw42, zw132, zw26, zw18, zw36, zw38, zw149]
def wsX7_lookLeaves_r3 : List Cond := [zw150, zw151, zw152, zw122, zw153, zw154, zw155, zw156, zw139, zw140, zw114, zw141, zw411, zw412, zw413, zw414]
def wsX7_lookLeaves : List Cond := .code yX7_lookLeaves cX7_lookLeaves 1 (some .int) :: ((wsX7_lookLeaves_r1 ++ (wsX7_lookLeaves_r2 ++ wsX7_lookLeaves_r3)) ++ wsX70 ++ wsX20 ++ wsX00)
def wsX7_lawsLike_r1 : List Cond := [zw358, zw385, zw435, zw436, zw437, zw37, zw438, zw387, zw388, zw389, zw390, zw359, zw544, zw545, zw546, zw42, zw547, zw31, zw18, zw39, zw40, zw41, zw43, zw29]
def wsX7_lawsLike_r2 : List Cond := [zw30, zw411, zw412, zw413, zw414]
def wsX7_lawsLike : List Cond := .code yX7_lawsLike cX7_lawsLike 4 (some .int) :: ((wsX7_lawsLike_r1 ++ wsX7_lawsLike_r2) ++ wsX70 ++ wsX00)
def wsX7_lawFor : List Cond := .code yX7_lawFor cX7_lawFor 4 (some .int) :: ([zw464, zw465, zw466, zw37, zw467, zw419, zw420, zw421, zw422, zw358, zw385, zw386, zw44, zw45, zw387, zw388, zw389, zw390, zw359, zw411, zw412, zw413, zw414] ++ wsX70 ++ wsX00)
def wsX7_judge_r1 : List Cond := [zw358, zw442, zw443, zw384, zw548, zw549, zw550, zw435, zw436, zw437, zw37, zw438, zw385, zw387, zw388, zw389, zw390, zw359, zw537, zw130, zw131, zw42, zw132, zw26]
def wsX7_judge_r2 : List Cond := [zw18, zw36, zw38, zw411, zw412, zw413, zw414]
def wsX7_judge : List Cond := .code yX7_judge cX7_judge 3 (some .int) :: ((wsX7_judge_r1 ++ wsX7_judge_r2) ++ wsX70 ++ wsX00)
def wsX7_attendantShare : List Cond := .code yX7_attendantShare cX7_attendantShare 2 (some .int) :: ([])
def wsX7_figureShare : List Cond := .code yX7_figureShare cX7_figureShare 3 (some .int) :: ([])
def wsX7_dares_r1 : List Cond := [zw359, zw473, zw474, zw475, zw37, zw476, zw435, zw436, zw437, zw438, zw358, zw385, zw386, zw44, zw45, zw551, zw552, zw553, zw554, zw555, zw556, zw411, zw412, zw413]
def wsX7_dares_r2 : List Cond := [zw414]
def wsX7_dares : List Cond := .code yX7_dares cX7_dares 6 (some .int) :: ((wsX7_dares_r1 ++ wsX7_dares_r2) ++ wsX70 ++ wsX00)
def wsX7_isRest : List Cond := .code yX7_isRest cX7_isRest 3 (some .boolean) :: ([zw554, zw555, zw37, zw556, zw551, zw552, zw553])
def wsX7_rests_r1 : List Cond := [zw473, zw474, zw475, zw37, zw476, zw435, zw436, zw437, zw438, zw358, zw385, zw386, zw44, zw45, zw387, zw388, zw389, zw390, zw359, zw557, zw558, zw559, zw554, zw555]
def wsX7_rests_r2 : List Cond := [zw556, zw551, zw552, zw553, zw411, zw412, zw413, zw414]
def wsX7_rests : List Cond := .code yX7_rests cX7_rests 5 (some .int) :: ((wsX7_rests_r1 ++ wsX7_rests_r2) ++ wsX70 ++ wsX00)
def wsX7_rest_r1 : List Cond := [zw473, zw474, zw475, zw37, zw476, zw435, zw436, zw437, zw438, zw358, zw385, zw386, zw44, zw45, zw387, zw388, zw389, zw390, zw359, zw557, zw558, zw559, zw554, zw555]
def wsX7_rest_r2 : List Cond := [zw556, zw551, zw552, zw553, zw411, zw412, zw413, zw414]
def wsX7_rest : List Cond := .code yX7_rest cX7_rest 4 (some .int) :: ((wsX7_rest_r1 ++ wsX7_rest_r2) ++ wsX70 ++ wsX00)
def wsX7_ownTurns : List Cond := .code yX7_ownTurns cX7_ownTurns 6 (some .int) :: ([zw343, zw434, zw358, zw450, zw40, zw41, zw42, zw43, zw18, zw29, zw30] ++ wsX70 ++ wsX50 ++ wsX00)
def wsX7_inLowestTerms : List Cond := .code yX7_inLowestTerms cX7_inLowestTerms 12 (some .long) :: ([])
def wsX7_odds_r1 : List Cond := [zw560, zw358, zw561, zw359, zw464, zw465, zw466, zw37, zw467, zw419, zw420, zw421, zw422, zw385, zw386, zw44, zw45, zw387, zw388, zw389, zw390, zw562, zw563, zw564]
def wsX7_odds_r2 : List Cond := [zw565, zw343, zw434, zw450, zw40, zw41, zw42, zw43, zw18, zw29, zw30, zw566, zw567, zw568]
def wsX7_odds : List Cond := .code yX7_odds cX7_odds 11 (some .long) :: ((wsX7_odds_r1 ++ wsX7_odds_r2) ++ wsX70 ++ wsX00 ++ wsX50)
def wsX7_mean_r1 : List Cond := [zw359, zw358, zw561, zw560, zw464, zw465, zw466, zw37, zw467, zw419, zw420, zw421, zw422, zw385, zw386, zw44, zw45, zw387, zw388, zw389, zw390, zw562, zw563, zw564]
def wsX7_mean_r2 : List Cond := [zw565, zw343, zw434, zw450, zw40, zw41, zw42, zw43, zw18, zw29, zw30, zw566, zw567, zw568]
def wsX7_mean : List Cond := .code yX7_mean cX7_mean 5 (some .long) :: ((wsX7_mean_r1 ++ wsX7_mean_r2) ++ wsX70 ++ wsX00 ++ wsX50)
def wsX7_nextDraw : List Cond := .code yX7_nextDraw cX7_nextDraw 1 (some .int) :: ([zw569])
def wsX7_isShut : List Cond := .code yX7_isShut cX7_isShut 2 (some .boolean) :: ([zw358, zw561] ++ wsX70 ++ wsX00)
def wsX7_drawn_r1 : List Cond := [zw570, zw343, zw434, zw358, zw419, zw420, zw421, zw37, zw422, zw385, zw386, zw44, zw45, zw387, zw388, zw389, zw390, zw359, zw571, zw572, zw573, zw569, zw450, zw40]
def wsX7_drawn_r2 : List Cond := [zw41, zw42, zw43, zw18, zw29, zw30, zw574, zw575, zw576, zw577, zw561, zw411, zw412, zw413, zw414]
def wsX7_drawn : List Cond := .code yX7_drawn cX7_drawn 8 (some .int) :: ((wsX7_drawn_r1 ++ wsX7_drawn_r2) ++ wsX70 ++ wsX50 ++ wsX00)
def wsX7_firstShut_r1 : List Cond := [zw570, zw435, zw436, zw437, zw37, zw438, zw358, zw385, zw387, zw388, zw389, zw390, zw359, zw386, zw44, zw45, zw571, zw572, zw573, zw569, zw574, zw575, zw576, zw577]
def wsX7_firstShut_r2 : List Cond := [zw561, zw411, zw412, zw413, zw414]
def wsX7_firstShut : List Cond := .code yX7_firstShut cX7_firstShut 5 (some .int) :: ((wsX7_firstShut_r1 ++ wsX7_firstShut_r2) ++ wsX70 ++ wsX00)
def wsX7_go_r1 : List Cond := [zw343, zw428, zw350, zw472, zw358, zw424, zw473, zw474, zw475, zw37, zw476, zw435, zw436, zw437, zw438, zw385, zw386, zw44, zw45, zw387, zw388, zw389, zw390, zw359]
def wsX7_go_r2 : List Cond := [zw578, zw579, zw580, zw349, zw581, zw111, zw101, zw107, zw112, zw113, zw114, zw115, zw116, zw117, zw118, zw62, zw119, zw109, zw72, zw73, zw46, zw110, zw97, zw98]
def wsX7_go_r3 : List Cond := [zw455, zw456, zw457, zw42, zw458, zw74, zw75, zw55, zw56, zw76, zw26, zw77, zw78, zw79, zw80, zw7, zw8, zw81, zw82, zw83, zw84, zw57, zw27, zw58]
def wsX7_go_r4 : List Cond := [zw59, zw60, zw61, zw63, zw47, zw48, zw64, zw65, zw66, zw67, zw68, zw69, zw70, zw13, zw71, zw49, zw50, zw51, zw52, zw53, zw54, zw5, zw4, zw85]
def wsX7_go_r5 : List Cond := [zw86, zw87, zw88, zw89, zw90, zw91, zw39, zw40, zw41, zw43, zw18, zw29, zw30, zw92, zw93, zw94, zw95, zw411, zw412, zw413, zw414]
def wsX7_go : List Cond := .code yX7_go cX7_go 5 (some .int) :: ((wsX7_go_r1 ++ (wsX7_go_r2 ++ (wsX7_go_r3 ++ (wsX7_go_r4 ++ wsX7_go_r5)))) ++ wsX70 ++ wsX50 ++ wsX00 ++ wsX10 ++ wsX60)
def wsX7_put_r1 : List Cond := [zw343, zw417, zw350, zw419, zw420, zw421, zw37, zw422, zw358, zw385, zw386, zw44, zw45, zw387, zw388, zw389, zw390, zw359, zw423, zw60, zw61, zw62, zw63, zw46]
def wsX7_put_r2 : List Cond := [zw47, zw48, zw578, zw579, zw580, zw349, zw581, zw111, zw101, zw107, zw112, zw113, zw114, zw115, zw116, zw117, zw118, zw119, zw109, zw72, zw73, zw110, zw97, zw98]
def wsX7_put_r3 : List Cond := [zw411, zw412, zw413, zw414]
def wsX7_put : List Cond := .code yX7_put cX7_put 3 (some .int) :: ((wsX7_put_r1 ++ (wsX7_put_r2 ++ wsX7_put_r3)) ++ wsX70 ++ wsX50 ++ wsX00 ++ wsX10)
def wsX7_wind_r1 : List Cond := [zw343, zw434, zw440, zw350, zw419, zw420, zw421, zw37, zw422, zw358, zw385, zw386, zw44, zw45, zw387, zw388, zw389, zw390, zw359, zw578, zw579, zw580, zw349, zw581]
def wsX7_wind_r2 : List Cond := [zw111, zw101, zw107, zw112, zw113, zw114, zw115, zw116, zw117, zw118, zw62, zw119, zw109, zw72, zw73, zw46, zw110, zw97, zw98, zw528, zw93, zw94, zw95, zw411]
def wsX7_wind_r3 : List Cond := [zw412, zw413, zw414]
def wsX7_wind : List Cond := .code yX7_wind cX7_wind 3 (some .int) :: ((wsX7_wind_r1 ++ (wsX7_wind_r2 ++ wsX7_wind_r3)) ++ wsX70 ++ wsX50 ++ wsX00 ++ wsX10)
def wsX7_undo : List Cond := .code yX7_undo cX7_undo 2 (some .boolean) :: ([zw350, zw343, zw359, zw582, zw583, zw584, zw349, zw585, zw107, zw101, zw111, zw116, zw117, zw118, zw62, zw119, zw109, zw72, zw73, zw46, zw110, zw97, zw98] ++ wsX70 ++ wsX10 ++ wsX50)
def wsX7_image_r1 : List Cond := [zw350, zw586, zw343, zw435, zw436, zw437, zw37, zw438, zw358, zw385, zw387, zw388, zw389, zw390, zw359, zw587, zw588, zw589, zw349, zw590, zw108, zw103, zw116, zw117]
def wsX7_image_r2 : List Cond := [zw118, zw62, zw119, zw109, zw72, zw73, zw46, zw110, zw97, zw98, zw411, zw412, zw413, zw414]
def wsX7_image : List Cond := .code yX7_image cX7_image 1 (some .int) :: ((wsX7_image_r1 ++ wsX7_image_r2) ++ wsX70 ++ wsX10 ++ wsX00 ++ wsX50)
def wsX7_back_r1 : List Cond := [zw350, zw343, zw359, zw591, zw592, zw593, zw349, zw594, zw108, zw103, zw107, zw44, zw37, zw45, zw116, zw117, zw118, zw62, zw119, zw109, zw72, zw73, zw46, zw110]
def wsX7_back_r2 : List Cond := [zw97, zw98]
def wsX7_back : List Cond := .code yX7_back cX7_back 3 (some .boolean) :: ((wsX7_back_r1 ++ wsX7_back_r2) ++ wsX70 ++ wsX10 ++ wsX50)
def wsX7_size_r1 : List Cond := [zw343, zw428, zw350, zw595, zw586, zw341, zw377, zw358, zw596, zw597, zw598, zw42, zw599, zw18, zw26, zw27, zw28, zw20, zw14, zw22, zw21, zw29, zw30, zw31]
def wsX7_size_r2 : List Cond := [zw32, zw33, zw34, zw35, zw23, zw24, zw25]
def wsX7_size : List Cond := .code yX7_size cX7_size 2 (some .int) :: ((wsX7_size_r1 ++ wsX7_size_r2) ++ wsX70 ++ wsX50 ++ wsX10 ++ wsX30 ++ wsX00 ++ wsX60)
def wsX7_trouble : List Cond := .code yX7_trouble cX7_trouble 1 (some .int) :: ([zw359] ++ wsX70)
def wsX8_init : List Cond := .code yX8_init cX8_init 1 none :: ([zw600, zw1, zw2, zw3, zw601, zw602, zw603, zw604, zw605, zw606, zw607, zw608, zw609, zw610, zw611, zw612, zw613, zw614, zw615, zw616] ++ wsX80)
def wsX8_good : List Cond := .code yX8_good cX8_good 1 none :: ([zw617, zw618] ++ wsX80)
def wsX8_no : List Cond := .code yX8_no cX8_no 2 (some .int) :: ([zw618] ++ wsX80)
def wsX8_isNot : List Cond := .code yX8_isNot cX8_isNot 2 (some .boolean) :: ([zw618] ++ wsX80)
def wsX8_in : List Cond := .code yX8_in cX8_in 3 (some .boolean) :: ([])
def wsX8_hasBit : List Cond := .code yX8_hasBit cX8_hasBit 2 (some .boolean) :: ([])
def wsX8_ones : List Cond := .code yX8_ones cX8_ones 3 (some .int) :: ([])
def wsX8_copy : List Cond := .code yX8_copy cX8_copy 6 none :: ([])
def wsX8_lowest : List Cond := .code yX8_lowest cX8_lowest 11 (some .long) :: ([])
def wsX8_feed : List Cond := .code yX8_feed cX8_feed 8 (some .int) :: ([zw617, zw619, zw601] ++ wsX80)
def wsX8_see : List Cond := .code yX8_see cX8_see 2 (some .int) :: ([zw620, zw601] ++ wsX80)
def wsX8_isSmall : List Cond := .code yX8_isSmall cX8_isSmall 1 (some .boolean) :: ([])
def wsX8_isDigit : List Cond := .code yX8_isDigit cX8_isDigit 1 (some .boolean) :: ([])
def wsX8_next : List Cond := .code yX8_next cX8_next 4 none :: ([zw621, zw622, zw623, zw624, zw625, zw603, zw626, zw627, zw628, zw629, zw630, zw620, zw601, zw631, zw632, zw633, zw634, zw635, zw636] ++ wsX80)
def wsX8_wrong : List Cond := .code yX8_wrong cX8_wrong 3 none :: ([zw637, zw638, zw602] ++ wsX80)
def wsX8_isWord_r1 : List Cond := [zw637, zw625, zw623, zw603, zw639, zw226, zw227, zw190, zw228, zw186, zw187, zw188, zw189, zw191, zw184, zw185, zw640, zw230, zw231, zw232, zw214, zw215, zw216, zw217]
def wsX8_isWord_r2 : List Cond := [zw218, zw219, zw220, zw221, zw197, zw198, zw199, zw192, zw193, zw194, zw195, zw196, zw222, zw223, zw202, zw224, zw208, zw209, zw210, zw200, zw201, zw203, zw204, zw211]
def wsX8_isWord_r3 : List Cond := [zw212, zw213, zw205, zw206, zw207]
def wsX8_isWord : List Cond := .code yX8_isWord cX8_isWord 4 (some .boolean) :: ((wsX8_isWord_r1 ++ (wsX8_isWord_r2 ++ wsX8_isWord_r3)) ++ wsX80)
def wsX8_takesWord_r1 : List Cond := [zw641, zw642, zw643, zw629, zw644, zw637, zw625, zw623, zw603, zw639, zw226, zw227, zw190, zw228, zw186, zw187, zw188, zw189, zw191, zw184, zw185, zw640, zw230, zw231]
def wsX8_takesWord_r2 : List Cond := [zw232, zw214, zw215, zw216, zw217, zw218, zw219, zw220, zw221, zw197, zw198, zw199, zw192, zw193, zw194, zw195, zw196, zw222, zw223, zw202, zw224, zw208, zw209, zw210]
def wsX8_takesWord_r3 : List Cond := [zw200, zw201, zw203, zw204, zw211, zw212, zw213, zw205, zw206, zw207, zw645, zw646, zw647, zw648, zw621, zw622, zw624, zw626, zw627, zw628, zw630, zw620, zw601, zw631]
def wsX8_takesWord_r4 : List Cond := [zw632, zw633, zw634, zw635, zw636]
def wsX8_takesWord : List Cond := .code yX8_takesWord cX8_takesWord 2 (some .boolean) :: ((wsX8_takesWord_r1 ++ (wsX8_takesWord_r2 ++ (wsX8_takesWord_r3 ++ wsX8_takesWord_r4))) ++ wsX80)
def wsX8_must_r1 : List Cond := [zw637, zw622, zw649, zw650, zw651, zw629, zw652, zw641, zw642, zw643, zw644, zw625, zw623, zw603, zw639, zw226, zw227, zw190, zw228, zw186, zw187, zw188, zw189, zw191]
def wsX8_must_r2 : List Cond := [zw184, zw185, zw640, zw230, zw231, zw232, zw214, zw215, zw216, zw217, zw218, zw219, zw220, zw221, zw197, zw198, zw199, zw192, zw193, zw194, zw195, zw196, zw222, zw223]
def wsX8_must_r3 : List Cond := [zw202, zw224, zw208, zw209, zw210, zw200, zw201, zw203, zw204, zw211, zw212, zw213, zw205, zw206, zw207, zw645, zw646, zw647, zw648, zw621, zw624, zw626, zw627, zw628]
def wsX8_must_r4 : List Cond := [zw630, zw620, zw601, zw631, zw632, zw633, zw634, zw635, zw636, zw653, zw654, zw655, zw656, zw638, zw602]
def wsX8_must : List Cond := .code yX8_must cX8_must 2 none :: ((wsX8_must_r1 ++ (wsX8_must_r2 ++ (wsX8_must_r3 ++ wsX8_must_r4))) ++ wsX80)
def wsX8_isKnown : List Cond := .code yX8_isKnown cX8_isKnown 4 (some .boolean) :: ([zw605, zw623, zw603] ++ wsX80)
def wsX8_newName_r1 : List Cond := [zw637, zw625, zw622, zw623, zw605, zw603, zw641, zw642, zw643, zw629, zw644, zw639, zw226, zw227, zw190, zw228, zw186, zw187, zw188, zw189, zw191, zw184, zw185, zw640]
def wsX8_newName_r2 : List Cond := [zw230, zw231, zw232, zw214, zw215, zw216, zw217, zw218, zw219, zw220, zw221, zw197, zw198, zw199, zw192, zw193, zw194, zw195, zw196, zw222, zw223, zw202, zw224, zw208]
def wsX8_newName_r3 : List Cond := [zw209, zw210, zw200, zw201, zw203, zw204, zw211, zw212, zw213, zw205, zw206, zw207, zw653, zw654, zw655, zw656, zw638, zw602, zw657, zw658, zw659, zw660, zw645, zw646]
def wsX8_newName_r4 : List Cond := [zw647, zw648, zw621, zw624, zw626, zw627, zw628, zw630, zw620, zw601, zw631, zw632, zw633, zw634, zw635, zw636]
def wsX8_newName : List Cond := .code yX8_newName cX8_newName 3 none :: ((wsX8_newName_r1 ++ (wsX8_newName_r2 ++ (wsX8_newName_r3 ++ wsX8_newName_r4))) ++ wsX80)
def wsX8_pass : List Cond := .code yX8_pass cX8_pass 1 none :: ([zw637, zw645, zw646, zw647, zw629, zw648, zw621, zw622, zw623, zw624, zw625, zw603, zw626, zw627, zw628, zw630, zw620, zw601, zw631, zw632, zw633, zw634, zw635, zw636] ++ wsX80)
def wsX8_numberHere : List Cond := .code yX8_numberHere cX8_numberHere 3 (some .int) :: ([zw637, zw625, zw622, zw624, zw653, zw654, zw655, zw629, zw656, zw638, zw602, zw661, zw662, zw663] ++ wsX80)
def wsX8_number_r1 : List Cond := [zw664, zw665, zw666, zw629, zw667, zw637, zw625, zw622, zw624, zw653, zw654, zw655, zw656, zw638, zw602, zw661, zw662, zw663, zw668, zw669, zw670, zw671, zw645, zw646]
def wsX8_number_r2 : List Cond := [zw647, zw648, zw621, zw623, zw603, zw626, zw627, zw628, zw630, zw620, zw601, zw631, zw632, zw633, zw634, zw635, zw636]
def wsX8_number : List Cond := .code yX8_number cX8_number 4 (some .int) :: ((wsX8_number_r1 ++ wsX8_number_r2) ++ wsX80)
def wsX8_after_r1 : List Cond := [zw672, zw673, zw674, zw629, zw675, zw637, zw622, zw649, zw650, zw651, zw652, zw641, zw642, zw643, zw644, zw625, zw623, zw603, zw639, zw226, zw227, zw190, zw228, zw186]
def wsX8_after_r2 : List Cond := [zw187, zw188, zw189, zw191, zw184, zw185, zw640, zw230, zw231, zw232, zw214, zw215, zw216, zw217, zw218, zw219, zw220, zw221, zw197, zw198, zw199, zw192, zw193, zw194]
def wsX8_after_r3 : List Cond := [zw195, zw196, zw222, zw223, zw202, zw224, zw208, zw209, zw210, zw200, zw201, zw203, zw204, zw211, zw212, zw213, zw205, zw206, zw207, zw645, zw646, zw647, zw648, zw621]
def wsX8_after_r4 : List Cond := [zw624, zw626, zw627, zw628, zw630, zw620, zw601, zw631, zw632, zw633, zw634, zw635, zw636, zw653, zw654, zw655, zw656, zw638, zw602, zw676, zw677, zw678, zw679, zw664]
def wsX8_after_r5 : List Cond := [zw665, zw666, zw667, zw661, zw662, zw663, zw668, zw669, zw670, zw671]
def wsX8_after : List Cond := .code yX8_after cX8_after 4 (some .int) :: ((wsX8_after_r1 ++ (wsX8_after_r2 ++ (wsX8_after_r3 ++ (wsX8_after_r4 ++ wsX8_after_r5)))) ++ wsX80)
def wsX8_galleryLine_r1 : List Cond := [zw605, zw622, zw637, zw653, zw654, zw655, zw629, zw656, zw638, zw602, zw645, zw646, zw647, zw648, zw621, zw623, zw624, zw625, zw603, zw626, zw627, zw628, zw630, zw620]
def wsX8_galleryLine_r2 : List Cond := [zw601, zw631, zw632, zw633, zw634, zw635, zw636, zw680, zw681, zw682, zw683, zw672, zw673, zw674, zw675, zw649, zw650, zw651, zw652, zw641, zw642, zw643, zw644, zw639]
def wsX8_galleryLine_r3 : List Cond := [zw226, zw227, zw190, zw228, zw186, zw187, zw188, zw189, zw191, zw184, zw185, zw640, zw230, zw231, zw232, zw214, zw215, zw216, zw217, zw218, zw219, zw220, zw221, zw197]
def wsX8_galleryLine_r4 : List Cond := [zw198, zw199, zw192, zw193, zw194, zw195, zw196, zw222, zw223, zw202, zw224, zw208, zw209, zw210, zw200, zw201, zw203, zw204, zw211, zw212, zw213, zw205, zw206, zw207]
def wsX8_galleryLine_r5 : List Cond := [zw676, zw677, zw678, zw679, zw664, zw665, zw666, zw667, zw661, zw662, zw663, zw668, zw669, zw670, zw671]
def wsX8_galleryLine : List Cond := .code yX8_galleryLine cX8_galleryLine 1 none :: ((wsX8_galleryLine_r1 ++ (wsX8_galleryLine_r2 ++ (wsX8_galleryLine_r3 ++ (wsX8_galleryLine_r4 ++ wsX8_galleryLine_r5)))) ++ wsX80)
def wsX8_last : List Cond := .code yX8_last cX8_last 1 (some .int) :: ([zw605] ++ wsX80)
def wsX8_lawLine_r1 : List Cond := [zw605, zw622, zw637, zw653, zw654, zw655, zw629, zw656, zw638, zw602, zw645, zw646, zw647, zw648, zw621, zw623, zw624, zw625, zw603, zw626, zw627, zw628, zw630, zw620]
def wsX8_lawLine_r2 : List Cond := [zw601, zw631, zw632, zw633, zw634, zw635, zw636, zw684, zw685, zw686, zw687, zw680, zw681, zw682, zw683, zw672, zw673, zw674, zw675, zw649, zw650, zw651, zw652, zw641]
def wsX8_lawLine_r3 : List Cond := [zw642, zw643, zw644, zw639, zw226, zw227, zw190, zw228, zw186, zw187, zw188, zw189, zw191, zw184, zw185, zw640, zw230, zw231, zw232, zw214, zw215, zw216, zw217, zw218]
def wsX8_lawLine_r4 : List Cond := [zw219, zw220, zw221, zw197, zw198, zw199, zw192, zw193, zw194, zw195, zw196, zw222, zw223, zw202, zw224, zw208, zw209, zw210, zw200, zw201, zw203, zw204, zw211, zw212]
def wsX8_lawLine_r5 : List Cond := [zw213, zw205, zw206, zw207, zw676, zw677, zw678, zw679, zw664, zw665, zw666, zw667, zw661, zw662, zw663, zw668, zw669, zw670, zw671]
def wsX8_lawLine : List Cond := .code yX8_lawLine cX8_lawLine 1 none :: ((wsX8_lawLine_r1 ++ (wsX8_lawLine_r2 ++ (wsX8_lawLine_r3 ++ (wsX8_lawLine_r4 ++ wsX8_lawLine_r5)))) ++ wsX80)
def wsX8_begins_r1 : List Cond := [zw622, zw605, zw641, zw642, zw643, zw629, zw644, zw637, zw625, zw623, zw603, zw639, zw226, zw227, zw190, zw228, zw186, zw187, zw188, zw189, zw191, zw184, zw185, zw640]
def wsX8_begins_r2 : List Cond := [zw230, zw231, zw232, zw214, zw215, zw216, zw217, zw218, zw219, zw220, zw221, zw197, zw198, zw199, zw192, zw193, zw194, zw195, zw196, zw222, zw223, zw202, zw224, zw208]
def wsX8_begins_r3 : List Cond := [zw209, zw210, zw200, zw201, zw203, zw204, zw211, zw212, zw213, zw205, zw206, zw207, zw653, zw654, zw655, zw656, zw638, zw602, zw668, zw669, zw670, zw671, zw645, zw646]
def wsX8_begins_r4 : List Cond := [zw647, zw648, zw621, zw624, zw626, zw627, zw628, zw630, zw620, zw601, zw631, zw632, zw633, zw634, zw635, zw636]
def wsX8_begins : List Cond := .code yX8_begins cX8_begins 3 (some .boolean) :: ((wsX8_begins_r1 ++ (wsX8_begins_r2 ++ (wsX8_begins_r3 ++ wsX8_begins_r4))) ++ wsX80)
def wsX8_figureLine_r1 : List Cond := [zw637, zw605, zw622, zw688, zw689, zw690, zw629, zw691, zw625, zw623, zw603, zw641, zw642, zw643, zw644, zw639, zw226, zw227, zw190, zw228, zw186, zw187, zw188, zw189]
def wsX8_figureLine_r2 : List Cond := [zw191, zw184, zw185, zw640, zw230, zw231, zw232, zw214, zw215, zw216, zw217, zw218, zw219, zw220, zw221, zw197, zw198, zw199, zw192, zw193, zw194, zw195, zw196, zw222]
def wsX8_figureLine_r3 : List Cond := [zw223, zw202, zw224, zw208, zw209, zw210, zw200, zw201, zw203, zw204, zw211, zw212, zw213, zw205, zw206, zw207, zw653, zw654, zw655, zw656, zw638, zw602, zw657, zw658]
def wsX8_figureLine_r4 : List Cond := [zw659, zw660, zw645, zw646, zw647, zw648, zw621, zw624, zw626, zw627, zw628, zw630, zw620, zw601, zw631, zw632, zw633, zw634, zw635, zw636, zw672, zw673, zw674, zw675]
def wsX8_figureLine_r5 : List Cond := [zw649, zw650, zw651, zw652, zw684, zw685, zw686, zw687, zw664, zw665, zw666, zw667, zw661, zw662, zw663, zw668, zw669, zw670, zw671, zw676, zw677, zw678, zw679]
def wsX8_figureLine : List Cond := .code yX8_figureLine cX8_figureLine 4 none :: ((wsX8_figureLine_r1 ++ (wsX8_figureLine_r2 ++ (wsX8_figureLine_r3 ++ (wsX8_figureLine_r4 ++ wsX8_figureLine_r5)))) ++ wsX80)
def wsX8_watcherLine_r1 : List Cond := [zw637, zw605, zw688, zw689, zw690, zw629, zw691, zw625, zw622, zw623, zw603, zw641, zw642, zw643, zw644, zw639, zw226, zw227, zw190, zw228, zw186, zw187, zw188, zw189]
def wsX8_watcherLine_r2 : List Cond := [zw191, zw184, zw185, zw640, zw230, zw231, zw232, zw214, zw215, zw216, zw217, zw218, zw219, zw220, zw221, zw197, zw198, zw199, zw192, zw193, zw194, zw195, zw196, zw222]
def wsX8_watcherLine_r3 : List Cond := [zw223, zw202, zw224, zw208, zw209, zw210, zw200, zw201, zw203, zw204, zw211, zw212, zw213, zw205, zw206, zw207, zw653, zw654, zw655, zw656, zw638, zw602, zw657, zw658]
def wsX8_watcherLine_r4 : List Cond := [zw659, zw660, zw645, zw646, zw647, zw648, zw621, zw624, zw626, zw627, zw628, zw630, zw620, zw601, zw631, zw632, zw633, zw634, zw635, zw636, zw684, zw685, zw686, zw687]
def wsX8_watcherLine_r5 : List Cond := [zw680, zw681, zw682, zw683, zw672, zw673, zw674, zw675, zw649, zw650, zw651, zw652, zw676, zw677, zw678, zw679, zw664, zw665, zw666, zw667, zw661, zw662, zw663, zw668]
def wsX8_watcherLine_r6 : List Cond := [zw669, zw670, zw671]
def wsX8_watcherLine : List Cond := .code yX8_watcherLine cX8_watcherLine 2 none :: ((wsX8_watcherLine_r1 ++ (wsX8_watcherLine_r2 ++ (wsX8_watcherLine_r3 ++ (wsX8_watcherLine_r4 ++ (wsX8_watcherLine_r5 ++ wsX8_watcherLine_r6))))) ++ wsX80)
def wsX8_seenLine_r1 : List Cond := [zw637, zw605, zw622, zw684, zw685, zw686, zw629, zw687, zw676, zw677, zw678, zw679, zw664, zw665, zw666, zw667, zw625, zw624, zw653, zw654, zw655, zw656, zw638, zw602]
def wsX8_seenLine_r2 : List Cond := [zw661, zw662, zw663, zw668, zw669, zw670, zw671, zw645, zw646, zw647, zw648, zw621, zw623, zw603, zw626, zw627, zw628, zw630, zw620, zw601, zw631, zw632, zw633, zw634]
def wsX8_seenLine_r3 : List Cond := [zw635, zw636, zw672, zw673, zw674, zw675, zw649, zw650, zw651, zw652, zw641, zw642, zw643, zw644, zw639, zw226, zw227, zw190, zw228, zw186, zw187, zw188, zw189, zw191]
def wsX8_seenLine_r4 : List Cond := [zw184, zw185, zw640, zw230, zw231, zw232, zw214, zw215, zw216, zw217, zw218, zw219, zw220, zw221, zw197, zw198, zw199, zw192, zw193, zw194, zw195, zw196, zw222, zw223]
def wsX8_seenLine_r5 : List Cond := [zw202, zw224, zw208, zw209, zw210, zw200, zw201, zw203, zw204, zw211, zw212, zw213, zw205, zw206, zw207]
def wsX8_seenLine : List Cond := .code yX8_seenLine cX8_seenLine 5 none :: ((wsX8_seenLine_r1 ++ (wsX8_seenLine_r2 ++ (wsX8_seenLine_r3 ++ (wsX8_seenLine_r4 ++ wsX8_seenLine_r5)))) ++ wsX80)
def wsX8_readLine_r1 : List Cond := [zw605, zw622, zw641, zw642, zw643, zw629, zw644, zw637, zw625, zw623, zw603, zw639, zw226, zw227, zw190, zw228, zw186, zw187, zw188, zw189, zw191, zw184, zw185, zw640]
def wsX8_readLine_r2 : List Cond := [zw230, zw231, zw232, zw214, zw215, zw216, zw217, zw218, zw219, zw220, zw221, zw197, zw198, zw199, zw192, zw193, zw194, zw195, zw196, zw222, zw223, zw202, zw224, zw208]
def wsX8_readLine_r3 : List Cond := [zw209, zw210, zw200, zw201, zw203, zw204, zw211, zw212, zw213, zw205, zw206, zw207, zw692, zw693, zw694, zw695, zw653, zw654, zw655, zw656, zw638, zw602, zw645, zw646]
def wsX8_readLine_r4 : List Cond := [zw647, zw648, zw621, zw624, zw626, zw627, zw628, zw630, zw620, zw601, zw631, zw632, zw633, zw634, zw635, zw636, zw680, zw681, zw682, zw683, zw672, zw673, zw674, zw675]
def wsX8_readLine_r5 : List Cond := [zw649, zw650, zw651, zw652, zw676, zw677, zw678, zw679, zw664, zw665, zw666, zw667, zw661, zw662, zw663, zw668, zw669, zw670, zw671, zw696, zw697, zw698, zw699, zw684]
def wsX8_readLine_r6 : List Cond := [zw685, zw686, zw687, zw700, zw701, zw702, zw703, zw704, zw705, zw706, zw707, zw688, zw689, zw690, zw691, zw657, zw658, zw659, zw660, zw708, zw709, zw710, zw711, zw712]
def wsX8_readLine_r7 : List Cond := [zw713, zw714, zw715]
def wsX8_readLine : List Cond := .code yX8_readLine cX8_readLine 1 none :: ((wsX8_readLine_r1 ++ (wsX8_readLine_r2 ++ (wsX8_readLine_r3 ++ (wsX8_readLine_r4 ++ (wsX8_readLine_r5 ++ (wsX8_readLine_r6 ++ wsX8_readLine_r7)))))) ++ wsX80)
def wsX8_gallery_r1 : List Cond := [zw619, zw638, zw637, zw605, zw620, zw621, zw625, zw622, zw604, zw606, zw716, zw717, zw718, zw719, zw720, zw721, zw629, zw722, zw617, zw618, zw661, zw662, zw663, zw723]
def wsX8_gallery_r2 : List Cond := [zw724, zw725, zw726, zw645, zw646, zw647, zw648, zw623, zw624, zw603, zw626, zw627, zw628, zw630, zw601, zw631, zw632, zw633, zw634, zw635, zw636, zw727, zw728, zw729]
def wsX8_gallery_r3 : List Cond := [zw730, zw641, zw642, zw643, zw644, zw639, zw226, zw227, zw190, zw228, zw186, zw187, zw188, zw189, zw191, zw184, zw185, zw640, zw230, zw231, zw232, zw214, zw215, zw216]
def wsX8_gallery_r4 : List Cond := [zw217, zw218, zw219, zw220, zw221, zw197, zw198, zw199, zw192, zw193, zw194, zw195, zw196, zw222, zw223, zw202, zw224, zw208, zw209, zw210, zw200, zw201, zw203, zw204]
def wsX8_gallery_r5 : List Cond := [zw211, zw212, zw213, zw205, zw206, zw207, zw692, zw693, zw694, zw695, zw653, zw654, zw655, zw656, zw602, zw680, zw681, zw682, zw683, zw672, zw673, zw674, zw675, zw649]
def wsX8_gallery_r6 : List Cond := [zw650, zw651, zw652, zw676, zw677, zw678, zw679, zw664, zw665, zw666, zw667, zw668, zw669, zw670, zw671, zw696, zw697, zw698, zw699, zw684, zw685, zw686, zw687, zw700]
def wsX8_gallery_r7 : List Cond := [zw701, zw702, zw703, zw704, zw705, zw706, zw707, zw688, zw689, zw690, zw691, zw657, zw658, zw659, zw660, zw708, zw709, zw710, zw711, zw712, zw713, zw714, zw715, zw731]
def wsX8_gallery_r8 : List Cond := [zw732, zw733]
def wsX8_gallery : List Cond := .code yX8_gallery cX8_gallery 3 (some .int) :: ((wsX8_gallery_r1 ++ (wsX8_gallery_r2 ++ (wsX8_gallery_r3 ++ (wsX8_gallery_r4 ++ (wsX8_gallery_r5 ++ (wsX8_gallery_r6 ++ (wsX8_gallery_r7 ++ wsX8_gallery_r8))))))) ++ wsX80)
def wsX8_fault : List Cond := .code yX8_fault cX8_fault 1 (some .int) :: ([zw617, zw638] ++ wsX80)
def wsX8_where : List Cond := .code yX8_where cX8_where 1 (some .int) :: ([zw617, zw618, zw602] ++ wsX80)
def wsX8_isFigure : List Cond := .code yX8_isFigure cX8_isFigure 2 (some .boolean) :: ([zw716, zw604, zw661, zw662, zw629, zw663] ++ wsX80)
def wsX8_isWatcher : List Cond := .code yX8_isWatcher cX8_isWatcher 2 (some .boolean) :: ([zw716, zw604, zw661, zw662, zw629, zw663] ++ wsX80)
def wsX8_why : List Cond := .code yX8_why cX8_why 3 (some .int) :: ([])
def wsX8_watchAsTold : List Cond := .code yX8_watchAsTold cX8_watchAsTold 2 none :: ([zw604, zw610, zw611, zw734] ++ wsX80)
def wsX8_watcherAt : List Cond := .code yX8_watcherAt cX8_watcherAt 6 (some .int) :: ([zw611, zw610] ++ wsX80)
def wsX8_isWatched : List Cond := .code yX8_isWatched cX8_isWatched 4 (some .boolean) :: ([zw734, zw604, zw735, zw736, zw629, zw737, zw738, zw739, zw740, zw741, zw611, zw610] ++ wsX80)
def wsX8_nextOf : List Cond := .code yX8_nextOf cX8_nextOf 2 (some .int) :: ([zw604] ++ wsX80)
def wsX8_walkOn : List Cond := .code yX8_walkOn cX8_walkOn 3 none :: ([zw604, zw742, zw743, zw744, zw629, zw745, zw734, zw735, zw736, zw737, zw738, zw739, zw740, zw741, zw611, zw610] ++ wsX80)
def wsX8_speakOn : List Cond := .code yX8_speakOn cX8_speakOn 6 none :: ([zw604, zw746, zw742, zw743, zw744, zw629, zw745, zw734, zw735, zw736, zw737, zw738, zw739, zw740, zw741, zw611, zw610] ++ wsX80)
def wsX8_minuteOn_r1 : List Cond := [zw746, zw604, zw747, zw748, zw735, zw736, zw629, zw737, zw749, zw750, zw751, zw752, zw742, zw743, zw744, zw745, zw734, zw738, zw739, zw740, zw741, zw611, zw610, zw753]
def wsX8_minuteOn_r2 : List Cond := [zw754, zw755, zw756, zw757, zw758, zw759, zw760]
def wsX8_minuteOn : List Cond := .code yX8_minuteOn cX8_minuteOn 3 none :: ((wsX8_minuteOn_r1 ++ wsX8_minuteOn_r2) ++ wsX80)
def wsX8_begin : List Cond := .code yX8_begin cX8_begin 1 none :: ([zw606, zw607, zw761, zw762, zw763, zw629, zw764, zw604, zw610, zw611, zw734, zw731, zw732, zw733] ++ wsX80)
def wsX8_minutesOn_r1 : List Cond := [zw607, zw765, zw766, zw767, zw629, zw768, zw606, zw761, zw762, zw763, zw764, zw604, zw610, zw611, zw734, zw731, zw732, zw733, zw769, zw770, zw771, zw772, zw746, zw747]
def wsX8_minutesOn_r2 : List Cond := [zw748, zw735, zw736, zw737, zw749, zw750, zw751, zw752, zw742, zw743, zw744, zw745, zw738, zw739, zw740, zw741, zw753, zw754, zw755, zw756, zw757, zw758, zw759, zw760]
def wsX8_minutesOn : List Cond := .code yX8_minutesOn cX8_minutesOn 3 none :: ((wsX8_minutesOn_r1 ++ wsX8_minutesOn_r2) ++ wsX80)
def wsX8_figure : List Cond := .code yX8_figure cX8_figure 3 (some .int) :: ([zw604, zw606, zw719, zw720, zw721, zw629, zw722, zw617, zw618, zw773, zw774, zw775, zw776, zw716, zw661, zw662, zw663, zw723, zw724, zw725, zw726] ++ wsX80)
def wsX8_watcher_r1 : List Cond := [zw604, zw606, zw719, zw720, zw721, zw629, zw722, zw617, zw618, zw777, zw778, zw779, zw780, zw716, zw661, zw662, zw663, zw723, zw724, zw725, zw726, zw761, zw762, zw763]
def wsX8_watcher_r2 : List Cond := [zw764, zw610, zw611, zw734, zw738, zw739, zw740, zw741]
def wsX8_watcher : List Cond := .code yX8_watcher cX8_watcher 3 (some .int) :: ((wsX8_watcher_r1 ++ wsX8_watcher_r2) ++ wsX80)
def wsX8_alive : List Cond := .code yX8_alive cX8_alive 1 (some .int) :: ([zw716, zw606, zw719, zw720, zw721, zw629, zw722, zw617, zw618, zw723, zw724, zw725, zw726] ++ wsX80)
def wsX8_left : List Cond := .code yX8_left cX8_left 1 (some .int) :: ([zw716, zw604, zw606, zw719, zw720, zw721, zw629, zw722, zw617, zw618, zw723, zw724, zw725, zw726] ++ wsX80)
def wsX8_caught : List Cond := .code yX8_caught cX8_caught 1 (some .int) :: ([zw716, zw606, zw719, zw720, zw721, zw629, zw722, zw617, zw618, zw723, zw724, zw725, zw726] ++ wsX80)
def wsX8_goRound : List Cond := .code yX8_goRound cX8_goRound 4 none :: ([zw606, zw781, zw612, zw782, zw757, zw758, zw759, zw629, zw760, zw604] ++ wsX80)
def wsX8_turnAt : List Cond := .code yX8_turnAt cX8_turnAt 2 (some .int) :: ([zw612, zw781, zw782] ++ wsX80)
def wsX8_turnOf_r1 : List Cond := [zw716, zw783, zw719, zw720, zw721, zw629, zw722, zw617, zw618, zw661, zw662, zw663, zw784, zw785, zw786, zw787, zw723, zw724, zw725, zw726, zw788, zw789, zw790, zw791]
def wsX8_turnOf_r2 : List Cond := [zw606, zw781, zw612, zw782, zw757, zw758, zw759, zw760, zw604, zw792, zw793, zw794, zw795]
def wsX8_turnOf : List Cond := .code yX8_turnOf cX8_turnOf 3 (some .int) :: ((wsX8_turnOf_r1 ++ wsX8_turnOf_r2) ++ wsX80)
def wsX8_turnIn_r1 : List Cond := [zw781, zw782, zw612, zw719, zw720, zw721, zw629, zw722, zw617, zw618, zw773, zw774, zw775, zw776, zw716, zw604, zw661, zw662, zw663, zw723, zw724, zw725, zw726, zw788]
def wsX8_turnIn_r2 : List Cond := [zw789, zw790, zw791, zw606, zw757, zw758, zw759, zw760]
def wsX8_turnIn : List Cond := .code yX8_turnIn cX8_turnIn 3 (some .int) :: ((wsX8_turnIn_r1 ++ wsX8_turnIn_r2) ++ wsX80)
def wsX8_settles_r1 : List Cond := [zw716, zw781, zw719, zw720, zw721, zw629, zw722, zw617, zw618, zw723, zw724, zw725, zw726, zw788, zw789, zw790, zw791, zw606, zw612, zw782, zw757, zw758, zw759, zw760]
def wsX8_settles_r2 : List Cond := [zw604]
def wsX8_settles : List Cond := .code yX8_settles cX8_settles 1 (some .int) :: ((wsX8_settles_r1 ++ wsX8_settles_r2) ++ wsX80)
def wsX8_round_r1 : List Cond := [zw716, zw782, zw719, zw720, zw721, zw629, zw722, zw617, zw618, zw723, zw724, zw725, zw726, zw788, zw789, zw790, zw791, zw606, zw781, zw612, zw757, zw758, zw759, zw760]
def wsX8_round_r2 : List Cond := [zw604]
def wsX8_round : List Cond := .code yX8_round cX8_round 1 (some .int) :: ((wsX8_round_r1 ++ wsX8_round_r2) ++ wsX80)
def wsX8_called_r1 : List Cond := [zw716, zw781, zw782, zw612, zw719, zw720, zw721, zw629, zw722, zw617, zw618, zw723, zw724, zw725, zw726, zw788, zw789, zw790, zw791, zw606, zw757, zw758, zw759, zw760]
def wsX8_called_r2 : List Cond := [zw604]
def wsX8_called : List Cond := .code yX8_called cX8_called 3 (some .int) :: ((wsX8_called_r1 ++ wsX8_called_r2) ++ wsX80)
def wsX8_minutesOf_r1 : List Cond := [zw606, zw604, zw719, zw720, zw721, zw629, zw722, zw617, zw618, zw773, zw774, zw775, zw776, zw716, zw661, zw662, zw663, zw784, zw785, zw786, zw787, zw723, zw724, zw725]
def wsX8_minutesOf_r2 : List Cond := [zw726, zw788, zw789, zw790, zw791, zw781, zw612, zw782, zw757, zw758, zw759, zw760, zw792, zw793, zw794, zw795]
def wsX8_minutesOf : List Cond := .code yX8_minutesOf cX8_minutesOf 6 (some .int) :: ((wsX8_minutesOf_r1 ++ wsX8_minutesOf_r2) ++ wsX80)
def wsX8_aheadWhy : List Cond := .code yX8_aheadWhy cX8_aheadWhy 4 (some .int) :: ([zw661, zw662, zw629, zw663, zw784, zw785, zw786, zw787])
def wsX8_place_r1 : List Cond := [zw607, zw719, zw720, zw721, zw629, zw722, zw617, zw618, zw773, zw774, zw775, zw776, zw716, zw604, zw661, zw662, zw663, zw796, zw797, zw798, zw799, zw784, zw785, zw786]
def wsX8_place_r2 : List Cond := [zw787, zw723, zw724, zw725, zw726, zw800, zw801, zw802, zw803, zw765, zw766, zw767, zw768, zw606, zw761, zw762, zw763, zw764, zw610, zw611, zw734, zw731, zw732, zw733]
def wsX8_place_r3 : List Cond := [zw769, zw770, zw771, zw772, zw746, zw747, zw748, zw735, zw736, zw737, zw749, zw750, zw751, zw752, zw742, zw743, zw744, zw745, zw738, zw739, zw740, zw741, zw753, zw754]
def wsX8_place_r4 : List Cond := [zw755, zw756, zw757, zw758, zw759, zw760]
def wsX8_place : List Cond := .code yX8_place cX8_place 4 (some .int) :: ((wsX8_place_r1 ++ (wsX8_place_r2 ++ (wsX8_place_r3 ++ wsX8_place_r4))) ++ wsX80)
def wsX8_watch_r1 : List Cond := [zw606, zw719, zw720, zw721, zw629, zw722, zw617, zw618, zw777, zw778, zw779, zw780, zw716, zw604, zw661, zw662, zw663, zw796, zw797, zw798, zw799, zw784, zw785, zw786]
def wsX8_watch_r2 : List Cond := [zw787, zw723, zw724, zw725, zw726, zw761, zw762, zw763, zw764, zw610, zw611, zw734, zw738, zw739, zw740, zw741]
def wsX8_watch : List Cond := .code yX8_watch cX8_watch 4 (some .int) :: ((wsX8_watch_r1 ++ wsX8_watch_r2) ++ wsX80)
def wsX8_gone_r1 : List Cond := [zw716, zw607, zw719, zw720, zw721, zw629, zw722, zw617, zw618, zw796, zw797, zw798, zw799, zw661, zw662, zw663, zw784, zw785, zw786, zw787, zw723, zw724, zw725, zw726]
def wsX8_gone_r2 : List Cond := [zw800, zw801, zw802, zw803, zw765, zw766, zw767, zw768, zw606, zw761, zw762, zw763, zw764, zw604, zw610, zw611, zw734, zw731, zw732, zw733, zw769, zw770, zw771, zw772]
def wsX8_gone_r3 : List Cond := [zw746, zw747, zw748, zw735, zw736, zw737, zw749, zw750, zw751, zw752, zw742, zw743, zw744, zw745, zw738, zw739, zw740, zw741, zw753, zw754, zw755, zw756, zw757, zw758]
def wsX8_gone_r4 : List Cond := [zw759, zw760]
def wsX8_gone : List Cond := .code yX8_gone cX8_gone 3 (some .int) :: ((wsX8_gone_r1 ++ (wsX8_gone_r2 ++ (wsX8_gone_r3 ++ wsX8_gone_r4))) ++ wsX80)
def wsX8_nextGone_r1 : List Cond := [zw607, zw769, zw770, zw771, zw629, zw772, zw746, zw604, zw747, zw748, zw735, zw736, zw737, zw749, zw750, zw751, zw752, zw742, zw743, zw744, zw745, zw734, zw738, zw739]
def wsX8_nextGone_r2 : List Cond := [zw740, zw741, zw611, zw610, zw753, zw754, zw755, zw756, zw757, zw758, zw759, zw760]
def wsX8_nextGone : List Cond := .code yX8_nextGone cX8_nextGone 3 (some .int) :: ((wsX8_nextGone_r1 ++ wsX8_nextGone_r2) ++ wsX80)
def wsX8_stairs_r1 : List Cond := [zw716, zw719, zw720, zw721, zw629, zw722, zw617, zw618, zw723, zw724, zw725, zw726, zw765, zw766, zw767, zw768, zw606, zw607, zw761, zw762, zw763, zw764, zw604, zw610]
def wsX8_stairs_r2 : List Cond := [zw611, zw734, zw731, zw732, zw733, zw804, zw805, zw806, zw807, zw769, zw770, zw771, zw772, zw746, zw747, zw748, zw735, zw736, zw737, zw749, zw750, zw751, zw752, zw742]
def wsX8_stairs_r3 : List Cond := [zw743, zw744, zw745, zw738, zw739, zw740, zw741, zw753, zw754, zw755, zw756, zw757, zw758, zw759, zw760]
def wsX8_stairs : List Cond := .code yX8_stairs cX8_stairs 1 (some .int) :: ((wsX8_stairs_r1 ++ (wsX8_stairs_r2 ++ wsX8_stairs_r3)) ++ wsX80)
def wsX8_catches_r1 : List Cond := [zw716, zw607, zw606, zw719, zw720, zw721, zw629, zw722, zw617, zw618, zw796, zw797, zw798, zw799, zw661, zw662, zw663, zw784, zw785, zw786, zw787, zw723, zw724, zw725]
def wsX8_catches_r2 : List Cond := [zw726, zw800, zw801, zw802, zw803, zw765, zw766, zw767, zw768, zw761, zw762, zw763, zw764, zw604, zw610, zw611, zw734, zw731, zw732, zw733, zw769, zw770, zw771, zw772]
def wsX8_catches_r3 : List Cond := [zw746, zw747, zw748, zw735, zw736, zw737, zw749, zw750, zw751, zw752, zw742, zw743, zw744, zw745, zw738, zw739, zw740, zw741, zw753, zw754, zw755, zw756, zw757, zw758]
def wsX8_catches_r4 : List Cond := [zw759, zw760]
def wsX8_catches : List Cond := .code yX8_catches cX8_catches 3 (some .int) :: ((wsX8_catches_r1 ++ (wsX8_catches_r2 ++ (wsX8_catches_r3 ++ wsX8_catches_r4))) ++ wsX80)
def wsX8_heard_r1 : List Cond := [zw607, zw719, zw720, zw721, zw629, zw722, zw617, zw618, zw773, zw774, zw775, zw776, zw716, zw604, zw661, zw662, zw663, zw796, zw797, zw798, zw799, zw784, zw785, zw786]
def wsX8_heard_r2 : List Cond := [zw787, zw723, zw724, zw725, zw726, zw765, zw766, zw767, zw768, zw606, zw761, zw762, zw763, zw764, zw610, zw611, zw734, zw731, zw732, zw733, zw769, zw770, zw771, zw772]
def wsX8_heard_r3 : List Cond := [zw746, zw747, zw748, zw735, zw736, zw737, zw749, zw750, zw751, zw752, zw742, zw743, zw744, zw745, zw738, zw739, zw740, zw741, zw753, zw754, zw755, zw756, zw757, zw758]
def wsX8_heard_r4 : List Cond := [zw759, zw760]
def wsX8_heard : List Cond := .code yX8_heard cX8_heard 5 (some .int) :: ((wsX8_heard_r1 ++ (wsX8_heard_r2 ++ (wsX8_heard_r3 ++ wsX8_heard_r4))) ++ wsX80)
def wsX8_allIn_r1 : List Cond := [zw604, zw607, zw719, zw720, zw721, zw629, zw722, zw617, zw618, zw773, zw774, zw775, zw776, zw716, zw661, zw662, zw663, zw723, zw724, zw725, zw726, zw765, zw766, zw767]
def wsX8_allIn_r2 : List Cond := [zw768, zw606, zw761, zw762, zw763, zw764, zw610, zw611, zw734, zw731, zw732, zw733, zw769, zw770, zw771, zw772, zw746, zw747, zw748, zw735, zw736, zw737, zw749, zw750]
def wsX8_allIn_r3 : List Cond := [zw751, zw752, zw742, zw743, zw744, zw745, zw738, zw739, zw740, zw741, zw753, zw754, zw755, zw756, zw757, zw758, zw759, zw760]
def wsX8_allIn : List Cond := .code yX8_allIn cX8_allIn 4 (some .int) :: ((wsX8_allIn_r1 ++ (wsX8_allIn_r2 ++ wsX8_allIn_r3)) ++ wsX80)
def wsX8_meets_r1 : List Cond := [zw607, zw748, zw719, zw720, zw721, zw629, zw722, zw617, zw618, zw777, zw778, zw779, zw780, zw716, zw604, zw661, zw662, zw663, zw723, zw724, zw725, zw726, zw765, zw766]
def wsX8_meets_r2 : List Cond := [zw767, zw768, zw606, zw761, zw762, zw763, zw764, zw610, zw611, zw734, zw731, zw732, zw733, zw738, zw739, zw740, zw741, zw769, zw770, zw771, zw772, zw746, zw747, zw735]
def wsX8_meets_r3 : List Cond := [zw736, zw737, zw749, zw750, zw751, zw752, zw742, zw743, zw744, zw745, zw753, zw754, zw755, zw756, zw757, zw758, zw759, zw760]
def wsX8_meets : List Cond := .code yX8_meets cX8_meets 4 (some .int) :: ((wsX8_meets_r1 ++ (wsX8_meets_r2 ++ wsX8_meets_r3)) ++ wsX80)
def wsX8_crowd_r1 : List Cond := [zw716, zw604, zw607, zw719, zw720, zw721, zw629, zw722, zw617, zw618, zw796, zw797, zw798, zw799, zw661, zw662, zw663, zw784, zw785, zw786, zw787, zw723, zw724, zw725]
def wsX8_crowd_r2 : List Cond := [zw726, zw800, zw801, zw802, zw803, zw765, zw766, zw767, zw768, zw606, zw761, zw762, zw763, zw764, zw610, zw611, zw734, zw731, zw732, zw733, zw769, zw770, zw771, zw772]
def wsX8_crowd_r3 : List Cond := [zw746, zw747, zw748, zw735, zw736, zw737, zw749, zw750, zw751, zw752, zw742, zw743, zw744, zw745, zw738, zw739, zw740, zw741, zw753, zw754, zw755, zw756, zw757, zw758]
def wsX8_crowd_r4 : List Cond := [zw759, zw760]
def wsX8_crowd : List Cond := .code yX8_crowd cX8_crowd 8 (some .int) :: ((wsX8_crowd_r1 ++ (wsX8_crowd_r2 ++ (wsX8_crowd_r3 ++ wsX8_crowd_r4))) ++ wsX80)
def wsX8_between : List Cond := .code yX8_between cX8_between 2 (some .int) :: ([])
def wsX8_farthest_r1 : List Cond := [zw716, zw604, zw607, zw719, zw720, zw721, zw629, zw722, zw617, zw618, zw796, zw797, zw798, zw799, zw661, zw662, zw663, zw784, zw785, zw786, zw787, zw723, zw724, zw725]
def wsX8_farthest_r2 : List Cond := [zw726, zw800, zw801, zw802, zw803, zw765, zw766, zw767, zw768, zw606, zw761, zw762, zw763, zw764, zw610, zw611, zw734, zw731, zw732, zw733, zw769, zw770, zw771, zw772]
def wsX8_farthest_r3 : List Cond := [zw746, zw747, zw748, zw735, zw736, zw737, zw749, zw750, zw751, zw752, zw742, zw743, zw744, zw745, zw738, zw739, zw740, zw741, zw753, zw754, zw755, zw756, zw757, zw758]
def wsX8_farthest_r4 : List Cond := [zw759, zw760, zw808, zw809, zw810]
def wsX8_farthest : List Cond := .code yX8_farthest cX8_farthest 5 (some .int) :: ((wsX8_farthest_r1 ++ (wsX8_farthest_r2 ++ (wsX8_farthest_r3 ++ wsX8_farthest_r4))) ++ wsX80)
def wsX8_nearBy_r1 : List Cond := [zw607, zw719, zw720, zw721, zw629, zw722, zw617, zw618, zw773, zw774, zw775, zw776, zw716, zw604, zw661, zw662, zw663, zw796, zw797, zw798, zw799, zw784, zw785, zw786]
def wsX8_nearBy_r2 : List Cond := [zw787, zw723, zw724, zw725, zw726, zw765, zw766, zw767, zw768, zw606, zw761, zw762, zw763, zw764, zw610, zw611, zw734, zw731, zw732, zw733, zw769, zw770, zw771, zw772]
def wsX8_nearBy_r3 : List Cond := [zw746, zw747, zw748, zw735, zw736, zw737, zw749, zw750, zw751, zw752, zw742, zw743, zw744, zw745, zw738, zw739, zw740, zw741, zw753, zw754, zw755, zw756, zw757, zw758]
def wsX8_nearBy_r4 : List Cond := [zw759, zw760]
def wsX8_nearBy : List Cond := .code yX8_nearBy cX8_nearBy 7 (some .int) :: ((wsX8_nearBy_r1 ++ (wsX8_nearBy_r2 ++ (wsX8_nearBy_r3 ++ wsX8_nearBy_r4))) ++ wsX80)
def wsX8_spoken_r1 : List Cond := [zw607, zw747, zw746, zw719, zw720, zw721, zw629, zw722, zw617, zw618, zw773, zw774, zw775, zw776, zw716, zw604, zw661, zw662, zw663, zw796, zw797, zw798, zw799, zw784]
def wsX8_spoken_r2 : List Cond := [zw785, zw786, zw787, zw723, zw724, zw725, zw726, zw765, zw766, zw767, zw768, zw606, zw761, zw762, zw763, zw764, zw610, zw611, zw734, zw731, zw732, zw733, zw769, zw770]
def wsX8_spoken_r3 : List Cond := [zw771, zw772, zw748, zw735, zw736, zw737, zw749, zw750, zw751, zw752, zw742, zw743, zw744, zw745, zw738, zw739, zw740, zw741, zw753, zw754, zw755, zw756, zw757, zw758]
def wsX8_spoken_r4 : List Cond := [zw759, zw760]
def wsX8_spoken : List Cond := .code yX8_spoken cX8_spoken 6 (some .int) :: ((wsX8_spoken_r1 ++ (wsX8_spoken_r2 ++ (wsX8_spoken_r3 ++ wsX8_spoken_r4))) ++ wsX80)
def wsX8_windBest_r1 : List Cond := [zw716, zw604, zw607, zw719, zw720, zw721, zw629, zw722, zw617, zw618, zw723, zw724, zw725, zw726, zw765, zw766, zw767, zw768, zw606, zw761, zw762, zw763, zw764, zw610]
def wsX8_windBest_r2 : List Cond := [zw611, zw734, zw731, zw732, zw733, zw804, zw805, zw806, zw807, zw769, zw770, zw771, zw772, zw746, zw747, zw748, zw735, zw736, zw737, zw749, zw750, zw751, zw752, zw742]
def wsX8_windBest_r3 : List Cond := [zw743, zw744, zw745, zw738, zw739, zw740, zw741, zw753, zw754, zw755, zw756, zw757, zw758, zw759, zw760]
def wsX8_windBest : List Cond := .code yX8_windBest cX8_windBest 5 (some .int) :: ((wsX8_windBest_r1 ++ (wsX8_windBest_r2 ++ wsX8_windBest_r3)) ++ wsX80)
def wsX8_patrol_r1 : List Cond := [zw811, zw604, zw610, zw611, zw607, zw719, zw720, zw721, zw629, zw722, zw617, zw618, zw777, zw778, zw779, zw780, zw716, zw661, zw662, zw663, zw784, zw785, zw786, zw787]
def wsX8_patrol_r2 : List Cond := [zw723, zw724, zw725, zw726, zw765, zw766, zw767, zw768, zw606, zw761, zw762, zw763, zw764, zw734, zw731, zw732, zw733, zw769, zw770, zw771, zw772, zw746, zw747, zw748]
def wsX8_patrol_r3 : List Cond := [zw735, zw736, zw737, zw749, zw750, zw751, zw752, zw742, zw743, zw744, zw745, zw738, zw739, zw740, zw741, zw753, zw754, zw755, zw756, zw757, zw758, zw759, zw760, zw812]
def wsX8_patrol_r4 : List Cond := [zw813, zw814]
def wsX8_patrol : List Cond := .code yX8_patrol cX8_patrol 9 (some .int) :: ((wsX8_patrol_r1 ++ (wsX8_patrol_r2 ++ (wsX8_patrol_r3 ++ wsX8_patrol_r4))) ++ wsX80)
def wsX8_bestFrom : List Cond := .code yX8_bestFrom cX8_bestFrom 9 (some .int) :: ([zw604, zw614, zw613, zw661, zw662, zw629, zw663] ++ wsX80)
def wsX8_layRoute_r1 : List Cond := [zw607, zw613, zw748, zw614, zw604, zw765, zw766, zw767, zw629, zw768, zw606, zw761, zw762, zw763, zw764, zw610, zw611, zw734, zw731, zw732, zw733, zw769, zw770, zw771]
def wsX8_layRoute_r2 : List Cond := [zw772, zw746, zw747, zw735, zw736, zw737, zw749, zw750, zw751, zw752, zw742, zw743, zw744, zw745, zw738, zw739, zw740, zw741, zw753, zw754, zw755, zw756, zw757, zw758]
def wsX8_layRoute_r3 : List Cond := [zw759, zw760, zw815, zw816, zw817, zw818, zw661, zw662, zw663]
def wsX8_layRoute : List Cond := .code yX8_layRoute cX8_layRoute 4 none :: ((wsX8_layRoute_r1 ++ (wsX8_layRoute_r2 ++ wsX8_layRoute_r3)) ++ wsX80)
def wsX8_routeWhy : List Cond := .code yX8_routeWhy cX8_routeWhy 3 (some .int) :: ([zw773, zw774, zw775, zw629, zw776, zw716, zw604, zw661, zw662, zw663, zw784, zw785, zw786, zw787] ++ wsX80)
def wsX8_route_r1 : List Cond := [zw614, zw719, zw720, zw721, zw629, zw722, zw617, zw618, zw819, zw820, zw821, zw822, zw773, zw774, zw775, zw776, zw716, zw604, zw661, zw662, zw663, zw784, zw785, zw786]
def wsX8_route_r2 : List Cond := [zw787, zw723, zw724, zw725, zw726, zw823, zw824, zw825, zw826, zw607, zw613, zw748, zw765, zw766, zw767, zw768, zw606, zw761, zw762, zw763, zw764, zw610, zw611, zw734]
def wsX8_route_r3 : List Cond := [zw731, zw732, zw733, zw769, zw770, zw771, zw772, zw746, zw747, zw735, zw736, zw737, zw749, zw750, zw751, zw752, zw742, zw743, zw744, zw745, zw738, zw739, zw740, zw741]
def wsX8_route_r4 : List Cond := [zw753, zw754, zw755, zw756, zw757, zw758, zw759, zw760, zw815, zw816, zw817, zw818]
def wsX8_route : List Cond := .code yX8_route cX8_route 4 (some .int) :: ((wsX8_route_r1 ++ (wsX8_route_r2 ++ (wsX8_route_r3 ++ wsX8_route_r4))) ++ wsX80)
def wsX8_routeAt_r1 : List Cond := [zw719, zw720, zw721, zw629, zw722, zw617, zw618, zw819, zw820, zw821, zw822, zw773, zw774, zw775, zw776, zw716, zw604, zw661, zw662, zw663, zw784, zw785, zw786, zw787]
def wsX8_routeAt_r2 : List Cond := [zw723, zw724, zw725, zw726, zw823, zw824, zw825, zw826, zw607, zw613, zw748, zw614, zw765, zw766, zw767, zw768, zw606, zw761, zw762, zw763, zw764, zw610, zw611, zw734]
def wsX8_routeAt_r3 : List Cond := [zw731, zw732, zw733, zw769, zw770, zw771, zw772, zw746, zw747, zw735, zw736, zw737, zw749, zw750, zw751, zw752, zw742, zw743, zw744, zw745, zw738, zw739, zw740, zw741]
def wsX8_routeAt_r4 : List Cond := [zw753, zw754, zw755, zw756, zw757, zw758, zw759, zw760, zw815, zw816, zw817, zw818]
def wsX8_routeAt : List Cond := .code yX8_routeAt cX8_routeAt 7 (some .int) :: ((wsX8_routeAt_r1 ++ (wsX8_routeAt_r2 ++ (wsX8_routeAt_r3 ++ wsX8_routeAt_r4))) ++ wsX80)
def wsX8_stand_r1 : List Cond := [zw716, zw604, zw614, zw719, zw720, zw721, zw629, zw722, zw617, zw618, zw661, zw662, zw663, zw784, zw785, zw786, zw787, zw723, zw724, zw725, zw726, zw823, zw824, zw825]
def wsX8_stand_r2 : List Cond := [zw826, zw607, zw613, zw748, zw765, zw766, zw767, zw768, zw606, zw761, zw762, zw763, zw764, zw610, zw611, zw734, zw731, zw732, zw733, zw769, zw770, zw771, zw772, zw746]
def wsX8_stand_r3 : List Cond := [zw747, zw735, zw736, zw737, zw749, zw750, zw751, zw752, zw742, zw743, zw744, zw745, zw738, zw739, zw740, zw741, zw753, zw754, zw755, zw756, zw757, zw758, zw759, zw760]
def wsX8_stand_r4 : List Cond := [zw815, zw816, zw817, zw818]
def wsX8_stand : List Cond := .code yX8_stand cX8_stand 5 (some .int) :: ((wsX8_stand_r1 ++ (wsX8_stand_r2 ++ (wsX8_stand_r3 ++ wsX8_stand_r4))) ++ wsX80)
def wsX8_guard_r1 : List Cond := [zw716, zw604, zw734, zw607, zw606, zw719, zw720, zw721, zw629, zw722, zw617, zw618, zw661, zw662, zw663, zw784, zw785, zw786, zw787, zw723, zw724, zw725, zw726, zw812]
def wsX8_guard_r2 : List Cond := [zw813, zw814, zw765, zw766, zw767, zw768, zw761, zw762, zw763, zw764, zw610, zw611, zw731, zw732, zw733, zw769, zw770, zw771, zw772, zw746, zw747, zw748, zw735, zw736]
def wsX8_guard_r3 : List Cond := [zw737, zw749, zw750, zw751, zw752, zw742, zw743, zw744, zw745, zw738, zw739, zw740, zw741, zw753, zw754, zw755, zw756, zw757, zw758, zw759, zw760]
def wsX8_guard : List Cond := .code yX8_guard cX8_guard 6 (some .int) :: ((wsX8_guard_r1 ++ (wsX8_guard_r2 ++ wsX8_guard_r3)) ++ wsX80)
def wsX8_turnBy : List Cond := .code yX8_turnBy cX8_turnBy 9 (some .int) :: ([zw615, zw604] ++ wsX80)
def wsX8_codes : List Cond := .code yX8_codes cX8_codes 1 (some .int) :: ([zw604] ++ wsX80)
def wsX8_byCode : List Cond := .code yX8_byCode cX8_byCode 3 (some .int) :: ([zw604, zw827, zw828, zw829, zw629, zw830, zw615] ++ wsX80)
def wsX8_numberOf : List Cond := .code yX8_numberOf cX8_numberOf 2 (some .int) :: ([zw604] ++ wsX80)
def wsX8_doesFit : List Cond := .code yX8_doesFit cX8_doesFit 3 (some .boolean) :: ([zw604, zw831, zw832, zw833, zw629, zw834, zw827, zw828, zw829, zw830, zw615] ++ wsX80)
def wsX8_fits_r1 : List Cond := [zw716, zw719, zw720, zw721, zw629, zw722, zw617, zw618, zw723, zw724, zw725, zw726, zw835, zw836, zw837, zw838, zw604, zw839, zw840, zw841, zw842, zw831, zw832, zw833]
def wsX8_fits_r2 : List Cond := [zw834, zw827, zw828, zw829, zw830, zw615]
def wsX8_fits : List Cond := .code yX8_fits cX8_fits 3 (some .int) :: ((wsX8_fits_r1 ++ wsX8_fits_r2) ++ wsX80)
def wsX8_fitAt_r1 : List Cond := [zw716, zw719, zw720, zw721, zw629, zw722, zw617, zw618, zw723, zw724, zw725, zw726, zw835, zw836, zw837, zw838, zw604, zw839, zw840, zw841, zw842, zw831, zw832, zw833]
def wsX8_fitAt_r2 : List Cond := [zw834, zw827, zw828, zw829, zw830, zw615, zw843, zw844, zw845, zw846]
def wsX8_fitAt : List Cond := .code yX8_fitAt cX8_fitAt 4 (some .int) :: ((wsX8_fitAt_r1 ++ wsX8_fitAt_r2) ++ wsX80)
def wsX8_layOften : List Cond := .code yX8_layOften cX8_layOften 3 none :: ([zw616, zw835, zw836, zw837, zw629, zw838, zw604, zw839, zw840, zw841, zw842, zw831, zw832, zw833, zw834, zw827, zw828, zw829, zw830, zw615] ++ wsX80)
def wsX8_could_r1 : List Cond := [zw716, zw604, zw616, zw719, zw720, zw721, zw629, zw722, zw617, zw618, zw661, zw662, zw663, zw784, zw785, zw786, zw787, zw723, zw724, zw725, zw726, zw847, zw848, zw849]
def wsX8_could_r2 : List Cond := [zw850, zw835, zw836, zw837, zw838, zw839, zw840, zw841, zw842, zw831, zw832, zw833, zw834, zw827, zw828, zw829, zw830, zw615]
def wsX8_could : List Cond := .code yX8_could cX8_could 5 (some .int) :: ((wsX8_could_r1 ++ wsX8_could_r2) ++ wsX80)
def wsX8_aliveBy_r1 : List Cond := [zw604, zw616, zw719, zw720, zw721, zw629, zw722, zw617, zw618, zw773, zw774, zw775, zw776, zw716, zw661, zw662, zw663, zw784, zw785, zw786, zw787, zw723, zw724, zw725]
def wsX8_aliveBy_r2 : List Cond := [zw726, zw847, zw848, zw849, zw850, zw835, zw836, zw837, zw838, zw839, zw840, zw841, zw842, zw831, zw832, zw833, zw834, zw827, zw828, zw829, zw830, zw615]
def wsX8_aliveBy : List Cond := .code yX8_aliveBy cX8_aliveBy 4 (some .int) :: ((wsX8_aliveBy_r1 ++ wsX8_aliveBy_r2) ++ wsX80)
def wsX8_lookOf_r1 : List Cond := [zw851, zw604, zw616, zw847, zw848, zw849, zw629, zw850, zw835, zw836, zw837, zw838, zw839, zw840, zw841, zw842, zw831, zw832, zw833, zw834, zw827, zw828, zw829, zw830]
def wsX8_lookOf_r2 : List Cond := [zw615]
def wsX8_lookOf : List Cond := .code yX8_lookOf cX8_lookOf 5 (some .int) :: ((wsX8_lookOf_r1 ++ wsX8_lookOf_r2) ++ wsX80)
def wsX8_look_r1 : List Cond := [zw716, zw719, zw720, zw721, zw629, zw722, zw617, zw618, zw852, zw853, zw854, zw855, zw851, zw604, zw616, zw847, zw848, zw849, zw850, zw835, zw836, zw837, zw838, zw839]
def wsX8_look_r2 : List Cond := [zw840, zw841, zw842, zw831, zw832, zw833, zw834, zw827, zw828, zw829, zw830, zw615, zw723, zw724, zw725, zw726]
def wsX8_look : List Cond := .code yX8_look cX8_look 1 (some .int) :: ((wsX8_look_r1 ++ wsX8_look_r2) ++ wsX80)
def wsX8_lookLeaves_r1 : List Cond := [zw716, zw851, zw719, zw720, zw721, zw629, zw722, zw617, zw618, zw723, zw724, zw725, zw726, zw852, zw853, zw854, zw855, zw604, zw616, zw847, zw848, zw849, zw850, zw835]
def wsX8_lookLeaves_r2 : List Cond := [zw836, zw837, zw838, zw839, zw840, zw841, zw842, zw831, zw832, zw833, zw834, zw827, zw828, zw829, zw830, zw615]
def wsX8_lookLeaves : List Cond := .code yX8_lookLeaves cX8_lookLeaves 1 (some .int) :: ((wsX8_lookLeaves_r1 ++ wsX8_lookLeaves_r2) ++ wsX80)
def wsX8_judge : List Cond := .code yX8_judge cX8_judge 2 (some .int) :: ([zw716, zw604, zw719, zw720, zw721, zw629, zw722, zw617, zw618, zw723, zw724, zw725, zw726, zw827, zw828, zw829, zw830, zw615] ++ wsX80)
def wsX8_lawsLike_r1 : List Cond := [zw716, zw604, zw719, zw720, zw721, zw629, zw722, zw617, zw618, zw723, zw724, zw725, zw726, zw835, zw836, zw837, zw838, zw831, zw832, zw833, zw834, zw827, zw828, zw829]
def wsX8_lawsLike_r2 : List Cond := [zw830, zw615]
def wsX8_lawsLike : List Cond := .code yX8_lawsLike cX8_lawsLike 5 (some .int) :: ((wsX8_lawsLike_r1 ++ wsX8_lawsLike_r2) ++ wsX80)
end P02_names1_1
section P02_names1_2
def wsX8_lawFor_r1 : List Cond := [zw719, zw720, zw721, zw629, zw722, zw617, zw618, zw773, zw774, zw775, zw776, zw716, zw604, zw661, zw662, zw663, zw784, zw785, zw786, zw787, zw723, zw724, zw725, zw726]
def wsX8_lawFor_r2 : List Cond := [zw831, zw832, zw833, zw834, zw827, zw828, zw829, zw830, zw615, zw843, zw844, zw845, zw846]
def wsX8_lawFor : List Cond := .code yX8_lawFor cX8_lawFor 5 (some .int) :: ((wsX8_lawFor_r1 ++ wsX8_lawFor_r2) ++ wsX80)
def wsX8_figureHas : List Cond := .code yX8_figureHas cX8_figureHas 3 (some .int) :: ([])
def wsX8_otherHas : List Cond := .code yX8_otherHas cX8_otherHas 2 (some .int) :: ([])
def wsX8_dares : List Cond := .code yX8_dares cX8_dares 6 (some .int) :: ([zw716, zw618, zw719, zw720, zw721, zw629, zw722, zw617, zw661, zw662, zw663, zw784, zw785, zw786, zw787, zw856, zw857, zw858, zw859, zw860, zw861] ++ wsX80)
def wsX8_seekRests : List Cond := .code yX8_seekRests cX8_seekRests 6 (some .int) :: ([zw862, zw859, zw860, zw629, zw861, zw856, zw857, zw858] ++ wsX80)
def wsX8_rests_r1 : List Cond := [zw716, zw719, zw720, zw721, zw629, zw722, zw617, zw618, zw661, zw662, zw663, zw784, zw785, zw786, zw787, zw723, zw724, zw725, zw726, zw863, zw864, zw865, zw866, zw862]
def wsX8_rests_r2 : List Cond := [zw859, zw860, zw861, zw856, zw857, zw858]
def wsX8_rests : List Cond := .code yX8_rests cX8_rests 3 (some .int) :: ((wsX8_rests_r1 ++ wsX8_rests_r2) ++ wsX80)
def wsX8_rest_r1 : List Cond := [zw716, zw862, zw719, zw720, zw721, zw629, zw722, zw617, zw618, zw661, zw662, zw663, zw784, zw785, zw786, zw787, zw723, zw724, zw725, zw726, zw863, zw864, zw865, zw866]
def wsX8_rest_r2 : List Cond := [zw859, zw860, zw861, zw856, zw857, zw858]
def wsX8_rest : List Cond := .code yX8_rest cX8_rest 3 (some .int) :: ((wsX8_rest_r1 ++ wsX8_rest_r2) ++ wsX80)
def wsX8_turnsOf : List Cond := .code yX8_turnsOf cX8_turnsOf 5 (some .int) :: ([zw788, zw789, zw790, zw629, zw791, zw606, zw781, zw612, zw782, zw757, zw758, zw759, zw760, zw604, zw792, zw793, zw794, zw795] ++ wsX80)
def wsX8_odds_r1 : List Cond := [zw867, zw604, zw719, zw720, zw721, zw629, zw722, zw617, zw618, zw773, zw774, zw775, zw776, zw716, zw661, zw662, zw663, zw784, zw785, zw786, zw787, zw723, zw724, zw725]
def wsX8_odds_r2 : List Cond := [zw726, zw868, zw869, zw870, zw871, zw788, zw789, zw790, zw791, zw606, zw781, zw612, zw782, zw757, zw758, zw759, zw760, zw792, zw793, zw794, zw795, zw872, zw873, zw874]
def wsX8_odds : List Cond := .code yX8_odds cX8_odds 11 (some .long) :: ((wsX8_odds_r1 ++ wsX8_odds_r2) ++ wsX80)
def wsX8_mean_r1 : List Cond := [zw604, zw867, zw719, zw720, zw721, zw629, zw722, zw617, zw618, zw773, zw774, zw775, zw776, zw716, zw661, zw662, zw663, zw784, zw785, zw786, zw787, zw723, zw724, zw725]
def wsX8_mean_r2 : List Cond := [zw726, zw868, zw869, zw870, zw871, zw788, zw789, zw790, zw791, zw606, zw781, zw612, zw782, zw757, zw758, zw759, zw760, zw792, zw793, zw794, zw795, zw872, zw873, zw874]
def wsX8_mean : List Cond := .code yX8_mean cX8_mean 5 (some .long) :: ((wsX8_mean_r1 ++ wsX8_mean_r2) ++ wsX80)
def wsX8_drawWhy_r1 : List Cond := [zw875, zw876, zw877, zw878, zw604, zw661, zw662, zw629, zw663, zw784, zw785, zw786, zw787, zw788, zw789, zw790, zw791, zw606, zw781, zw612, zw782, zw757, zw758, zw759]
def wsX8_drawWhy_r2 : List Cond := [zw760, zw792, zw793, zw794, zw795]
def wsX8_drawWhy : List Cond := .code yX8_drawWhy cX8_drawWhy 9 (some .int) :: ((wsX8_drawWhy_r1 ++ wsX8_drawWhy_r2) ++ wsX80)
def wsX8_drawn_r1 : List Cond := [zw877, zw719, zw720, zw721, zw629, zw722, zw617, zw618, zw773, zw774, zw775, zw776, zw716, zw604, zw661, zw662, zw663, zw879, zw880, zw881, zw882, zw875, zw876, zw878]
def wsX8_drawn_r2 : List Cond := [zw784, zw785, zw786, zw787, zw788, zw789, zw790, zw791, zw606, zw781, zw612, zw782, zw757, zw758, zw759, zw760, zw792, zw793, zw794, zw795, zw723, zw724, zw725, zw726]
def wsX8_drawn : List Cond := .code yX8_drawn cX8_drawn 5 (some .int) :: ((wsX8_drawn_r1 ++ wsX8_drawn_r2) ++ wsX80)
def wsX8_firstShut_r1 : List Cond := [zw716, zw876, zw719, zw720, zw721, zw629, zw722, zw617, zw618, zw879, zw880, zw881, zw882, zw875, zw877, zw878, zw604, zw661, zw662, zw663, zw784, zw785, zw786, zw787]
def wsX8_firstShut_r2 : List Cond := [zw788, zw789, zw790, zw791, zw606, zw781, zw612, zw782, zw757, zw758, zw759, zw760, zw792, zw793, zw794, zw795, zw723, zw724, zw725, zw726]
def wsX8_firstShut : List Cond := .code yX8_firstShut cX8_firstShut 4 (some .int) :: ((wsX8_firstShut_r1 ++ wsX8_firstShut_r2) ++ wsX80)
def wsX8_note : List Cond := .code yX8_note cX8_note 2 none :: ([zw717, zw608, zw606, zw731, zw732, zw629, zw733] ++ wsX80)
def wsX8_go_r1 : List Cond := [zw716, zw606, zw719, zw720, zw721, zw629, zw722, zw617, zw618, zw661, zw662, zw663, zw784, zw785, zw786, zw787, zw723, zw724, zw725, zw726, zw883, zw884, zw885, zw886]
def wsX8_go_r2 : List Cond := [zw717, zw608, zw731, zw732, zw733, zw761, zw762, zw763, zw764, zw604, zw610, zw611, zw734, zw769, zw770, zw771, zw772, zw746, zw747, zw748, zw735, zw736, zw737, zw749]
def wsX8_go_r3 : List Cond := [zw750, zw751, zw752, zw742, zw743, zw744, zw745, zw738, zw739, zw740, zw741, zw753, zw754, zw755, zw756, zw757, zw758, zw759, zw760]
def wsX8_go : List Cond := .code yX8_go cX8_go 5 (some .int) :: ((wsX8_go_r1 ++ (wsX8_go_r2 ++ wsX8_go_r3)) ++ wsX80)
def wsX8_put_r1 : List Cond := [zw606, zw719, zw720, zw721, zw629, zw722, zw617, zw618, zw773, zw774, zw775, zw776, zw716, zw604, zw661, zw662, zw663, zw723, zw724, zw725, zw726, zw735, zw736, zw737]
def wsX8_put_r2 : List Cond := [zw883, zw884, zw885, zw886, zw717, zw608, zw731, zw732, zw733]
def wsX8_put : List Cond := .code yX8_put cX8_put 3 (some .int) :: ((wsX8_put_r1 ++ wsX8_put_r2) ++ wsX80)
def wsX8_wind_r1 : List Cond := [zw606, zw719, zw720, zw721, zw629, zw722, zw617, zw618, zw773, zw774, zw775, zw776, zw716, zw604, zw661, zw662, zw663, zw723, zw724, zw725, zw726, zw883, zw884, zw885]
def wsX8_wind_r2 : List Cond := [zw886, zw717, zw608, zw731, zw732, zw733]
def wsX8_wind : List Cond := .code yX8_wind cX8_wind 3 (some .int) :: ((wsX8_wind_r1 ++ wsX8_wind_r2) ++ wsX80)
def wsX8_undo : List Cond := .code yX8_undo cX8_undo 1 (some .boolean) :: ([zw717, zw608, zw606, zw719, zw720, zw721, zw629, zw722, zw617, zw618, zw887, zw888, zw889, zw890, zw731, zw732, zw733] ++ wsX80)
def wsX8_image : List Cond := .code yX8_image cX8_image 1 (some .int) :: ([zw716, zw718, zw606, zw609, zw719, zw720, zw721, zw629, zw722, zw617, zw618, zw723, zw724, zw725, zw726, zw731, zw732, zw733] ++ wsX80)
def wsX8_back : List Cond := .code yX8_back cX8_back 2 (some .boolean) :: ([zw718, zw609, zw606, zw717, zw719, zw720, zw721, zw629, zw722, zw617, zw618, zw661, zw662, zw663, zw887, zw888, zw889, zw890, zw731, zw732, zw733] ++ wsX80)
def wsX8_led : List Cond := .code yX8_led cX8_led 4 (some .int) :: ([zw716, zw604, zw606, zw617] ++ wsX80)
def wsX8_size : List Cond := .code yX8_size cX8_size 2 (some .int) :: ([zw617, zw619, zw716, zw604, zw606, zw717, zw718, zw661, zw662, zw629, zw663] ++ wsX80)
def wsX8_trouble : List Cond := .code yX8_trouble cX8_trouble 1 (some .int) :: ([zw617, zw618] ++ wsX80)
abbrev vwCl : List vw_C := [(RX0, TX0, 15), (RX1, TX1, 5), (RX2, TX2, 7), (RX3, TX3, 14), (RX4, TX4, 3), (RX5, TX5, 7), (RX6, TX6, 4), (RX7, TX7, 11), (RX8, TX8, 40)]
end P02_names1_2
section P02_zd
theorem goodIn_s {big : List Cond} (ws : List Cond) (ps : List (Nat × Nat)) (hp : ws = ps.flatMap (fun q => (big.drop q.1).take q.2)) (h : ws.all goodWord = true) : GoodIn big ws := by
  intro w hw
  have h1 := List.all_eq_true.mp h w hw
  rw [hp] at hw
  obtain ⟨q, -, hq⟩ := List.mem_flatMap.mp hw
  exact ⟨List.mem_of_mem_drop (List.mem_of_mem_take hq), good_of_word h1⟩
section ZD
/-- the bytes from a place on, as numbers -/
def zrd (code : ByteArray) (pc n : Nat) : List Nat := ((code.data.toList.drop pc).take n).map UInt8.toNat
theorem zrd_at {code : ByteArray} {pc n : Nat} {l : List Nat} (h : zrd code pc n = l) (k b : Nat) (hk : l[k]? = some b) : ∃ h : pc + k < code.size, (code[pc + k]'h).toNat = b := by
  subst h
  unfold zrd at hk
  rw [List.getElem?_map, List.getElem?_take] at hk
  by_cases hn : k < n
  · rw [if_pos hn, List.getElem?_drop] at hk
    cases hx : code.data.toList[pc + k]? with
    | none => rw [hx] at hk; cases hk
    | some x =>
      rw [hx] at hk
      have hk : x.toNat = b := Option.some.inj hk
      obtain ⟨h1, h2⟩ := List.getElem?_eq_some_iff.mp hx
      have h3 : pc + k < code.size := by simpa using h1
      exact ⟨h3, (congrArg UInt8.toNat (show code[pc + k]'h3 = x from h2)).trans hk⟩
  · rw [if_neg hn] at hk; cases hk
theorem zu1 {code : ByteArray} {p b : Nat} (h : ∃ h : p < code.size, (code[p]'h).toNat = b) : (Reader.u1 : Decoder Nat) code p = .ok (b, p + 1) := by
  obtain ⟨h1, h2⟩ := h
  show (do if h : p < code.size then do set (p + 1); Pure.pure code[p].toNat else MonadExcept.throw (HasTruncated.truncated p) : Decoder Nat) code p = _
  rw [dif_pos h1, ← h2]; rfl
theorem zbind {α β : Type} {r : Decoder α} {f : α → Decoder β} {code : ByteArray} {p p1 : Nat} {a : α} (h : r code p = .ok (a, p1)) : (r >>= f) code p = f a code p1 := by
  have e : (r >>= f) code p = (match r code p with | .error e => Except.error e | .ok (a, s) => f a code s) := by
    show (do let (a, s) ← r code p; f a code s : Except DecodeError (β × Nat)) = _
    cases r code p <;> rfl
  rw [e, h]
theorem zmap {α β : Type} {r : Decoder α} {g : α → β} {code : ByteArray} {p p1 : Nat} {a : α} (h : r code p = .ok (a, p1)) : (g <$> r) code p = .ok (g a, p1) := by
  show (do let (a, s) ← r code p; .ok (g a, s) : Except DecodeError (β × Nat)) = _
  rw [h]; rfl
theorem zu2 {code : ByteArray} {p b1 b2 : Nat} (h1 : ∃ h : p < code.size, (code[p]'h).toNat = b1) (h2 : ∃ h : p + 1 < code.size, (code[p + 1]'h).toNat = b2) : (Reader.u2 : Decoder Nat) code p = .ok (b1 * 256 + b2, p + 2) := by
  show (Reader.u1 >>= fun hi => Reader.u1 >>= fun lo => pure (hi * 256 + lo) : Decoder Nat) code p = _
  rw [zbind (zu1 h1), zbind (zu1 h2)]; rfl
def zK (b : Nat) (X : Decoder Instr) : Prop := ∀ pc : Nat, ∃ K : Nat → Decoder Instr, Decoder.instr pc = (Reader.u1 >>= K) ∧ K b = X
theorem zdec {code : ByteArray} {pc b : Nat} {i : Instr} {X : Decoder Instr} (n : Nat) (hK : zK b X) (hb : ∃ h : pc < code.size, (code[pc]'h).toNat = b) (hX : X code (pc + 1) = .ok (i, pc + 1 + n)) : decode code pc = .ok (i, n + 1) := by
  obtain ⟨K, h1, h2⟩ := hK pc
  have e : Decoder.instr pc code pc = .ok (i, pc + 1 + n) := by rw [h1, zbind (zu1 hb), h2]; exact hX
  have e2 : decode code pc = (match Decoder.instr pc code pc with | .error e => Except.error e | .ok (a, s) => .ok (a, s - pc)) := by
    show (do let (a, s) ← Decoder.instr pc code pc; .ok (a, s - pc) : Except DecodeError (Instr × Nat)) = _
    cases Decoder.instr pc code pc <;> rfl
  rw [e2, e]
  show Except.ok (i, pc + 1 + n - pc) = _
  rw [show pc + 1 + n - pc = n + 1 from by omega]
theorem zy_0 {code : ByteArray} {pc b : Nat} {i : Instr} (hK : zK b (pure i)) (h : zrd code pc 1 = [b]) : decode code pc = .ok (i, 1) :=
  zdec 0 hK (zrd_at h 0 b rfl) rfl
theorem zy_u1 {code : ByteArray} {pc b b1 : Nat} {f : Nat → Instr} (hK : zK b (do pure (f (← Reader.u1)))) (h : zrd code pc 2 = [b, b1]) : decode code pc = .ok (f b1, 2) :=
  zdec 1 hK (zrd_at h 0 b rfl) (by rw [zbind (zu1 (zrd_at h 1 b1 rfl))]; rfl)
theorem zy_s1 {code : ByteArray} {pc b b1 : Nat} {v : Int} {f : Int → Instr} (hK : zK b (do pure (f (← Reader.s1)))) (h : zrd code pc 2 = [b, b1]) (hv : Reader.signed 8 b1 = v) : decode code pc = .ok (f v, 2) := by
  subst hv
  have e : (Reader.s1 : Decoder Int) code (pc + 1) = .ok (Reader.signed 8 b1, pc + 1 + 1) := zmap (zu1 (zrd_at h 1 b1 rfl))
  exact zdec 1 hK (zrd_at h 0 b rfl) (by rw [zbind e]; rfl)
theorem zy_u2 {code : ByteArray} {pc b b1 b2 : Nat} {f : Nat → Instr} (hK : zK b (do pure (f (← Reader.u2)))) (h : zrd code pc 3 = [b, b1, b2]) : decode code pc = .ok (f (b1 * 256 + b2), 3) :=
  zdec 2 hK (zrd_at h 0 b rfl) (by rw [zbind (zu2 (zrd_at h 1 b1 rfl) (zrd_at h 2 b2 rfl))]; rfl)
theorem zy_s2 {code : ByteArray} {pc b b1 b2 : Nat} {v : Int} {f : Int → Instr} (hK : zK b (do pure (f (← Reader.s2)))) (h : zrd code pc 3 = [b, b1, b2]) (hv : Reader.signed 16 (b1 * 256 + b2) = v) : decode code pc = .ok (f v, 3) := by
  subst hv
  have e : (Reader.s2 : Decoder Int) code (pc + 1) = .ok (Reader.signed 16 (b1 * 256 + b2), pc + 1 + 2) := zmap (zu2 (zrd_at h 1 b1 rfl) (zrd_at h 2 b2 rfl))
  exact zdec 2 hK (zrd_at h 0 b rfl) (by rw [zbind e]; rfl)
theorem zy_ii {code : ByteArray} {pc b b1 b2 : Nat} {v : Int} {f : Nat → Int → Instr} (hK : zK b (do pure (f (← Reader.u1) (← Reader.s1)))) (h : zrd code pc 3 = [b, b1, b2]) (hv : Reader.signed 8 b2 = v) : decode code pc = .ok (f b1 v, 3) := by
  subst hv
  have e : (Reader.s1 : Decoder Int) code (pc + 1 + 1) = .ok (Reader.signed 8 b2, pc + 1 + 1 + 1) := zmap (zu1 (zrd_at h 2 b2 rfl))
  exact zdec 2 hK (zrd_at h 0 b rfl) (by rw [zbind (zu1 (zrd_at h 1 b1 rfl)), zbind e]; rfl)
end ZD
theorem zK_2 : zK 2 (pure (.iconst (-1))) := fun pc => ⟨_, rfl, rfl⟩
theorem zK_3 : zK 3 (pure (.iconst 0)) := fun pc => ⟨_, rfl, rfl⟩
theorem zK_4 : zK 4 (pure (.iconst 1)) := fun pc => ⟨_, rfl, rfl⟩
theorem zK_5 : zK 5 (pure (.iconst 2)) := fun pc => ⟨_, rfl, rfl⟩
theorem zK_6 : zK 6 (pure (.iconst 3)) := fun pc => ⟨_, rfl, rfl⟩
theorem zK_7 : zK 7 (pure (.iconst 4)) := fun pc => ⟨_, rfl, rfl⟩
theorem zK_8 : zK 8 (pure (.iconst 5)) := fun pc => ⟨_, rfl, rfl⟩
theorem zK_9 : zK 9 (pure (.lconst 0)) := fun pc => ⟨_, rfl, rfl⟩
theorem zK_10 : zK 10 (pure (.lconst 1)) := fun pc => ⟨_, rfl, rfl⟩
theorem zK_16 : zK 16 (do pure (.bipush (← Reader.s1))) := fun pc => ⟨_, rfl, rfl⟩
theorem zK_17 : zK 17 (do pure (.sipush (← Reader.s2))) := fun pc => ⟨_, rfl, rfl⟩
theorem zK_18 : zK 18 (do pure (.ldc (← Reader.u1))) := fun pc => ⟨_, rfl, rfl⟩
theorem zK_19 : zK 19 (do pure (.ldc_w (← Reader.u2))) := fun pc => ⟨_, rfl, rfl⟩
theorem zK_20 : zK 20 (do pure (.ldc2_w (← Reader.u2))) := fun pc => ⟨_, rfl, rfl⟩
theorem zK_21 : zK 21 (do pure (.iload (← Reader.u1))) := fun pc => ⟨_, rfl, rfl⟩
theorem zK_22 : zK 22 (do pure (.lload (← Reader.u1))) := fun pc => ⟨_, rfl, rfl⟩
theorem zK_26 : zK 26 (pure (.iload_n 0)) := fun pc => ⟨_, rfl, rfl⟩
theorem zK_27 : zK 27 (pure (.iload_n 1)) := fun pc => ⟨_, rfl, rfl⟩
theorem zK_28 : zK 28 (pure (.iload_n 2)) := fun pc => ⟨_, rfl, rfl⟩
theorem zK_29 : zK 29 (pure (.iload_n 3)) := fun pc => ⟨_, rfl, rfl⟩
theorem zK_30 : zK 30 (pure (.lload_n 0)) := fun pc => ⟨_, rfl, rfl⟩
theorem zK_32 : zK 32 (pure (.lload_n 2)) := fun pc => ⟨_, rfl, rfl⟩
theorem zK_42 : zK 42 (pure (.aload_n 0)) := fun pc => ⟨_, rfl, rfl⟩
theorem zK_43 : zK 43 (pure (.aload_n 1)) := fun pc => ⟨_, rfl, rfl⟩
theorem zK_44 : zK 44 (pure (.aload_n 2)) := fun pc => ⟨_, rfl, rfl⟩
theorem zK_45 : zK 45 (pure (.aload_n 3)) := fun pc => ⟨_, rfl, rfl⟩
theorem zK_46 : zK 46 (pure (.iaload)) := fun pc => ⟨_, rfl, rfl⟩
theorem zK_47 : zK 47 (pure (.laload)) := fun pc => ⟨_, rfl, rfl⟩
theorem zK_50 : zK 50 (pure (.aaload)) := fun pc => ⟨_, rfl, rfl⟩
theorem zK_51 : zK 51 (pure (.baload)) := fun pc => ⟨_, rfl, rfl⟩
theorem zK_54 : zK 54 (do pure (.istore (← Reader.u1))) := fun pc => ⟨_, rfl, rfl⟩
theorem zK_55 : zK 55 (do pure (.lstore (← Reader.u1))) := fun pc => ⟨_, rfl, rfl⟩
theorem zK_59 : zK 59 (pure (.istore_n 0)) := fun pc => ⟨_, rfl, rfl⟩
theorem zK_60 : zK 60 (pure (.istore_n 1)) := fun pc => ⟨_, rfl, rfl⟩
theorem zK_61 : zK 61 (pure (.istore_n 2)) := fun pc => ⟨_, rfl, rfl⟩
theorem zK_62 : zK 62 (pure (.istore_n 3)) := fun pc => ⟨_, rfl, rfl⟩
theorem zK_65 : zK 65 (pure (.lstore_n 2)) := fun pc => ⟨_, rfl, rfl⟩
theorem zK_76 : zK 76 (pure (.astore_n 1)) := fun pc => ⟨_, rfl, rfl⟩
theorem zK_77 : zK 77 (pure (.astore_n 2)) := fun pc => ⟨_, rfl, rfl⟩
theorem zK_78 : zK 78 (pure (.astore_n 3)) := fun pc => ⟨_, rfl, rfl⟩
theorem zK_79 : zK 79 (pure (.iastore)) := fun pc => ⟨_, rfl, rfl⟩
theorem zK_80 : zK 80 (pure (.lastore)) := fun pc => ⟨_, rfl, rfl⟩
theorem zK_83 : zK 83 (pure (.aastore)) := fun pc => ⟨_, rfl, rfl⟩
theorem zK_84 : zK 84 (pure (.bastore)) := fun pc => ⟨_, rfl, rfl⟩
theorem zK_87 : zK 87 (pure (.pop)) := fun pc => ⟨_, rfl, rfl⟩
theorem zK_89 : zK 89 (pure (.dup)) := fun pc => ⟨_, rfl, rfl⟩
theorem zK_92 : zK 92 (pure (.dup2)) := fun pc => ⟨_, rfl, rfl⟩
theorem zK_96 : zK 96 (pure (.iadd)) := fun pc => ⟨_, rfl, rfl⟩
theorem zK_100 : zK 100 (pure (.isub)) := fun pc => ⟨_, rfl, rfl⟩
theorem zK_101 : zK 101 (pure (.lsub)) := fun pc => ⟨_, rfl, rfl⟩
theorem zK_104 : zK 104 (pure (.imul)) := fun pc => ⟨_, rfl, rfl⟩
theorem zK_105 : zK 105 (pure (.lmul)) := fun pc => ⟨_, rfl, rfl⟩
theorem zK_108 : zK 108 (pure (.idiv)) := fun pc => ⟨_, rfl, rfl⟩
theorem zK_109 : zK 109 (pure (.ldiv)) := fun pc => ⟨_, rfl, rfl⟩
theorem zK_112 : zK 112 (pure (.irem)) := fun pc => ⟨_, rfl, rfl⟩
theorem zK_113 : zK 113 (pure (.lrem)) := fun pc => ⟨_, rfl, rfl⟩
theorem zK_116 : zK 116 (pure (.ineg)) := fun pc => ⟨_, rfl, rfl⟩
theorem zK_120 : zK 120 (pure (.ishl)) := fun pc => ⟨_, rfl, rfl⟩
theorem zK_121 : zK 121 (pure (.lshl)) := fun pc => ⟨_, rfl, rfl⟩
theorem zK_122 : zK 122 (pure (.ishr)) := fun pc => ⟨_, rfl, rfl⟩
theorem zK_124 : zK 124 (pure (.iushr)) := fun pc => ⟨_, rfl, rfl⟩
theorem zK_126 : zK 126 (pure (.iand)) := fun pc => ⟨_, rfl, rfl⟩
theorem zK_128 : zK 128 (pure (.ior)) := fun pc => ⟨_, rfl, rfl⟩
theorem zK_129 : zK 129 (pure (.lor)) := fun pc => ⟨_, rfl, rfl⟩
theorem zK_130 : zK 130 (pure (.ixor)) := fun pc => ⟨_, rfl, rfl⟩
theorem zK_132 : zK 132 (do pure (.iinc (← Reader.u1) (← Reader.s1))) := fun pc => ⟨_, rfl, rfl⟩
theorem zK_133 : zK 133 (pure (.i2l)) := fun pc => ⟨_, rfl, rfl⟩
theorem zK_145 : zK 145 (pure (.i2b)) := fun pc => ⟨_, rfl, rfl⟩
theorem zK_146 : zK 146 (pure (.i2c)) := fun pc => ⟨_, rfl, rfl⟩
theorem zK_148 : zK 148 (pure (.lcmp)) := fun pc => ⟨_, rfl, rfl⟩
theorem zK_153 : zK 153 (do pure (.ifCond .eq (← Reader.s2))) := fun pc => ⟨_, rfl, rfl⟩
theorem zK_154 : zK 154 (do pure (.ifCond .ne (← Reader.s2))) := fun pc => ⟨_, rfl, rfl⟩
theorem zK_155 : zK 155 (do pure (.ifCond .lt (← Reader.s2))) := fun pc => ⟨_, rfl, rfl⟩
theorem zK_156 : zK 156 (do pure (.ifCond .ge (← Reader.s2))) := fun pc => ⟨_, rfl, rfl⟩
theorem zK_157 : zK 157 (do pure (.ifCond .gt (← Reader.s2))) := fun pc => ⟨_, rfl, rfl⟩
theorem zK_158 : zK 158 (do pure (.ifCond .le (← Reader.s2))) := fun pc => ⟨_, rfl, rfl⟩
theorem zK_159 : zK 159 (do pure (.if_icmp .eq (← Reader.s2))) := fun pc => ⟨_, rfl, rfl⟩
theorem zK_160 : zK 160 (do pure (.if_icmp .ne (← Reader.s2))) := fun pc => ⟨_, rfl, rfl⟩
theorem zK_161 : zK 161 (do pure (.if_icmp .lt (← Reader.s2))) := fun pc => ⟨_, rfl, rfl⟩
theorem zK_162 : zK 162 (do pure (.if_icmp .ge (← Reader.s2))) := fun pc => ⟨_, rfl, rfl⟩
theorem zK_163 : zK 163 (do pure (.if_icmp .gt (← Reader.s2))) := fun pc => ⟨_, rfl, rfl⟩
theorem zK_164 : zK 164 (do pure (.if_icmp .le (← Reader.s2))) := fun pc => ⟨_, rfl, rfl⟩
theorem zK_167 : zK 167 (do pure (.goto (← Reader.s2))) := fun pc => ⟨_, rfl, rfl⟩
theorem zK_172 : zK 172 (pure (.ireturn)) := fun pc => ⟨_, rfl, rfl⟩
theorem zK_173 : zK 173 (pure (.lreturn)) := fun pc => ⟨_, rfl, rfl⟩
theorem zK_176 : zK 176 (pure (.areturn)) := fun pc => ⟨_, rfl, rfl⟩
theorem zK_177 : zK 177 (pure (.return_)) := fun pc => ⟨_, rfl, rfl⟩
theorem zK_178 : zK 178 (do pure (.getstatic (← Reader.u2))) := fun pc => ⟨_, rfl, rfl⟩
theorem zK_180 : zK 180 (do pure (.getfield (← Reader.u2))) := fun pc => ⟨_, rfl, rfl⟩
theorem zK_181 : zK 181 (do pure (.putfield (← Reader.u2))) := fun pc => ⟨_, rfl, rfl⟩
theorem zK_182 : zK 182 (do pure (.invokevirtual (← Reader.u2))) := fun pc => ⟨_, rfl, rfl⟩
theorem zK_183 : zK 183 (do pure (.invokespecial (← Reader.u2))) := fun pc => ⟨_, rfl, rfl⟩
theorem zK_184 : zK 184 (do pure (.invokestatic (← Reader.u2))) := fun pc => ⟨_, rfl, rfl⟩
theorem zK_187 : zK 187 (do pure (.new (← Reader.u2))) := fun pc => ⟨_, rfl, rfl⟩
theorem zK_189 : zK 189 (do pure (.anewarray (← Reader.u2))) := fun pc => ⟨_, rfl, rfl⟩
theorem zK_190 : zK 190 (pure (.arraylength)) := fun pc => ⟨_, rfl, rfl⟩
theorem zK_191 : zK 191 (pure (.athrow)) := fun pc => ⟨_, rfl, rfl⟩
end P02_zd
section P03_decode_00
theorem dX0_init_0 : decode cX0_init 0 = .ok (.aload_n 0, 1) := zy_0 zK_42 (by decide +kernel)
theorem dX0_init_1 : decode cX0_init 1 = .ok (.invokespecial 3, 3) := zy_u2 (b1 := 0) (b2 := 3) zK_183 (by decide +kernel)
theorem dX0_init_4 : decode cX0_init 4 = .ok (.aload_n 0, 1) := zy_0 zK_42 (by decide +kernel)
theorem dX0_init_5 : decode cX0_init 5 = .ok (.bipush 9, 2) := zy_s1 (b1 := 9) zK_16 (by decide +kernel) (by decide +kernel)
theorem dX0_init_7 : decode cX0_init 7 = .ok (.newarray .int, 2) := by decide +kernel
theorem dX0_init_9 : decode cX0_init 9 = .ok (.putfield 9, 3) := zy_u2 (b1 := 0) (b2 := 9) zK_181 (by decide +kernel)
theorem dX0_init_12 : decode cX0_init 12 = .ok (.aload_n 0, 1) := zy_0 zK_42 (by decide +kernel)
theorem dX0_init_13 : decode cX0_init 13 = .ok (.bipush 9, 2) := zy_s1 (b1 := 9) zK_16 (by decide +kernel) (by decide +kernel)
theorem dX0_init_15 : decode cX0_init 15 = .ok (.newarray .int, 2) := by decide +kernel
theorem dX0_init_17 : decode cX0_init 17 = .ok (.putfield 15, 3) := zy_u2 (b1 := 0) (b2 := 15) zK_181 (by decide +kernel)
theorem dX0_init_20 : decode cX0_init 20 = .ok (.aload_n 0, 1) := zy_0 zK_42 (by decide +kernel)
theorem dX0_init_21 : decode cX0_init 21 = .ok (.bipush 6, 2) := zy_s1 (b1 := 6) zK_16 (by decide +kernel) (by decide +kernel)
theorem dX0_init_23 : decode cX0_init 23 = .ok (.newarray .int, 2) := by decide +kernel
theorem dX0_init_25 : decode cX0_init 25 = .ok (.putfield 18, 3) := zy_u2 (b1 := 0) (b2 := 18) zK_181 (by decide +kernel)
theorem dX0_init_28 : decode cX0_init 28 = .ok (.aload_n 0, 1) := zy_0 zK_42 (by decide +kernel)
theorem dX0_init_29 : decode cX0_init 29 = .ok (.bipush 6, 2) := zy_s1 (b1 := 6) zK_16 (by decide +kernel) (by decide +kernel)
theorem dX0_init_31 : decode cX0_init 31 = .ok (.newarray .int, 2) := by decide +kernel
theorem dX0_init_33 : decode cX0_init 33 = .ok (.putfield 21, 3) := zy_u2 (b1 := 0) (b2 := 21) zK_181 (by decide +kernel)
theorem dX0_init_36 : decode cX0_init 36 = .ok (.aload_n 0, 1) := zy_0 zK_42 (by decide +kernel)
theorem dX0_init_37 : decode cX0_init 37 = .ok (.new 24, 3) := zy_u2 (b1 := 0) (b2 := 24) zK_187 (by decide +kernel)
theorem dX0_init_40 : decode cX0_init 40 = .ok (.dup, 1) := zy_0 zK_89 (by decide +kernel)
theorem dX0_init_41 : decode cX0_init 41 = .ok (.invokespecial 26, 3) := zy_u2 (b1 := 0) (b2 := 26) zK_183 (by decide +kernel)
theorem dX0_init_44 : decode cX0_init 44 = .ok (.putfield 27, 3) := zy_u2 (b1 := 0) (b2 := 27) zK_181 (by decide +kernel)
theorem dX0_init_47 : decode cX0_init 47 = .ok (.return_, 1) := zy_0 zK_177 (by decide +kernel)
theorem dX0_clear_0 : decode cX0_clear 0 = .ok (.aload_n 0, 1) := zy_0 zK_42 (by decide +kernel)
theorem dX0_clear_1 : decode cX0_clear 1 = .ok (.iconst 0, 1) := zy_0 zK_3 (by decide +kernel)
theorem dX0_clear_2 : decode cX0_clear 2 = .ok (.putfield 31, 3) := zy_u2 (b1 := 0) (b2 := 31) zK_181 (by decide +kernel)
theorem dX0_clear_5 : decode cX0_clear 5 = .ok (.aload_n 0, 1) := zy_0 zK_42 (by decide +kernel)
theorem dX0_clear_6 : decode cX0_clear 6 = .ok (.iconst 0, 1) := zy_0 zK_3 (by decide +kernel)
theorem dX0_clear_7 : decode cX0_clear 7 = .ok (.putfield 35, 3) := zy_u2 (b1 := 0) (b2 := 35) zK_181 (by decide +kernel)
theorem dX0_clear_10 : decode cX0_clear 10 = .ok (.aload_n 0, 1) := zy_0 zK_42 (by decide +kernel)
theorem dX0_clear_11 : decode cX0_clear 11 = .ok (.iconst 0, 1) := zy_0 zK_3 (by decide +kernel)
theorem dX0_clear_12 : decode cX0_clear 12 = .ok (.putfield 39, 3) := zy_u2 (b1 := 0) (b2 := 39) zK_181 (by decide +kernel)
theorem dX0_clear_15 : decode cX0_clear 15 = .ok (.aload_n 0, 1) := zy_0 zK_42 (by decide +kernel)
theorem dX0_clear_16 : decode cX0_clear 16 = .ok (.iconst 0, 1) := zy_0 zK_3 (by decide +kernel)
theorem dX0_clear_17 : decode cX0_clear 17 = .ok (.putfield 42, 3) := zy_u2 (b1 := 0) (b2 := 42) zK_181 (by decide +kernel)
theorem dX0_clear_20 : decode cX0_clear 20 = .ok (.aload_n 0, 1) := zy_0 zK_42 (by decide +kernel)
theorem dX0_clear_21 : decode cX0_clear 21 = .ok (.getfield 27, 3) := zy_u2 (b1 := 0) (b2 := 27) zK_180 (by decide +kernel)
theorem dX0_clear_24 : decode cX0_clear 24 = .ok (.iconst 0, 1) := zy_0 zK_3 (by decide +kernel)
theorem dX0_clear_25 : decode cX0_clear 25 = .ok (.putfield 45, 3) := zy_u2 (b1 := 0) (b2 := 45) zK_181 (by decide +kernel)
theorem dX0_clear_28 : decode cX0_clear 28 = .ok (.iconst 0, 1) := zy_0 zK_3 (by decide +kernel)
theorem dX0_clear_29 : decode cX0_clear 29 = .ok (.istore_n 1, 1) := zy_0 zK_60 (by decide +kernel)
theorem dX0_clear_30 : decode cX0_clear 30 = .ok (.iload_n 1, 1) := zy_0 zK_27 (by decide +kernel)
theorem dX0_clear_31 : decode cX0_clear 31 = .ok (.bipush 9, 2) := zy_s1 (b1 := 9) zK_16 (by decide +kernel) (by decide +kernel)
theorem dX0_clear_33 : decode cX0_clear 33 = .ok (.if_icmp .ge 23, 3) := zy_s2 (b1 := 0) (b2 := 23) zK_162 (by decide +kernel) (by decide +kernel)
theorem dX0_clear_36 : decode cX0_clear 36 = .ok (.aload_n 0, 1) := zy_0 zK_42 (by decide +kernel)
theorem dX0_clear_37 : decode cX0_clear 37 = .ok (.getfield 9, 3) := zy_u2 (b1 := 0) (b2 := 9) zK_180 (by decide +kernel)
theorem dX0_clear_40 : decode cX0_clear 40 = .ok (.iload_n 1, 1) := zy_0 zK_27 (by decide +kernel)
theorem dX0_clear_41 : decode cX0_clear 41 = .ok (.iconst 0, 1) := zy_0 zK_3 (by decide +kernel)
theorem dX0_clear_42 : decode cX0_clear 42 = .ok (.iastore, 1) := zy_0 zK_79 (by decide +kernel)
theorem dX0_clear_43 : decode cX0_clear 43 = .ok (.aload_n 0, 1) := zy_0 zK_42 (by decide +kernel)
theorem dX0_clear_44 : decode cX0_clear 44 = .ok (.getfield 15, 3) := zy_u2 (b1 := 0) (b2 := 15) zK_180 (by decide +kernel)
theorem dX0_clear_47 : decode cX0_clear 47 = .ok (.iload_n 1, 1) := zy_0 zK_27 (by decide +kernel)
theorem dX0_clear_48 : decode cX0_clear 48 = .ok (.iconst 0, 1) := zy_0 zK_3 (by decide +kernel)
theorem dX0_clear_49 : decode cX0_clear 49 = .ok (.iastore, 1) := zy_0 zK_79 (by decide +kernel)
theorem dX0_clear_50 : decode cX0_clear 50 = .ok (.iinc 1 1, 3) := zy_ii (b1 := 1) (b2 := 1) zK_132 (by decide +kernel) (by decide +kernel)
theorem dX0_clear_53 : decode cX0_clear 53 = .ok (.goto (-23), 3) := zy_s2 (b1 := 255) (b2 := 233) zK_167 (by decide +kernel) (by decide +kernel)
theorem dX0_clear_56 : decode cX0_clear 56 = .ok (.return_, 1) := zy_0 zK_177 (by decide +kernel)
theorem dX0_addFigure_0 : decode cX0_addFigure 0 = .ok (.iload_n 1, 1) := zy_0 zK_27 (by decide +kernel)
theorem dX0_addFigure_1 : decode cX0_addFigure 1 = .ok (.ifCond .lt 35, 3) := zy_s2 (b1 := 0) (b2 := 35) zK_155 (by decide +kernel) (by decide +kernel)
theorem dX0_addFigure_4 : decode cX0_addFigure 4 = .ok (.iload_n 1, 1) := zy_0 zK_27 (by decide +kernel)
theorem dX0_addFigure_5 : decode cX0_addFigure 5 = .ok (.bipush 9, 2) := zy_s1 (b1 := 9) zK_16 (by decide +kernel) (by decide +kernel)
theorem dX0_addFigure_7 : decode cX0_addFigure 7 = .ok (.if_icmp .ge 29, 3) := zy_s2 (b1 := 0) (b2 := 29) zK_162 (by decide +kernel) (by decide +kernel)
theorem dX0_addFigure_10 : decode cX0_addFigure 10 = .ok (.aload_n 0, 1) := zy_0 zK_42 (by decide +kernel)
theorem dX0_addFigure_11 : decode cX0_addFigure 11 = .ok (.dup, 1) := zy_0 zK_89 (by decide +kernel)
theorem dX0_addFigure_12 : decode cX0_addFigure 12 = .ok (.getfield 39, 3) := zy_u2 (b1 := 0) (b2 := 39) zK_180 (by decide +kernel)
theorem dX0_addFigure_15 : decode cX0_addFigure 15 = .ok (.iconst 1, 1) := zy_0 zK_4 (by decide +kernel)
theorem dX0_addFigure_16 : decode cX0_addFigure 16 = .ok (.iload_n 1, 1) := zy_0 zK_27 (by decide +kernel)
theorem dX0_addFigure_17 : decode cX0_addFigure 17 = .ok (.ishl, 1) := zy_0 zK_120 (by decide +kernel)
theorem dX0_addFigure_18 : decode cX0_addFigure 18 = .ok (.ior, 1) := zy_0 zK_128 (by decide +kernel)
theorem dX0_addFigure_19 : decode cX0_addFigure 19 = .ok (.putfield 39, 3) := zy_u2 (b1 := 0) (b2 := 39) zK_181 (by decide +kernel)
theorem dX0_addFigure_22 : decode cX0_addFigure 22 = .ok (.aload_n 0, 1) := zy_0 zK_42 (by decide +kernel)
theorem dX0_addFigure_23 : decode cX0_addFigure 23 = .ok (.getfield 9, 3) := zy_u2 (b1 := 0) (b2 := 9) zK_180 (by decide +kernel)
theorem dX0_addFigure_26 : decode cX0_addFigure 26 = .ok (.iload_n 1, 1) := zy_0 zK_27 (by decide +kernel)
theorem dX0_addFigure_27 : decode cX0_addFigure 27 = .ok (.iload_n 2, 1) := zy_0 zK_28 (by decide +kernel)
theorem dX0_addFigure_28 : decode cX0_addFigure 28 = .ok (.iastore, 1) := zy_0 zK_79 (by decide +kernel)
theorem dX0_addFigure_29 : decode cX0_addFigure 29 = .ok (.aload_n 0, 1) := zy_0 zK_42 (by decide +kernel)
theorem dX0_addFigure_30 : decode cX0_addFigure 30 = .ok (.getfield 15, 3) := zy_u2 (b1 := 0) (b2 := 15) zK_180 (by decide +kernel)
theorem dX0_addFigure_33 : decode cX0_addFigure 33 = .ok (.iload_n 1, 1) := zy_0 zK_27 (by decide +kernel)
theorem dX0_addFigure_34 : decode cX0_addFigure 34 = .ok (.iload_n 3, 1) := zy_0 zK_29 (by decide +kernel)
theorem dX0_addFigure_35 : decode cX0_addFigure 35 = .ok (.iastore, 1) := zy_0 zK_79 (by decide +kernel)
theorem dX0_addFigure_36 : decode cX0_addFigure 36 = .ok (.return_, 1) := zy_0 zK_177 (by decide +kernel)
theorem dX0_addSeen_0 : decode cX0_addSeen 0 = .ok (.aload_n 0, 1) := zy_0 zK_42 (by decide +kernel)
theorem dX0_addSeen_1 : decode cX0_addSeen 1 = .ok (.getfield 42, 3) := zy_u2 (b1 := 0) (b2 := 42) zK_180 (by decide +kernel)
theorem dX0_addSeen_4 : decode cX0_addSeen 4 = .ok (.bipush 6, 2) := zy_s1 (b1 := 6) zK_16 (by decide +kernel) (by decide +kernel)
theorem dX0_addSeen_6 : decode cX0_addSeen 6 = .ok (.if_icmp .ge 33, 3) := zy_s2 (b1 := 0) (b2 := 33) zK_162 (by decide +kernel) (by decide +kernel)
theorem dX0_addSeen_9 : decode cX0_addSeen 9 = .ok (.aload_n 0, 1) := zy_0 zK_42 (by decide +kernel)
theorem dX0_addSeen_10 : decode cX0_addSeen 10 = .ok (.getfield 18, 3) := zy_u2 (b1 := 0) (b2 := 18) zK_180 (by decide +kernel)
theorem dX0_addSeen_13 : decode cX0_addSeen 13 = .ok (.aload_n 0, 1) := zy_0 zK_42 (by decide +kernel)
theorem dX0_addSeen_14 : decode cX0_addSeen 14 = .ok (.getfield 42, 3) := zy_u2 (b1 := 0) (b2 := 42) zK_180 (by decide +kernel)
theorem dX0_addSeen_17 : decode cX0_addSeen 17 = .ok (.iload_n 1, 1) := zy_0 zK_27 (by decide +kernel)
theorem dX0_addSeen_18 : decode cX0_addSeen 18 = .ok (.iastore, 1) := zy_0 zK_79 (by decide +kernel)
theorem dX0_addSeen_19 : decode cX0_addSeen 19 = .ok (.aload_n 0, 1) := zy_0 zK_42 (by decide +kernel)
theorem dX0_addSeen_20 : decode cX0_addSeen 20 = .ok (.getfield 21, 3) := zy_u2 (b1 := 0) (b2 := 21) zK_180 (by decide +kernel)
theorem dX0_addSeen_23 : decode cX0_addSeen 23 = .ok (.aload_n 0, 1) := zy_0 zK_42 (by decide +kernel)
theorem dX0_addSeen_24 : decode cX0_addSeen 24 = .ok (.getfield 42, 3) := zy_u2 (b1 := 0) (b2 := 42) zK_180 (by decide +kernel)
theorem dX0_addSeen_27 : decode cX0_addSeen 27 = .ok (.iload_n 2, 1) := zy_0 zK_28 (by decide +kernel)
theorem dX0_addSeen_28 : decode cX0_addSeen 28 = .ok (.iastore, 1) := zy_0 zK_79 (by decide +kernel)
theorem dX0_addSeen_29 : decode cX0_addSeen 29 = .ok (.aload_n 0, 1) := zy_0 zK_42 (by decide +kernel)
theorem dX0_addSeen_30 : decode cX0_addSeen 30 = .ok (.dup, 1) := zy_0 zK_89 (by decide +kernel)
theorem dX0_addSeen_31 : decode cX0_addSeen 31 = .ok (.getfield 42, 3) := zy_u2 (b1 := 0) (b2 := 42) zK_180 (by decide +kernel)
theorem dX0_addSeen_34 : decode cX0_addSeen 34 = .ok (.iconst 1, 1) := zy_0 zK_4 (by decide +kernel)
theorem dX0_addSeen_35 : decode cX0_addSeen 35 = .ok (.iadd, 1) := zy_0 zK_96 (by decide +kernel)
theorem dX0_addSeen_36 : decode cX0_addSeen 36 = .ok (.putfield 42, 3) := zy_u2 (b1 := 0) (b2 := 42) zK_181 (by decide +kernel)
theorem dX0_addSeen_39 : decode cX0_addSeen 39 = .ok (.return_, 1) := zy_0 zK_177 (by decide +kernel)
theorem dX0_isSeenMinute_0 : decode cX0_isSeenMinute 0 = .ok (.iconst 0, 1) := zy_0 zK_3 (by decide +kernel)
theorem dX0_isSeenMinute_1 : decode cX0_isSeenMinute 1 = .ok (.istore_n 2, 1) := zy_0 zK_61 (by decide +kernel)
theorem dX0_isSeenMinute_2 : decode cX0_isSeenMinute 2 = .ok (.iload_n 2, 1) := zy_0 zK_28 (by decide +kernel)
theorem dX0_isSeenMinute_3 : decode cX0_isSeenMinute 3 = .ok (.aload_n 0, 1) := zy_0 zK_42 (by decide +kernel)
theorem dX0_isSeenMinute_4 : decode cX0_isSeenMinute 4 = .ok (.getfield 42, 3) := zy_u2 (b1 := 0) (b2 := 42) zK_180 (by decide +kernel)
theorem dX0_isSeenMinute_7 : decode cX0_isSeenMinute 7 = .ok (.if_icmp .ge 21, 3) := zy_s2 (b1 := 0) (b2 := 21) zK_162 (by decide +kernel) (by decide +kernel)
theorem dX0_isSeenMinute_10 : decode cX0_isSeenMinute 10 = .ok (.aload_n 0, 1) := zy_0 zK_42 (by decide +kernel)
theorem dX0_isSeenMinute_11 : decode cX0_isSeenMinute 11 = .ok (.getfield 21, 3) := zy_u2 (b1 := 0) (b2 := 21) zK_180 (by decide +kernel)
theorem dX0_isSeenMinute_14 : decode cX0_isSeenMinute 14 = .ok (.iload_n 2, 1) := zy_0 zK_28 (by decide +kernel)
theorem dX0_isSeenMinute_15 : decode cX0_isSeenMinute 15 = .ok (.iaload, 1) := zy_0 zK_46 (by decide +kernel)
theorem dX0_isSeenMinute_16 : decode cX0_isSeenMinute 16 = .ok (.iload_n 1, 1) := zy_0 zK_27 (by decide +kernel)
theorem dX0_isSeenMinute_17 : decode cX0_isSeenMinute 17 = .ok (.if_icmp .ne 5, 3) := zy_s2 (b1 := 0) (b2 := 5) zK_160 (by decide +kernel) (by decide +kernel)
theorem dX0_isSeenMinute_20 : decode cX0_isSeenMinute 20 = .ok (.iconst 1, 1) := zy_0 zK_4 (by decide +kernel)
theorem dX0_isSeenMinute_21 : decode cX0_isSeenMinute 21 = .ok (.ireturn, 1) := zy_0 zK_172 (by decide +kernel)
theorem dX0_isSeenMinute_22 : decode cX0_isSeenMinute 22 = .ok (.iinc 2 1, 3) := zy_ii (b1 := 2) (b2 := 1) zK_132 (by decide +kernel) (by decide +kernel)
theorem dX0_isSeenMinute_25 : decode cX0_isSeenMinute 25 = .ok (.goto (-23), 3) := zy_s2 (b1 := 255) (b2 := 233) zK_167 (by decide +kernel) (by decide +kernel)
theorem dX0_isSeenMinute_28 : decode cX0_isSeenMinute 28 = .ok (.iconst 0, 1) := zy_0 zK_3 (by decide +kernel)
theorem dX0_isSeenMinute_29 : decode cX0_isSeenMinute 29 = .ok (.ireturn, 1) := zy_0 zK_172 (by decide +kernel)
theorem dX0_sizeTold_0 : decode cX0_sizeTold 0 = .ok (.iload_n 1, 1) := zy_0 zK_27 (by decide +kernel)
theorem dX0_sizeTold_1 : decode cX0_sizeTold 1 = .ok (.tableswitch 111 0 9 #[55, 60, 65, 70, 75, 83, 91, 96, 101, 106], 55) := by decide +kernel
theorem dX0_sizeTold_56 : decode cX0_sizeTold 56 = .ok (.aload_n 0, 1) := zy_0 zK_42 (by decide +kernel)
theorem dX0_sizeTold_57 : decode cX0_sizeTold 57 = .ok (.getfield 31, 3) := zy_u2 (b1 := 0) (b2 := 31) zK_180 (by decide +kernel)
theorem dX0_sizeTold_60 : decode cX0_sizeTold 60 = .ok (.ireturn, 1) := zy_0 zK_172 (by decide +kernel)
theorem dX0_sizeTold_61 : decode cX0_sizeTold 61 = .ok (.aload_n 0, 1) := zy_0 zK_42 (by decide +kernel)
theorem dX0_sizeTold_62 : decode cX0_sizeTold 62 = .ok (.getfield 48, 3) := zy_u2 (b1 := 0) (b2 := 48) zK_180 (by decide +kernel)
theorem dX0_sizeTold_65 : decode cX0_sizeTold 65 = .ok (.ireturn, 1) := zy_0 zK_172 (by decide +kernel)
theorem dX0_sizeTold_66 : decode cX0_sizeTold 66 = .ok (.aload_n 0, 1) := zy_0 zK_42 (by decide +kernel)
theorem dX0_sizeTold_67 : decode cX0_sizeTold 67 = .ok (.getfield 51, 3) := zy_u2 (b1 := 0) (b2 := 51) zK_180 (by decide +kernel)
theorem dX0_sizeTold_70 : decode cX0_sizeTold 70 = .ok (.ireturn, 1) := zy_0 zK_172 (by decide +kernel)
theorem dX0_sizeTold_71 : decode cX0_sizeTold 71 = .ok (.aload_n 0, 1) := zy_0 zK_42 (by decide +kernel)
theorem dX0_sizeTold_72 : decode cX0_sizeTold 72 = .ok (.getfield 54, 3) := zy_u2 (b1 := 0) (b2 := 54) zK_180 (by decide +kernel)
theorem dX0_sizeTold_75 : decode cX0_sizeTold 75 = .ok (.ireturn, 1) := zy_0 zK_172 (by decide +kernel)
theorem dX0_sizeTold_76 : decode cX0_sizeTold 76 = .ok (.aload_n 0, 1) := zy_0 zK_42 (by decide +kernel)
theorem dX0_sizeTold_77 : decode cX0_sizeTold 77 = .ok (.getfield 39, 3) := zy_u2 (b1 := 0) (b2 := 39) zK_180 (by decide +kernel)
theorem dX0_sizeTold_80 : decode cX0_sizeTold 80 = .ok (.invokestatic 57, 3) := zy_u2 (b1 := 0) (b2 := 57) zK_184 (by decide +kernel)
theorem dX0_sizeTold_83 : decode cX0_sizeTold 83 = .ok (.ireturn, 1) := zy_0 zK_172 (by decide +kernel)
theorem dX0_sizeTold_84 : decode cX0_sizeTold 84 = .ok (.aload_n 0, 1) := zy_0 zK_42 (by decide +kernel)
theorem dX0_sizeTold_85 : decode cX0_sizeTold 85 = .ok (.getfield 27, 3) := zy_u2 (b1 := 0) (b2 := 27) zK_180 (by decide +kernel)
theorem dX0_sizeTold_88 : decode cX0_sizeTold 88 = .ok (.getfield 45, 3) := zy_u2 (b1 := 0) (b2 := 45) zK_180 (by decide +kernel)
theorem dX0_sizeTold_91 : decode cX0_sizeTold 91 = .ok (.ireturn, 1) := zy_0 zK_172 (by decide +kernel)
theorem dX0_sizeTold_92 : decode cX0_sizeTold 92 = .ok (.aload_n 0, 1) := zy_0 zK_42 (by decide +kernel)
theorem dX0_sizeTold_93 : decode cX0_sizeTold 93 = .ok (.getfield 42, 3) := zy_u2 (b1 := 0) (b2 := 42) zK_180 (by decide +kernel)
theorem dX0_sizeTold_96 : decode cX0_sizeTold 96 = .ok (.ireturn, 1) := zy_0 zK_172 (by decide +kernel)
theorem dX0_sizeTold_97 : decode cX0_sizeTold 97 = .ok (.aload_n 0, 1) := zy_0 zK_42 (by decide +kernel)
theorem dX0_sizeTold_98 : decode cX0_sizeTold 98 = .ok (.getfield 63, 3) := zy_u2 (b1 := 0) (b2 := 63) zK_180 (by decide +kernel)
theorem dX0_sizeTold_101 : decode cX0_sizeTold 101 = .ok (.ireturn, 1) := zy_0 zK_172 (by decide +kernel)
theorem dX0_sizeTold_102 : decode cX0_sizeTold 102 = .ok (.aload_n 0, 1) := zy_0 zK_42 (by decide +kernel)
theorem dX0_sizeTold_103 : decode cX0_sizeTold 103 = .ok (.getfield 66, 3) := zy_u2 (b1 := 0) (b2 := 66) zK_180 (by decide +kernel)
theorem dX0_sizeTold_106 : decode cX0_sizeTold 106 = .ok (.ireturn, 1) := zy_0 zK_172 (by decide +kernel)
theorem dX0_sizeTold_107 : decode cX0_sizeTold 107 = .ok (.aload_n 0, 1) := zy_0 zK_42 (by decide +kernel)
theorem dX0_sizeTold_108 : decode cX0_sizeTold 108 = .ok (.getfield 69, 3) := zy_u2 (b1 := 0) (b2 := 69) zK_180 (by decide +kernel)
theorem dX0_sizeTold_111 : decode cX0_sizeTold 111 = .ok (.ireturn, 1) := zy_0 zK_172 (by decide +kernel)
theorem dX0_sizeTold_112 : decode cX0_sizeTold 112 = .ok (.iconst (-1), 1) := zy_0 zK_2 (by decide +kernel)
theorem dX0_sizeTold_113 : decode cX0_sizeTold 113 = .ok (.ireturn, 1) := zy_0 zK_172 (by decide +kernel)
theorem dX0_next_0 : decode cX0_next 0 = .ok (.aload_n 0, 1) := zy_0 zK_42 (by decide +kernel)
theorem dX0_next_1 : decode cX0_next 1 = .ok (.getfield 31, 3) := zy_u2 (b1 := 0) (b2 := 31) zK_180 (by decide +kernel)
theorem dX0_next_4 : decode cX0_next 4 = .ok (.ifCond .gt 7, 3) := zy_s2 (b1 := 0) (b2 := 7) zK_157 (by decide +kernel) (by decide +kernel)
theorem dX0_next_7 : decode cX0_next 7 = .ok (.iconst 0, 1) := zy_0 zK_3 (by decide +kernel)
theorem dX0_next_8 : decode cX0_next 8 = .ok (.goto 19, 3) := zy_s2 (b1 := 0) (b2 := 19) zK_167 (by decide +kernel) (by decide +kernel)
theorem dX0_next_11 : decode cX0_next 11 = .ok (.iload_n 1, 1) := zy_0 zK_27 (by decide +kernel)
theorem dX0_next_12 : decode cX0_next 12 = .ok (.aload_n 0, 1) := zy_0 zK_42 (by decide +kernel)
theorem dX0_next_13 : decode cX0_next 13 = .ok (.getfield 63, 3) := zy_u2 (b1 := 0) (b2 := 63) zK_180 (by decide +kernel)
theorem dX0_next_16 : decode cX0_next 16 = .ok (.imul, 1) := zy_0 zK_104 (by decide +kernel)
theorem dX0_next_17 : decode cX0_next 17 = .ok (.aload_n 0, 1) := zy_0 zK_42 (by decide +kernel)
theorem dX0_next_18 : decode cX0_next 18 = .ok (.getfield 66, 3) := zy_u2 (b1 := 0) (b2 := 66) zK_180 (by decide +kernel)
theorem dX0_next_21 : decode cX0_next 21 = .ok (.iadd, 1) := zy_0 zK_96 (by decide +kernel)
theorem dX0_next_22 : decode cX0_next 22 = .ok (.aload_n 0, 1) := zy_0 zK_42 (by decide +kernel)
theorem dX0_next_23 : decode cX0_next 23 = .ok (.getfield 31, 3) := zy_u2 (b1 := 0) (b2 := 31) zK_180 (by decide +kernel)
theorem dX0_next_26 : decode cX0_next 26 = .ok (.irem, 1) := zy_0 zK_112 (by decide +kernel)
theorem dX0_next_27 : decode cX0_next 27 = .ok (.ireturn, 1) := zy_0 zK_172 (by decide +kernel)
theorem dX0_aliveByLaw_0 : decode cX0_aliveByLaw 0 = .ok (.aload_n 0, 1) := zy_0 zK_42 (by decide +kernel)
theorem dX0_aliveByLaw_1 : decode cX0_aliveByLaw 1 = .ok (.getfield 48, 3) := zy_u2 (b1 := 0) (b2 := 48) zK_180 (by decide +kernel)
theorem dX0_aliveByLaw_4 : decode cX0_aliveByLaw 4 = .ok (.ifCond .gt 7, 3) := zy_s2 (b1 := 0) (b2 := 7) zK_157 (by decide +kernel) (by decide +kernel)
theorem dX0_aliveByLaw_7 : decode cX0_aliveByLaw 7 = .ok (.iconst 0, 1) := zy_0 zK_3 (by decide +kernel)
theorem dX0_aliveByLaw_8 : decode cX0_aliveByLaw 8 = .ok (.goto 9, 3) := zy_s2 (b1 := 0) (b2 := 9) zK_167 (by decide +kernel) (by decide +kernel)
theorem dX0_aliveByLaw_11 : decode cX0_aliveByLaw 11 = .ok (.iload_n 2, 1) := zy_0 zK_28 (by decide +kernel)
theorem dX0_aliveByLaw_12 : decode cX0_aliveByLaw 12 = .ok (.aload_n 0, 1) := zy_0 zK_42 (by decide +kernel)
theorem dX0_aliveByLaw_13 : decode cX0_aliveByLaw 13 = .ok (.getfield 48, 3) := zy_u2 (b1 := 0) (b2 := 48) zK_180 (by decide +kernel)
theorem dX0_aliveByLaw_16 : decode cX0_aliveByLaw 16 = .ok (.idiv, 1) := zy_0 zK_108 (by decide +kernel)
theorem dX0_aliveByLaw_17 : decode cX0_aliveByLaw 17 = .ok (.istore_n 3, 1) := zy_0 zK_62 (by decide +kernel)
theorem dX0_aliveByLaw_18 : decode cX0_aliveByLaw 18 = .ok (.aload_n 0, 1) := zy_0 zK_42 (by decide +kernel)
theorem dX0_aliveByLaw_19 : decode cX0_aliveByLaw 19 = .ok (.getfield 31, 3) := zy_u2 (b1 := 0) (b2 := 31) zK_180 (by decide +kernel)
theorem dX0_aliveByLaw_22 : decode cX0_aliveByLaw 22 = .ok (.iload_n 1, 1) := zy_0 zK_27 (by decide +kernel)
theorem dX0_aliveByLaw_23 : decode cX0_aliveByLaw 23 = .ok (.bipush 100, 2) := zy_s1 (b1 := 100) zK_16 (by decide +kernel) (by decide +kernel)
theorem dX0_aliveByLaw_25 : decode cX0_aliveByLaw 25 = .ok (.idiv, 1) := zy_0 zK_108 (by decide +kernel)
theorem dX0_aliveByLaw_26 : decode cX0_aliveByLaw 26 = .ok (.iload_n 1, 1) := zy_0 zK_27 (by decide +kernel)
theorem dX0_aliveByLaw_27 : decode cX0_aliveByLaw 27 = .ok (.bipush 10, 2) := zy_s1 (b1 := 10) zK_16 (by decide +kernel) (by decide +kernel)
theorem dX0_aliveByLaw_29 : decode cX0_aliveByLaw 29 = .ok (.idiv, 1) := zy_0 zK_108 (by decide +kernel)
theorem dX0_aliveByLaw_30 : decode cX0_aliveByLaw 30 = .ok (.bipush 10, 2) := zy_s1 (b1 := 10) zK_16 (by decide +kernel) (by decide +kernel)
theorem dX0_aliveByLaw_32 : decode cX0_aliveByLaw 32 = .ok (.irem, 1) := zy_0 zK_112 (by decide +kernel)
theorem dX0_aliveByLaw_33 : decode cX0_aliveByLaw 33 = .ok (.iload_n 1, 1) := zy_0 zK_27 (by decide +kernel)
theorem dX0_aliveByLaw_34 : decode cX0_aliveByLaw 34 = .ok (.bipush 10, 2) := zy_s1 (b1 := 10) zK_16 (by decide +kernel) (by decide +kernel)
theorem dX0_aliveByLaw_36 : decode cX0_aliveByLaw 36 = .ok (.irem, 1) := zy_0 zK_112 (by decide +kernel)
theorem dX0_aliveByLaw_37 : decode cX0_aliveByLaw 37 = .ok (.iload_n 3, 1) := zy_0 zK_29 (by decide +kernel)
theorem dX0_aliveByLaw_38 : decode cX0_aliveByLaw 38 = .ok (.invokestatic 72, 3) := zy_u2 (b1 := 0) (b2 := 72) zK_184 (by decide +kernel)
theorem dX0_aliveByLaw_41 : decode cX0_aliveByLaw 41 = .ok (.ireturn, 1) := zy_0 zK_172 (by decide +kernel)
theorem dX0_goesLike_0 : decode cX0_goesLike 0 = .ok (.aload_n 0, 1) := zy_0 zK_42 (by decide +kernel)
theorem dX0_goesLike_1 : decode cX0_goesLike 1 = .ok (.getfield 69, 3) := zy_u2 (b1 := 0) (b2 := 69) zK_180 (by decide +kernel)
theorem dX0_goesLike_4 : decode cX0_goesLike 4 = .ok (.istore_n 3, 1) := zy_0 zK_62 (by decide +kernel)
theorem dX0_goesLike_5 : decode cX0_goesLike 5 = .ok (.iconst 0, 1) := zy_0 zK_3 (by decide +kernel)
theorem dX0_goesLike_6 : decode cX0_goesLike 6 = .ok (.istore 4, 2) := zy_u1 (b1 := 4) zK_54 (by decide +kernel)
theorem dX0_goesLike_8 : decode cX0_goesLike 8 = .ok (.iload 4, 2) := zy_u1 (b1 := 4) zK_21 (by decide +kernel)
theorem dX0_goesLike_10 : decode cX0_goesLike 10 = .ok (.aload_n 0, 1) := zy_0 zK_42 (by decide +kernel)
theorem dX0_goesLike_11 : decode cX0_goesLike 11 = .ok (.getfield 31, 3) := zy_u2 (b1 := 0) (b2 := 31) zK_180 (by decide +kernel)
theorem dX0_goesLike_14 : decode cX0_goesLike 14 = .ok (.if_icmp .ge 36, 3) := zy_s2 (b1 := 0) (b2 := 36) zK_162 (by decide +kernel) (by decide +kernel)
theorem dX0_goesLike_17 : decode cX0_goesLike 17 = .ok (.aload_n 0, 1) := zy_0 zK_42 (by decide +kernel)
theorem dX0_goesLike_18 : decode cX0_goesLike 18 = .ok (.iload_n 3, 1) := zy_0 zK_29 (by decide +kernel)
theorem dX0_goesLike_19 : decode cX0_goesLike 19 = .ok (.invokevirtual 76, 3) := zy_u2 (b1 := 0) (b2 := 76) zK_182 (by decide +kernel)
theorem dX0_goesLike_22 : decode cX0_goesLike 22 = .ok (.istore 5, 2) := zy_u1 (b1 := 5) zK_54 (by decide +kernel)
theorem dX0_goesLike_24 : decode cX0_goesLike 24 = .ok (.iload_n 3, 1) := zy_0 zK_29 (by decide +kernel)
theorem dX0_goesLike_25 : decode cX0_goesLike 25 = .ok (.iload_n 1, 1) := zy_0 zK_27 (by decide +kernel)
theorem dX0_goesLike_26 : decode cX0_goesLike 26 = .ok (.imul, 1) := zy_0 zK_104 (by decide +kernel)
theorem dX0_goesLike_27 : decode cX0_goesLike 27 = .ok (.iload_n 2, 1) := zy_0 zK_28 (by decide +kernel)
theorem dX0_goesLike_28 : decode cX0_goesLike 28 = .ok (.iadd, 1) := zy_0 zK_96 (by decide +kernel)
theorem dX0_goesLike_29 : decode cX0_goesLike 29 = .ok (.aload_n 0, 1) := zy_0 zK_42 (by decide +kernel)
theorem dX0_goesLike_30 : decode cX0_goesLike 30 = .ok (.getfield 31, 3) := zy_u2 (b1 := 0) (b2 := 31) zK_180 (by decide +kernel)
theorem dX0_goesLike_33 : decode cX0_goesLike 33 = .ok (.irem, 1) := zy_0 zK_112 (by decide +kernel)
theorem dX0_goesLike_34 : decode cX0_goesLike 34 = .ok (.iload 5, 2) := zy_u1 (b1 := 5) zK_21 (by decide +kernel)
theorem dX0_goesLike_36 : decode cX0_goesLike 36 = .ok (.if_icmp .eq 5, 3) := zy_s2 (b1 := 0) (b2 := 5) zK_159 (by decide +kernel) (by decide +kernel)
theorem dX0_goesLike_39 : decode cX0_goesLike 39 = .ok (.iconst 0, 1) := zy_0 zK_3 (by decide +kernel)
theorem dX0_goesLike_40 : decode cX0_goesLike 40 = .ok (.ireturn, 1) := zy_0 zK_172 (by decide +kernel)
theorem dX0_goesLike_41 : decode cX0_goesLike 41 = .ok (.iload 5, 2) := zy_u1 (b1 := 5) zK_21 (by decide +kernel)
theorem dX0_goesLike_43 : decode cX0_goesLike 43 = .ok (.istore_n 3, 1) := zy_0 zK_62 (by decide +kernel)
theorem dX0_goesLike_44 : decode cX0_goesLike 44 = .ok (.iinc 4 1, 3) := zy_ii (b1 := 4) (b2 := 1) zK_132 (by decide +kernel) (by decide +kernel)
theorem dX0_goesLike_47 : decode cX0_goesLike 47 = .ok (.goto (-39), 3) := zy_s2 (b1 := 255) (b2 := 217) zK_167 (by decide +kernel) (by decide +kernel)
theorem dX0_goesLike_50 : decode cX0_goesLike 50 = .ok (.iconst 1, 1) := zy_0 zK_4 (by decide +kernel)
theorem dX0_goesLike_51 : decode cX0_goesLike 51 = .ok (.ireturn, 1) := zy_0 zK_172 (by decide +kernel)
theorem dX0_pass_0 : decode cX0_pass 0 = .ok (.aload_n 1, 1) := zy_0 zK_43 (by decide +kernel)
theorem dX0_pass_1 : decode cX0_pass 1 = .ok (.getfield 79, 3) := zy_u2 (b1 := 0) (b2 := 79) zK_180 (by decide +kernel)
theorem dX0_pass_4 : decode cX0_pass 4 = .ok (.istore_n 3, 1) := zy_0 zK_62 (by decide +kernel)
theorem dX0_pass_5 : decode cX0_pass 5 = .ok (.aload_n 1, 1) := zy_0 zK_43 (by decide +kernel)
theorem dX0_pass_6 : decode cX0_pass 6 = .ok (.getfield 84, 3) := zy_u2 (b1 := 0) (b2 := 84) zK_180 (by decide +kernel)
theorem dX0_pass_9 : decode cX0_pass 9 = .ok (.iconst 1, 1) := zy_0 zK_4 (by decide +kernel)
theorem dX0_pass_10 : decode cX0_pass 10 = .ok (.iadd, 1) := zy_0 zK_96 (by decide +kernel)
theorem dX0_pass_11 : decode cX0_pass 11 = .ok (.istore 4, 2) := zy_u1 (b1 := 4) zK_54 (by decide +kernel)
theorem dX0_pass_13 : decode cX0_pass 13 = .ok (.aload_n 0, 1) := zy_0 zK_42 (by decide +kernel)
theorem dX0_pass_14 : decode cX0_pass 14 = .ok (.iload_n 3, 1) := zy_0 zK_29 (by decide +kernel)
theorem dX0_pass_15 : decode cX0_pass 15 = .ok (.iload 4, 2) := zy_u1 (b1 := 4) zK_21 (by decide +kernel)
theorem dX0_pass_17 : decode cX0_pass 17 = .ok (.invokevirtual 87, 3) := zy_u2 (b1 := 0) (b2 := 87) zK_182 (by decide +kernel)
theorem dX0_pass_20 : decode cX0_pass 20 = .ok (.ifCond .eq 10, 3) := zy_s2 (b1 := 0) (b2 := 10) zK_153 (by decide +kernel) (by decide +kernel)
theorem dX0_pass_23 : decode cX0_pass 23 = .ok (.aload_n 0, 1) := zy_0 zK_42 (by decide +kernel)
theorem dX0_pass_24 : decode cX0_pass 24 = .ok (.aload_n 1, 1) := zy_0 zK_43 (by decide +kernel)
theorem dX0_pass_25 : decode cX0_pass 25 = .ok (.iload_n 3, 1) := zy_0 zK_29 (by decide +kernel)
theorem dX0_pass_26 : decode cX0_pass 26 = .ok (.aload_n 2, 1) := zy_0 zK_44 (by decide +kernel)
theorem dX0_pass_27 : decode cX0_pass 27 = .ok (.invokevirtual 91, 3) := zy_u2 (b1 := 0) (b2 := 91) zK_182 (by decide +kernel)
theorem dX0_pass_30 : decode cX0_pass 30 = .ok (.aload_n 0, 1) := zy_0 zK_42 (by decide +kernel)
theorem dX0_pass_31 : decode cX0_pass 31 = .ok (.iload_n 3, 1) := zy_0 zK_29 (by decide +kernel)
theorem dX0_pass_32 : decode cX0_pass 32 = .ok (.iload 4, 2) := zy_u1 (b1 := 4) zK_21 (by decide +kernel)
theorem dX0_pass_34 : decode cX0_pass 34 = .ok (.invokevirtual 95, 3) := zy_u2 (b1 := 0) (b2 := 95) zK_182 (by decide +kernel)
theorem dX0_pass_37 : decode cX0_pass 37 = .ok (.istore 5, 2) := zy_u1 (b1 := 5) zK_54 (by decide +kernel)
theorem dX0_pass_39 : decode cX0_pass 39 = .ok (.iload 5, 2) := zy_u1 (b1 := 5) zK_21 (by decide +kernel)
theorem dX0_pass_41 : decode cX0_pass 41 = .ok (.ifCond .eq 34, 3) := zy_s2 (b1 := 0) (b2 := 34) zK_153 (by decide +kernel) (by decide +kernel)
theorem dX0_pass_44 : decode cX0_pass 44 = .ok (.aload_n 1, 1) := zy_0 zK_43 (by decide +kernel)
theorem dX0_pass_45 : decode cX0_pass 45 = .ok (.getfield 99, 3) := zy_u2 (b1 := 0) (b2 := 99) zK_180 (by decide +kernel)
theorem dX0_pass_48 : decode cX0_pass 48 = .ok (.iload_n 3, 1) := zy_0 zK_29 (by decide +kernel)
theorem dX0_pass_49 : decode cX0_pass 49 = .ok (.iaload, 1) := zy_0 zK_46 (by decide +kernel)
theorem dX0_pass_50 : decode cX0_pass 50 = .ok (.aload_n 2, 1) := zy_0 zK_44 (by decide +kernel)
theorem dX0_pass_51 : decode cX0_pass 51 = .ok (.aload_n 1, 1) := zy_0 zK_43 (by decide +kernel)
theorem dX0_pass_52 : decode cX0_pass 52 = .ok (.getfield 102, 3) := zy_u2 (b1 := 0) (b2 := 102) zK_180 (by decide +kernel)
theorem dX0_pass_55 : decode cX0_pass 55 = .ok (.invokevirtual 105, 3) := zy_u2 (b1 := 0) (b2 := 105) zK_182 (by decide +kernel)
theorem dX0_pass_58 : decode cX0_pass 58 = .ok (.invokestatic 108, 3) := zy_u2 (b1 := 0) (b2 := 108) zK_184 (by decide +kernel)
theorem dX0_pass_61 : decode cX0_pass 61 = .ok (.ifCond .eq 14, 3) := zy_s2 (b1 := 0) (b2 := 14) zK_153 (by decide +kernel) (by decide +kernel)
theorem dX0_pass_64 : decode cX0_pass 64 = .ok (.aload_n 1, 1) := zy_0 zK_43 (by decide +kernel)
theorem dX0_pass_65 : decode cX0_pass 65 = .ok (.getfield 111, 3) := zy_u2 (b1 := 0) (b2 := 111) zK_180 (by decide +kernel)
theorem dX0_pass_68 : decode cX0_pass 68 = .ok (.iload_n 3, 1) := zy_0 zK_29 (by decide +kernel)
theorem dX0_pass_69 : decode cX0_pass 69 = .ok (.dup2, 1) := zy_0 zK_92 (by decide +kernel)
theorem dX0_pass_70 : decode cX0_pass 70 = .ok (.iaload, 1) := zy_0 zK_46 (by decide +kernel)
theorem dX0_pass_71 : decode cX0_pass 71 = .ok (.iload 5, 2) := zy_u1 (b1 := 5) zK_21 (by decide +kernel)
theorem dX0_pass_73 : decode cX0_pass 73 = .ok (.ior, 1) := zy_0 zK_128 (by decide +kernel)
theorem dX0_pass_74 : decode cX0_pass 74 = .ok (.iastore, 1) := zy_0 zK_79 (by decide +kernel)
theorem dX0_pass_75 : decode cX0_pass 75 = .ok (.aload_n 1, 1) := zy_0 zK_43 (by decide +kernel)
theorem dX0_pass_76 : decode cX0_pass 76 = .ok (.dup, 1) := zy_0 zK_89 (by decide +kernel)
theorem dX0_pass_77 : decode cX0_pass 77 = .ok (.getfield 102, 3) := zy_u2 (b1 := 0) (b2 := 102) zK_180 (by decide +kernel)
theorem dX0_pass_80 : decode cX0_pass 80 = .ok (.iconst 1, 1) := zy_0 zK_4 (by decide +kernel)
theorem dX0_pass_81 : decode cX0_pass 81 = .ok (.iadd, 1) := zy_0 zK_96 (by decide +kernel)
theorem dX0_pass_82 : decode cX0_pass 82 = .ok (.putfield 102, 3) := zy_u2 (b1 := 0) (b2 := 102) zK_181 (by decide +kernel)
theorem dX0_pass_85 : decode cX0_pass 85 = .ok (.aload_n 1, 1) := zy_0 zK_43 (by decide +kernel)
theorem dX0_pass_86 : decode cX0_pass 86 = .ok (.iload 4, 2) := zy_u1 (b1 := 4) zK_21 (by decide +kernel)
theorem dX0_pass_88 : decode cX0_pass 88 = .ok (.putfield 84, 3) := zy_u2 (b1 := 0) (b2 := 84) zK_181 (by decide +kernel)
theorem dX0_pass_91 : decode cX0_pass 91 = .ok (.iload 4, 2) := zy_u1 (b1 := 4) zK_21 (by decide +kernel)
theorem dX0_pass_93 : decode cX0_pass 93 = .ok (.aload_n 0, 1) := zy_0 zK_42 (by decide +kernel)
theorem dX0_pass_94 : decode cX0_pass 94 = .ok (.getfield 48, 3) := zy_u2 (b1 := 0) (b2 := 48) zK_180 (by decide +kernel)
theorem dX0_pass_97 : decode cX0_pass 97 = .ok (.if_icmp .lt 12, 3) := zy_s2 (b1 := 0) (b2 := 12) zK_161 (by decide +kernel) (by decide +kernel)
theorem dX0_pass_100 : decode cX0_pass 100 = .ok (.aload_n 1, 1) := zy_0 zK_43 (by decide +kernel)
theorem dX0_pass_101 : decode cX0_pass 101 = .ok (.aload_n 0, 1) := zy_0 zK_42 (by decide +kernel)
theorem dX0_pass_102 : decode cX0_pass 102 = .ok (.iload_n 3, 1) := zy_0 zK_29 (by decide +kernel)
theorem dX0_pass_103 : decode cX0_pass 103 = .ok (.invokevirtual 76, 3) := zy_u2 (b1 := 0) (b2 := 76) zK_182 (by decide +kernel)
theorem dX0_pass_106 : decode cX0_pass 106 = .ok (.invokevirtual 114, 3) := zy_u2 (b1 := 0) (b2 := 114) zK_182 (by decide +kernel)
theorem dX0_pass_109 : decode cX0_pass 109 = .ok (.return_, 1) := zy_0 zK_177 (by decide +kernel)
theorem dX0_stepsIn_0 : decode cX0_stepsIn 0 = .ok (.iload_n 1, 1) := zy_0 zK_27 (by decide +kernel)
theorem dX0_stepsIn_1 : decode cX0_stepsIn 1 = .ok (.iconst 0, 1) := zy_0 zK_3 (by decide +kernel)
theorem dX0_stepsIn_2 : decode cX0_stepsIn 2 = .ok (.bipush 8, 2) := zy_s1 (b1 := 8) zK_16 (by decide +kernel) (by decide +kernel)
theorem dX0_stepsIn_4 : decode cX0_stepsIn 4 = .ok (.invokestatic 118, 3) := zy_u2 (b1 := 0) (b2 := 118) zK_184 (by decide +kernel)
theorem dX0_stepsIn_7 : decode cX0_stepsIn 7 = .ok (.ifCond .eq 13, 3) := zy_s2 (b1 := 0) (b2 := 13) zK_153 (by decide +kernel) (by decide +kernel)
theorem dX0_stepsIn_10 : decode cX0_stepsIn 10 = .ok (.aload_n 0, 1) := zy_0 zK_42 (by decide +kernel)
theorem dX0_stepsIn_11 : decode cX0_stepsIn 11 = .ok (.getfield 9, 3) := zy_u2 (b1 := 0) (b2 := 9) zK_180 (by decide +kernel)
theorem dX0_stepsIn_14 : decode cX0_stepsIn 14 = .ok (.iload_n 1, 1) := zy_0 zK_27 (by decide +kernel)
theorem dX0_stepsIn_15 : decode cX0_stepsIn 15 = .ok (.iaload, 1) := zy_0 zK_46 (by decide +kernel)
theorem dX0_stepsIn_16 : decode cX0_stepsIn 16 = .ok (.iconst 1, 1) := zy_0 zK_4 (by decide +kernel)
theorem dX0_stepsIn_17 : decode cX0_stepsIn 17 = .ok (.if_icmp .eq 5, 3) := zy_s2 (b1 := 0) (b2 := 5) zK_159 (by decide +kernel) (by decide +kernel)
theorem dX0_stepsIn_20 : decode cX0_stepsIn 20 = .ok (.iconst 0, 1) := zy_0 zK_3 (by decide +kernel)
theorem dX0_stepsIn_21 : decode cX0_stepsIn 21 = .ok (.ireturn, 1) := zy_0 zK_172 (by decide +kernel)
theorem dX0_stepsIn_22 : decode cX0_stepsIn 22 = .ok (.aload_n 0, 1) := zy_0 zK_42 (by decide +kernel)
theorem dX0_stepsIn_23 : decode cX0_stepsIn 23 = .ok (.getfield 15, 3) := zy_u2 (b1 := 0) (b2 := 15) zK_180 (by decide +kernel)
theorem dX0_stepsIn_26 : decode cX0_stepsIn 26 = .ok (.iload_n 1, 1) := zy_0 zK_27 (by decide +kernel)
theorem dX0_stepsIn_27 : decode cX0_stepsIn 27 = .ok (.iaload, 1) := zy_0 zK_46 (by decide +kernel)
theorem dX0_stepsIn_28 : decode cX0_stepsIn 28 = .ok (.istore_n 3, 1) := zy_0 zK_62 (by decide +kernel)
theorem dX0_stepsIn_29 : decode cX0_stepsIn 29 = .ok (.iload_n 3, 1) := zy_0 zK_29 (by decide +kernel)
theorem dX0_stepsIn_30 : decode cX0_stepsIn 30 = .ok (.ifCond .le 13, 3) := zy_s2 (b1 := 0) (b2 := 13) zK_158 (by decide +kernel) (by decide +kernel)
theorem dX0_stepsIn_33 : decode cX0_stepsIn 33 = .ok (.iload_n 2, 1) := zy_0 zK_28 (by decide +kernel)
theorem dX0_stepsIn_34 : decode cX0_stepsIn 34 = .ok (.iload_n 3, 1) := zy_0 zK_29 (by decide +kernel)
theorem dX0_stepsIn_35 : decode cX0_stepsIn 35 = .ok (.irem, 1) := zy_0 zK_112 (by decide +kernel)
theorem dX0_stepsIn_36 : decode cX0_stepsIn 36 = .ok (.ifCond .ne 7, 3) := zy_s2 (b1 := 0) (b2 := 7) zK_154 (by decide +kernel) (by decide +kernel)
theorem dX0_stepsIn_39 : decode cX0_stepsIn 39 = .ok (.iconst 1, 1) := zy_0 zK_4 (by decide +kernel)
theorem dX0_stepsIn_40 : decode cX0_stepsIn 40 = .ok (.goto 4, 3) := zy_s2 (b1 := 0) (b2 := 4) zK_167 (by decide +kernel) (by decide +kernel)
theorem dX0_stepsIn_43 : decode cX0_stepsIn 43 = .ok (.iconst 0, 1) := zy_0 zK_3 (by decide +kernel)
theorem dX0_stepsIn_44 : decode cX0_stepsIn 44 = .ok (.ireturn, 1) := zy_0 zK_172 (by decide +kernel)
theorem dX0_step_0 : decode cX0_step 0 = .ok (.aload_n 1, 1) := zy_0 zK_43 (by decide +kernel)
theorem dX0_step_1 : decode cX0_step 1 = .ok (.iload_n 2, 1) := zy_0 zK_28 (by decide +kernel)
theorem dX0_step_2 : decode cX0_step 2 = .ok (.invokevirtual 122, 3) := zy_u2 (b1 := 0) (b2 := 122) zK_182 (by decide +kernel)
theorem dX0_step_5 : decode cX0_step 5 = .ok (.ifCond .eq 4, 3) := zy_s2 (b1 := 0) (b2 := 4) zK_153 (by decide +kernel) (by decide +kernel)
theorem dX0_step_8 : decode cX0_step 8 = .ok (.return_, 1) := zy_0 zK_177 (by decide +kernel)
theorem dX0_step_9 : decode cX0_step 9 = .ok (.aload_n 0, 1) := zy_0 zK_42 (by decide +kernel)
theorem dX0_step_10 : decode cX0_step 10 = .ok (.aload_n 1, 1) := zy_0 zK_43 (by decide +kernel)
theorem dX0_step_11 : decode cX0_step 11 = .ok (.getfield 99, 3) := zy_u2 (b1 := 0) (b2 := 99) zK_180 (by decide +kernel)
theorem dX0_step_14 : decode cX0_step 14 = .ok (.iload_n 2, 1) := zy_0 zK_28 (by decide +kernel)
theorem dX0_step_15 : decode cX0_step 15 = .ok (.iaload, 1) := zy_0 zK_46 (by decide +kernel)
theorem dX0_step_16 : decode cX0_step 16 = .ok (.invokevirtual 126, 3) := zy_u2 (b1 := 0) (b2 := 126) zK_182 (by decide +kernel)
theorem dX0_step_19 : decode cX0_step 19 = .ok (.istore 4, 2) := zy_u1 (b1 := 4) zK_54 (by decide +kernel)
theorem dX0_step_21 : decode cX0_step 21 = .ok (.aload_n 3, 1) := zy_0 zK_45 (by decide +kernel)
theorem dX0_step_22 : decode cX0_step 22 = .ok (.aload_n 1, 1) := zy_0 zK_43 (by decide +kernel)
theorem dX0_step_23 : decode cX0_step 23 = .ok (.getfield 102, 3) := zy_u2 (b1 := 0) (b2 := 102) zK_180 (by decide +kernel)
theorem dX0_step_26 : decode cX0_step 26 = .ok (.invokevirtual 105, 3) := zy_u2 (b1 := 0) (b2 := 105) zK_182 (by decide +kernel)
theorem dX0_step_29 : decode cX0_step 29 = .ok (.iload 4, 2) := zy_u1 (b1 := 4) zK_21 (by decide +kernel)
theorem dX0_step_31 : decode cX0_step 31 = .ok (.invokestatic 129, 3) := zy_u2 (b1 := 0) (b2 := 129) zK_184 (by decide +kernel)
theorem dX0_step_34 : decode cX0_step 34 = .ok (.ifCond .eq 19, 3) := zy_s2 (b1 := 0) (b2 := 19) zK_153 (by decide +kernel) (by decide +kernel)
theorem dX0_step_37 : decode cX0_step 37 = .ok (.aload_n 1, 1) := zy_0 zK_43 (by decide +kernel)
theorem dX0_step_38 : decode cX0_step 38 = .ok (.dup, 1) := zy_0 zK_89 (by decide +kernel)
theorem dX0_step_39 : decode cX0_step 39 = .ok (.getfield 132, 3) := zy_u2 (b1 := 0) (b2 := 132) zK_180 (by decide +kernel)
theorem dX0_step_42 : decode cX0_step 42 = .ok (.iconst 1, 1) := zy_0 zK_4 (by decide +kernel)
theorem dX0_step_43 : decode cX0_step 43 = .ok (.iadd, 1) := zy_0 zK_96 (by decide +kernel)
theorem dX0_step_44 : decode cX0_step 44 = .ok (.putfield 132, 3) := zy_u2 (b1 := 0) (b2 := 132) zK_181 (by decide +kernel)
theorem dX0_step_47 : decode cX0_step 47 = .ok (.iload_n 2, 1) := zy_0 zK_28 (by decide +kernel)
theorem dX0_step_48 : decode cX0_step 48 = .ok (.istore 4, 2) := zy_u1 (b1 := 4) zK_54 (by decide +kernel)
theorem dX0_step_50 : decode cX0_step 50 = .ok (.goto 24, 3) := zy_s2 (b1 := 0) (b2 := 24) zK_167 (by decide +kernel) (by decide +kernel)
theorem dX0_step_53 : decode cX0_step 53 = .ok (.iload 4, 2) := zy_u1 (b1 := 4) zK_21 (by decide +kernel)
theorem dX0_step_55 : decode cX0_step 55 = .ok (.aload_n 0, 1) := zy_0 zK_42 (by decide +kernel)
theorem dX0_step_56 : decode cX0_step 56 = .ok (.getfield 51, 3) := zy_u2 (b1 := 0) (b2 := 51) zK_180 (by decide +kernel)
theorem dX0_step_59 : decode cX0_step 59 = .ok (.if_icmp .ne 15, 3) := zy_s2 (b1 := 0) (b2 := 15) zK_160 (by decide +kernel) (by decide +kernel)
theorem dX0_step_62 : decode cX0_step 62 = .ok (.aload_n 1, 1) := zy_0 zK_43 (by decide +kernel)
theorem dX0_step_63 : decode cX0_step 63 = .ok (.dup, 1) := zy_0 zK_89 (by decide +kernel)
theorem dX0_step_64 : decode cX0_step 64 = .ok (.getfield 135, 3) := zy_u2 (b1 := 0) (b2 := 135) zK_180 (by decide +kernel)
theorem dX0_step_67 : decode cX0_step 67 = .ok (.iconst 1, 1) := zy_0 zK_4 (by decide +kernel)
theorem dX0_step_68 : decode cX0_step 68 = .ok (.iload_n 2, 1) := zy_0 zK_28 (by decide +kernel)
theorem dX0_step_69 : decode cX0_step 69 = .ok (.ishl, 1) := zy_0 zK_120 (by decide +kernel)
theorem dX0_step_70 : decode cX0_step 70 = .ok (.ior, 1) := zy_0 zK_128 (by decide +kernel)
theorem dX0_step_71 : decode cX0_step 71 = .ok (.putfield 135, 3) := zy_u2 (b1 := 0) (b2 := 135) zK_181 (by decide +kernel)
theorem dX0_step_74 : decode cX0_step 74 = .ok (.aload_n 1, 1) := zy_0 zK_43 (by decide +kernel)
theorem dX0_step_75 : decode cX0_step 75 = .ok (.getfield 99, 3) := zy_u2 (b1 := 0) (b2 := 99) zK_180 (by decide +kernel)
theorem dX0_step_78 : decode cX0_step 78 = .ok (.iload_n 2, 1) := zy_0 zK_28 (by decide +kernel)
theorem dX0_step_79 : decode cX0_step 79 = .ok (.iload 4, 2) := zy_u1 (b1 := 4) zK_21 (by decide +kernel)
theorem dX0_step_81 : decode cX0_step 81 = .ok (.iastore, 1) := zy_0 zK_79 (by decide +kernel)
theorem dX0_step_82 : decode cX0_step 82 = .ok (.return_, 1) := zy_0 zK_177 (by decide +kernel)
theorem dX0_nearer_0 : decode cX0_nearer 0 = .ok (.iload_n 1, 1) := zy_0 zK_27 (by decide +kernel)
theorem dX0_nearer_1 : decode cX0_nearer 1 = .ok (.aload_n 0, 1) := zy_0 zK_42 (by decide +kernel)
theorem dX0_nearer_2 : decode cX0_nearer 2 = .ok (.getfield 51, 3) := zy_u2 (b1 := 0) (b2 := 51) zK_180 (by decide +kernel)
theorem dX0_nearer_5 : decode cX0_nearer 5 = .ok (.if_icmp .ne 5, 3) := zy_s2 (b1 := 0) (b2 := 5) zK_160 (by decide +kernel) (by decide +kernel)
theorem dX0_nearer_8 : decode cX0_nearer 8 = .ok (.iload_n 1, 1) := zy_0 zK_27 (by decide +kernel)
theorem dX0_nearer_9 : decode cX0_nearer 9 = .ok (.ireturn, 1) := zy_0 zK_172 (by decide +kernel)
theorem dX0_nearer_10 : decode cX0_nearer 10 = .ok (.iload_n 1, 1) := zy_0 zK_27 (by decide +kernel)
theorem dX0_nearer_11 : decode cX0_nearer 11 = .ok (.aload_n 0, 1) := zy_0 zK_42 (by decide +kernel)
theorem dX0_nearer_12 : decode cX0_nearer 12 = .ok (.getfield 51, 3) := zy_u2 (b1 := 0) (b2 := 51) zK_180 (by decide +kernel)
theorem dX0_nearer_15 : decode cX0_nearer 15 = .ok (.if_icmp .ge 9, 3) := zy_s2 (b1 := 0) (b2 := 9) zK_162 (by decide +kernel) (by decide +kernel)
theorem dX0_nearer_18 : decode cX0_nearer 18 = .ok (.iload_n 1, 1) := zy_0 zK_27 (by decide +kernel)
theorem dX0_nearer_19 : decode cX0_nearer 19 = .ok (.iconst 1, 1) := zy_0 zK_4 (by decide +kernel)
theorem dX0_nearer_20 : decode cX0_nearer 20 = .ok (.iadd, 1) := zy_0 zK_96 (by decide +kernel)
theorem dX0_nearer_21 : decode cX0_nearer 21 = .ok (.goto 6, 3) := zy_s2 (b1 := 0) (b2 := 6) zK_167 (by decide +kernel) (by decide +kernel)
theorem dX0_nearer_24 : decode cX0_nearer 24 = .ok (.iload_n 1, 1) := zy_0 zK_27 (by decide +kernel)
theorem dX0_nearer_25 : decode cX0_nearer 25 = .ok (.iconst 1, 1) := zy_0 zK_4 (by decide +kernel)
theorem dX0_nearer_26 : decode cX0_nearer 26 = .ok (.isub, 1) := zy_0 zK_100 (by decide +kernel)
theorem dX0_nearer_27 : decode cX0_nearer 27 = .ok (.ireturn, 1) := zy_0 zK_172 (by decide +kernel)
theorem dX0_isHeardAt_0 : decode cX0_isHeardAt 0 = .ok (.iload_n 1, 1) := zy_0 zK_27 (by decide +kernel)
theorem dX0_isHeardAt_1 : decode cX0_isHeardAt 1 = .ok (.bipush 7, 2) := zy_s1 (b1 := 7) zK_16 (by decide +kernel) (by decide +kernel)
theorem dX0_isHeardAt_3 : decode cX0_isHeardAt 3 = .ok (.iload_n 0, 1) := zy_0 zK_26 (by decide +kernel)
theorem dX0_isHeardAt_4 : decode cX0_isHeardAt 4 = .ok (.ishl, 1) := zy_0 zK_120 (by decide +kernel)
theorem dX0_isHeardAt_5 : decode cX0_isHeardAt 5 = .ok (.iconst 1, 1) := zy_0 zK_4 (by decide +kernel)
theorem dX0_isHeardAt_6 : decode cX0_isHeardAt 6 = .ok (.ishr, 1) := zy_0 zK_122 (by decide +kernel)
theorem dX0_isHeardAt_7 : decode cX0_isHeardAt 7 = .ok (.iand, 1) := zy_0 zK_126 (by decide +kernel)
theorem dX0_isHeardAt_8 : decode cX0_isHeardAt 8 = .ok (.ifCond .eq 7, 3) := zy_s2 (b1 := 0) (b2 := 7) zK_153 (by decide +kernel) (by decide +kernel)
theorem dX0_isHeardAt_11 : decode cX0_isHeardAt 11 = .ok (.iconst 1, 1) := zy_0 zK_4 (by decide +kernel)
theorem dX0_isHeardAt_12 : decode cX0_isHeardAt 12 = .ok (.goto 4, 3) := zy_s2 (b1 := 0) (b2 := 4) zK_167 (by decide +kernel) (by decide +kernel)
theorem dX0_isHeardAt_15 : decode cX0_isHeardAt 15 = .ok (.iconst 0, 1) := zy_0 zK_3 (by decide +kernel)
theorem dX0_isHeardAt_16 : decode cX0_isHeardAt 16 = .ok (.ireturn, 1) := zy_0 zK_172 (by decide +kernel)
theorem dX0_partSaid_0 : decode cX0_partSaid 0 = .ok (.iload_n 1, 1) := zy_0 zK_27 (by decide +kernel)
theorem dX0_partSaid_1 : decode cX0_partSaid 1 = .ok (.iconst 0, 1) := zy_0 zK_3 (by decide +kernel)
theorem dX0_partSaid_2 : decode cX0_partSaid 2 = .ok (.bipush 8, 2) := zy_s1 (b1 := 8) zK_16 (by decide +kernel) (by decide +kernel)
theorem dX0_partSaid_4 : decode cX0_partSaid 4 = .ok (.invokestatic 118, 3) := zy_u2 (b1 := 0) (b2 := 118) zK_184 (by decide +kernel)
theorem dX0_partSaid_7 : decode cX0_partSaid 7 = .ok (.ifCond .eq 17, 3) := zy_s2 (b1 := 0) (b2 := 17) zK_153 (by decide +kernel) (by decide +kernel)
theorem dX0_partSaid_10 : decode cX0_partSaid 10 = .ok (.aload_n 0, 1) := zy_0 zK_42 (by decide +kernel)
theorem dX0_partSaid_11 : decode cX0_partSaid 11 = .ok (.getfield 9, 3) := zy_u2 (b1 := 0) (b2 := 9) zK_180 (by decide +kernel)
theorem dX0_partSaid_14 : decode cX0_partSaid 14 = .ok (.iload_n 1, 1) := zy_0 zK_27 (by decide +kernel)
theorem dX0_partSaid_15 : decode cX0_partSaid 15 = .ok (.iaload, 1) := zy_0 zK_46 (by decide +kernel)
theorem dX0_partSaid_16 : decode cX0_partSaid 16 = .ok (.iconst 2, 1) := zy_0 zK_5 (by decide +kernel)
theorem dX0_partSaid_17 : decode cX0_partSaid 17 = .ok (.if_icmp .ne 7, 3) := zy_s2 (b1 := 0) (b2 := 7) zK_160 (by decide +kernel) (by decide +kernel)
theorem dX0_partSaid_20 : decode cX0_partSaid 20 = .ok (.iconst 1, 1) := zy_0 zK_4 (by decide +kernel)
theorem dX0_partSaid_21 : decode cX0_partSaid 21 = .ok (.goto 4, 3) := zy_s2 (b1 := 0) (b2 := 4) zK_167 (by decide +kernel) (by decide +kernel)
theorem dX0_partSaid_24 : decode cX0_partSaid 24 = .ok (.iconst 0, 1) := zy_0 zK_3 (by decide +kernel)
theorem dX0_partSaid_25 : decode cX0_partSaid 25 = .ok (.istore_n 3, 1) := zy_0 zK_62 (by decide +kernel)
theorem dX0_partSaid_26 : decode cX0_partSaid 26 = .ok (.iload_n 3, 1) := zy_0 zK_29 (by decide +kernel)
theorem dX0_partSaid_27 : decode cX0_partSaid 27 = .ok (.ifCond .eq 21, 3) := zy_s2 (b1 := 0) (b2 := 21) zK_153 (by decide +kernel) (by decide +kernel)
theorem dX0_partSaid_30 : decode cX0_partSaid 30 = .ok (.iload_n 2, 1) := zy_0 zK_28 (by decide +kernel)
theorem dX0_partSaid_31 : decode cX0_partSaid 31 = .ok (.aload_n 0, 1) := zy_0 zK_42 (by decide +kernel)
theorem dX0_partSaid_32 : decode cX0_partSaid 32 = .ok (.getfield 15, 3) := zy_u2 (b1 := 0) (b2 := 15) zK_180 (by decide +kernel)
theorem dX0_partSaid_35 : decode cX0_partSaid 35 = .ok (.iload_n 1, 1) := zy_0 zK_27 (by decide +kernel)
theorem dX0_partSaid_36 : decode cX0_partSaid 36 = .ok (.iaload, 1) := zy_0 zK_46 (by decide +kernel)
theorem dX0_partSaid_37 : decode cX0_partSaid 37 = .ok (.if_icmp .gt 11, 3) := zy_s2 (b1 := 0) (b2 := 11) zK_163 (by decide +kernel) (by decide +kernel)
theorem dX0_partSaid_40 : decode cX0_partSaid 40 = .ok (.iconst 1, 1) := zy_0 zK_4 (by decide +kernel)
theorem dX0_partSaid_41 : decode cX0_partSaid 41 = .ok (.iload_n 2, 1) := zy_0 zK_28 (by decide +kernel)
theorem dX0_partSaid_42 : decode cX0_partSaid 42 = .ok (.iconst 1, 1) := zy_0 zK_4 (by decide +kernel)
theorem dX0_partSaid_43 : decode cX0_partSaid 43 = .ok (.isub, 1) := zy_0 zK_100 (by decide +kernel)
theorem dX0_partSaid_44 : decode cX0_partSaid 44 = .ok (.ishl, 1) := zy_0 zK_120 (by decide +kernel)
theorem dX0_partSaid_45 : decode cX0_partSaid 45 = .ok (.goto 4, 3) := zy_s2 (b1 := 0) (b2 := 4) zK_167 (by decide +kernel) (by decide +kernel)
theorem dX0_partSaid_48 : decode cX0_partSaid 48 = .ok (.iconst 0, 1) := zy_0 zK_3 (by decide +kernel)
theorem dX0_partSaid_49 : decode cX0_partSaid 49 = .ok (.ireturn, 1) := zy_0 zK_172 (by decide +kernel)
theorem dX1_init_0 : decode cX1_init 0 = .ok (.aload_n 0, 1) := zy_0 zK_42 (by decide +kernel)
theorem dX1_init_1 : decode cX1_init 1 = .ok (.invokespecial 3, 3) := zy_u2 (b1 := 0) (b2 := 3) zK_183 (by decide +kernel)
theorem dX1_init_4 : decode cX1_init 4 = .ok (.aload_n 0, 1) := zy_0 zK_42 (by decide +kernel)
theorem dX1_init_5 : decode cX1_init 5 = .ok (.bipush 16, 2) := zy_s1 (b1 := 16) zK_16 (by decide +kernel) (by decide +kernel)
theorem dX1_init_7 : decode cX1_init 7 = .ok (.anewarray 9, 3) := zy_u2 (b1 := 0) (b2 := 9) zK_189 (by decide +kernel)
theorem dX1_init_10 : decode cX1_init 10 = .ok (.putfield 11, 3) := zy_u2 (b1 := 0) (b2 := 11) zK_181 (by decide +kernel)
theorem dX1_init_13 : decode cX1_init 13 = .ok (.iconst 0, 1) := zy_0 zK_3 (by decide +kernel)
theorem dX1_init_14 : decode cX1_init 14 = .ok (.istore_n 1, 1) := zy_0 zK_60 (by decide +kernel)
theorem dX1_init_15 : decode cX1_init 15 = .ok (.iload_n 1, 1) := zy_0 zK_27 (by decide +kernel)
theorem dX1_init_16 : decode cX1_init 16 = .ok (.bipush 16, 2) := zy_s1 (b1 := 16) zK_16 (by decide +kernel) (by decide +kernel)
theorem dX1_init_18 : decode cX1_init 18 = .ok (.if_icmp .ge 22, 3) := zy_s2 (b1 := 0) (b2 := 22) zK_162 (by decide +kernel) (by decide +kernel)
theorem dX1_init_21 : decode cX1_init 21 = .ok (.aload_n 0, 1) := zy_0 zK_42 (by decide +kernel)
theorem dX1_init_22 : decode cX1_init 22 = .ok (.getfield 11, 3) := zy_u2 (b1 := 0) (b2 := 11) zK_180 (by decide +kernel)
theorem dX1_init_25 : decode cX1_init 25 = .ok (.iload_n 1, 1) := zy_0 zK_27 (by decide +kernel)
theorem dX1_init_26 : decode cX1_init 26 = .ok (.new 9, 3) := zy_u2 (b1 := 0) (b2 := 9) zK_187 (by decide +kernel)
theorem dX1_init_29 : decode cX1_init 29 = .ok (.dup, 1) := zy_0 zK_89 (by decide +kernel)
theorem dX1_init_30 : decode cX1_init 30 = .ok (.invokespecial 17, 3) := zy_u2 (b1 := 0) (b2 := 17) zK_183 (by decide +kernel)
theorem dX1_init_33 : decode cX1_init 33 = .ok (.aastore, 1) := zy_0 zK_83 (by decide +kernel)
theorem dX1_init_34 : decode cX1_init 34 = .ok (.iinc 1 1, 3) := zy_ii (b1 := 1) (b2 := 1) zK_132 (by decide +kernel) (by decide +kernel)
theorem dX1_init_37 : decode cX1_init 37 = .ok (.goto (-22), 3) := zy_s2 (b1 := 255) (b2 := 234) zK_167 (by decide +kernel) (by decide +kernel)
theorem dX1_init_40 : decode cX1_init 40 = .ok (.aload_n 0, 1) := zy_0 zK_42 (by decide +kernel)
theorem dX1_init_41 : decode cX1_init 41 = .ok (.iconst 3, 1) := zy_0 zK_6 (by decide +kernel)
theorem dX1_init_42 : decode cX1_init 42 = .ok (.anewarray 9, 3) := zy_u2 (b1 := 0) (b2 := 9) zK_189 (by decide +kernel)
theorem dX1_init_45 : decode cX1_init 45 = .ok (.putfield 18, 3) := zy_u2 (b1 := 0) (b2 := 18) zK_181 (by decide +kernel)
theorem dX1_init_48 : decode cX1_init 48 = .ok (.iconst 0, 1) := zy_0 zK_3 (by decide +kernel)
theorem dX1_init_49 : decode cX1_init 49 = .ok (.istore_n 1, 1) := zy_0 zK_60 (by decide +kernel)
theorem dX1_init_50 : decode cX1_init 50 = .ok (.iload_n 1, 1) := zy_0 zK_27 (by decide +kernel)
theorem dX1_init_51 : decode cX1_init 51 = .ok (.iconst 3, 1) := zy_0 zK_6 (by decide +kernel)
theorem dX1_init_52 : decode cX1_init 52 = .ok (.if_icmp .ge 22, 3) := zy_s2 (b1 := 0) (b2 := 22) zK_162 (by decide +kernel) (by decide +kernel)
theorem dX1_init_55 : decode cX1_init 55 = .ok (.aload_n 0, 1) := zy_0 zK_42 (by decide +kernel)
theorem dX1_init_56 : decode cX1_init 56 = .ok (.getfield 18, 3) := zy_u2 (b1 := 0) (b2 := 18) zK_180 (by decide +kernel)
theorem dX1_init_59 : decode cX1_init 59 = .ok (.iload_n 1, 1) := zy_0 zK_27 (by decide +kernel)
theorem dX1_init_60 : decode cX1_init 60 = .ok (.new 9, 3) := zy_u2 (b1 := 0) (b2 := 9) zK_187 (by decide +kernel)
theorem dX1_init_63 : decode cX1_init 63 = .ok (.dup, 1) := zy_0 zK_89 (by decide +kernel)
theorem dX1_init_64 : decode cX1_init 64 = .ok (.invokespecial 17, 3) := zy_u2 (b1 := 0) (b2 := 17) zK_183 (by decide +kernel)
theorem dX1_init_67 : decode cX1_init 67 = .ok (.aastore, 1) := zy_0 zK_83 (by decide +kernel)
theorem dX1_init_68 : decode cX1_init 68 = .ok (.iinc 1 1, 3) := zy_ii (b1 := 1) (b2 := 1) zK_132 (by decide +kernel) (by decide +kernel)
theorem dX1_init_71 : decode cX1_init 71 = .ok (.goto (-21), 3) := zy_s2 (b1 := 255) (b2 := 235) zK_167 (by decide +kernel) (by decide +kernel)
theorem dX1_init_74 : decode cX1_init 74 = .ok (.return_, 1) := zy_0 zK_177 (by decide +kernel)
theorem dX1_clear_0 : decode cX1_clear 0 = .ok (.aload_n 0, 1) := zy_0 zK_42 (by decide +kernel)
theorem dX1_clear_1 : decode cX1_clear 1 = .ok (.iconst 0, 1) := zy_0 zK_3 (by decide +kernel)
theorem dX1_clear_2 : decode cX1_clear 2 = .ok (.putfield 21, 3) := zy_u2 (b1 := 0) (b2 := 21) zK_181 (by decide +kernel)
theorem dX1_clear_5 : decode cX1_clear 5 = .ok (.aload_n 0, 1) := zy_0 zK_42 (by decide +kernel)
theorem dX1_clear_6 : decode cX1_clear 6 = .ok (.iconst 0, 1) := zy_0 zK_3 (by decide +kernel)
theorem dX1_clear_7 : decode cX1_clear 7 = .ok (.putfield 25, 3) := zy_u2 (b1 := 0) (b2 := 25) zK_181 (by decide +kernel)
theorem dX1_clear_10 : decode cX1_clear 10 = .ok (.return_, 1) := zy_0 zK_177 (by decide +kernel)
theorem dX1_keep_0 : decode cX1_keep 0 = .ok (.aload_n 0, 1) := zy_0 zK_42 (by decide +kernel)
theorem dX1_keep_1 : decode cX1_keep 1 = .ok (.aload_n 0, 1) := zy_0 zK_42 (by decide +kernel)
theorem dX1_keep_2 : decode cX1_keep 2 = .ok (.getfield 28, 3) := zy_u2 (b1 := 0) (b2 := 28) zK_180 (by decide +kernel)
theorem dX1_keep_5 : decode cX1_keep 5 = .ok (.iconst 1, 1) := zy_0 zK_4 (by decide +kernel)
theorem dX1_keep_6 : decode cX1_keep 6 = .ok (.iadd, 1) := zy_0 zK_96 (by decide +kernel)
theorem dX1_keep_7 : decode cX1_keep 7 = .ok (.bipush 16, 2) := zy_s1 (b1 := 16) zK_16 (by decide +kernel) (by decide +kernel)
theorem dX1_keep_9 : decode cX1_keep 9 = .ok (.irem, 1) := zy_0 zK_112 (by decide +kernel)
theorem dX1_keep_10 : decode cX1_keep 10 = .ok (.putfield 28, 3) := zy_u2 (b1 := 0) (b2 := 28) zK_181 (by decide +kernel)
theorem dX1_keep_13 : decode cX1_keep 13 = .ok (.aload_n 0, 1) := zy_0 zK_42 (by decide +kernel)
theorem dX1_keep_14 : decode cX1_keep 14 = .ok (.getfield 11, 3) := zy_u2 (b1 := 0) (b2 := 11) zK_180 (by decide +kernel)
theorem dX1_keep_17 : decode cX1_keep 17 = .ok (.aload_n 0, 1) := zy_0 zK_42 (by decide +kernel)
theorem dX1_keep_18 : decode cX1_keep 18 = .ok (.getfield 28, 3) := zy_u2 (b1 := 0) (b2 := 28) zK_180 (by decide +kernel)
theorem dX1_keep_21 : decode cX1_keep 21 = .ok (.aaload, 1) := zy_0 zK_50 (by decide +kernel)
theorem dX1_keep_22 : decode cX1_keep 22 = .ok (.aload_n 1, 1) := zy_0 zK_43 (by decide +kernel)
theorem dX1_keep_23 : decode cX1_keep 23 = .ok (.invokevirtual 31, 3) := zy_u2 (b1 := 0) (b2 := 31) zK_182 (by decide +kernel)
theorem dX1_keep_26 : decode cX1_keep 26 = .ok (.aload_n 0, 1) := zy_0 zK_42 (by decide +kernel)
theorem dX1_keep_27 : decode cX1_keep 27 = .ok (.aload_n 0, 1) := zy_0 zK_42 (by decide +kernel)
theorem dX1_keep_28 : decode cX1_keep 28 = .ok (.getfield 21, 3) := zy_u2 (b1 := 0) (b2 := 21) zK_180 (by decide +kernel)
theorem dX1_keep_31 : decode cX1_keep 31 = .ok (.iconst 1, 1) := zy_0 zK_4 (by decide +kernel)
theorem dX1_keep_32 : decode cX1_keep 32 = .ok (.iadd, 1) := zy_0 zK_96 (by decide +kernel)
theorem dX1_keep_33 : decode cX1_keep 33 = .ok (.bipush 16, 2) := zy_s1 (b1 := 16) zK_16 (by decide +kernel) (by decide +kernel)
theorem dX1_keep_35 : decode cX1_keep 35 = .ok (.invokestatic 35, 3) := zy_u2 (b1 := 0) (b2 := 35) zK_184 (by decide +kernel)
theorem dX1_keep_38 : decode cX1_keep 38 = .ok (.putfield 21, 3) := zy_u2 (b1 := 0) (b2 := 21) zK_181 (by decide +kernel)
theorem dX1_keep_41 : decode cX1_keep 41 = .ok (.return_, 1) := zy_0 zK_177 (by decide +kernel)
theorem dX1_takeLatest_0 : decode cX1_takeLatest 0 = .ok (.aload_n 0, 1) := zy_0 zK_42 (by decide +kernel)
theorem dX1_takeLatest_1 : decode cX1_takeLatest 1 = .ok (.getfield 21, 3) := zy_u2 (b1 := 0) (b2 := 21) zK_180 (by decide +kernel)
theorem dX1_takeLatest_4 : decode cX1_takeLatest 4 = .ok (.ifCond .ne 5, 3) := zy_s2 (b1 := 0) (b2 := 5) zK_154 (by decide +kernel) (by decide +kernel)
theorem dX1_takeLatest_7 : decode cX1_takeLatest 7 = .ok (.iconst 0, 1) := zy_0 zK_3 (by decide +kernel)
theorem dX1_takeLatest_8 : decode cX1_takeLatest 8 = .ok (.ireturn, 1) := zy_0 zK_172 (by decide +kernel)
theorem dX1_takeLatest_9 : decode cX1_takeLatest 9 = .ok (.aload_n 1, 1) := zy_0 zK_43 (by decide +kernel)
theorem dX1_takeLatest_10 : decode cX1_takeLatest 10 = .ok (.aload_n 0, 1) := zy_0 zK_42 (by decide +kernel)
theorem dX1_takeLatest_11 : decode cX1_takeLatest 11 = .ok (.getfield 11, 3) := zy_u2 (b1 := 0) (b2 := 11) zK_180 (by decide +kernel)
theorem dX1_takeLatest_14 : decode cX1_takeLatest 14 = .ok (.aload_n 0, 1) := zy_0 zK_42 (by decide +kernel)
theorem dX1_takeLatest_15 : decode cX1_takeLatest 15 = .ok (.getfield 28, 3) := zy_u2 (b1 := 0) (b2 := 28) zK_180 (by decide +kernel)
theorem dX1_takeLatest_18 : decode cX1_takeLatest 18 = .ok (.aaload, 1) := zy_0 zK_50 (by decide +kernel)
theorem dX1_takeLatest_19 : decode cX1_takeLatest 19 = .ok (.invokevirtual 31, 3) := zy_u2 (b1 := 0) (b2 := 31) zK_182 (by decide +kernel)
theorem dX1_takeLatest_22 : decode cX1_takeLatest 22 = .ok (.aload_n 0, 1) := zy_0 zK_42 (by decide +kernel)
theorem dX1_takeLatest_23 : decode cX1_takeLatest 23 = .ok (.aload_n 0, 1) := zy_0 zK_42 (by decide +kernel)
theorem dX1_takeLatest_24 : decode cX1_takeLatest 24 = .ok (.getfield 28, 3) := zy_u2 (b1 := 0) (b2 := 28) zK_180 (by decide +kernel)
theorem dX1_takeLatest_27 : decode cX1_takeLatest 27 = .ok (.bipush 16, 2) := zy_s1 (b1 := 16) zK_16 (by decide +kernel) (by decide +kernel)
theorem dX1_takeLatest_29 : decode cX1_takeLatest 29 = .ok (.iadd, 1) := zy_0 zK_96 (by decide +kernel)
theorem dX1_takeLatest_30 : decode cX1_takeLatest 30 = .ok (.iconst 1, 1) := zy_0 zK_4 (by decide +kernel)
theorem dX1_takeLatest_31 : decode cX1_takeLatest 31 = .ok (.isub, 1) := zy_0 zK_100 (by decide +kernel)
theorem dX1_takeLatest_32 : decode cX1_takeLatest 32 = .ok (.bipush 16, 2) := zy_s1 (b1 := 16) zK_16 (by decide +kernel) (by decide +kernel)
theorem dX1_takeLatest_34 : decode cX1_takeLatest 34 = .ok (.irem, 1) := zy_0 zK_112 (by decide +kernel)
theorem dX1_takeLatest_35 : decode cX1_takeLatest 35 = .ok (.putfield 28, 3) := zy_u2 (b1 := 0) (b2 := 28) zK_181 (by decide +kernel)
theorem dX1_takeLatest_38 : decode cX1_takeLatest 38 = .ok (.aload_n 0, 1) := zy_0 zK_42 (by decide +kernel)
theorem dX1_takeLatest_39 : decode cX1_takeLatest 39 = .ok (.dup, 1) := zy_0 zK_89 (by decide +kernel)
theorem dX1_takeLatest_40 : decode cX1_takeLatest 40 = .ok (.getfield 21, 3) := zy_u2 (b1 := 0) (b2 := 21) zK_180 (by decide +kernel)
theorem dX1_takeLatest_43 : decode cX1_takeLatest 43 = .ok (.iconst 1, 1) := zy_0 zK_4 (by decide +kernel)
theorem dX1_takeLatest_44 : decode cX1_takeLatest 44 = .ok (.isub, 1) := zy_0 zK_100 (by decide +kernel)
theorem dX1_takeLatest_45 : decode cX1_takeLatest 45 = .ok (.putfield 21, 3) := zy_u2 (b1 := 0) (b2 := 21) zK_181 (by decide +kernel)
theorem dX1_takeLatest_48 : decode cX1_takeLatest 48 = .ok (.iconst 1, 1) := zy_0 zK_4 (by decide +kernel)
theorem dX1_takeLatest_49 : decode cX1_takeLatest 49 = .ok (.ireturn, 1) := zy_0 zK_172 (by decide +kernel)
theorem dX1_addImage_0 : decode cX1_addImage 0 = .ok (.aload_n 0, 1) := zy_0 zK_42 (by decide +kernel)
theorem dX1_addImage_1 : decode cX1_addImage 1 = .ok (.getfield 25, 3) := zy_u2 (b1 := 0) (b2 := 25) zK_180 (by decide +kernel)
theorem dX1_addImage_4 : decode cX1_addImage 4 = .ok (.iconst 3, 1) := zy_0 zK_6 (by decide +kernel)
theorem dX1_addImage_5 : decode cX1_addImage 5 = .ok (.if_icmp .lt 5, 3) := zy_s2 (b1 := 0) (b2 := 5) zK_161 (by decide +kernel) (by decide +kernel)
theorem dX1_addImage_8 : decode cX1_addImage 8 = .ok (.iconst (-1), 1) := zy_0 zK_2 (by decide +kernel)
theorem dX1_addImage_9 : decode cX1_addImage 9 = .ok (.ireturn, 1) := zy_0 zK_172 (by decide +kernel)
theorem dX1_addImage_10 : decode cX1_addImage 10 = .ok (.aload_n 0, 1) := zy_0 zK_42 (by decide +kernel)
theorem dX1_addImage_11 : decode cX1_addImage 11 = .ok (.getfield 18, 3) := zy_u2 (b1 := 0) (b2 := 18) zK_180 (by decide +kernel)
theorem dX1_addImage_14 : decode cX1_addImage 14 = .ok (.aload_n 0, 1) := zy_0 zK_42 (by decide +kernel)
theorem dX1_addImage_15 : decode cX1_addImage 15 = .ok (.getfield 25, 3) := zy_u2 (b1 := 0) (b2 := 25) zK_180 (by decide +kernel)
theorem dX1_addImage_18 : decode cX1_addImage 18 = .ok (.aaload, 1) := zy_0 zK_50 (by decide +kernel)
theorem dX1_addImage_19 : decode cX1_addImage 19 = .ok (.aload_n 1, 1) := zy_0 zK_43 (by decide +kernel)
theorem dX1_addImage_20 : decode cX1_addImage 20 = .ok (.invokevirtual 31, 3) := zy_u2 (b1 := 0) (b2 := 31) zK_182 (by decide +kernel)
theorem dX1_addImage_23 : decode cX1_addImage 23 = .ok (.aload_n 0, 1) := zy_0 zK_42 (by decide +kernel)
theorem dX1_addImage_24 : decode cX1_addImage 24 = .ok (.dup, 1) := zy_0 zK_89 (by decide +kernel)
theorem dX1_addImage_25 : decode cX1_addImage 25 = .ok (.getfield 25, 3) := zy_u2 (b1 := 0) (b2 := 25) zK_180 (by decide +kernel)
theorem dX1_addImage_28 : decode cX1_addImage 28 = .ok (.iconst 1, 1) := zy_0 zK_4 (by decide +kernel)
theorem dX1_addImage_29 : decode cX1_addImage 29 = .ok (.iadd, 1) := zy_0 zK_96 (by decide +kernel)
theorem dX1_addImage_30 : decode cX1_addImage 30 = .ok (.putfield 25, 3) := zy_u2 (b1 := 0) (b2 := 25) zK_181 (by decide +kernel)
theorem dX1_addImage_33 : decode cX1_addImage 33 = .ok (.aload_n 0, 1) := zy_0 zK_42 (by decide +kernel)
theorem dX1_addImage_34 : decode cX1_addImage 34 = .ok (.getfield 25, 3) := zy_u2 (b1 := 0) (b2 := 25) zK_180 (by decide +kernel)
theorem dX1_addImage_37 : decode cX1_addImage 37 = .ok (.iconst 1, 1) := zy_0 zK_4 (by decide +kernel)
theorem dX1_addImage_38 : decode cX1_addImage 38 = .ok (.isub, 1) := zy_0 zK_100 (by decide +kernel)
theorem dX1_addImage_39 : decode cX1_addImage 39 = .ok (.ireturn, 1) := zy_0 zK_172 (by decide +kernel)
theorem dX1_goBack_0 : decode cX1_goBack 0 = .ok (.iload_n 1, 1) := zy_0 zK_27 (by decide +kernel)
theorem dX1_goBack_1 : decode cX1_goBack 1 = .ok (.iconst 0, 1) := zy_0 zK_3 (by decide +kernel)
theorem dX1_goBack_2 : decode cX1_goBack 2 = .ok (.aload_n 0, 1) := zy_0 zK_42 (by decide +kernel)
theorem dX1_goBack_3 : decode cX1_goBack 3 = .ok (.getfield 25, 3) := zy_u2 (b1 := 0) (b2 := 25) zK_180 (by decide +kernel)
theorem dX1_goBack_6 : decode cX1_goBack 6 = .ok (.iconst 1, 1) := zy_0 zK_4 (by decide +kernel)
theorem dX1_goBack_7 : decode cX1_goBack 7 = .ok (.isub, 1) := zy_0 zK_100 (by decide +kernel)
theorem dX1_goBack_8 : decode cX1_goBack 8 = .ok (.invokestatic 41, 3) := zy_u2 (b1 := 0) (b2 := 41) zK_184 (by decide +kernel)
theorem dX1_goBack_11 : decode cX1_goBack 11 = .ok (.ifCond .ne 5, 3) := zy_s2 (b1 := 0) (b2 := 5) zK_154 (by decide +kernel) (by decide +kernel)
theorem dX1_goBack_14 : decode cX1_goBack 14 = .ok (.iconst 0, 1) := zy_0 zK_3 (by decide +kernel)
theorem dX1_goBack_15 : decode cX1_goBack 15 = .ok (.ireturn, 1) := zy_0 zK_172 (by decide +kernel)
theorem dX1_goBack_16 : decode cX1_goBack 16 = .ok (.aload_n 2, 1) := zy_0 zK_44 (by decide +kernel)
theorem dX1_goBack_17 : decode cX1_goBack 17 = .ok (.aload_n 0, 1) := zy_0 zK_42 (by decide +kernel)
theorem dX1_goBack_18 : decode cX1_goBack 18 = .ok (.getfield 18, 3) := zy_u2 (b1 := 0) (b2 := 18) zK_180 (by decide +kernel)
theorem dX1_goBack_21 : decode cX1_goBack 21 = .ok (.iload_n 1, 1) := zy_0 zK_27 (by decide +kernel)
theorem dX1_goBack_22 : decode cX1_goBack 22 = .ok (.aaload, 1) := zy_0 zK_50 (by decide +kernel)
theorem dX1_goBack_23 : decode cX1_goBack 23 = .ok (.invokevirtual 31, 3) := zy_u2 (b1 := 0) (b2 := 31) zK_182 (by decide +kernel)
theorem dX1_goBack_26 : decode cX1_goBack 26 = .ok (.aload_n 0, 1) := zy_0 zK_42 (by decide +kernel)
theorem dX1_goBack_27 : decode cX1_goBack 27 = .ok (.iconst 0, 1) := zy_0 zK_3 (by decide +kernel)
theorem dX1_goBack_28 : decode cX1_goBack 28 = .ok (.putfield 21, 3) := zy_u2 (b1 := 0) (b2 := 21) zK_181 (by decide +kernel)
theorem dX1_goBack_31 : decode cX1_goBack 31 = .ok (.iconst 1, 1) := zy_0 zK_4 (by decide +kernel)
theorem dX1_goBack_32 : decode cX1_goBack 32 = .ok (.ireturn, 1) := zy_0 zK_172 (by decide +kernel)
theorem dX2_init_0 : decode cX2_init 0 = .ok (.aload_n 0, 1) := zy_0 zK_42 (by decide +kernel)
theorem dX2_init_1 : decode cX2_init 1 = .ok (.invokespecial 3, 3) := zy_u2 (b1 := 0) (b2 := 3) zK_183 (by decide +kernel)
theorem dX2_init_4 : decode cX2_init 4 = .ok (.aload_n 0, 1) := zy_0 zK_42 (by decide +kernel)
theorem dX2_init_5 : decode cX2_init 5 = .ok (.sipush 729, 3) := zy_s2 (b1 := 2) (b2 := 217) zK_17 (by decide +kernel) (by decide +kernel)
theorem dX2_init_8 : decode cX2_init 8 = .ok (.newarray .int, 2) := by decide +kernel
theorem dX2_init_10 : decode cX2_init 10 = .ok (.putfield 9, 3) := zy_u2 (b1 := 0) (b2 := 9) zK_181 (by decide +kernel)
theorem dX2_init_13 : decode cX2_init 13 = .ok (.aload_n 0, 1) := zy_0 zK_42 (by decide +kernel)
theorem dX2_init_14 : decode cX2_init 14 = .ok (.sipush 900, 3) := zy_s2 (b1 := 3) (b2 := 132) zK_17 (by decide +kernel) (by decide +kernel)
theorem dX2_init_17 : decode cX2_init 17 = .ok (.newarray .int, 2) := by decide +kernel
theorem dX2_init_19 : decode cX2_init 19 = .ok (.putfield 15, 3) := zy_u2 (b1 := 0) (b2 := 15) zK_181 (by decide +kernel)
theorem dX2_init_22 : decode cX2_init 22 = .ok (.return_, 1) := zy_0 zK_177 (by decide +kernel)
theorem dX2_forget_0 : decode cX2_forget 0 = .ok (.aload_n 0, 1) := zy_0 zK_42 (by decide +kernel)
theorem dX2_forget_1 : decode cX2_forget 1 = .ok (.iconst 0, 1) := zy_0 zK_3 (by decide +kernel)
theorem dX2_forget_2 : decode cX2_forget 2 = .ok (.putfield 18, 3) := zy_u2 (b1 := 0) (b2 := 18) zK_181 (by decide +kernel)
theorem dX2_forget_5 : decode cX2_forget 5 = .ok (.aload_n 0, 1) := zy_0 zK_42 (by decide +kernel)
theorem dX2_forget_6 : decode cX2_forget 6 = .ok (.iconst 0, 1) := zy_0 zK_3 (by decide +kernel)
theorem dX2_forget_7 : decode cX2_forget 7 = .ok (.putfield 22, 3) := zy_u2 (b1 := 0) (b2 := 22) zK_181 (by decide +kernel)
theorem dX2_forget_10 : decode cX2_forget 10 = .ok (.return_, 1) := zy_0 zK_177 (by decide +kernel)
theorem dX2_list_0 : decode cX2_list 0 = .ok (.aload_n 0, 1) := zy_0 zK_42 (by decide +kernel)
theorem dX2_list_1 : decode cX2_list 1 = .ok (.getfield 18, 3) := zy_u2 (b1 := 0) (b2 := 18) zK_180 (by decide +kernel)
theorem dX2_list_4 : decode cX2_list 4 = .ok (.ifCond .eq 4, 3) := zy_s2 (b1 := 0) (b2 := 4) zK_153 (by decide +kernel) (by decide +kernel)
theorem dX2_list_7 : decode cX2_list 7 = .ok (.return_, 1) := zy_0 zK_177 (by decide +kernel)
theorem dX2_list_8 : decode cX2_list 8 = .ok (.aload_n 0, 1) := zy_0 zK_42 (by decide +kernel)
theorem dX2_list_9 : decode cX2_list 9 = .ok (.iconst 1, 1) := zy_0 zK_4 (by decide +kernel)
theorem dX2_list_10 : decode cX2_list 10 = .ok (.putfield 18, 3) := zy_u2 (b1 := 0) (b2 := 18) zK_181 (by decide +kernel)
theorem dX2_list_13 : decode cX2_list 13 = .ok (.aload_n 0, 1) := zy_0 zK_42 (by decide +kernel)
theorem dX2_list_14 : decode cX2_list 14 = .ok (.iconst 0, 1) := zy_0 zK_3 (by decide +kernel)
theorem dX2_list_15 : decode cX2_list 15 = .ok (.putfield 25, 3) := zy_u2 (b1 := 0) (b2 := 25) zK_181 (by decide +kernel)
theorem dX2_list_18 : decode cX2_list 18 = .ok (.iconst 0, 1) := zy_0 zK_3 (by decide +kernel)
theorem dX2_list_19 : decode cX2_list 19 = .ok (.istore_n 2, 1) := zy_0 zK_61 (by decide +kernel)
theorem dX2_list_20 : decode cX2_list 20 = .ok (.iload_n 2, 1) := zy_0 zK_28 (by decide +kernel)
theorem dX2_list_21 : decode cX2_list 21 = .ok (.aload_n 1, 1) := zy_0 zK_43 (by decide +kernel)
theorem dX2_list_22 : decode cX2_list 22 = .ok (.getfield 29, 3) := zy_u2 (b1 := 0) (b2 := 29) zK_180 (by decide +kernel)
theorem dX2_list_25 : decode cX2_list 25 = .ok (.if_icmp .ge 60, 3) := zy_s2 (b1 := 0) (b2 := 60) zK_162 (by decide +kernel) (by decide +kernel)
theorem dX2_list_28 : decode cX2_list 28 = .ok (.iconst 0, 1) := zy_0 zK_3 (by decide +kernel)
theorem dX2_list_29 : decode cX2_list 29 = .ok (.istore_n 3, 1) := zy_0 zK_62 (by decide +kernel)
theorem dX2_list_30 : decode cX2_list 30 = .ok (.iload_n 3, 1) := zy_0 zK_29 (by decide +kernel)
theorem dX2_list_31 : decode cX2_list 31 = .ok (.aload_n 1, 1) := zy_0 zK_43 (by decide +kernel)
theorem dX2_list_32 : decode cX2_list 32 = .ok (.getfield 29, 3) := zy_u2 (b1 := 0) (b2 := 29) zK_180 (by decide +kernel)
theorem dX2_list_35 : decode cX2_list 35 = .ok (.if_icmp .ge 44, 3) := zy_s2 (b1 := 0) (b2 := 44) zK_162 (by decide +kernel) (by decide +kernel)
theorem dX2_list_38 : decode cX2_list 38 = .ok (.iconst 0, 1) := zy_0 zK_3 (by decide +kernel)
theorem dX2_list_39 : decode cX2_list 39 = .ok (.istore 4, 2) := zy_u1 (b1 := 4) zK_54 (by decide +kernel)
theorem dX2_list_41 : decode cX2_list 41 = .ok (.iload 4, 2) := zy_u1 (b1 := 4) zK_21 (by decide +kernel)
theorem dX2_list_43 : decode cX2_list 43 = .ok (.aload_n 1, 1) := zy_0 zK_43 (by decide +kernel)
theorem dX2_list_44 : decode cX2_list 44 = .ok (.getfield 29, 3) := zy_u2 (b1 := 0) (b2 := 29) zK_180 (by decide +kernel)
theorem dX2_list_47 : decode cX2_list 47 = .ok (.if_icmp .ge 26, 3) := zy_s2 (b1 := 0) (b2 := 26) zK_162 (by decide +kernel) (by decide +kernel)
theorem dX2_list_50 : decode cX2_list 50 = .ok (.aload_n 0, 1) := zy_0 zK_42 (by decide +kernel)
theorem dX2_list_51 : decode cX2_list 51 = .ok (.aload_n 1, 1) := zy_0 zK_43 (by decide +kernel)
theorem dX2_list_52 : decode cX2_list 52 = .ok (.bipush 100, 2) := zy_s1 (b1 := 100) zK_16 (by decide +kernel) (by decide +kernel)
theorem dX2_list_54 : decode cX2_list 54 = .ok (.iload_n 2, 1) := zy_0 zK_28 (by decide +kernel)
theorem dX2_list_55 : decode cX2_list 55 = .ok (.imul, 1) := zy_0 zK_104 (by decide +kernel)
theorem dX2_list_56 : decode cX2_list 56 = .ok (.bipush 10, 2) := zy_s1 (b1 := 10) zK_16 (by decide +kernel) (by decide +kernel)
theorem dX2_list_58 : decode cX2_list 58 = .ok (.iload_n 3, 1) := zy_0 zK_29 (by decide +kernel)
theorem dX2_list_59 : decode cX2_list 59 = .ok (.imul, 1) := zy_0 zK_104 (by decide +kernel)
theorem dX2_list_60 : decode cX2_list 60 = .ok (.iadd, 1) := zy_0 zK_96 (by decide +kernel)
theorem dX2_list_61 : decode cX2_list 61 = .ok (.iload 4, 2) := zy_u1 (b1 := 4) zK_21 (by decide +kernel)
theorem dX2_list_63 : decode cX2_list 63 = .ok (.iadd, 1) := zy_0 zK_96 (by decide +kernel)
theorem dX2_list_64 : decode cX2_list 64 = .ok (.invokevirtual 34, 3) := zy_u2 (b1 := 0) (b2 := 34) zK_182 (by decide +kernel)
theorem dX2_list_67 : decode cX2_list 67 = .ok (.iinc 4 1, 3) := zy_ii (b1 := 4) (b2 := 1) zK_132 (by decide +kernel) (by decide +kernel)
theorem dX2_list_70 : decode cX2_list 70 = .ok (.goto (-29), 3) := zy_s2 (b1 := 255) (b2 := 227) zK_167 (by decide +kernel) (by decide +kernel)
theorem dX2_list_73 : decode cX2_list 73 = .ok (.iinc 3 1, 3) := zy_ii (b1 := 3) (b2 := 1) zK_132 (by decide +kernel) (by decide +kernel)
theorem dX2_list_76 : decode cX2_list 76 = .ok (.goto (-46), 3) := zy_s2 (b1 := 255) (b2 := 210) zK_167 (by decide +kernel) (by decide +kernel)
theorem dX2_list_79 : decode cX2_list 79 = .ok (.iinc 2 1, 3) := zy_ii (b1 := 2) (b2 := 1) zK_132 (by decide +kernel) (by decide +kernel)
theorem dX2_list_82 : decode cX2_list 82 = .ok (.goto (-62), 3) := zy_s2 (b1 := 255) (b2 := 194) zK_167 (by decide +kernel) (by decide +kernel)
theorem dX2_list_85 : decode cX2_list 85 = .ok (.return_, 1) := zy_0 zK_177 (by decide +kernel)
theorem dX2_addIfFit_0 : decode cX2_addIfFit 0 = .ok (.iconst 0, 1) := zy_0 zK_3 (by decide +kernel)
theorem dX2_addIfFit_1 : decode cX2_addIfFit 1 = .ok (.istore_n 3, 1) := zy_0 zK_62 (by decide +kernel)
theorem dX2_addIfFit_2 : decode cX2_addIfFit 2 = .ok (.iload_n 3, 1) := zy_0 zK_29 (by decide +kernel)
theorem dX2_addIfFit_3 : decode cX2_addIfFit 3 = .ok (.aload_n 1, 1) := zy_0 zK_43 (by decide +kernel)
theorem dX2_addIfFit_4 : decode cX2_addIfFit 4 = .ok (.getfield 38, 3) := zy_u2 (b1 := 0) (b2 := 38) zK_180 (by decide +kernel)
theorem dX2_addIfFit_7 : decode cX2_addIfFit 7 = .ok (.if_icmp .ge 30, 3) := zy_s2 (b1 := 0) (b2 := 30) zK_162 (by decide +kernel) (by decide +kernel)
theorem dX2_addIfFit_10 : decode cX2_addIfFit 10 = .ok (.aload_n 1, 1) := zy_0 zK_43 (by decide +kernel)
theorem dX2_addIfFit_11 : decode cX2_addIfFit 11 = .ok (.iload_n 2, 1) := zy_0 zK_28 (by decide +kernel)
theorem dX2_addIfFit_12 : decode cX2_addIfFit 12 = .ok (.aload_n 1, 1) := zy_0 zK_43 (by decide +kernel)
theorem dX2_addIfFit_13 : decode cX2_addIfFit 13 = .ok (.getfield 41, 3) := zy_u2 (b1 := 0) (b2 := 41) zK_180 (by decide +kernel)
theorem dX2_addIfFit_16 : decode cX2_addIfFit 16 = .ok (.iload_n 3, 1) := zy_0 zK_29 (by decide +kernel)
theorem dX2_addIfFit_17 : decode cX2_addIfFit 17 = .ok (.iaload, 1) := zy_0 zK_46 (by decide +kernel)
theorem dX2_addIfFit_18 : decode cX2_addIfFit 18 = .ok (.invokevirtual 44, 3) := zy_u2 (b1 := 0) (b2 := 44) zK_182 (by decide +kernel)
theorem dX2_addIfFit_21 : decode cX2_addIfFit 21 = .ok (.aload_n 1, 1) := zy_0 zK_43 (by decide +kernel)
theorem dX2_addIfFit_22 : decode cX2_addIfFit 22 = .ok (.getfield 48, 3) := zy_u2 (b1 := 0) (b2 := 48) zK_180 (by decide +kernel)
theorem dX2_addIfFit_25 : decode cX2_addIfFit 25 = .ok (.iload_n 3, 1) := zy_0 zK_29 (by decide +kernel)
theorem dX2_addIfFit_26 : decode cX2_addIfFit 26 = .ok (.iaload, 1) := zy_0 zK_46 (by decide +kernel)
theorem dX2_addIfFit_27 : decode cX2_addIfFit 27 = .ok (.if_icmp .eq 4, 3) := zy_s2 (b1 := 0) (b2 := 4) zK_159 (by decide +kernel) (by decide +kernel)
theorem dX2_addIfFit_30 : decode cX2_addIfFit 30 = .ok (.return_, 1) := zy_0 zK_177 (by decide +kernel)
theorem dX2_addIfFit_31 : decode cX2_addIfFit 31 = .ok (.iinc 3 1, 3) := zy_ii (b1 := 3) (b2 := 1) zK_132 (by decide +kernel) (by decide +kernel)
theorem dX2_addIfFit_34 : decode cX2_addIfFit 34 = .ok (.goto (-32), 3) := zy_s2 (b1 := 255) (b2 := 224) zK_167 (by decide +kernel) (by decide +kernel)
theorem dX2_addIfFit_37 : decode cX2_addIfFit 37 = .ok (.aload_n 0, 1) := zy_0 zK_42 (by decide +kernel)
theorem dX2_addIfFit_38 : decode cX2_addIfFit 38 = .ok (.getfield 25, 3) := zy_u2 (b1 := 0) (b2 := 25) zK_180 (by decide +kernel)
theorem dX2_addIfFit_41 : decode cX2_addIfFit 41 = .ok (.sipush 729, 3) := zy_s2 (b1 := 2) (b2 := 217) zK_17 (by decide +kernel) (by decide +kernel)
theorem dX2_addIfFit_44 : decode cX2_addIfFit 44 = .ok (.if_icmp .ge 23, 3) := zy_s2 (b1 := 0) (b2 := 23) zK_162 (by decide +kernel) (by decide +kernel)
theorem dX2_addIfFit_47 : decode cX2_addIfFit 47 = .ok (.aload_n 0, 1) := zy_0 zK_42 (by decide +kernel)
theorem dX2_addIfFit_48 : decode cX2_addIfFit 48 = .ok (.getfield 9, 3) := zy_u2 (b1 := 0) (b2 := 9) zK_180 (by decide +kernel)
theorem dX2_addIfFit_51 : decode cX2_addIfFit 51 = .ok (.aload_n 0, 1) := zy_0 zK_42 (by decide +kernel)
theorem dX2_addIfFit_52 : decode cX2_addIfFit 52 = .ok (.getfield 25, 3) := zy_u2 (b1 := 0) (b2 := 25) zK_180 (by decide +kernel)
theorem dX2_addIfFit_55 : decode cX2_addIfFit 55 = .ok (.iload_n 2, 1) := zy_0 zK_28 (by decide +kernel)
theorem dX2_addIfFit_56 : decode cX2_addIfFit 56 = .ok (.iastore, 1) := zy_0 zK_79 (by decide +kernel)
theorem dX2_addIfFit_57 : decode cX2_addIfFit 57 = .ok (.aload_n 0, 1) := zy_0 zK_42 (by decide +kernel)
theorem dX2_addIfFit_58 : decode cX2_addIfFit 58 = .ok (.dup, 1) := zy_0 zK_89 (by decide +kernel)
theorem dX2_addIfFit_59 : decode cX2_addIfFit 59 = .ok (.getfield 25, 3) := zy_u2 (b1 := 0) (b2 := 25) zK_180 (by decide +kernel)
theorem dX2_addIfFit_62 : decode cX2_addIfFit 62 = .ok (.iconst 1, 1) := zy_0 zK_4 (by decide +kernel)
theorem dX2_addIfFit_63 : decode cX2_addIfFit 63 = .ok (.iadd, 1) := zy_0 zK_96 (by decide +kernel)
theorem dX2_addIfFit_64 : decode cX2_addIfFit 64 = .ok (.putfield 25, 3) := zy_u2 (b1 := 0) (b2 := 25) zK_181 (by decide +kernel)
theorem dX2_addIfFit_67 : decode cX2_addIfFit 67 = .ok (.return_, 1) := zy_0 zK_177 (by decide +kernel)
theorem dX2_chooseLook_0 : decode cX2_chooseLook 0 = .ok (.aload_n 0, 1) := zy_0 zK_42 (by decide +kernel)
theorem dX2_chooseLook_1 : decode cX2_chooseLook 1 = .ok (.getfield 22, 3) := zy_u2 (b1 := 0) (b2 := 22) zK_180 (by decide +kernel)
theorem dX2_chooseLook_4 : decode cX2_chooseLook 4 = .ok (.ifCond .eq 4, 3) := zy_s2 (b1 := 0) (b2 := 4) zK_153 (by decide +kernel) (by decide +kernel)
theorem dX2_chooseLook_7 : decode cX2_chooseLook 7 = .ok (.return_, 1) := zy_0 zK_177 (by decide +kernel)
theorem dX2_chooseLook_8 : decode cX2_chooseLook 8 = .ok (.aload_n 0, 1) := zy_0 zK_42 (by decide +kernel)
theorem dX2_chooseLook_9 : decode cX2_chooseLook 9 = .ok (.aload_n 1, 1) := zy_0 zK_43 (by decide +kernel)
theorem dX2_chooseLook_10 : decode cX2_chooseLook 10 = .ok (.invokevirtual 51, 3) := zy_u2 (b1 := 0) (b2 := 51) zK_182 (by decide +kernel)
theorem dX2_chooseLook_13 : decode cX2_chooseLook 13 = .ok (.aload_n 0, 1) := zy_0 zK_42 (by decide +kernel)
theorem dX2_chooseLook_14 : decode cX2_chooseLook 14 = .ok (.iconst 1, 1) := zy_0 zK_4 (by decide +kernel)
theorem dX2_chooseLook_15 : decode cX2_chooseLook 15 = .ok (.putfield 22, 3) := zy_u2 (b1 := 0) (b2 := 22) zK_181 (by decide +kernel)
theorem dX2_chooseLook_18 : decode cX2_chooseLook 18 = .ok (.aload_n 0, 1) := zy_0 zK_42 (by decide +kernel)
theorem dX2_chooseLook_19 : decode cX2_chooseLook 19 = .ok (.bipush (-2), 2) := zy_s1 (b1 := 254) zK_16 (by decide +kernel) (by decide +kernel)
theorem dX2_chooseLook_21 : decode cX2_chooseLook 21 = .ok (.putfield 55, 3) := zy_u2 (b1 := 0) (b2 := 55) zK_181 (by decide +kernel)
theorem dX2_chooseLook_24 : decode cX2_chooseLook 24 = .ok (.aload_n 0, 1) := zy_0 zK_42 (by decide +kernel)
theorem dX2_chooseLook_25 : decode cX2_chooseLook 25 = .ok (.bipush (-2), 2) := zy_s1 (b1 := 254) zK_16 (by decide +kernel) (by decide +kernel)
theorem dX2_chooseLook_27 : decode cX2_chooseLook 27 = .ok (.putfield 58, 3) := zy_u2 (b1 := 0) (b2 := 58) zK_181 (by decide +kernel)
theorem dX2_chooseLook_30 : decode cX2_chooseLook 30 = .ok (.aload_n 0, 1) := zy_0 zK_42 (by decide +kernel)
theorem dX2_chooseLook_31 : decode cX2_chooseLook 31 = .ok (.getfield 25, 3) := zy_u2 (b1 := 0) (b2 := 25) zK_180 (by decide +kernel)
theorem dX2_chooseLook_34 : decode cX2_chooseLook 34 = .ok (.ifCond .eq 10, 3) := zy_s2 (b1 := 0) (b2 := 10) zK_153 (by decide +kernel) (by decide +kernel)
theorem dX2_chooseLook_37 : decode cX2_chooseLook 37 = .ok (.aload_n 1, 1) := zy_0 zK_43 (by decide +kernel)
theorem dX2_chooseLook_38 : decode cX2_chooseLook 38 = .ok (.getfield 61, 3) := zy_u2 (b1 := 0) (b2 := 61) zK_180 (by decide +kernel)
theorem dX2_chooseLook_41 : decode cX2_chooseLook 41 = .ok (.ifCond .gt 4, 3) := zy_s2 (b1 := 0) (b2 := 4) zK_157 (by decide +kernel) (by decide +kernel)
theorem dX2_chooseLook_44 : decode cX2_chooseLook 44 = .ok (.return_, 1) := zy_0 zK_177 (by decide +kernel)
theorem dX2_chooseLook_45 : decode cX2_chooseLook 45 = .ok (.bipush 99, 2) := zy_s1 (b1 := 99) zK_16 (by decide +kernel) (by decide +kernel)
theorem dX2_chooseLook_47 : decode cX2_chooseLook 47 = .ok (.aload_n 1, 1) := zy_0 zK_43 (by decide +kernel)
theorem dX2_chooseLook_48 : decode cX2_chooseLook 48 = .ok (.getfield 61, 3) := zy_u2 (b1 := 0) (b2 := 61) zK_180 (by decide +kernel)
theorem dX2_chooseLook_51 : decode cX2_chooseLook 51 = .ok (.idiv, 1) := zy_0 zK_108 (by decide +kernel)
theorem dX2_chooseLook_52 : decode cX2_chooseLook 52 = .ok (.iconst 1, 1) := zy_0 zK_4 (by decide +kernel)
theorem dX2_chooseLook_53 : decode cX2_chooseLook 53 = .ok (.iadd, 1) := zy_0 zK_96 (by decide +kernel)
theorem dX2_chooseLook_54 : decode cX2_chooseLook 54 = .ok (.istore_n 2, 1) := zy_0 zK_61 (by decide +kernel)
theorem dX2_chooseLook_55 : decode cX2_chooseLook 55 = .ok (.aload_n 0, 1) := zy_0 zK_42 (by decide +kernel)
theorem dX2_chooseLook_56 : decode cX2_chooseLook 56 = .ok (.aload_n 1, 1) := zy_0 zK_43 (by decide +kernel)
theorem dX2_chooseLook_57 : decode cX2_chooseLook 57 = .ok (.getfield 29, 3) := zy_u2 (b1 := 0) (b2 := 29) zK_180 (by decide +kernel)
theorem dX2_chooseLook_60 : decode cX2_chooseLook 60 = .ok (.iload_n 2, 1) := zy_0 zK_28 (by decide +kernel)
theorem dX2_chooseLook_61 : decode cX2_chooseLook 61 = .ok (.invokevirtual 64, 3) := zy_u2 (b1 := 0) (b2 := 64) zK_182 (by decide +kernel)
theorem dX2_chooseLook_64 : decode cX2_chooseLook 64 = .ok (.iconst 0, 1) := zy_0 zK_3 (by decide +kernel)
theorem dX2_chooseLook_65 : decode cX2_chooseLook 65 = .ok (.istore_n 3, 1) := zy_0 zK_62 (by decide +kernel)
theorem dX2_chooseLook_66 : decode cX2_chooseLook 66 = .ok (.iload_n 3, 1) := zy_0 zK_29 (by decide +kernel)
theorem dX2_chooseLook_67 : decode cX2_chooseLook 67 = .ok (.iload_n 2, 1) := zy_0 zK_28 (by decide +kernel)
theorem dX2_chooseLook_68 : decode cX2_chooseLook 68 = .ok (.if_icmp .ge 50, 3) := zy_s2 (b1 := 0) (b2 := 50) zK_162 (by decide +kernel) (by decide +kernel)
theorem dX2_chooseLook_71 : decode cX2_chooseLook 71 = .ok (.aload_n 0, 1) := zy_0 zK_42 (by decide +kernel)
theorem dX2_chooseLook_72 : decode cX2_chooseLook 72 = .ok (.iload_n 3, 1) := zy_0 zK_29 (by decide +kernel)
theorem dX2_chooseLook_73 : decode cX2_chooseLook 73 = .ok (.invokevirtual 68, 3) := zy_u2 (b1 := 0) (b2 := 68) zK_182 (by decide +kernel)
theorem dX2_chooseLook_76 : decode cX2_chooseLook 76 = .ok (.istore 4, 2) := zy_u1 (b1 := 4) zK_54 (by decide +kernel)
theorem dX2_chooseLook_78 : decode cX2_chooseLook 78 = .ok (.aload_n 0, 1) := zy_0 zK_42 (by decide +kernel)
theorem dX2_chooseLook_79 : decode cX2_chooseLook 79 = .ok (.getfield 58, 3) := zy_u2 (b1 := 0) (b2 := 58) zK_180 (by decide +kernel)
theorem dX2_chooseLook_82 : decode cX2_chooseLook 82 = .ok (.bipush (-2), 2) := zy_s1 (b1 := 254) zK_16 (by decide +kernel) (by decide +kernel)
theorem dX2_chooseLook_84 : decode cX2_chooseLook 84 = .ok (.if_icmp .eq 12, 3) := zy_s2 (b1 := 0) (b2 := 12) zK_159 (by decide +kernel) (by decide +kernel)
theorem dX2_chooseLook_87 : decode cX2_chooseLook 87 = .ok (.iload 4, 2) := zy_u1 (b1 := 4) zK_21 (by decide +kernel)
theorem dX2_chooseLook_89 : decode cX2_chooseLook 89 = .ok (.aload_n 0, 1) := zy_0 zK_42 (by decide +kernel)
theorem dX2_chooseLook_90 : decode cX2_chooseLook 90 = .ok (.getfield 58, 3) := zy_u2 (b1 := 0) (b2 := 58) zK_180 (by decide +kernel)
theorem dX2_chooseLook_93 : decode cX2_chooseLook 93 = .ok (.if_icmp .ge 19, 3) := zy_s2 (b1 := 0) (b2 := 19) zK_162 (by decide +kernel) (by decide +kernel)
theorem dX2_chooseLook_96 : decode cX2_chooseLook 96 = .ok (.aload_n 0, 1) := zy_0 zK_42 (by decide +kernel)
theorem dX2_chooseLook_97 : decode cX2_chooseLook 97 = .ok (.iload 4, 2) := zy_u1 (b1 := 4) zK_21 (by decide +kernel)
theorem dX2_chooseLook_99 : decode cX2_chooseLook 99 = .ok (.putfield 58, 3) := zy_u2 (b1 := 0) (b2 := 58) zK_181 (by decide +kernel)
theorem dX2_chooseLook_102 : decode cX2_chooseLook 102 = .ok (.aload_n 0, 1) := zy_0 zK_42 (by decide +kernel)
theorem dX2_chooseLook_103 : decode cX2_chooseLook 103 = .ok (.iload_n 3, 1) := zy_0 zK_29 (by decide +kernel)
theorem dX2_chooseLook_104 : decode cX2_chooseLook 104 = .ok (.aload_n 1, 1) := zy_0 zK_43 (by decide +kernel)
theorem dX2_chooseLook_105 : decode cX2_chooseLook 105 = .ok (.getfield 61, 3) := zy_u2 (b1 := 0) (b2 := 61) zK_180 (by decide +kernel)
theorem dX2_chooseLook_108 : decode cX2_chooseLook 108 = .ok (.imul, 1) := zy_0 zK_104 (by decide +kernel)
theorem dX2_chooseLook_109 : decode cX2_chooseLook 109 = .ok (.putfield 55, 3) := zy_u2 (b1 := 0) (b2 := 55) zK_181 (by decide +kernel)
theorem dX2_chooseLook_112 : decode cX2_chooseLook 112 = .ok (.iinc 3 1, 3) := zy_ii (b1 := 3) (b2 := 1) zK_132 (by decide +kernel) (by decide +kernel)
theorem dX2_chooseLook_115 : decode cX2_chooseLook 115 = .ok (.goto (-49), 3) := zy_s2 (b1 := 255) (b2 := 207) zK_167 (by decide +kernel) (by decide +kernel)
theorem dX2_chooseLook_118 : decode cX2_chooseLook 118 = .ok (.return_, 1) := zy_0 zK_177 (by decide +kernel)
theorem dX2_tally_0 : decode cX2_tally 0 = .ok (.iconst 0, 1) := zy_0 zK_3 (by decide +kernel)
theorem dX2_tally_1 : decode cX2_tally 1 = .ok (.istore_n 3, 1) := zy_0 zK_62 (by decide +kernel)
theorem dX2_tally_2 : decode cX2_tally 2 = .ok (.iload_n 3, 1) := zy_0 zK_29 (by decide +kernel)
theorem dX2_tally_3 : decode cX2_tally 3 = .ok (.aload_n 0, 1) := zy_0 zK_42 (by decide +kernel)
theorem dX2_tally_4 : decode cX2_tally 4 = .ok (.getfield 15, 3) := zy_u2 (b1 := 0) (b2 := 15) zK_180 (by decide +kernel)
theorem dX2_tally_7 : decode cX2_tally 7 = .ok (.arraylength, 1) := zy_0 zK_190 (by decide +kernel)
theorem dX2_tally_8 : decode cX2_tally 8 = .ok (.if_icmp .ge 16, 3) := zy_s2 (b1 := 0) (b2 := 16) zK_162 (by decide +kernel) (by decide +kernel)
theorem dX2_tally_11 : decode cX2_tally 11 = .ok (.aload_n 0, 1) := zy_0 zK_42 (by decide +kernel)
theorem dX2_tally_12 : decode cX2_tally 12 = .ok (.getfield 15, 3) := zy_u2 (b1 := 0) (b2 := 15) zK_180 (by decide +kernel)
theorem dX2_tally_15 : decode cX2_tally 15 = .ok (.iload_n 3, 1) := zy_0 zK_29 (by decide +kernel)
theorem dX2_tally_16 : decode cX2_tally 16 = .ok (.iconst 0, 1) := zy_0 zK_3 (by decide +kernel)
theorem dX2_tally_17 : decode cX2_tally 17 = .ok (.iastore, 1) := zy_0 zK_79 (by decide +kernel)
theorem dX2_tally_18 : decode cX2_tally 18 = .ok (.iinc 3 1, 3) := zy_ii (b1 := 3) (b2 := 1) zK_132 (by decide +kernel) (by decide +kernel)
theorem dX2_tally_21 : decode cX2_tally 21 = .ok (.goto (-19), 3) := zy_s2 (b1 := 255) (b2 := 237) zK_167 (by decide +kernel) (by decide +kernel)
theorem dX2_tally_24 : decode cX2_tally 24 = .ok (.iload_n 1, 1) := zy_0 zK_27 (by decide +kernel)
theorem dX2_tally_25 : decode cX2_tally 25 = .ok (.ifCond .le 9, 3) := zy_s2 (b1 := 0) (b2 := 9) zK_158 (by decide +kernel) (by decide +kernel)
theorem dX2_tally_28 : decode cX2_tally 28 = .ok (.iload_n 2, 1) := zy_0 zK_28 (by decide +kernel)
theorem dX2_tally_29 : decode cX2_tally 29 = .ok (.bipush 100, 2) := zy_s1 (b1 := 100) zK_16 (by decide +kernel) (by decide +kernel)
theorem dX2_tally_31 : decode cX2_tally 31 = .ok (.if_icmp .le 4, 3) := zy_s2 (b1 := 0) (b2 := 4) zK_164 (by decide +kernel) (by decide +kernel)
theorem dX2_tally_34 : decode cX2_tally 34 = .ok (.return_, 1) := zy_0 zK_177 (by decide +kernel)
theorem dX2_tally_35 : decode cX2_tally 35 = .ok (.iconst 0, 1) := zy_0 zK_3 (by decide +kernel)
theorem dX2_tally_36 : decode cX2_tally 36 = .ok (.istore_n 3, 1) := zy_0 zK_62 (by decide +kernel)
theorem dX2_tally_37 : decode cX2_tally 37 = .ok (.iload_n 3, 1) := zy_0 zK_29 (by decide +kernel)
theorem dX2_tally_38 : decode cX2_tally 38 = .ok (.aload_n 0, 1) := zy_0 zK_42 (by decide +kernel)
theorem dX2_tally_39 : decode cX2_tally 39 = .ok (.getfield 25, 3) := zy_u2 (b1 := 0) (b2 := 25) zK_180 (by decide +kernel)
theorem dX2_tally_42 : decode cX2_tally 42 = .ok (.if_icmp .ge 89, 3) := zy_s2 (b1 := 0) (b2 := 89) zK_162 (by decide +kernel) (by decide +kernel)
theorem dX2_tally_45 : decode cX2_tally 45 = .ok (.aload_n 0, 1) := zy_0 zK_42 (by decide +kernel)
theorem dX2_tally_46 : decode cX2_tally 46 = .ok (.getfield 9, 3) := zy_u2 (b1 := 0) (b2 := 9) zK_180 (by decide +kernel)
theorem dX2_tally_49 : decode cX2_tally 49 = .ok (.iload_n 3, 1) := zy_0 zK_29 (by decide +kernel)
theorem dX2_tally_50 : decode cX2_tally 50 = .ok (.iaload, 1) := zy_0 zK_46 (by decide +kernel)
theorem dX2_tally_51 : decode cX2_tally 51 = .ok (.bipush 100, 2) := zy_s1 (b1 := 100) zK_16 (by decide +kernel) (by decide +kernel)
theorem dX2_tally_53 : decode cX2_tally 53 = .ok (.idiv, 1) := zy_0 zK_108 (by decide +kernel)
theorem dX2_tally_54 : decode cX2_tally 54 = .ok (.istore 4, 2) := zy_u1 (b1 := 4) zK_54 (by decide +kernel)
theorem dX2_tally_56 : decode cX2_tally 56 = .ok (.aload_n 0, 1) := zy_0 zK_42 (by decide +kernel)
theorem dX2_tally_57 : decode cX2_tally 57 = .ok (.getfield 9, 3) := zy_u2 (b1 := 0) (b2 := 9) zK_180 (by decide +kernel)
theorem dX2_tally_60 : decode cX2_tally 60 = .ok (.iload_n 3, 1) := zy_0 zK_29 (by decide +kernel)
theorem dX2_tally_61 : decode cX2_tally 61 = .ok (.iaload, 1) := zy_0 zK_46 (by decide +kernel)
theorem dX2_tally_62 : decode cX2_tally 62 = .ok (.bipush 10, 2) := zy_s1 (b1 := 10) zK_16 (by decide +kernel) (by decide +kernel)
theorem dX2_tally_64 : decode cX2_tally 64 = .ok (.idiv, 1) := zy_0 zK_108 (by decide +kernel)
theorem dX2_tally_65 : decode cX2_tally 65 = .ok (.bipush 10, 2) := zy_s1 (b1 := 10) zK_16 (by decide +kernel) (by decide +kernel)
theorem dX2_tally_67 : decode cX2_tally 67 = .ok (.irem, 1) := zy_0 zK_112 (by decide +kernel)
theorem dX2_tally_68 : decode cX2_tally 68 = .ok (.istore 5, 2) := zy_u1 (b1 := 5) zK_54 (by decide +kernel)
theorem dX2_tally_70 : decode cX2_tally 70 = .ok (.aload_n 0, 1) := zy_0 zK_42 (by decide +kernel)
theorem dX2_tally_71 : decode cX2_tally 71 = .ok (.getfield 9, 3) := zy_u2 (b1 := 0) (b2 := 9) zK_180 (by decide +kernel)
theorem dX2_tally_74 : decode cX2_tally 74 = .ok (.iload_n 3, 1) := zy_0 zK_29 (by decide +kernel)
theorem dX2_tally_75 : decode cX2_tally 75 = .ok (.iaload, 1) := zy_0 zK_46 (by decide +kernel)
theorem dX2_tally_76 : decode cX2_tally 76 = .ok (.bipush 10, 2) := zy_s1 (b1 := 10) zK_16 (by decide +kernel) (by decide +kernel)
theorem dX2_tally_78 : decode cX2_tally 78 = .ok (.irem, 1) := zy_0 zK_112 (by decide +kernel)
theorem dX2_tally_79 : decode cX2_tally 79 = .ok (.istore 6, 2) := zy_u1 (b1 := 6) zK_54 (by decide +kernel)
theorem dX2_tally_81 : decode cX2_tally 81 = .ok (.iconst 0, 1) := zy_0 zK_3 (by decide +kernel)
theorem dX2_tally_82 : decode cX2_tally 82 = .ok (.istore 7, 2) := zy_u1 (b1 := 7) zK_54 (by decide +kernel)
theorem dX2_tally_84 : decode cX2_tally 84 = .ok (.iload 7, 2) := zy_u1 (b1 := 7) zK_21 (by decide +kernel)
theorem dX2_tally_86 : decode cX2_tally 86 = .ok (.iload_n 2, 1) := zy_0 zK_28 (by decide +kernel)
theorem dX2_tally_87 : decode cX2_tally 87 = .ok (.if_icmp .ge 38, 3) := zy_s2 (b1 := 0) (b2 := 38) zK_162 (by decide +kernel) (by decide +kernel)
theorem dX2_tally_90 : decode cX2_tally 90 = .ok (.aload_n 0, 1) := zy_0 zK_42 (by decide +kernel)
theorem dX2_tally_91 : decode cX2_tally 91 = .ok (.getfield 15, 3) := zy_u2 (b1 := 0) (b2 := 15) zK_180 (by decide +kernel)
theorem dX2_tally_94 : decode cX2_tally 94 = .ok (.iload 7, 2) := zy_u1 (b1 := 7) zK_21 (by decide +kernel)
theorem dX2_tally_96 : decode cX2_tally 96 = .ok (.bipush 9, 2) := zy_s1 (b1 := 9) zK_16 (by decide +kernel) (by decide +kernel)
theorem dX2_tally_98 : decode cX2_tally 98 = .ok (.imul, 1) := zy_0 zK_104 (by decide +kernel)
end P03_decode_00
