theorem zr_0 {s : State} {H : Heap} {D : va_G} {a q0 : Nat} {fs : List Value} {ws : va_W} {tys : List (ClassId × FieldType)} (hK : va_K D vwCl tys s) (hP : va_P D vwCl ws H) (he : ws[q0]? = some (a, .inr (0, fs))) : ∃ cell : Cell, H[a]? = some cell ∧ cell.vm.isStatics = false ∧ s.vm.findClass RX0 = some cell.cls := va_recv hK hP (ci := 0) (q0 := q0) rfl he
theorem zr_1 {s : State} {H : Heap} {D : va_G} {a q0 : Nat} {fs : List Value} {ws : va_W} {tys : List (ClassId × FieldType)} (hK : va_K D vwCl tys s) (hP : va_P D vwCl ws H) (he : ws[q0]? = some (a, .inr (1, fs))) : ∃ cell : Cell, H[a]? = some cell ∧ cell.vm.isStatics = false ∧ s.vm.findClass RX1 = some cell.cls := va_recv hK hP (ci := 1) (q0 := q0) rfl he
theorem zr_2 {s : State} {H : Heap} {D : va_G} {a q0 : Nat} {fs : List Value} {ws : va_W} {tys : List (ClassId × FieldType)} (hK : va_K D vwCl tys s) (hP : va_P D vwCl ws H) (he : ws[q0]? = some (a, .inr (2, fs))) : ∃ cell : Cell, H[a]? = some cell ∧ cell.vm.isStatics = false ∧ s.vm.findClass RX2 = some cell.cls := va_recv hK hP (ci := 2) (q0 := q0) rfl he
theorem zr_3 {s : State} {H : Heap} {D : va_G} {a q0 : Nat} {fs : List Value} {ws : va_W} {tys : List (ClassId × FieldType)} (hK : va_K D vwCl tys s) (hP : va_P D vwCl ws H) (he : ws[q0]? = some (a, .inr (3, fs))) : ∃ cell : Cell, H[a]? = some cell ∧ cell.vm.isStatics = false ∧ s.vm.findClass RX3 = some cell.cls := va_recv hK hP (ci := 3) (q0 := q0) rfl he
theorem zr_4 {s : State} {H : Heap} {D : va_G} {a q0 : Nat} {fs : List Value} {ws : va_W} {tys : List (ClassId × FieldType)} (hK : va_K D vwCl tys s) (hP : va_P D vwCl ws H) (he : ws[q0]? = some (a, .inr (4, fs))) : ∃ cell : Cell, H[a]? = some cell ∧ cell.vm.isStatics = false ∧ s.vm.findClass RX4 = some cell.cls := va_recv hK hP (ci := 4) (q0 := q0) rfl he
theorem zr_5 {s : State} {H : Heap} {D : va_G} {a q0 : Nat} {fs : List Value} {ws : va_W} {tys : List (ClassId × FieldType)} (hK : va_K D vwCl tys s) (hP : va_P D vwCl ws H) (he : ws[q0]? = some (a, .inr (5, fs))) : ∃ cell : Cell, H[a]? = some cell ∧ cell.vm.isStatics = false ∧ s.vm.findClass RX5 = some cell.cls := va_recv hK hP (ci := 5) (q0 := q0) rfl he
theorem zr_6 {s : State} {H : Heap} {D : va_G} {a q0 : Nat} {fs : List Value} {ws : va_W} {tys : List (ClassId × FieldType)} (hK : va_K D vwCl tys s) (hP : va_P D vwCl ws H) (he : ws[q0]? = some (a, .inr (6, fs))) : ∃ cell : Cell, H[a]? = some cell ∧ cell.vm.isStatics = false ∧ s.vm.findClass RX6 = some cell.cls := va_recv hK hP (ci := 6) (q0 := q0) rfl he
theorem zr_7 {s : State} {H : Heap} {D : va_G} {a q0 : Nat} {fs : List Value} {ws : va_W} {tys : List (ClassId × FieldType)} (hK : va_K D vwCl tys s) (hP : va_P D vwCl ws H) (he : ws[q0]? = some (a, .inr (7, fs))) : ∃ cell : Cell, H[a]? = some cell ∧ cell.vm.isStatics = false ∧ s.vm.findClass RX7 = some cell.cls := va_recv hK hP (ci := 7) (q0 := q0) rfl he
theorem zr_8 {s : State} {H : Heap} {D : va_G} {a q0 : Nat} {fs : List Value} {ws : va_W} {tys : List (ClassId × FieldType)} (hK : va_K D vwCl tys s) (hP : va_P D vwCl ws H) (he : ws[q0]? = some (a, .inr (8, fs))) : ∃ cell : Cell, H[a]? = some cell ∧ cell.vm.isStatics = false ∧ s.vm.findClass RX8 = some cell.cls := va_recv hK hP (ci := 8) (q0 := q0) rfl he
section ZC
theorem zc_key {ws wc : va_W} {is : List Nat} (hs : is.map (fun i => ws[i]?) = wc.map some) (k : Nat) (q : Nat × va_E) (hq : wc[k]? = some q) : ∃ i, is[k]? = some i ∧ ws[i]? = some q := by
  have h1 : (is.map (fun i => ws[i]?))[k]? = some (some q) := by rw [hs, List.getElem?_map, hq]; rfl
  rw [List.getElem?_map] at h1
  cases hi : is[k]? with
  | none => rw [hi] at h1; cases h1
  | some i => rw [hi] at h1; exact ⟨i, rfl, Option.some.inj h1⟩
/-- a callee's world out of the caller's: its cells, apart, free, and the places -/
theorem zc_cut {A0 : Nat → Prop} {D : va_G} {cl : List vw_C} {ws wc : va_W} {H0 H : Heap} {locs : List Loc} (hP : va_P D cl ws H) (hD : va_D A0 ws) (hS : va_S A0 H0 H locs) (hA : ∀ q, H0.size ≤ q → A0 q) (is : List Nat) (hn : va_nd is = true) (hC : is.map (fun i => ws[i]?) = wc.map some) : va_P D cl wc H ∧ va_D A0 wc ∧ (∀ q, va_A wc H.size q → A0 q) ∧ is.map (fun i => ws[i]?) = wc.map some :=
  ⟨fun k q hk => by obtain ⟨i, -, h2⟩ := zc_key hC k q hk; exact hP i q h2, hD.sub is hn hC, va_free hD hS hA is hC, hC⟩
def zc_f (ws w1 : va_W) : Sum Nat Nat → Option (Nat × va_E) := Sum.elim (fun i => ws[i]?) (fun j => w1[j]?)
def zc_code : Sum Nat Nat → Nat := Sum.elim (fun i => 2 * i) (fun j => 2 * j + 1)
def zc_ok (isC : List Nat) (sel : List (Sum Nat Nat)) : Bool := va_nd (sel.map zc_code) && sel.all (Sum.elim (fun i => !decide (i ∈ isC)) (fun _ => true))
/-- behind a call: the caller's other cells and the callee's, in the order that sel says -/
theorem zc_back {A0 : Nat → Prop} {D : va_G} {cl : List vw_C} {ws wc w1 w : va_W} {H H1 : Heap} {isC : List Nat} (hP : va_P D cl ws H) (hD : va_D A0 ws) (hC : isC.map (fun i => ws[i]?) = wc.map some) (hk : ∀ q : Nat, q < H.size → ¬ va_A wc H.size q → H1[q]? = H[q]?) (hF : ∀ q, va_A wc H.size q → A0 q) (hP1 : va_P D cl w1 H1) (hD1 : va_D (va_A wc H.size) w1) (sel : List (Sum Nat Nat)) (ho : zc_ok isC sel = true) (hw : sel.map (zc_f ws w1) = w.map some) : va_P D cl w H1 ∧ va_D A0 w := by
  unfold zc_ok at ho
  rw [Bool.and_eq_true] at ho
  obtain ⟨hn, ha⟩ := ho
  have key : ∀ (k : Nat) (q : Nat × va_E), w[k]? = some q → ∃ c, sel[k]? = some c ∧ zc_f ws w1 c = some q := by
    intro k q hq
    have h1 : (sel.map (zc_f ws w1))[k]? = some (some q) := by rw [hw, List.getElem?_map, hq]; rfl
    rw [List.getElem?_map] at h1
    cases hi : sel[k]? with
    | none => rw [hi] at h1; cases h1
    | some i => rw [hi] at h1; exact ⟨i, rfl, Option.some.inj h1⟩
  have apart : ∀ (k i : Nat) (q : Nat × va_E), sel[k]? = some (.inl i) → ws[i]? = some q → q.1 < H.size ∧ ¬ va_A wc H.size q.1 := by
    intro k i q h1 h2
    have hl := (hP i q h2).lt
    refine ⟨hl, fun h => ?_⟩
    rcases h with ⟨k2, e, h⟩ | h
    · obtain ⟨j, h3, h4⟩ := zc_key hC k2 (q.1, e) h
      have hij := hD.1 i j q (q.1, e) h2 h4 rfl
      subst hij
      have h5 := List.all_eq_true.mp ha (.inl i) (List.mem_of_getElem? h1)
      have h6 : (!decide (i ∈ isC)) = true := h5
      rw [decide_eq_true (List.mem_of_getElem? h3)] at h6
      exact absurd h6 (by decide)
    · omega
  have code : ∀ (a b : Nat) (c : Sum Nat Nat), sel[a]? = some c → sel[b]? = some c → a = b := by
    intro a b c h1 h2
    exact va_nd_inj _ hn a b (zc_code c) (by rw [List.getElem?_map, h1]; rfl) (by rw [List.getElem?_map, h2]; rfl)
  refine ⟨fun k q hq => ?_, fun a b x y ha' hb' hxy => ?_, fun k q hq => ?_⟩
  · obtain ⟨c, h1, h2⟩ := key k q hq
    cases c with
    | inl i =>
      have h2 : ws[i]? = some q := h2
      obtain ⟨g1, g2⟩ := apart k i q h1 h2
      exact (hP i q h2).kept (hk q.1 g1 g2)
    | inr j => exact hP1 j q h2
  · obtain ⟨c, h1, h2⟩ := key a x ha'
    obtain ⟨d, h3, h4⟩ := key b y hb'
    cases c with
    | inl i =>
      have h2 : ws[i]? = some x := h2
      cases d with
      | inl j =>
        have h4 : ws[j]? = some y := h4
        have hij := hD.1 i j x y h2 h4 hxy
        subst hij
        exact code a b _ h1 h3
      | inr j =>
        have h4 : w1[j]? = some y := h4
        exact absurd (hD1.2 j y h4) (by rw [← hxy]; exact (apart a i x h1 h2).2)
    | inr i =>
      have h2 : w1[i]? = some x := h2
      cases d with
      | inl j =>
        have h4 : ws[j]? = some y := h4
        exact absurd (hD1.2 i x h2) (by rw [hxy]; exact (apart b j y h3 h4).2)
      | inr j =>
        have h4 : w1[j]? = some y := h4
        have hij := hD1.1 i j x y h2 h4 hxy
        subst hij
        exact code a b _ h1 h3
  · obtain ⟨c, h1, h2⟩ := key k q hq
    cases c with
    | inl i => exact hD.2 i q h2
    | inr j => exact hF q.1 (hD1.2 j q h2)
theorem zc_re {A0 : Nat → Prop} {D : va_G} {cl : List vw_C} {ws w : va_W} {H : Heap} (hP : va_P D cl ws H) (hD : va_D A0 ws) (h : ws = w) : va_P D cl w H ∧ va_D A0 w := by
  subst h; exact ⟨hP, hD⟩
end ZC
theorem zq0 : (1 : Int32).toInt ≤ (1 : Int) := by decide
theorem zq1 : (1 : Int) ≤ (1 : Int32).toInt := by decide
theorem zq2 : (9 : Int) ≤ (9 : Int32).toInt := by decide
theorem zq3 : (9 : Int32).toInt ≤ (9 : Int) := by decide
theorem zq4 : (0 : Int) ≤ 1 := by decide
theorem zq5 : (0 : Int) ≤ (0 : Int32).toInt := by decide
theorem zq6 : (0 : Int32).toInt ≤ (0 : Int) := by decide
theorem zq7 : (0 : Int) ≤ 9 := by decide
theorem zq8 : (3 : Int) ≤ (3 : Int32).toInt := by decide
theorem zq9 : (3 : Int32).toInt ≤ (3 : Int) := by decide
theorem zq10 : (8 : Int) ≤ 80 := by decide
theorem zq11 : (0 : Int) ≤ 3 := by decide
theorem zq12 : (2 : Int) ≤ (2 : Int32).toInt := by decide
theorem zq13 : (2 : Int32).toInt ≤ (2 : Int) := by decide
theorem zq14 : (2 : Int) * 80 ≤ 2147483647 := by decide
theorem zq15 : (6 : Int) ≤ (6 : Int32).toInt := by decide
theorem zq16 : (6 : Int32).toInt ≤ (6 : Int) := by decide
theorem zq17 : (0 : Int) ≤ 6 := by decide
theorem zq18 : (8 : Int) * 8 ≤ 2147483647 := by decide
theorem zq19 : (0 : Int) < 1 := by decide
theorem zq20 : (0 : Int) ≤ 8 := by decide
theorem zq21 : (9 : Int) * 9 ≤ 2147483647 := by decide
theorem zq22 : (8 : Int) ≤ 9 := by decide
theorem zq23 : (0 : Int) < 100 := by decide
theorem zq24 : (100 : Int) ≤ (100 : Int32).toInt := by decide
theorem zq25 : (0 : Int) < 10 := by decide
theorem zq26 : (10 : Int) ≤ (10 : Int32).toInt := by decide
theorem zq27 : (10 : Int32).toInt ≤ (10 : Int) := by decide
theorem zq28 : (8 : Int32).toInt ≤ (8 : Int) := by decide
theorem zq29 : (729 : Int) ≤ (729 : Int32).toInt := by decide
theorem zq30 : (729 : Int32).toInt ≤ (729 : Int) := by decide
theorem zq31 : (888 : Int) ≤ 999 := by decide
theorem zq32 : (100 : Int32).toInt ≤ (100 : Int) := by decide
theorem zq33 : (100 : Int) * 8 ≤ 2147483647 := by decide
theorem zq34 : (10 : Int) * 8 ≤ 2147483647 := by decide
theorem zq35 : (0 : Int) ≤ 729 := by decide
theorem zq36 : (99 : Int) * 9 ≤ 2147483647 := by decide
theorem zq37 : (900 : Int) ≤ (900 : Int32).toInt := by decide
theorem zq38 : (0 : Int) ≤ 100 := by decide
theorem zq39 : (900 : Int32).toInt ≤ (900 : Int) := by decide
theorem zq40 : (0 : Int) ≤ 900 := by decide
theorem zq41 : (0 : Int) ≤ 99 := by decide
theorem zq42 : (99 : Int) ≤ (99 : Int32).toInt := by decide
theorem zq43 : (99 : Int32).toInt ≤ (99 : Int) := by decide
theorem zq44 : ((-2) : Int32).toInt ≤ (-2 : Int) := by decide
theorem zq45 : (-2 : Int) ≤ ((-2) : Int32).toInt := by decide
theorem zq46 : (60 : Int32).toInt ≤ (60 : Int) := by decide
theorem zq47 : (60 : Int) * 9 ≤ 2147483647 := by decide
theorem zq48 : (1 : Int) ≤ 8 := by decide
theorem zq49 : (7 : Int) ≤ 8 := by decide
theorem zq50 : (0 : Int) ≤ 2 := by decide
theorem zq51 : (60 : Int) ≤ (60 : Int32).toInt := by decide
theorem zq52 : (59 : Int) ≤ 60 := by decide
theorem zq53 : (59 : Int) * 9 ≤ 2147483647 := by decide
theorem zq54 : (1 : Int) ≤ 2 := by decide
theorem zq55 : (1 : Int) ≤ 61 := by decide
theorem zq56 : (1 : Int) ≤ 9 := by decide
theorem zq57 : (-2 : Int) ≤ 300 := by decide
theorem zq58 : (301 : Int) ≤ 729 := by decide
theorem zq59 : (-2 : Int) ≤ 1 := by decide
theorem zq60 : (1 : Int) ≤ 729 := by decide
theorem zq61 : (61 : Int) ≤ 80 := by decide
theorem zq62 : (1 : Int) ≤ 80 := by decide
theorem zq63 : (60 : Int) ≤ 300 := by decide
theorem zq64 : (200 : Int) ≤ (200 : Int32).toInt := by decide
theorem zq65 : (200 : Int32).toInt ≤ (200 : Int) := by decide
theorem zq66 : (0 : Int) ≤ 200 := by decide
theorem zq67 : (4 : Int32).toInt ≤ (4 : Int) := by decide
theorem zq68 : (4 : Int) ≤ (4 : Int32).toInt := by decide
theorem zq69 : (-1 : Int) ≤ 0 := by decide
theorem zq70 : (-1 : Int) ≤ ((-1) : Int32).toInt := by decide
theorem zq71 : ((-1) : Int32).toInt ≤ (-1 : Int) := by decide
theorem zq72 : (-1 : Int) ≤ 8 := by decide
theorem zq73 : (2000000000 : Int32).toInt ≤ (2000000000 : Int) := by decide
theorem zq74 : (-2 : Int) ≤ 8 := by decide
theorem zq75 : (-2 : Int) ≤ 0 := by decide
theorem zq76 : (-2 : Int) ≤ -1 := by decide
theorem zq77 : (-1 : Int) ≤ 9 := by decide
theorem zq78 : (-1 : Int) ≤ 1 := by decide
theorem zq79 : (999 : Int32).toInt ≤ (999 : Int) := by decide
theorem zq80 : (0 : Int) ≤ 2147483646 := by decide
theorem zq81 : (0 : Int) ≤ 999 := by decide
theorem zq82 : (300 : Int32).toInt ≤ (300 : Int) := by decide
theorem zq83 : (0 : Int) ≤ 300 := by decide
theorem zq84 : (300 : Int) ≤ (300 : Int32).toInt := by decide
theorem zq85 : (-1 : Int) ≤ 300 := by decide
theorem zq86 : (1 : Int) ≤ 301 := by decide
theorem zq87 : (300 : Int) ≤ 301 := by decide
theorem zq88 : (-1 : Int) ≤ 301 := by decide
theorem zq89 : (301 : Int) ≤ (301 : Int32).toInt := by decide
theorem zq90 : (301 : Int32).toInt ≤ (301 : Int) := by decide
theorem zq91 : (10 : Int) * 80 ≤ 2147483647 := by decide
theorem zq92 : (0 : Int) ≤ 81 := by decide
theorem zq93 : (0 : Int) ≤ 880 := by decide
theorem zq94 : (-1 : Int) ≤ 880 := by decide
theorem zq95 : (-1 : Int) ≤ 729 := by decide
theorem zq96 : (-1 : Int) ≤ 888 := by decide
theorem zq97 : (-1 : Int) ≤ 80 := by decide
theorem zq98 : (-2 : Int) ≤ 5 := by decide
theorem zq99 : (-1 : Int) ≤ 5 := by decide
theorem zq100 : (0 : Int) < 2 := by decide
theorem zq101 : (0 : Int) ≤ 4 := by decide
theorem zq102 : (-2 : Int) ≤ 11 := by decide
theorem zq103 : (10 : Int) * 1 ≤ 2147483647 := by decide
theorem zq104 : (-1 : Int) ≤ 11 := by decide
theorem zq105 : (65536 : Int32).toInt ≤ (65536 : Int) := by decide
theorem zq106 : (1 : Int) ≤ 201 := by decide
theorem zq107 : (-1 : Int) ≤ 200 := by decide
theorem zq108 : (-2 : Int) ≤ 200 := by decide
theorem zq109 : (0 : Int) < 16 := by decide
theorem zq110 : (16 : Int) ≤ (16 : Int32).toInt := by decide
theorem zq111 : (16 : Int32).toInt ≤ (16 : Int) := by decide
theorem zq112 : (5 : Int) ≤ (5 : Int32).toInt := by decide
theorem zq113 : (5 : Int32).toInt ≤ (5 : Int) := by decide
theorem zq114 : (7 : Int) ≤ (7 : Int32).toInt := by decide
theorem zq115 : (7 : Int32).toInt ≤ (7 : Int) := by decide
theorem zq116 : (8 : Int) ≤ (8 : Int32).toInt := by decide
theorem zq117 : (11 : Int) ≤ (11 : Int32).toInt := by decide
theorem zq118 : (11 : Int32).toInt ≤ (11 : Int) := by decide
theorem zq119 : (12 : Int) ≤ (12 : Int32).toInt := by decide
theorem zq120 : (12 : Int32).toInt ≤ (12 : Int) := by decide
theorem zq121 : (13 : Int) ≤ (13 : Int32).toInt := by decide
theorem zq122 : (13 : Int32).toInt ≤ (13 : Int) := by decide
theorem zq123 : (14 : Int) ≤ (14 : Int32).toInt := by decide
theorem zq124 : (14 : Int32).toInt ≤ (14 : Int) := by decide
theorem zq125 : (15 : Int) ≤ (15 : Int32).toInt := by decide
theorem zq126 : (15 : Int32).toInt ≤ (15 : Int) := by decide
theorem zq127 : (9999 : Int32).toInt ≤ (9999 : Int) := by decide
theorem zq128 : (0 : Int) ≤ 60 := by decide
theorem zq129 : (9999 : Int) ≤ (9999 : Int32).toInt := by decide
theorem zq130 : (2 : Int) ≤ 3 := by decide
theorem zq131 : (16 : Int) ≤ 24 := by decide
theorem zq132 : (24 : Int) ≤ (24 : Int32).toInt := by decide
theorem zq133 : (24 : Int32).toInt ≤ (24 : Int) := by decide
theorem zq134 : (-8 : Int) ≤ 24 := by decide
theorem zq135 : (1 : Int) ≤ 4 := by decide
theorem zq136 : (97 : Int32).toInt ≤ (97 : Int) := by decide
theorem zq137 : (97 : Int) ≤ (97 : Int32).toInt := by decide
theorem zq138 : (122 : Int) ≤ (122 : Int32).toInt := by decide
theorem zq139 : (122 : Int32).toInt ≤ (122 : Int) := by decide
theorem zq140 : (2 : Int) ≤ 4 := by decide
theorem zq141 : (48 : Int32).toInt ≤ (48 : Int) := by decide
theorem zq142 : (48 : Int) ≤ (48 : Int32).toInt := by decide
theorem zq143 : (57 : Int) ≤ (57 : Int32).toInt := by decide
theorem zq144 : (57 : Int32).toInt ≤ (57 : Int) := by decide
theorem zq145 : (899 : Int) ≤ 900 := by decide
theorem zq146 : (59 : Int32).toInt ≤ (59 : Int) := by decide
theorem zq147 : (59 : Int) ≤ (59 : Int32).toInt := by decide
theorem zq148 : (32 : Int32).toInt ≤ (32 : Int) := by decide
theorem zq149 : (32 : Int) ≤ (32 : Int32).toInt := by decide
theorem zq150 : (2 : Int) * 2 ≤ 2147483647 := by decide
theorem zq151 : (30 : Int) ≤ (30 : Int32).toInt := by decide
theorem zq152 : (30 : Int32).toInt ≤ (30 : Int) := by decide
theorem zq153 : (20 : Int) ≤ (20 : Int32).toInt := by decide
theorem zq154 : (20 : Int32).toInt ≤ (20 : Int) := by decide
theorem zq155 : (2 : Int) * 8 ≤ 2147483647 := by decide
theorem zq156 : (22 : Int) ≤ (22 : Int32).toInt := by decide
theorem zq157 : (18 : Int) ≤ (18 : Int32).toInt := by decide
theorem zq158 : (18 : Int32).toInt ≤ (18 : Int) := by decide
theorem zq159 : (7 : Int) ≤ 10 := by decide
theorem zq160 : (19 : Int) ≤ (19 : Int32).toInt := by decide
theorem zq161 : (19 : Int32).toInt ≤ (19 : Int) := by decide
theorem zq162 : (21 : Int) ≤ (21 : Int32).toInt := by decide
theorem zq163 : (0 : Int) ≤ 19 := by decide
theorem zq164 : (0 : Int) ≤ 23 := by decide
theorem zq165 : (0 : Int) ≤ (0 : Int32).toInt ∧ (0 : Int32).toInt ≤ 8 := by decide
theorem zq166 : (0 : Int) ≤ (0 : Int32).toInt ∧ (0 : Int32).toInt ≤ 19 := by decide
theorem zq167 : (0 : Int) ≤ 156 := by decide
theorem zq168 : (10 : Int) ≤ 12 := by decide
theorem zq169 : (0 : Int) ≤ 12 := by decide
theorem zq170 : (23 : Int) ≤ (23 : Int32).toInt := by decide
theorem zq171 : (23 : Int32).toInt ≤ (23 : Int) := by decide
theorem zq172 : (0 : Int) ≤ 301 := by decide
theorem zq173 : (81 : Int) ≤ 99 := by decide
theorem zq174 : (100000000 : Int32).toInt ≤ (100000000 : Int) := by decide
theorem zq175 : (-2 : Int) ≤ 880 := by decide
theorem zq176 : (999 : Int) * 8 ≤ 2147483647 := by decide
theorem zq177 : (81 : Int) * 9 ≤ 2147483647 := by decide
theorem zq178 : (0 : Int) < 4 := by decide
theorem zq179 : (728 : Int) ≤ 999 := by decide
theorem zq180 : (100 : Int) * 728 ≤ 2147483647 := by decide
theorem zq181 : (2 : Int) * 5 ≤ 2147483647 := by decide
theorem zq182 : (36 : Int) ≤ (36 : Int32).toInt := by decide
theorem zq183 : (36 : Int32).toInt ≤ (36 : Int) := by decide
theorem zq184 : (-1 : Int) ≤ 72888 := by decide
theorem zq185 : (0 : Int) ≤ 512 := by decide
theorem zq186 : (99 : Int) ≤ 999 := by decide
theorem zq187 : (119 : Int) ≤ 300 := by decide
theorem zq188 : (-2 : Int) ≤ 99 := by decide
theorem zq189 : (8 : Int) ≤ 999 := by decide
theorem zq190 : (19 : Int) ≤ 999 := by decide
theorem zq191 : (0 : Int) ≤ 20 := by decide
theorem zq192 : (80 : Int) ≤ 728 := by decide
theorem zq193 : (81 : Int) ≤ 98 := by decide
theorem zq194 : (0 : Int) ≤ 98 := by decide
theorem zq195 : (10 : Int) * 60 ≤ 2147483647 := by decide
theorem zq196 : (7 : Int) ≤ 9 := by decide
theorem zq197 : (58 : Int) ≤ 59 := by decide
theorem zq198 : (10 : Int) * 59 ≤ 2147483647 := by decide
theorem zq199 : (512 : Int) ≤ 729 := by decide
theorem zq200 : (511 : Int) ≤ 729 := by decide
theorem zq201 : (-2 : Int) ≤ 729 := by decide
theorem zq202 : (75 : Int) ≤ (75 : Int32).toInt := by decide
theorem zq203 : (75 : Int32).toInt ≤ (75 : Int) := by decide
theorem zq204 : (75 : Int) * 65536 ≤ 2147483647 := by decide
theorem zq205 : (74 : Int) ≤ (74 : Int32).toInt := by decide
theorem zq206 : (74 : Int32).toInt ≤ (74 : Int) := by decide
theorem zq207 : (0 : Int) ≤ 74 := by decide
theorem zq208 : (0 : Int) < 65537 := by decide
theorem zq209 : (65537 : Int) ≤ (65537 : Int32).toInt := by decide
theorem zq210 : (65537 : Int32).toInt ≤ (65537 : Int) := by decide
theorem zq211 : (23 : Int) * 15 ≤ 2147483647 := by decide
theorem zq212 : (345 : Int) ≤ (345 : Int32).toInt := by decide
theorem zq213 : (0 : Int) ≤ 345 := by decide
theorem zq214 : (0 : Int) ≤ 15 := by decide
theorem zq215 : (345 : Int32).toInt ≤ (345 : Int) := by decide
theorem zq216 : (23 : Int) * 2 ≤ 2147483647 := by decide
theorem zq217 : (-1 : Int) ≤ 2 := by decide
theorem zq218 : (0 : Int) ≤ 16 := by decide
theorem zq219 : (8 : Int) * 3 ≤ 2147483647 := by decide
theorem zq220 : (0 : Int) ≤ 17 := by decide
theorem zq221 : (0 : Int) ≤ 13 := by decide
theorem zq222 : (16 : Int) ≤ 20 := by decide
theorem zq223 : (12 : Int) ≤ 20 := by decide
theorem zq224 : (0 : Int) ≤ 5 := by decide
theorem zq225 : (8 : Int) ≤ 20 := by decide
theorem zq226 : (4 : Int) ≤ 20 := by decide
theorem zq227 : (880 : Int) ≤ 900 := by decide
theorem zq228 : (-1 : Int) ≤ 900 := by decide
theorem zq229 : (5 : Int) ≤ 6 := by decide
theorem zq230 : (3 : Int) ≤ 4 := by decide
theorem zq231 : (1 : Int) ≤ 900 := by decide
theorem zq232 : (8 : Int) * 11 ≤ 2147483647 := by decide
theorem zq233 : (8 : Int) ≤ 900 := by decide
theorem zq234 : (2 : Int) ≤ 9 := by decide
theorem zq235 : (1 : Int) ≤ 20 := by decide
theorem zq236 : (8 : Int) ≤ 11 := by decide
theorem zq237 : (2 : Int) ≤ 20 := by decide
theorem zq238 : (2 : Int) * 4 ≤ 2147483647 := by decide
theorem zq239 : (156 : Int) ≤ (156 : Int32).toInt := by decide
theorem zq240 : (156 : Int32).toInt ≤ (156 : Int) := by decide
theorem zq241 : (9 : Int) ≤ 23 := by decide
theorem zq242 : (8 : Int) ≤ 19 := by decide
theorem zq243 : (880 : Int) ≤ 896 := by decide
theorem zq244 : (884 : Int) ≤ 896 := by decide
theorem zq245 : (888 : Int) ≤ 896 := by decide
theorem zq246 : (892 : Int) ≤ 896 := by decide
theorem zk_iconst_0 : Int32.ofInt 0 = 0 := by decide
theorem zk_iconst_1 : Int32.ofInt 1 = 1 := by decide
theorem zk_bipush_9 : (Int8.ofInt 9).toInt32 = 9 := by decide
theorem zk_iconst_3 : Int32.ofInt 3 = 3 := by decide
theorem zk_iconst_2 : Int32.ofInt 2 = 2 := by decide
theorem zk_bipush_6 : (Int8.ofInt 6).toInt32 = 6 := by decide
theorem zk_bipush_100 : (Int8.ofInt 100).toInt32 = 100 := by decide
theorem zk_bipush_10 : (Int8.ofInt 10).toInt32 = 10 := by decide
theorem zk_bipush_8 : (Int8.ofInt 8).toInt32 = 8 := by decide
theorem zk_bipush_7 : (Int8.ofInt 7).toInt32 = 7 := by decide
theorem zk_sipush_729 : (Int16.ofInt 729).toInt32 = 729 := by decide
theorem zk_bipush_n2 : (Int8.ofInt (-2)).toInt32 = (-2) := by decide
theorem zk_bipush_99 : (Int8.ofInt 99).toInt32 = 99 := by decide
theorem zk_bipush_60 : (Int8.ofInt 60).toInt32 = 60 := by decide
theorem zk_iconst_n1 : Int32.ofInt (-1) = (-1) := by decide
theorem zk_iconst_4 : Int32.ofInt 4 = 4 := by decide
theorem zk_sipush_200 : (Int16.ofInt 200).toInt32 = 200 := by decide
theorem zk_bipush_75 : (Int8.ofInt 75).toInt32 = 75 := by decide
theorem zk_bipush_74 : (Int8.ofInt 74).toInt32 = 74 := by decide
theorem zk_bipush_16 : (Int8.ofInt 16).toInt32 = 16 := by decide
theorem zk_bipush_63 : (Int8.ofInt 63).toInt32 = 63 := by decide
theorem zk_sipush_999 : (Int16.ofInt 999).toInt32 = 999 := by decide
theorem zk_sipush_300 : (Int16.ofInt 300).toInt32 = 300 := by decide
theorem zk_sipush_301 : (Int16.ofInt 301).toInt32 = 301 := by decide
theorem zk_bipush_n100 : (Int8.ofInt (-100)).toInt32 = (-100) := by decide
theorem zk_sipush_9999 : (Int16.ofInt 9999).toInt32 = 9999 := by decide
theorem zk_iconst_5 : Int32.ofInt 5 = 5 := by decide
theorem zk_bipush_24 : (Int8.ofInt 24).toInt32 = 24 := by decide
theorem zk_sipush_900 : (Int16.ofInt 900).toInt32 = 900 := by decide
theorem zk_bipush_97 : (Int8.ofInt 97).toInt32 = 97 := by decide
theorem zk_bipush_122 : (Int8.ofInt 122).toInt32 = 122 := by decide
theorem zk_bipush_48 : (Int8.ofInt 48).toInt32 = 48 := by decide
theorem zk_bipush_57 : (Int8.ofInt 57).toInt32 = 57 := by decide
theorem zk_bipush_59 : (Int8.ofInt 59).toInt32 = 59 := by decide
theorem zk_bipush_32 : (Int8.ofInt 32).toInt32 = 32 := by decide
theorem zk_bipush_30 : (Int8.ofInt 30).toInt32 = 30 := by decide
theorem zk_bipush_20 : (Int8.ofInt 20).toInt32 = 20 := by decide
theorem zk_bipush_12 : (Int8.ofInt 12).toInt32 = 12 := by decide
theorem zk_bipush_21 : (Int8.ofInt 21).toInt32 = 21 := by decide
theorem zk_bipush_22 : (Int8.ofInt 22).toInt32 = 22 := by decide
theorem zk_bipush_18 : (Int8.ofInt 18).toInt32 = 18 := by decide
theorem zk_bipush_19 : (Int8.ofInt 19).toInt32 = 19 := by decide
theorem zk_sipush_255 : (Int16.ofInt 255).toInt32 = 255 := by decide
theorem zk_bipush_23 : (Int8.ofInt 23).toInt32 = 23 := by decide
theorem zk_bipush_36 : (Int8.ofInt 36).toInt32 = 36 := by decide
theorem zk_sipush_345 : (Int16.ofInt 345).toInt32 = 345 := by decide
theorem zk_bipush_13 : (Int8.ofInt 13).toInt32 = 13 := by decide
theorem zk_bipush_11 : (Int8.ofInt 11).toInt32 = 11 := by decide
theorem zk_sipush_156 : (Int16.ofInt 156).toInt32 = 156 := by decide
theorem zk_bipush_61 : (Int8.ofInt 61).toInt32 = 61 := by decide
theorem zk_sipush_549 : (Int16.ofInt 549).toInt32 = 549 := by decide
theorem zk_sipush_368 : (Int16.ofInt 368).toInt32 = 368 := by decide
theorem zk_bipush_69 : (Int8.ofInt 69).toInt32 = 69 := by decide
theorem zk_sipush_620 : (Int16.ofInt 620).toInt32 = 620 := by decide
theorem zd_J0_charAt_5068e : yJ0_charAt_5068e.cls = RJ0 ∧ yJ0_charAt_5068e.cls ≠ "java/lang/invoke/MethodHandle" ∧ yJ0_charAt_5068e.cls ≠ "java/lang/invoke/VarHandle" ∧ (parseMethodDescriptor yJ0_charAt_5068e.desc).map (fun d => d.parameters.length) = some 1 := by decide +kernel
theorem zd_J0_checkIndex_df160 : yJ0_checkIndex_df160.cls = RJ0 ∧ yJ0_checkIndex_df160.cls ≠ "java/lang/invoke/MethodHandle" ∧ yJ0_checkIndex_df160.cls ≠ "java/lang/invoke/VarHandle" ∧ (parseMethodDescriptor yJ0_checkIndex_df160.desc).map (fun d => d.parameters.length) = some 2 := by decide +kernel
theorem zd_J0_coder_7d493 : yJ0_coder_7d493.cls = RJ0 ∧ yJ0_coder_7d493.cls ≠ "java/lang/invoke/MethodHandle" ∧ yJ0_coder_7d493.cls ≠ "java/lang/invoke/VarHandle" ∧ (parseMethodDescriptor yJ0_coder_7d493.desc).map (fun d => d.parameters.length) = some 0 := by decide +kernel
theorem zd_J0_isLatin1_aae02 : yJ0_isLatin1_aae02.cls = RJ0 ∧ yJ0_isLatin1_aae02.cls ≠ "java/lang/invoke/MethodHandle" ∧ yJ0_isLatin1_aae02.cls ≠ "java/lang/invoke/VarHandle" ∧ (parseMethodDescriptor yJ0_isLatin1_aae02.desc).map (fun d => d.parameters.length) = some 0 := by decide +kernel
theorem zd_J0_length_8abf5 : yJ0_length_8abf5.cls = RJ0 ∧ yJ0_length_8abf5.cls ≠ "java/lang/invoke/MethodHandle" ∧ yJ0_length_8abf5.cls ≠ "java/lang/invoke/VarHandle" ∧ (parseMethodDescriptor yJ0_length_8abf5.desc).map (fun d => d.parameters.length) = some 0 := by decide +kernel
theorem zd_J1_charAt_3b067 : yJ1_charAt_3b067.cls = RJ1 ∧ yJ1_charAt_3b067.cls ≠ "java/lang/invoke/MethodHandle" ∧ yJ1_charAt_3b067.cls ≠ "java/lang/invoke/VarHandle" ∧ (parseMethodDescriptor yJ1_charAt_3b067.desc).map (fun d => d.parameters.length) = some 2 := by decide +kernel
theorem zd_J3_checkIndex_8e157 : yJ3_checkIndex_8e157.cls = RJ3 ∧ yJ3_checkIndex_8e157.cls ≠ "java/lang/invoke/MethodHandle" ∧ yJ3_checkIndex_8e157.cls ≠ "java/lang/invoke/VarHandle" ∧ (parseMethodDescriptor yJ3_checkIndex_8e157.desc).map (fun d => d.parameters.length) = some 3 := by decide +kernel
theorem zd_J6_bitCount_0f7a4 : yJ6_bitCount_0f7a4.cls = RJ6 ∧ yJ6_bitCount_0f7a4.cls ≠ "java/lang/invoke/MethodHandle" ∧ yJ6_bitCount_0f7a4.cls ≠ "java/lang/invoke/VarHandle" ∧ (parseMethodDescriptor yJ6_bitCount_0f7a4.desc).map (fun d => d.parameters.length) = some 1 := by decide +kernel
theorem zd_X0_addFigure : yX0_addFigure.cls = RX0 ∧ yX0_addFigure.cls ≠ "java/lang/invoke/MethodHandle" ∧ yX0_addFigure.cls ≠ "java/lang/invoke/VarHandle" ∧ (parseMethodDescriptor yX0_addFigure.desc).map (fun d => d.parameters.length) = some 3 := by decide +kernel
theorem zd_X0_addSeen : yX0_addSeen.cls = RX0 ∧ yX0_addSeen.cls ≠ "java/lang/invoke/MethodHandle" ∧ yX0_addSeen.cls ≠ "java/lang/invoke/VarHandle" ∧ (parseMethodDescriptor yX0_addSeen.desc).map (fun d => d.parameters.length) = some 2 := by decide +kernel
theorem zd_X0_aliveByLaw : yX0_aliveByLaw.cls = RX0 ∧ yX0_aliveByLaw.cls ≠ "java/lang/invoke/MethodHandle" ∧ yX0_aliveByLaw.cls ≠ "java/lang/invoke/VarHandle" ∧ (parseMethodDescriptor yX0_aliveByLaw.desc).map (fun d => d.parameters.length) = some 2 := by decide +kernel
theorem zd_X0_clear : yX0_clear.cls = RX0 ∧ yX0_clear.cls ≠ "java/lang/invoke/MethodHandle" ∧ yX0_clear.cls ≠ "java/lang/invoke/VarHandle" ∧ (parseMethodDescriptor yX0_clear.desc).map (fun d => d.parameters.length) = some 0 := by decide +kernel
theorem zd_X0_goesLike : yX0_goesLike.cls = RX0 ∧ yX0_goesLike.cls ≠ "java/lang/invoke/MethodHandle" ∧ yX0_goesLike.cls ≠ "java/lang/invoke/VarHandle" ∧ (parseMethodDescriptor yX0_goesLike.desc).map (fun d => d.parameters.length) = some 2 := by decide +kernel
theorem zd_X0_isHeardAt : yX0_isHeardAt.cls = RX0 ∧ yX0_isHeardAt.cls ≠ "java/lang/invoke/MethodHandle" ∧ yX0_isHeardAt.cls ≠ "java/lang/invoke/VarHandle" ∧ (parseMethodDescriptor yX0_isHeardAt.desc).map (fun d => d.parameters.length) = some 2 := by decide +kernel
theorem zd_X0_isSeenMinute : yX0_isSeenMinute.cls = RX0 ∧ yX0_isSeenMinute.cls ≠ "java/lang/invoke/MethodHandle" ∧ yX0_isSeenMinute.cls ≠ "java/lang/invoke/VarHandle" ∧ (parseMethodDescriptor yX0_isSeenMinute.desc).map (fun d => d.parameters.length) = some 1 := by decide +kernel
theorem zd_X0_nearer : yX0_nearer.cls = RX0 ∧ yX0_nearer.cls ≠ "java/lang/invoke/MethodHandle" ∧ yX0_nearer.cls ≠ "java/lang/invoke/VarHandle" ∧ (parseMethodDescriptor yX0_nearer.desc).map (fun d => d.parameters.length) = some 1 := by decide +kernel
theorem zd_X0_next : yX0_next.cls = RX0 ∧ yX0_next.cls ≠ "java/lang/invoke/MethodHandle" ∧ yX0_next.cls ≠ "java/lang/invoke/VarHandle" ∧ (parseMethodDescriptor yX0_next.desc).map (fun d => d.parameters.length) = some 1 := by decide +kernel
theorem zd_X0_partSaid : yX0_partSaid.cls = RX0 ∧ yX0_partSaid.cls ≠ "java/lang/invoke/MethodHandle" ∧ yX0_partSaid.cls ≠ "java/lang/invoke/VarHandle" ∧ (parseMethodDescriptor yX0_partSaid.desc).map (fun d => d.parameters.length) = some 2 := by decide +kernel
theorem zd_X0_pass : yX0_pass.cls = RX0 ∧ yX0_pass.cls ≠ "java/lang/invoke/MethodHandle" ∧ yX0_pass.cls ≠ "java/lang/invoke/VarHandle" ∧ (parseMethodDescriptor yX0_pass.desc).map (fun d => d.parameters.length) = some 2 := by decide +kernel
theorem zd_X0_sizeTold : yX0_sizeTold.cls = RX0 ∧ yX0_sizeTold.cls ≠ "java/lang/invoke/MethodHandle" ∧ yX0_sizeTold.cls ≠ "java/lang/invoke/VarHandle" ∧ (parseMethodDescriptor yX0_sizeTold.desc).map (fun d => d.parameters.length) = some 1 := by decide +kernel
theorem zd_X0_step : yX0_step.cls = RX0 ∧ yX0_step.cls ≠ "java/lang/invoke/MethodHandle" ∧ yX0_step.cls ≠ "java/lang/invoke/VarHandle" ∧ (parseMethodDescriptor yX0_step.desc).map (fun d => d.parameters.length) = some 3 := by decide +kernel
theorem zd_X0_stepsIn : yX0_stepsIn.cls = RX0 ∧ yX0_stepsIn.cls ≠ "java/lang/invoke/MethodHandle" ∧ yX0_stepsIn.cls ≠ "java/lang/invoke/VarHandle" ∧ (parseMethodDescriptor yX0_stepsIn.desc).map (fun d => d.parameters.length) = some 2 := by decide +kernel
theorem zd_X1_addImage : yX1_addImage.cls = RX1 ∧ yX1_addImage.cls ≠ "java/lang/invoke/MethodHandle" ∧ yX1_addImage.cls ≠ "java/lang/invoke/VarHandle" ∧ (parseMethodDescriptor yX1_addImage.desc).map (fun d => d.parameters.length) = some 1 := by decide +kernel
theorem zd_X1_clear : yX1_clear.cls = RX1 ∧ yX1_clear.cls ≠ "java/lang/invoke/MethodHandle" ∧ yX1_clear.cls ≠ "java/lang/invoke/VarHandle" ∧ (parseMethodDescriptor yX1_clear.desc).map (fun d => d.parameters.length) = some 0 := by decide +kernel
theorem zd_X1_goBack : yX1_goBack.cls = RX1 ∧ yX1_goBack.cls ≠ "java/lang/invoke/MethodHandle" ∧ yX1_goBack.cls ≠ "java/lang/invoke/VarHandle" ∧ (parseMethodDescriptor yX1_goBack.desc).map (fun d => d.parameters.length) = some 2 := by decide +kernel
theorem zd_X1_keep : yX1_keep.cls = RX1 ∧ yX1_keep.cls ≠ "java/lang/invoke/MethodHandle" ∧ yX1_keep.cls ≠ "java/lang/invoke/VarHandle" ∧ (parseMethodDescriptor yX1_keep.desc).map (fun d => d.parameters.length) = some 1 := by decide +kernel
theorem zd_X1_takeLatest : yX1_takeLatest.cls = RX1 ∧ yX1_takeLatest.cls ≠ "java/lang/invoke/MethodHandle" ∧ yX1_takeLatest.cls ≠ "java/lang/invoke/VarHandle" ∧ (parseMethodDescriptor yX1_takeLatest.desc).map (fun d => d.parameters.length) = some 1 := by decide +kernel
theorem zd_X2_addIfFit : yX2_addIfFit.cls = RX2 ∧ yX2_addIfFit.cls ≠ "java/lang/invoke/MethodHandle" ∧ yX2_addIfFit.cls ≠ "java/lang/invoke/VarHandle" ∧ (parseMethodDescriptor yX2_addIfFit.desc).map (fun d => d.parameters.length) = some 2 := by decide +kernel
theorem zd_X2_chooseLook : yX2_chooseLook.cls = RX2 ∧ yX2_chooseLook.cls ≠ "java/lang/invoke/MethodHandle" ∧ yX2_chooseLook.cls ≠ "java/lang/invoke/VarHandle" ∧ (parseMethodDescriptor yX2_chooseLook.desc).map (fun d => d.parameters.length) = some 1 := by decide +kernel
theorem zd_X2_forget : yX2_forget.cls = RX2 ∧ yX2_forget.cls ≠ "java/lang/invoke/MethodHandle" ∧ yX2_forget.cls ≠ "java/lang/invoke/VarHandle" ∧ (parseMethodDescriptor yX2_forget.desc).map (fun d => d.parameters.length) = some 0 := by decide +kernel
theorem zd_X2_list : yX2_list.cls = RX2 ∧ yX2_list.cls ≠ "java/lang/invoke/MethodHandle" ∧ yX2_list.cls ≠ "java/lang/invoke/VarHandle" ∧ (parseMethodDescriptor yX2_list.desc).map (fun d => d.parameters.length) = some 1 := by decide +kernel
theorem zd_X2_mostOf : yX2_mostOf.cls = RX2 ∧ yX2_mostOf.cls ≠ "java/lang/invoke/MethodHandle" ∧ yX2_mostOf.cls ≠ "java/lang/invoke/VarHandle" ∧ (parseMethodDescriptor yX2_mostOf.desc).map (fun d => d.parameters.length) = some 1 := by decide +kernel
theorem zd_X2_tally : yX2_tally.cls = RX2 ∧ yX2_tally.cls ≠ "java/lang/invoke/MethodHandle" ∧ yX2_tally.cls ≠ "java/lang/invoke/VarHandle" ∧ (parseMethodDescriptor yX2_tally.desc).map (fun d => d.parameters.length) = some 2 := by decide +kernel
theorem zd_X3_advance : yX3_advance.cls = RX3 ∧ yX3_advance.cls ≠ "java/lang/invoke/MethodHandle" ∧ yX3_advance.cls ≠ "java/lang/invoke/VarHandle" ∧ (parseMethodDescriptor yX3_advance.desc).map (fun d => d.parameters.length) = some 0 := by decide +kernel
theorem zd_X3_append : yX3_append.cls = RX3 ∧ yX3_append.cls ≠ "java/lang/invoke/MethodHandle" ∧ yX3_append.cls ≠ "java/lang/invoke/VarHandle" ∧ (parseMethodDescriptor yX3_append.desc).map (fun d => d.parameters.length) = some 1 := by decide +kernel
theorem zd_X3_exchange : yX3_exchange.cls = RX3 ∧ yX3_exchange.cls ≠ "java/lang/invoke/MethodHandle" ∧ yX3_exchange.cls ≠ "java/lang/invoke/VarHandle" ∧ (parseMethodDescriptor yX3_exchange.desc).map (fun d => d.parameters.length) = some 1 := by decide +kernel
theorem zd_X3_fails : yX3_fails.cls = RX3 ∧ yX3_fails.cls ≠ "java/lang/invoke/MethodHandle" ∧ yX3_fails.cls ≠ "java/lang/invoke/VarHandle" ∧ (parseMethodDescriptor yX3_fails.desc).map (fun d => d.parameters.length) = some 1 := by decide +kernel
theorem zd_X3_isWholeWithin : yX3_isWholeWithin.cls = RX3 ∧ yX3_isWholeWithin.cls ≠ "java/lang/invoke/MethodHandle" ∧ yX3_isWholeWithin.cls ≠ "java/lang/invoke/VarHandle" ∧ (parseMethodDescriptor yX3_isWholeWithin.desc).map (fun d => d.parameters.length) = some 2 := by decide +kernel
theorem zd_X3_isWord : yX3_isWord.cls = RX3 ∧ yX3_isWord.cls ≠ "java/lang/invoke/MethodHandle" ∧ yX3_isWord.cls ≠ "java/lang/invoke/VarHandle" ∧ (parseMethodDescriptor yX3_isWord.desc).map (fun d => d.parameters.length) = some 1 := by decide +kernel
theorem zd_X3_read : yX3_read.cls = RX3 ∧ yX3_read.cls ≠ "java/lang/invoke/MethodHandle" ∧ yX3_read.cls ≠ "java/lang/invoke/VarHandle" ∧ (parseMethodDescriptor yX3_read.desc).map (fun d => d.parameters.length) = some 1 := by decide +kernel
theorem zd_X3_readFigure : yX3_readFigure.cls = RX3 ∧ yX3_readFigure.cls ≠ "java/lang/invoke/MethodHandle" ∧ yX3_readFigure.cls ≠ "java/lang/invoke/VarHandle" ∧ (parseMethodDescriptor yX3_readFigure.desc).map (fun d => d.parameters.length) = some 0 := by decide +kernel
theorem zd_X3_readHall : yX3_readHall.cls = RX3 ∧ yX3_readHall.cls ≠ "java/lang/invoke/MethodHandle" ∧ yX3_readHall.cls ≠ "java/lang/invoke/VarHandle" ∧ (parseMethodDescriptor yX3_readHall.desc).map (fun d => d.parameters.length) = some 0 := by decide +kernel
theorem zd_X3_readLaw : yX3_readLaw.cls = RX3 ∧ yX3_readLaw.cls ≠ "java/lang/invoke/MethodHandle" ∧ yX3_readLaw.cls ≠ "java/lang/invoke/VarHandle" ∧ (parseMethodDescriptor yX3_readLaw.desc).map (fun d => d.parameters.length) = some 0 := by decide +kernel
theorem zd_X3_readLine : yX3_readLine.cls = RX3 ∧ yX3_readLine.cls ≠ "java/lang/invoke/MethodHandle" ∧ yX3_readLine.cls ≠ "java/lang/invoke/VarHandle" ∧ (parseMethodDescriptor yX3_readLine.desc).map (fun d => d.parameters.length) = some 0 := by decide +kernel
theorem zd_X3_readSeen : yX3_readSeen.cls = RX3 ∧ yX3_readSeen.cls ≠ "java/lang/invoke/MethodHandle" ∧ yX3_readSeen.cls ≠ "java/lang/invoke/VarHandle" ∧ (parseMethodDescriptor yX3_readSeen.desc).map (fun d => d.parameters.length) = some 0 := by decide +kernel
theorem zd_X3_readWatcher : yX3_readWatcher.cls = RX3 ∧ yX3_readWatcher.cls ≠ "java/lang/invoke/MethodHandle" ∧ yX3_readWatcher.cls ≠ "java/lang/invoke/VarHandle" ∧ (parseMethodDescriptor yX3_readWatcher.desc).map (fun d => d.parameters.length) = some 0 := by decide +kernel
theorem zd_X3_scanWhole : yX3_scanWhole.cls = RX3 ∧ yX3_scanWhole.cls ≠ "java/lang/invoke/MethodHandle" ∧ yX3_scanWhole.cls ≠ "java/lang/invoke/VarHandle" ∧ (parseMethodDescriptor yX3_scanWhole.desc).map (fun d => d.parameters.length) = some 0 := by decide +kernel
theorem zd_X3_scanWord : yX3_scanWord.cls = RX3 ∧ yX3_scanWord.cls ≠ "java/lang/invoke/MethodHandle" ∧ yX3_scanWord.cls ≠ "java/lang/invoke/VarHandle" ∧ (parseMethodDescriptor yX3_scanWord.desc).map (fun d => d.parameters.length) = some 0 := by decide +kernel
theorem zd_X3_takeName : yX3_takeName.cls = RX3 ∧ yX3_takeName.cls ≠ "java/lang/invoke/MethodHandle" ∧ yX3_takeName.cls ≠ "java/lang/invoke/VarHandle" ∧ (parseMethodDescriptor yX3_takeName.desc).map (fun d => d.parameters.length) = some 0 := by decide +kernel
theorem zd_X3_takeWhole : yX3_takeWhole.cls = RX3 ∧ yX3_takeWhole.cls ≠ "java/lang/invoke/MethodHandle" ∧ yX3_takeWhole.cls ≠ "java/lang/invoke/VarHandle" ∧ (parseMethodDescriptor yX3_takeWhole.desc).map (fun d => d.parameters.length) = some 3 := by decide +kernel
theorem zd_X3_takeWord : yX3_takeWord.cls = RX3 ∧ yX3_takeWord.cls ≠ "java/lang/invoke/MethodHandle" ∧ yX3_takeWord.cls ≠ "java/lang/invoke/VarHandle" ∧ (parseMethodDescriptor yX3_takeWord.desc).map (fun d => d.parameters.length) = some 1 := by decide +kernel
theorem zd_X4_aim : yX4_aim.cls = RX4 ∧ yX4_aim.cls ≠ "java/lang/invoke/MethodHandle" ∧ yX4_aim.cls ≠ "java/lang/invoke/VarHandle" ∧ (parseMethodDescriptor yX4_aim.desc).map (fun d => d.parameters.length) = some 2 := by decide +kernel
theorem zd_X4_minutesWith : yX4_minutesWith.cls = RX4 ∧ yX4_minutesWith.cls ≠ "java/lang/invoke/MethodHandle" ∧ yX4_minutesWith.cls ≠ "java/lang/invoke/VarHandle" ∧ (parseMethodDescriptor yX4_minutesWith.desc).map (fun d => d.parameters.length) = some 1 := by decide +kernel
theorem zd_X4_placeIn : yX4_placeIn.cls = RX4 ∧ yX4_placeIn.cls ≠ "java/lang/invoke/MethodHandle" ∧ yX4_placeIn.cls ≠ "java/lang/invoke/VarHandle" ∧ (parseMethodDescriptor yX4_placeIn.desc).map (fun d => d.parameters.length) = some 2 := by decide +kernel
theorem zd_X4_step : yX4_step.cls = RX4 ∧ yX4_step.cls ≠ "java/lang/invoke/MethodHandle" ∧ yX4_step.cls ≠ "java/lang/invoke/VarHandle" ∧ (parseMethodDescriptor yX4_step.desc).map (fun d => d.parameters.length) = some 2 := by decide +kernel
theorem zd_X4_weigh : yX4_weigh.cls = RX4 ∧ yX4_weigh.cls ≠ "java/lang/invoke/MethodHandle" ∧ yX4_weigh.cls ≠ "java/lang/invoke/VarHandle" ∧ (parseMethodDescriptor yX4_weigh.desc).map (fun d => d.parameters.length) = some 2 := by decide +kernel
theorem zd_X4_worth : yX4_worth.cls = RX4 ∧ yX4_worth.cls ≠ "java/lang/invoke/MethodHandle" ∧ yX4_worth.cls ≠ "java/lang/invoke/VarHandle" ∧ (parseMethodDescriptor yX4_worth.desc).map (fun d => d.parameters.length) = some 2 := by decide +kernel
theorem zd_X5_begin : yX5_begin.cls = RX5 ∧ yX5_begin.cls ≠ "java/lang/invoke/MethodHandle" ∧ yX5_begin.cls ≠ "java/lang/invoke/VarHandle" ∧ (parseMethodDescriptor yX5_begin.desc).map (fun d => d.parameters.length) = some 1 := by decide +kernel
theorem zd_X5_copyFrom : yX5_copyFrom.cls = RX5 ∧ yX5_copyFrom.cls ≠ "java/lang/invoke/MethodHandle" ∧ yX5_copyFrom.cls ≠ "java/lang/invoke/VarHandle" ∧ (parseMethodDescriptor yX5_copyFrom.desc).map (fun d => d.parameters.length) = some 1 := by decide +kernel
theorem zd_X5_isGone : yX5_isGone.cls = RX5 ∧ yX5_isGone.cls ≠ "java/lang/invoke/MethodHandle" ∧ yX5_isGone.cls ≠ "java/lang/invoke/VarHandle" ∧ (parseMethodDescriptor yX5_isGone.desc).map (fun d => d.parameters.length) = some 1 := by decide +kernel
theorem zd_X5_startTurn : yX5_startTurn.cls = RX5 ∧ yX5_startTurn.cls ≠ "java/lang/invoke/MethodHandle" ∧ yX5_startTurn.cls ≠ "java/lang/invoke/VarHandle" ∧ (parseMethodDescriptor yX5_startTurn.desc).map (fun d => d.parameters.length) = some 1 := by decide +kernel
theorem zd_X6_add : yX6_add.cls = RX6 ∧ yX6_add.cls ≠ "java/lang/invoke/MethodHandle" ∧ yX6_add.cls ≠ "java/lang/invoke/VarHandle" ∧ (parseMethodDescriptor yX6_add.desc).map (fun d => d.parameters.length) = some 2 := by decide +kernel
theorem zd_X6_copyFrom : yX6_copyFrom.cls = RX6 ∧ yX6_copyFrom.cls ≠ "java/lang/invoke/MethodHandle" ∧ yX6_copyFrom.cls ≠ "java/lang/invoke/VarHandle" ∧ (parseMethodDescriptor yX6_copyFrom.desc).map (fun d => d.parameters.length) = some 1 := by decide +kernel
theorem zd_X6_placeOf : yX6_placeOf.cls = RX6 ∧ yX6_placeOf.cls ≠ "java/lang/invoke/MethodHandle" ∧ yX6_placeOf.cls ≠ "java/lang/invoke/VarHandle" ∧ (parseMethodDescriptor yX6_placeOf.desc).map (fun d => d.parameters.length) = some 2 := by decide +kernel
theorem zd_X6_placesIn : yX6_placesIn.cls = RX6 ∧ yX6_placesIn.cls ≠ "java/lang/invoke/MethodHandle" ∧ yX6_placesIn.cls ≠ "java/lang/invoke/VarHandle" ∧ (parseMethodDescriptor yX6_placesIn.desc).map (fun d => d.parameters.length) = some 1 := by decide +kernel
theorem zd_X7_answered : yX7_answered.cls = RX7 ∧ yX7_answered.cls ≠ "java/lang/invoke/MethodHandle" ∧ yX7_answered.cls ≠ "java/lang/invoke/VarHandle" ∧ (parseMethodDescriptor yX7_answered.desc).map (fun d => d.parameters.length) = some 1 := by decide +kernel
theorem zd_X7_attendantShare : yX7_attendantShare.cls = RX7 ∧ yX7_attendantShare.cls ≠ "java/lang/invoke/MethodHandle" ∧ yX7_attendantShare.cls ≠ "java/lang/invoke/VarHandle" ∧ (parseMethodDescriptor yX7_attendantShare.desc).map (fun d => d.parameters.length) = some 2 := by decide +kernel
theorem zd_X7_crowdAt : yX7_crowdAt.cls = RX7 ∧ yX7_crowdAt.cls ≠ "java/lang/invoke/MethodHandle" ∧ yX7_crowdAt.cls ≠ "java/lang/invoke/VarHandle" ∧ (parseMethodDescriptor yX7_crowdAt.desc).map (fun d => d.parameters.length) = some 1 := by decide +kernel
theorem zd_X7_figureShare : yX7_figureShare.cls = RX7 ∧ yX7_figureShare.cls ≠ "java/lang/invoke/MethodHandle" ∧ yX7_figureShare.cls ≠ "java/lang/invoke/VarHandle" ∧ (parseMethodDescriptor yX7_figureShare.desc).map (fun d => d.parameters.length) = some 3 := by decide +kernel
theorem zd_X7_hasBit : yX7_hasBit.cls = RX7 ∧ yX7_hasBit.cls ≠ "java/lang/invoke/MethodHandle" ∧ yX7_hasBit.cls ≠ "java/lang/invoke/VarHandle" ∧ (parseMethodDescriptor yX7_hasBit.desc).map (fun d => d.parameters.length) = some 2 := by decide +kernel
theorem zd_X7_hasGallery : yX7_hasGallery.cls = RX7 ∧ yX7_hasGallery.cls ≠ "java/lang/invoke/MethodHandle" ∧ yX7_hasGallery.cls ≠ "java/lang/invoke/VarHandle" ∧ (parseMethodDescriptor yX7_hasGallery.desc).map (fun d => d.parameters.length) = some 0 := by decide +kernel
theorem zd_X7_inLowestTerms : yX7_inLowestTerms.cls = RX7 ∧ yX7_inLowestTerms.cls ≠ "java/lang/invoke/MethodHandle" ∧ yX7_inLowestTerms.cls ≠ "java/lang/invoke/VarHandle" ∧ (parseMethodDescriptor yX7_inLowestTerms.desc).map (fun d => d.parameters.length) = some 3 := by decide +kernel
theorem zd_X7_isFigure : yX7_isFigure.cls = RX7 ∧ yX7_isFigure.cls ≠ "java/lang/invoke/MethodHandle" ∧ yX7_isFigure.cls ≠ "java/lang/invoke/VarHandle" ∧ (parseMethodDescriptor yX7_isFigure.desc).map (fun d => d.parameters.length) = some 1 := by decide +kernel
theorem zd_X7_isPlace : yX7_isPlace.cls = RX7 ∧ yX7_isPlace.cls ≠ "java/lang/invoke/MethodHandle" ∧ yX7_isPlace.cls ≠ "java/lang/invoke/VarHandle" ∧ (parseMethodDescriptor yX7_isPlace.desc).map (fun d => d.parameters.length) = some 1 := by decide +kernel
theorem zd_X7_isRest : yX7_isRest.cls = RX7 ∧ yX7_isRest.cls ≠ "java/lang/invoke/MethodHandle" ∧ yX7_isRest.cls ≠ "java/lang/invoke/VarHandle" ∧ (parseMethodDescriptor yX7_isRest.desc).map (fun d => d.parameters.length) = some 3 := by decide +kernel
theorem zd_X7_isShut : yX7_isShut.cls = RX7 ∧ yX7_isShut.cls ≠ "java/lang/invoke/MethodHandle" ∧ yX7_isShut.cls ≠ "java/lang/invoke/VarHandle" ∧ (parseMethodDescriptor yX7_isShut.desc).map (fun d => d.parameters.length) = some 1 := by decide +kernel
theorem zd_X7_isWatcher : yX7_isWatcher.cls = RX7 ∧ yX7_isWatcher.cls ≠ "java/lang/invoke/MethodHandle" ∧ yX7_isWatcher.cls ≠ "java/lang/invoke/VarHandle" ∧ (parseMethodDescriptor yX7_isWatcher.desc).map (fun d => d.parameters.length) = some 1 := by decide +kernel
theorem zd_X7_laterTurn : yX7_laterTurn.cls = RX7 ∧ yX7_laterTurn.cls ≠ "java/lang/invoke/MethodHandle" ∧ yX7_laterTurn.cls ≠ "java/lang/invoke/VarHandle" ∧ (parseMethodDescriptor yX7_laterTurn.desc).map (fun d => d.parameters.length) = some 5 := by decide +kernel
theorem zd_X7_minutesTillGone : yX7_minutesTillGone.cls = RX7 ∧ yX7_minutesTillGone.cls ≠ "java/lang/invoke/MethodHandle" ∧ yX7_minutesTillGone.cls ≠ "java/lang/invoke/VarHandle" ∧ (parseMethodDescriptor yX7_minutesTillGone.desc).map (fun d => d.parameters.length) = some 2 := by decide +kernel
theorem zd_X7_nextDraw : yX7_nextDraw.cls = RX7 ∧ yX7_nextDraw.cls ≠ "java/lang/invoke/MethodHandle" ∧ yX7_nextDraw.cls ≠ "java/lang/invoke/VarHandle" ∧ (parseMethodDescriptor yX7_nextDraw.desc).map (fun d => d.parameters.length) = some 1 := by decide +kernel
theorem zd_X7_ownTurns : yX7_ownTurns.cls = RX7 ∧ yX7_ownTurns.cls ≠ "java/lang/invoke/MethodHandle" ∧ yX7_ownTurns.cls ≠ "java/lang/invoke/VarHandle" ∧ (parseMethodDescriptor yX7_ownTurns.desc).map (fun d => d.parameters.length) = some 2 := by decide +kernel
theorem zd_X7_passAhead : yX7_passAhead.cls = RX7 ∧ yX7_passAhead.cls ≠ "java/lang/invoke/MethodHandle" ∧ yX7_passAhead.cls ≠ "java/lang/invoke/VarHandle" ∧ (parseMethodDescriptor yX7_passAhead.desc).map (fun d => d.parameters.length) = some 1 := by decide +kernel
theorem zd_X7_placeOfActing : yX7_placeOfActing.cls = RX7 ∧ yX7_placeOfActing.cls ≠ "java/lang/invoke/MethodHandle" ∧ yX7_placeOfActing.cls ≠ "java/lang/invoke/VarHandle" ∧ (parseMethodDescriptor yX7_placeOfActing.desc).map (fun d => d.parameters.length) = some 0 := by decide +kernel
theorem zd_X7_planRoutes : yX7_planRoutes.cls = RX7 ∧ yX7_planRoutes.cls ≠ "java/lang/invoke/MethodHandle" ∧ yX7_planRoutes.cls ≠ "java/lang/invoke/VarHandle" ∧ (parseMethodDescriptor yX7_planRoutes.desc).map (fun d => d.parameters.length) = some 1 := by decide +kernel
theorem zd_X7_postsHold : yX7_postsHold.cls = RX7 ∧ yX7_postsHold.cls ≠ "java/lang/invoke/MethodHandle" ∧ yX7_postsHold.cls ≠ "java/lang/invoke/VarHandle" ∧ (parseMethodDescriptor yX7_postsHold.desc).map (fun d => d.parameters.length) = some 2 := by decide +kernel
theorem zd_X7_refused : yX7_refused.cls = RX7 ∧ yX7_refused.cls ≠ "java/lang/invoke/MethodHandle" ∧ yX7_refused.cls ≠ "java/lang/invoke/VarHandle" ∧ (parseMethodDescriptor yX7_refused.desc).map (fun d => d.parameters.length) = some 1 := by decide +kernel
theorem zd_X7_roundLength : yX7_roundLength.cls = RX7 ∧ yX7_roundLength.cls ≠ "java/lang/invoke/MethodHandle" ∧ yX7_roundLength.cls ≠ "java/lang/invoke/VarHandle" ∧ (parseMethodDescriptor yX7_roundLength.desc).map (fun d => d.parameters.length) = some 0 := by decide +kernel
theorem zd_X7_runAhead : yX7_runAhead.cls = RX7 ∧ yX7_runAhead.cls ≠ "java/lang/invoke/MethodHandle" ∧ yX7_runAhead.cls ≠ "java/lang/invoke/VarHandle" ∧ (parseMethodDescriptor yX7_runAhead.desc).map (fun d => d.parameters.length) = some 1 := by decide +kernel
theorem zd_X7_runAheadOnTrial : yX7_runAheadOnTrial.cls = RX7 ∧ yX7_runAheadOnTrial.cls ≠ "java/lang/invoke/MethodHandle" ∧ yX7_runAheadOnTrial.cls ≠ "java/lang/invoke/VarHandle" ∧ (parseMethodDescriptor yX7_runAheadOnTrial.desc).map (fun d => d.parameters.length) = some 1 := by decide +kernel
theorem zd_X7_troubleOfFigureWithin : yX7_troubleOfFigureWithin.cls = RX7 ∧ yX7_troubleOfFigureWithin.cls ≠ "java/lang/invoke/MethodHandle" ∧ yX7_troubleOfFigureWithin.cls ≠ "java/lang/invoke/VarHandle" ∧ (parseMethodDescriptor yX7_troubleOfFigureWithin.desc).map (fun d => d.parameters.length) = some 3 := by decide +kernel
theorem zd_X7_troubleOfNumber : yX7_troubleOfNumber.cls = RX7 ∧ yX7_troubleOfNumber.cls ≠ "java/lang/invoke/MethodHandle" ∧ yX7_troubleOfNumber.cls ≠ "java/lang/invoke/VarHandle" ∧ (parseMethodDescriptor yX7_troubleOfNumber.desc).map (fun d => d.parameters.length) = some 3 := by decide +kernel
theorem zd_X7_turnFromNow : yX7_turnFromNow.cls = RX7 ∧ yX7_turnFromNow.cls ≠ "java/lang/invoke/MethodHandle" ∧ yX7_turnFromNow.cls ≠ "java/lang/invoke/VarHandle" ∧ (parseMethodDescriptor yX7_turnFromNow.desc).map (fun d => d.parameters.length) = some 1 := by decide +kernel
theorem zd_X7_within : yX7_within.cls = RX7 ∧ yX7_within.cls ≠ "java/lang/invoke/MethodHandle" ∧ yX7_within.cls ≠ "java/lang/invoke/VarHandle" ∧ (parseMethodDescriptor yX7_within.desc).map (fun d => d.parameters.length) = some 3 := by decide +kernel
theorem zd_X8_after : yX8_after.cls = RX8 ∧ yX8_after.cls ≠ "java/lang/invoke/MethodHandle" ∧ yX8_after.cls ≠ "java/lang/invoke/VarHandle" ∧ (parseMethodDescriptor yX8_after.desc).map (fun d => d.parameters.length) = some 3 := by decide +kernel
theorem zd_X8_aheadWhy : yX8_aheadWhy.cls = RX8 ∧ yX8_aheadWhy.cls ≠ "java/lang/invoke/MethodHandle" ∧ yX8_aheadWhy.cls ≠ "java/lang/invoke/VarHandle" ∧ (parseMethodDescriptor yX8_aheadWhy.desc).map (fun d => d.parameters.length) = some 3 := by decide +kernel
theorem zd_X8_begin : yX8_begin.cls = RX8 ∧ yX8_begin.cls ≠ "java/lang/invoke/MethodHandle" ∧ yX8_begin.cls ≠ "java/lang/invoke/VarHandle" ∧ (parseMethodDescriptor yX8_begin.desc).map (fun d => d.parameters.length) = some 0 := by decide +kernel
theorem zd_X8_begins : yX8_begins.cls = RX8 ∧ yX8_begins.cls ≠ "java/lang/invoke/MethodHandle" ∧ yX8_begins.cls ≠ "java/lang/invoke/VarHandle" ∧ (parseMethodDescriptor yX8_begins.desc).map (fun d => d.parameters.length) = some 2 := by decide +kernel
theorem zd_X8_bestFrom : yX8_bestFrom.cls = RX8 ∧ yX8_bestFrom.cls ≠ "java/lang/invoke/MethodHandle" ∧ yX8_bestFrom.cls ≠ "java/lang/invoke/VarHandle" ∧ (parseMethodDescriptor yX8_bestFrom.desc).map (fun d => d.parameters.length) = some 3 := by decide +kernel
theorem zd_X8_between : yX8_between.cls = RX8 ∧ yX8_between.cls ≠ "java/lang/invoke/MethodHandle" ∧ yX8_between.cls ≠ "java/lang/invoke/VarHandle" ∧ (parseMethodDescriptor yX8_between.desc).map (fun d => d.parameters.length) = some 2 := by decide +kernel
theorem zd_X8_byCode : yX8_byCode.cls = RX8 ∧ yX8_byCode.cls ≠ "java/lang/invoke/MethodHandle" ∧ yX8_byCode.cls ≠ "java/lang/invoke/VarHandle" ∧ (parseMethodDescriptor yX8_byCode.desc).map (fun d => d.parameters.length) = some 2 := by decide +kernel
theorem zd_X8_codes : yX8_codes.cls = RX8 ∧ yX8_codes.cls ≠ "java/lang/invoke/MethodHandle" ∧ yX8_codes.cls ≠ "java/lang/invoke/VarHandle" ∧ (parseMethodDescriptor yX8_codes.desc).map (fun d => d.parameters.length) = some 0 := by decide +kernel
theorem zd_X8_copy : yX8_copy.cls = RX8 ∧ yX8_copy.cls ≠ "java/lang/invoke/MethodHandle" ∧ yX8_copy.cls ≠ "java/lang/invoke/VarHandle" ∧ (parseMethodDescriptor yX8_copy.desc).map (fun d => d.parameters.length) = some 5 := by decide +kernel
theorem zd_X8_doesFit : yX8_doesFit.cls = RX8 ∧ yX8_doesFit.cls ≠ "java/lang/invoke/MethodHandle" ∧ yX8_doesFit.cls ≠ "java/lang/invoke/VarHandle" ∧ (parseMethodDescriptor yX8_doesFit.desc).map (fun d => d.parameters.length) = some 1 := by decide +kernel
theorem zd_X8_drawWhy : yX8_drawWhy.cls = RX8 ∧ yX8_drawWhy.cls ≠ "java/lang/invoke/MethodHandle" ∧ yX8_drawWhy.cls ≠ "java/lang/invoke/VarHandle" ∧ (parseMethodDescriptor yX8_drawWhy.desc).map (fun d => d.parameters.length) = some 4 := by decide +kernel
theorem zd_X8_figureHas : yX8_figureHas.cls = RX8 ∧ yX8_figureHas.cls ≠ "java/lang/invoke/MethodHandle" ∧ yX8_figureHas.cls ≠ "java/lang/invoke/VarHandle" ∧ (parseMethodDescriptor yX8_figureHas.desc).map (fun d => d.parameters.length) = some 3 := by decide +kernel
theorem zd_X8_figureLine : yX8_figureLine.cls = RX8 ∧ yX8_figureLine.cls ≠ "java/lang/invoke/MethodHandle" ∧ yX8_figureLine.cls ≠ "java/lang/invoke/VarHandle" ∧ (parseMethodDescriptor yX8_figureLine.desc).map (fun d => d.parameters.length) = some 0 := by decide +kernel
theorem zd_X8_galleryLine : yX8_galleryLine.cls = RX8 ∧ yX8_galleryLine.cls ≠ "java/lang/invoke/MethodHandle" ∧ yX8_galleryLine.cls ≠ "java/lang/invoke/VarHandle" ∧ (parseMethodDescriptor yX8_galleryLine.desc).map (fun d => d.parameters.length) = some 0 := by decide +kernel
theorem zd_X8_goRound : yX8_goRound.cls = RX8 ∧ yX8_goRound.cls ≠ "java/lang/invoke/MethodHandle" ∧ yX8_goRound.cls ≠ "java/lang/invoke/VarHandle" ∧ (parseMethodDescriptor yX8_goRound.desc).map (fun d => d.parameters.length) = some 0 := by decide +kernel
theorem zd_X8_good : yX8_good.cls = RX8 ∧ yX8_good.cls ≠ "java/lang/invoke/MethodHandle" ∧ yX8_good.cls ≠ "java/lang/invoke/VarHandle" ∧ (parseMethodDescriptor yX8_good.desc).map (fun d => d.parameters.length) = some 0 := by decide +kernel
theorem zd_X8_hasBit : yX8_hasBit.cls = RX8 ∧ yX8_hasBit.cls ≠ "java/lang/invoke/MethodHandle" ∧ yX8_hasBit.cls ≠ "java/lang/invoke/VarHandle" ∧ (parseMethodDescriptor yX8_hasBit.desc).map (fun d => d.parameters.length) = some 2 := by decide +kernel
theorem zd_X8_in : yX8_in.cls = RX8 ∧ yX8_in.cls ≠ "java/lang/invoke/MethodHandle" ∧ yX8_in.cls ≠ "java/lang/invoke/VarHandle" ∧ (parseMethodDescriptor yX8_in.desc).map (fun d => d.parameters.length) = some 3 := by decide +kernel
theorem zd_X8_isDigit : yX8_isDigit.cls = RX8 ∧ yX8_isDigit.cls ≠ "java/lang/invoke/MethodHandle" ∧ yX8_isDigit.cls ≠ "java/lang/invoke/VarHandle" ∧ (parseMethodDescriptor yX8_isDigit.desc).map (fun d => d.parameters.length) = some 1 := by decide +kernel
theorem zd_X8_isFigure : yX8_isFigure.cls = RX8 ∧ yX8_isFigure.cls ≠ "java/lang/invoke/MethodHandle" ∧ yX8_isFigure.cls ≠ "java/lang/invoke/VarHandle" ∧ (parseMethodDescriptor yX8_isFigure.desc).map (fun d => d.parameters.length) = some 1 := by decide +kernel
theorem zd_X8_isKnown : yX8_isKnown.cls = RX8 ∧ yX8_isKnown.cls ≠ "java/lang/invoke/MethodHandle" ∧ yX8_isKnown.cls ≠ "java/lang/invoke/VarHandle" ∧ (parseMethodDescriptor yX8_isKnown.desc).map (fun d => d.parameters.length) = some 0 := by decide +kernel
theorem zd_X8_isNot : yX8_isNot.cls = RX8 ∧ yX8_isNot.cls ≠ "java/lang/invoke/MethodHandle" ∧ yX8_isNot.cls ≠ "java/lang/invoke/VarHandle" ∧ (parseMethodDescriptor yX8_isNot.desc).map (fun d => d.parameters.length) = some 1 := by decide +kernel
theorem zd_X8_isSmall : yX8_isSmall.cls = RX8 ∧ yX8_isSmall.cls ≠ "java/lang/invoke/MethodHandle" ∧ yX8_isSmall.cls ≠ "java/lang/invoke/VarHandle" ∧ (parseMethodDescriptor yX8_isSmall.desc).map (fun d => d.parameters.length) = some 1 := by decide +kernel
theorem zd_X8_isWatched : yX8_isWatched.cls = RX8 ∧ yX8_isWatched.cls ≠ "java/lang/invoke/MethodHandle" ∧ yX8_isWatched.cls ≠ "java/lang/invoke/VarHandle" ∧ (parseMethodDescriptor yX8_isWatched.desc).map (fun d => d.parameters.length) = some 2 := by decide +kernel
theorem zd_X8_isWatcher : yX8_isWatcher.cls = RX8 ∧ yX8_isWatcher.cls ≠ "java/lang/invoke/MethodHandle" ∧ yX8_isWatcher.cls ≠ "java/lang/invoke/VarHandle" ∧ (parseMethodDescriptor yX8_isWatcher.desc).map (fun d => d.parameters.length) = some 1 := by decide +kernel
theorem zd_X8_isWord : yX8_isWord.cls = RX8 ∧ yX8_isWord.cls ≠ "java/lang/invoke/MethodHandle" ∧ yX8_isWord.cls ≠ "java/lang/invoke/VarHandle" ∧ (parseMethodDescriptor yX8_isWord.desc).map (fun d => d.parameters.length) = some 1 := by decide +kernel
theorem zd_X8_last : yX8_last.cls = RX8 ∧ yX8_last.cls ≠ "java/lang/invoke/MethodHandle" ∧ yX8_last.cls ≠ "java/lang/invoke/VarHandle" ∧ (parseMethodDescriptor yX8_last.desc).map (fun d => d.parameters.length) = some 0 := by decide +kernel
theorem zd_X8_lawLine : yX8_lawLine.cls = RX8 ∧ yX8_lawLine.cls ≠ "java/lang/invoke/MethodHandle" ∧ yX8_lawLine.cls ≠ "java/lang/invoke/VarHandle" ∧ (parseMethodDescriptor yX8_lawLine.desc).map (fun d => d.parameters.length) = some 0 := by decide +kernel
theorem zd_X8_layOften : yX8_layOften.cls = RX8 ∧ yX8_layOften.cls ≠ "java/lang/invoke/MethodHandle" ∧ yX8_layOften.cls ≠ "java/lang/invoke/VarHandle" ∧ (parseMethodDescriptor yX8_layOften.desc).map (fun d => d.parameters.length) = some 1 := by decide +kernel
theorem zd_X8_layRoute : yX8_layRoute.cls = RX8 ∧ yX8_layRoute.cls ≠ "java/lang/invoke/MethodHandle" ∧ yX8_layRoute.cls ≠ "java/lang/invoke/VarHandle" ∧ (parseMethodDescriptor yX8_layRoute.desc).map (fun d => d.parameters.length) = some 1 := by decide +kernel
theorem zd_X8_lookOf : yX8_lookOf.cls = RX8 ∧ yX8_lookOf.cls ≠ "java/lang/invoke/MethodHandle" ∧ yX8_lookOf.cls ≠ "java/lang/invoke/VarHandle" ∧ (parseMethodDescriptor yX8_lookOf.desc).map (fun d => d.parameters.length) = some 0 := by decide +kernel
theorem zd_X8_lowest : yX8_lowest.cls = RX8 ∧ yX8_lowest.cls ≠ "java/lang/invoke/MethodHandle" ∧ yX8_lowest.cls ≠ "java/lang/invoke/VarHandle" ∧ (parseMethodDescriptor yX8_lowest.desc).map (fun d => d.parameters.length) = some 3 := by decide +kernel
theorem zd_X8_minuteOn : yX8_minuteOn.cls = RX8 ∧ yX8_minuteOn.cls ≠ "java/lang/invoke/MethodHandle" ∧ yX8_minuteOn.cls ≠ "java/lang/invoke/VarHandle" ∧ (parseMethodDescriptor yX8_minuteOn.desc).map (fun d => d.parameters.length) = some 1 := by decide +kernel
theorem zd_X8_minutesOn : yX8_minutesOn.cls = RX8 ∧ yX8_minutesOn.cls ≠ "java/lang/invoke/MethodHandle" ∧ yX8_minutesOn.cls ≠ "java/lang/invoke/VarHandle" ∧ (parseMethodDescriptor yX8_minutesOn.desc).map (fun d => d.parameters.length) = some 1 := by decide +kernel
theorem zd_X8_must : yX8_must.cls = RX8 ∧ yX8_must.cls ≠ "java/lang/invoke/MethodHandle" ∧ yX8_must.cls ≠ "java/lang/invoke/VarHandle" ∧ (parseMethodDescriptor yX8_must.desc).map (fun d => d.parameters.length) = some 1 := by decide +kernel
theorem zd_X8_newName : yX8_newName.cls = RX8 ∧ yX8_newName.cls ≠ "java/lang/invoke/MethodHandle" ∧ yX8_newName.cls ≠ "java/lang/invoke/VarHandle" ∧ (parseMethodDescriptor yX8_newName.desc).map (fun d => d.parameters.length) = some 1 := by decide +kernel
theorem zd_X8_next : yX8_next.cls = RX8 ∧ yX8_next.cls ≠ "java/lang/invoke/MethodHandle" ∧ yX8_next.cls ≠ "java/lang/invoke/VarHandle" ∧ (parseMethodDescriptor yX8_next.desc).map (fun d => d.parameters.length) = some 0 := by decide +kernel
theorem zd_X8_nextGone : yX8_nextGone.cls = RX8 ∧ yX8_nextGone.cls ≠ "java/lang/invoke/MethodHandle" ∧ yX8_nextGone.cls ≠ "java/lang/invoke/VarHandle" ∧ (parseMethodDescriptor yX8_nextGone.desc).map (fun d => d.parameters.length) = some 0 := by decide +kernel
theorem zd_X8_nextOf : yX8_nextOf.cls = RX8 ∧ yX8_nextOf.cls ≠ "java/lang/invoke/MethodHandle" ∧ yX8_nextOf.cls ≠ "java/lang/invoke/VarHandle" ∧ (parseMethodDescriptor yX8_nextOf.desc).map (fun d => d.parameters.length) = some 1 := by decide +kernel
theorem zd_X8_no : yX8_no.cls = RX8 ∧ yX8_no.cls ≠ "java/lang/invoke/MethodHandle" ∧ yX8_no.cls ≠ "java/lang/invoke/VarHandle" ∧ (parseMethodDescriptor yX8_no.desc).map (fun d => d.parameters.length) = some 1 := by decide +kernel
theorem zd_X8_note : yX8_note.cls = RX8 ∧ yX8_note.cls ≠ "java/lang/invoke/MethodHandle" ∧ yX8_note.cls ≠ "java/lang/invoke/VarHandle" ∧ (parseMethodDescriptor yX8_note.desc).map (fun d => d.parameters.length) = some 0 := by decide +kernel
theorem zd_X8_number : yX8_number.cls = RX8 ∧ yX8_number.cls ≠ "java/lang/invoke/MethodHandle" ∧ yX8_number.cls ≠ "java/lang/invoke/VarHandle" ∧ (parseMethodDescriptor yX8_number.desc).map (fun d => d.parameters.length) = some 2 := by decide +kernel
theorem zd_X8_numberHere : yX8_numberHere.cls = RX8 ∧ yX8_numberHere.cls ≠ "java/lang/invoke/MethodHandle" ∧ yX8_numberHere.cls ≠ "java/lang/invoke/VarHandle" ∧ (parseMethodDescriptor yX8_numberHere.desc).map (fun d => d.parameters.length) = some 2 := by decide +kernel
theorem zd_X8_numberOf : yX8_numberOf.cls = RX8 ∧ yX8_numberOf.cls ≠ "java/lang/invoke/MethodHandle" ∧ yX8_numberOf.cls ≠ "java/lang/invoke/VarHandle" ∧ (parseMethodDescriptor yX8_numberOf.desc).map (fun d => d.parameters.length) = some 1 := by decide +kernel
theorem zd_X8_ones : yX8_ones.cls = RX8 ∧ yX8_ones.cls ≠ "java/lang/invoke/MethodHandle" ∧ yX8_ones.cls ≠ "java/lang/invoke/VarHandle" ∧ (parseMethodDescriptor yX8_ones.desc).map (fun d => d.parameters.length) = some 1 := by decide +kernel
theorem zd_X8_otherHas : yX8_otherHas.cls = RX8 ∧ yX8_otherHas.cls ≠ "java/lang/invoke/MethodHandle" ∧ yX8_otherHas.cls ≠ "java/lang/invoke/VarHandle" ∧ (parseMethodDescriptor yX8_otherHas.desc).map (fun d => d.parameters.length) = some 2 := by decide +kernel
theorem zd_X8_pass : yX8_pass.cls = RX8 ∧ yX8_pass.cls ≠ "java/lang/invoke/MethodHandle" ∧ yX8_pass.cls ≠ "java/lang/invoke/VarHandle" ∧ (parseMethodDescriptor yX8_pass.desc).map (fun d => d.parameters.length) = some 0 := by decide +kernel
theorem zd_X8_readLine : yX8_readLine.cls = RX8 ∧ yX8_readLine.cls ≠ "java/lang/invoke/MethodHandle" ∧ yX8_readLine.cls ≠ "java/lang/invoke/VarHandle" ∧ (parseMethodDescriptor yX8_readLine.desc).map (fun d => d.parameters.length) = some 0 := by decide +kernel
theorem zd_X8_routeWhy : yX8_routeWhy.cls = RX8 ∧ yX8_routeWhy.cls ≠ "java/lang/invoke/MethodHandle" ∧ yX8_routeWhy.cls ≠ "java/lang/invoke/VarHandle" ∧ (parseMethodDescriptor yX8_routeWhy.desc).map (fun d => d.parameters.length) = some 2 := by decide +kernel
theorem zd_X8_see : yX8_see.cls = RX8 ∧ yX8_see.cls ≠ "java/lang/invoke/MethodHandle" ∧ yX8_see.cls ≠ "java/lang/invoke/VarHandle" ∧ (parseMethodDescriptor yX8_see.desc).map (fun d => d.parameters.length) = some 1 := by decide +kernel
theorem zd_X8_seekRests : yX8_seekRests.cls = RX8 ∧ yX8_seekRests.cls ≠ "java/lang/invoke/MethodHandle" ∧ yX8_seekRests.cls ≠ "java/lang/invoke/VarHandle" ∧ (parseMethodDescriptor yX8_seekRests.desc).map (fun d => d.parameters.length) = some 1 := by decide +kernel
theorem zd_X8_seenLine : yX8_seenLine.cls = RX8 ∧ yX8_seenLine.cls ≠ "java/lang/invoke/MethodHandle" ∧ yX8_seenLine.cls ≠ "java/lang/invoke/VarHandle" ∧ (parseMethodDescriptor yX8_seenLine.desc).map (fun d => d.parameters.length) = some 0 := by decide +kernel
theorem zd_X8_speakOn : yX8_speakOn.cls = RX8 ∧ yX8_speakOn.cls ≠ "java/lang/invoke/MethodHandle" ∧ yX8_speakOn.cls ≠ "java/lang/invoke/VarHandle" ∧ (parseMethodDescriptor yX8_speakOn.desc).map (fun d => d.parameters.length) = some 2 := by decide +kernel
theorem zd_X8_takesWord : yX8_takesWord.cls = RX8 ∧ yX8_takesWord.cls ≠ "java/lang/invoke/MethodHandle" ∧ yX8_takesWord.cls ≠ "java/lang/invoke/VarHandle" ∧ (parseMethodDescriptor yX8_takesWord.desc).map (fun d => d.parameters.length) = some 1 := by decide +kernel
theorem zd_X8_turnAt : yX8_turnAt.cls = RX8 ∧ yX8_turnAt.cls ≠ "java/lang/invoke/MethodHandle" ∧ yX8_turnAt.cls ≠ "java/lang/invoke/VarHandle" ∧ (parseMethodDescriptor yX8_turnAt.desc).map (fun d => d.parameters.length) = some 1 := by decide +kernel
theorem zd_X8_turnBy : yX8_turnBy.cls = RX8 ∧ yX8_turnBy.cls ≠ "java/lang/invoke/MethodHandle" ∧ yX8_turnBy.cls ≠ "java/lang/invoke/VarHandle" ∧ (parseMethodDescriptor yX8_turnBy.desc).map (fun d => d.parameters.length) = some 4 := by decide +kernel
theorem zd_X8_turnsOf : yX8_turnsOf.cls = RX8 ∧ yX8_turnsOf.cls ≠ "java/lang/invoke/MethodHandle" ∧ yX8_turnsOf.cls ≠ "java/lang/invoke/VarHandle" ∧ (parseMethodDescriptor yX8_turnsOf.desc).map (fun d => d.parameters.length) = some 2 := by decide +kernel
theorem zd_X8_walkOn : yX8_walkOn.cls = RX8 ∧ yX8_walkOn.cls ≠ "java/lang/invoke/MethodHandle" ∧ yX8_walkOn.cls ≠ "java/lang/invoke/VarHandle" ∧ (parseMethodDescriptor yX8_walkOn.desc).map (fun d => d.parameters.length) = some 2 := by decide +kernel
theorem zd_X8_watchAsTold : yX8_watchAsTold.cls = RX8 ∧ yX8_watchAsTold.cls ≠ "java/lang/invoke/MethodHandle" ∧ yX8_watchAsTold.cls ≠ "java/lang/invoke/VarHandle" ∧ (parseMethodDescriptor yX8_watchAsTold.desc).map (fun d => d.parameters.length) = some 0 := by decide +kernel
theorem zd_X8_watcherAt : yX8_watcherAt.cls = RX8 ∧ yX8_watcherAt.cls ≠ "java/lang/invoke/MethodHandle" ∧ yX8_watcherAt.cls ≠ "java/lang/invoke/VarHandle" ∧ (parseMethodDescriptor yX8_watcherAt.desc).map (fun d => d.parameters.length) = some 2 := by decide +kernel
theorem zd_X8_watcherLine : yX8_watcherLine.cls = RX8 ∧ yX8_watcherLine.cls ≠ "java/lang/invoke/MethodHandle" ∧ yX8_watcherLine.cls ≠ "java/lang/invoke/VarHandle" ∧ (parseMethodDescriptor yX8_watcherLine.desc).map (fun d => d.parameters.length) = some 0 := by decide +kernel
theorem zd_X8_why : yX8_why.cls = RX8 ∧ yX8_why.cls ≠ "java/lang/invoke/MethodHandle" ∧ yX8_why.cls ≠ "java/lang/invoke/VarHandle" ∧ (parseMethodDescriptor yX8_why.desc).map (fun d => d.parameters.length) = some 2 := by decide +kernel
theorem zd_X8_wrong : yX8_wrong.cls = RX8 ∧ yX8_wrong.cls ≠ "java/lang/invoke/MethodHandle" ∧ yX8_wrong.cls ≠ "java/lang/invoke/VarHandle" ∧ (parseMethodDescriptor yX8_wrong.desc).map (fun d => d.parameters.length) = some 2 := by decide +kernel
theorem zi_X0_addFigure_0 : ∀ w ∈ u_ws RX0 TX0 15, w ∈ wsX0_addFigure := fun _ h => (List.mem_cons_of_mem _ (List.mem_append_right _ h))
theorem zi_X0_addSeen_0 : ∀ w ∈ u_ws RX0 TX0 15, w ∈ wsX0_addSeen := fun _ h => (List.mem_cons_of_mem _ (List.mem_append_right _ h))
theorem zi_X0_aliveByLaw_0 : ∀ w ∈ u_ws RX0 TX0 15, w ∈ wsX0_aliveByLaw := fun _ h => (List.mem_cons_of_mem _ (List.mem_append_right _ h))
theorem zi_X0_clear_0 : ∀ w ∈ u_ws RX0 TX0 15, w ∈ wsX0_clear := fun _ h => (List.mem_cons_of_mem _ (List.mem_append_left _ (List.mem_append_right _ h)))
theorem zi_X0_clear_6 : ∀ w ∈ u_ws RX6 TX6 4, w ∈ wsX0_clear := fun _ h => (List.mem_cons_of_mem _ (List.mem_append_right _ h))
theorem zi_X0_goesLike_0 : ∀ w ∈ u_ws RX0 TX0 15, w ∈ wsX0_goesLike := fun _ h => (List.mem_cons_of_mem _ (List.mem_append_right _ h))
theorem zi_X0_isSeenMinute_0 : ∀ w ∈ u_ws RX0 TX0 15, w ∈ wsX0_isSeenMinute := fun _ h => (List.mem_cons_of_mem _ (List.mem_append_right _ h))
theorem zi_X0_nearer_0 : ∀ w ∈ u_ws RX0 TX0 15, w ∈ wsX0_nearer := fun _ h => (List.mem_cons_of_mem _ (List.mem_append_right _ h))
theorem zi_X0_next_0 : ∀ w ∈ u_ws RX0 TX0 15, w ∈ wsX0_next := fun _ h => (List.mem_cons_of_mem _ (List.mem_append_right _ h))
theorem zi_X0_partSaid_0 : ∀ w ∈ u_ws RX0 TX0 15, w ∈ wsX0_partSaid := fun _ h => (List.mem_cons_of_mem _ (List.mem_append_right _ h))
theorem zi_X0_pass_0 : ∀ w ∈ u_ws RX0 TX0 15, w ∈ wsX0_pass := fun _ h => (List.mem_cons_of_mem _ (List.mem_append_left _ (List.mem_append_right _ h)))
theorem zi_X0_pass_5 : ∀ w ∈ u_ws RX5 TX5 7, w ∈ wsX0_pass := fun _ h => (List.mem_cons_of_mem _ (List.mem_append_left _ (List.mem_append_left _ (List.mem_append_right _ h))))
theorem zi_X0_sizeTold_0 : ∀ w ∈ u_ws RX0 TX0 15, w ∈ wsX0_sizeTold := fun _ h => (List.mem_cons_of_mem _ (List.mem_append_left _ (List.mem_append_right _ h)))
theorem zi_X0_sizeTold_6 : ∀ w ∈ u_ws RX6 TX6 4, w ∈ wsX0_sizeTold := fun _ h => (List.mem_cons_of_mem _ (List.mem_append_right _ h))
theorem zi_X0_step_0 : ∀ w ∈ u_ws RX0 TX0 15, w ∈ wsX0_step := fun _ h => (List.mem_cons_of_mem _ (List.mem_append_left _ (List.mem_append_right _ h)))
theorem zi_X0_step_5 : ∀ w ∈ u_ws RX5 TX5 7, w ∈ wsX0_step := fun _ h => (List.mem_cons_of_mem _ (List.mem_append_left _ (List.mem_append_left _ (List.mem_append_right _ h))))
theorem zi_X0_stepsIn_0 : ∀ w ∈ u_ws RX0 TX0 15, w ∈ wsX0_stepsIn := fun _ h => (List.mem_cons_of_mem _ (List.mem_append_right _ h))
theorem zi_X1_addImage_1 : ∀ w ∈ u_ws RX1 TX1 5, w ∈ wsX1_addImage := fun _ h => (List.mem_cons_of_mem _ (List.mem_append_left _ (List.mem_append_right _ h)))
theorem zi_X1_clear_1 : ∀ w ∈ u_ws RX1 TX1 5, w ∈ wsX1_clear := fun _ h => (List.mem_cons_of_mem _ (List.mem_append_right _ h))
theorem zi_X1_goBack_1 : ∀ w ∈ u_ws RX1 TX1 5, w ∈ wsX1_goBack := fun _ h => (List.mem_cons_of_mem _ (List.mem_append_left _ (List.mem_append_right _ h)))
theorem zi_X1_keep_1 : ∀ w ∈ u_ws RX1 TX1 5, w ∈ wsX1_keep := fun _ h => (List.mem_cons_of_mem _ (List.mem_append_left _ (List.mem_append_right _ h)))
theorem zi_X1_takeLatest_1 : ∀ w ∈ u_ws RX1 TX1 5, w ∈ wsX1_takeLatest := fun _ h => (List.mem_cons_of_mem _ (List.mem_append_left _ (List.mem_append_right _ h)))
theorem zi_X2_addIfFit_0 : ∀ w ∈ u_ws RX0 TX0 15, w ∈ wsX2_addIfFit := fun _ h => (List.mem_cons_of_mem _ (List.mem_append_left _ (List.mem_append_right _ h)))
theorem zi_X2_addIfFit_2 : ∀ w ∈ u_ws RX2 TX2 7, w ∈ wsX2_addIfFit := fun _ h => (List.mem_cons_of_mem _ (List.mem_append_right _ h))
theorem zi_X2_chooseLook_0 : ∀ w ∈ u_ws RX0 TX0 15, w ∈ wsX2_chooseLook := fun _ h => (List.mem_cons_of_mem _ (List.mem_append_right _ h))
theorem zi_X2_chooseLook_2 : ∀ w ∈ u_ws RX2 TX2 7, w ∈ wsX2_chooseLook := fun _ h => (List.mem_cons_of_mem _ (List.mem_append_left _ (List.mem_append_right _ h)))
theorem zi_X2_forget_2 : ∀ w ∈ u_ws RX2 TX2 7, w ∈ wsX2_forget := fun _ h => (List.mem_cons_of_mem _ (List.mem_append_right _ h))
theorem zi_X2_list_0 : ∀ w ∈ u_ws RX0 TX0 15, w ∈ wsX2_list := fun _ h => (List.mem_cons_of_mem _ (List.mem_append_right _ h))
theorem zi_X2_list_2 : ∀ w ∈ u_ws RX2 TX2 7, w ∈ wsX2_list := fun _ h => (List.mem_cons_of_mem _ (List.mem_append_left _ (List.mem_append_right _ h)))
theorem zi_X2_mostOf_2 : ∀ w ∈ u_ws RX2 TX2 7, w ∈ wsX2_mostOf := fun _ h => (List.mem_cons_of_mem _ (List.mem_append_right _ h))
theorem zi_X2_tally_2 : ∀ w ∈ u_ws RX2 TX2 7, w ∈ wsX2_tally := fun _ h => (List.mem_cons_of_mem _ (List.mem_append_right _ h))
theorem zi_X3_advance_3 : ∀ w ∈ u_ws RX3 TX3 14, w ∈ wsX3_advance := fun _ h => (List.mem_cons_of_mem _ (List.mem_append_right _ h))
theorem zi_X3_append_3 : ∀ w ∈ u_ws RX3 TX3 14, w ∈ wsX3_append := fun _ h => (List.mem_cons_of_mem _ (List.mem_append_right _ h))
theorem zi_X3_exchange_3 : ∀ w ∈ u_ws RX3 TX3 14, w ∈ wsX3_exchange := fun _ h => (List.mem_cons_of_mem _ (List.mem_append_right _ h))
theorem zi_X3_fails_3 : ∀ w ∈ u_ws RX3 TX3 14, w ∈ wsX3_fails := fun _ h => (List.mem_cons_of_mem _ (List.mem_append_right _ h))
theorem zi_X3_isWholeWithin_3 : ∀ w ∈ u_ws RX3 TX3 14, w ∈ wsX3_isWholeWithin := fun _ h => (List.mem_cons_of_mem _ (List.mem_append_right _ h))
theorem zi_X3_isWord_3 : ∀ w ∈ u_ws RX3 TX3 14, w ∈ wsX3_isWord := fun _ h => (List.mem_cons_of_mem _ (List.mem_append_right _ h))
theorem zi_X3_readFigure_0 : ∀ w ∈ u_ws RX0 TX0 15, w ∈ wsX3_readFigure := fun _ h => (List.mem_cons_of_mem _ (List.mem_append_right _ h))
theorem zi_X3_readFigure_3 : ∀ w ∈ u_ws RX3 TX3 14, w ∈ wsX3_readFigure := fun _ h => (List.mem_cons_of_mem _ (List.mem_append_left _ (List.mem_append_right _ h)))
theorem zi_X3_readHall_0 : ∀ w ∈ u_ws RX0 TX0 15, w ∈ wsX3_readHall := fun _ h => (List.mem_cons_of_mem _ (List.mem_append_right _ h))
theorem zi_X3_readHall_3 : ∀ w ∈ u_ws RX3 TX3 14, w ∈ wsX3_readHall := fun _ h => (List.mem_cons_of_mem _ (List.mem_append_left _ (List.mem_append_right _ h)))
theorem zi_X3_readLaw_0 : ∀ w ∈ u_ws RX0 TX0 15, w ∈ wsX3_readLaw := fun _ h => (List.mem_cons_of_mem _ (List.mem_append_right _ h))
theorem zi_X3_readLaw_3 : ∀ w ∈ u_ws RX3 TX3 14, w ∈ wsX3_readLaw := fun _ h => (List.mem_cons_of_mem _ (List.mem_append_left _ (List.mem_append_right _ h)))
theorem zi_X3_readLine_0 : ∀ w ∈ u_ws RX0 TX0 15, w ∈ wsX3_readLine := fun _ h => (List.mem_cons_of_mem _ (List.mem_append_left _ (List.mem_append_right _ h)))
theorem zi_X3_readLine_3 : ∀ w ∈ u_ws RX3 TX3 14, w ∈ wsX3_readLine := fun _ h => (List.mem_cons_of_mem _ (List.mem_append_left _ (List.mem_append_left _ (List.mem_append_right _ h))))
theorem zi_X3_readLine_6 : ∀ w ∈ u_ws RX6 TX6 4, w ∈ wsX3_readLine := fun _ h => (List.mem_cons_of_mem _ (List.mem_append_right _ h))
theorem zi_X3_readSeen_0 : ∀ w ∈ u_ws RX0 TX0 15, w ∈ wsX3_readSeen := fun _ h => (List.mem_cons_of_mem _ (List.mem_append_right _ h))
theorem zi_X3_readSeen_3 : ∀ w ∈ u_ws RX3 TX3 14, w ∈ wsX3_readSeen := fun _ h => (List.mem_cons_of_mem _ (List.mem_append_left _ (List.mem_append_right _ h)))
theorem zi_X3_readWatcher_0 : ∀ w ∈ u_ws RX0 TX0 15, w ∈ wsX3_readWatcher := fun _ h => (List.mem_cons_of_mem _ (List.mem_append_left _ (List.mem_append_right _ h)))
theorem zi_X3_readWatcher_3 : ∀ w ∈ u_ws RX3 TX3 14, w ∈ wsX3_readWatcher := fun _ h => (List.mem_cons_of_mem _ (List.mem_append_left _ (List.mem_append_left _ (List.mem_append_right _ h))))
theorem zi_X3_read_0 : ∀ w ∈ u_ws RX0 TX0 15, w ∈ wsX3_read := fun _ h => (List.mem_cons_of_mem _ (List.mem_append_left _ (List.mem_append_right _ h)))
theorem zi_X3_read_3 : ∀ w ∈ u_ws RX3 TX3 14, w ∈ wsX3_read := fun _ h => (List.mem_cons_of_mem _ (List.mem_append_left _ (List.mem_append_left _ (List.mem_append_right _ h))))
theorem zi_X3_scanWhole_3 : ∀ w ∈ u_ws RX3 TX3 14, w ∈ wsX3_scanWhole := fun _ h => (List.mem_cons_of_mem _ (List.mem_append_right _ h))
theorem zi_X3_scanWord_3 : ∀ w ∈ u_ws RX3 TX3 14, w ∈ wsX3_scanWord := fun _ h => (List.mem_cons_of_mem _ (List.mem_append_right _ h))
theorem zi_X3_takeName_3 : ∀ w ∈ u_ws RX3 TX3 14, w ∈ wsX3_takeName := fun _ h => (List.mem_cons_of_mem _ (List.mem_append_right _ h))
theorem zi_X3_takeWhole_3 : ∀ w ∈ u_ws RX3 TX3 14, w ∈ wsX3_takeWhole := fun _ h => (List.mem_cons_of_mem _ (List.mem_append_right _ h))
theorem zi_X4_aim_4 : ∀ w ∈ u_ws RX4 TX4 3, w ∈ wsX4_aim := fun _ h => (List.mem_cons_of_mem _ (List.mem_append_right _ h))
theorem zi_X4_minutesWith_4 : ∀ w ∈ u_ws RX4 TX4 3, w ∈ wsX4_minutesWith := fun _ h => (List.mem_cons_of_mem _ (List.mem_append_right _ h))
theorem zi_X4_step_4 : ∀ w ∈ u_ws RX4 TX4 3, w ∈ wsX4_step := fun _ h => (List.mem_cons_of_mem _ (List.mem_append_right _ h))
theorem zi_X4_weigh_4 : ∀ w ∈ u_ws RX4 TX4 3, w ∈ wsX4_weigh := fun _ h => (List.mem_cons_of_mem _ (List.mem_append_right _ h))
theorem zi_X4_worth_4 : ∀ w ∈ u_ws RX4 TX4 3, w ∈ wsX4_worth := fun _ h => (List.mem_cons_of_mem _ (List.mem_append_right _ h))
theorem zi_X5_begin_5 : ∀ w ∈ u_ws RX5 TX5 7, w ∈ wsX5_begin := fun _ h => (List.mem_cons_of_mem _ (List.mem_append_right _ h))
theorem zi_X5_copyFrom_5 : ∀ w ∈ u_ws RX5 TX5 7, w ∈ wsX5_copyFrom := fun _ h => (List.mem_cons_of_mem _ (List.mem_append_right _ h))
theorem zi_X5_isGone_5 : ∀ w ∈ u_ws RX5 TX5 7, w ∈ wsX5_isGone := fun _ h => (List.mem_cons_of_mem _ (List.mem_append_right _ h))
theorem zi_X5_startTurn_5 : ∀ w ∈ u_ws RX5 TX5 7, w ∈ wsX5_startTurn := fun _ h => (List.mem_cons_of_mem _ (List.mem_append_right _ h))
theorem zi_X6_add_6 : ∀ w ∈ u_ws RX6 TX6 4, w ∈ wsX6_add := fun _ h => (List.mem_cons_of_mem _ (List.mem_append_right _ h))
theorem zi_X6_copyFrom_6 : ∀ w ∈ u_ws RX6 TX6 4, w ∈ wsX6_copyFrom := fun _ h => (List.mem_cons_of_mem _ (List.mem_append_right _ h))
theorem zi_X6_placeOf_6 : ∀ w ∈ u_ws RX6 TX6 4, w ∈ wsX6_placeOf := fun _ h => (List.mem_cons_of_mem _ (List.mem_append_right _ h))
theorem zi_X6_placesIn_6 : ∀ w ∈ u_ws RX6 TX6 4, w ∈ wsX6_placesIn := fun _ h => (List.mem_cons_of_mem _ (List.mem_append_right _ h))
theorem zi_X7_aliveBy_2 : ∀ w ∈ u_ws RX2 TX2 7, w ∈ wsX7_aliveBy := fun _ h => (List.mem_cons_of_mem _ (List.mem_append_left _ (List.mem_append_right _ h)))
theorem zi_X7_aliveBy_7 : ∀ w ∈ u_ws RX7 TX7 11, w ∈ wsX7_aliveBy := fun _ h => (List.mem_cons_of_mem _ (List.mem_append_left _ (List.mem_append_left _ (List.mem_append_right _ h))))
theorem zi_X7_alive_5 : ∀ w ∈ u_ws RX5 TX5 7, w ∈ wsX7_alive := fun _ h => (List.mem_cons_of_mem _ (List.mem_append_left _ (List.mem_append_right _ h)))
theorem zi_X7_alive_7 : ∀ w ∈ u_ws RX7 TX7 11, w ∈ wsX7_alive := fun _ h => (List.mem_cons_of_mem _ (List.mem_append_left _ (List.mem_append_left _ (List.mem_append_right _ h))))
theorem zi_X7_allIn_0 : ∀ w ∈ u_ws RX0 TX0 15, w ∈ wsX7_allIn := fun _ h => (List.mem_cons_of_mem _ (List.mem_append_left _ (List.mem_append_left _ (List.mem_append_right _ h))))
theorem zi_X7_allIn_5 : ∀ w ∈ u_ws RX5 TX5 7, w ∈ wsX7_allIn := fun _ h => (List.mem_cons_of_mem _ (List.mem_append_left _ (List.mem_append_right _ h)))
theorem zi_X7_allIn_7 : ∀ w ∈ u_ws RX7 TX7 11, w ∈ wsX7_allIn := fun _ h => (List.mem_cons_of_mem _ (List.mem_append_left _ (List.mem_append_left _ (List.mem_append_left _ (List.mem_append_right _ h)))))
theorem zi_X7_answered_7 : ∀ w ∈ u_ws RX7 TX7 11, w ∈ wsX7_answered := fun _ h => (List.mem_cons_of_mem _ (List.mem_append_right _ h))
theorem zi_X7_back_7 : ∀ w ∈ u_ws RX7 TX7 11, w ∈ wsX7_back := fun _ h => (List.mem_cons_of_mem _ (List.mem_append_left _ (List.mem_append_left _ (List.mem_append_right _ h))))
theorem zi_X7_called_0 : ∀ w ∈ u_ws RX0 TX0 15, w ∈ wsX7_called := fun _ h => (List.mem_cons_of_mem _ (List.mem_append_right _ h))
theorem zi_X7_called_5 : ∀ w ∈ u_ws RX5 TX5 7, w ∈ wsX7_called := fun _ h => (List.mem_cons_of_mem _ (List.mem_append_left _ (List.mem_append_right _ h)))
theorem zi_X7_called_7 : ∀ w ∈ u_ws RX7 TX7 11, w ∈ wsX7_called := fun _ h => (List.mem_cons_of_mem _ (List.mem_append_left _ (List.mem_append_left _ (List.mem_append_right _ h))))
theorem zi_X7_catches_5 : ∀ w ∈ u_ws RX5 TX5 7, w ∈ wsX7_catches := fun _ h => (List.mem_cons_of_mem _ (List.mem_append_left _ (List.mem_append_left _ (List.mem_append_right _ h))))
theorem zi_X7_catches_7 : ∀ w ∈ u_ws RX7 TX7 11, w ∈ wsX7_catches := fun _ h => (List.mem_cons_of_mem _ (List.mem_append_left _ (List.mem_append_left _ (List.mem_append_left _ (List.mem_append_right _ h)))))
theorem zi_X7_caught_5 : ∀ w ∈ u_ws RX5 TX5 7, w ∈ wsX7_caught := fun _ h => (List.mem_cons_of_mem _ (List.mem_append_left _ (List.mem_append_right _ h)))
theorem zi_X7_caught_7 : ∀ w ∈ u_ws RX7 TX7 11, w ∈ wsX7_caught := fun _ h => (List.mem_cons_of_mem _ (List.mem_append_left _ (List.mem_append_left _ (List.mem_append_right _ h))))
theorem zi_X7_could_2 : ∀ w ∈ u_ws RX2 TX2 7, w ∈ wsX7_could := fun _ h => (List.mem_cons_of_mem _ (List.mem_append_left _ (List.mem_append_right _ h)))
theorem zi_X7_could_7 : ∀ w ∈ u_ws RX7 TX7 11, w ∈ wsX7_could := fun _ h => (List.mem_cons_of_mem _ (List.mem_append_left _ (List.mem_append_left _ (List.mem_append_right _ h))))
theorem zi_X7_crowdAt_0 : ∀ w ∈ u_ws RX0 TX0 15, w ∈ wsX7_crowdAt := fun _ h => (List.mem_cons_of_mem _ (List.mem_append_left _ (List.mem_append_right _ h)))
theorem zi_X7_crowdAt_5 : ∀ w ∈ u_ws RX5 TX5 7, w ∈ wsX7_crowdAt := fun _ h => (List.mem_cons_of_mem _ (List.mem_append_right _ h))
theorem zi_X7_crowdAt_7 : ∀ w ∈ u_ws RX7 TX7 11, w ∈ wsX7_crowdAt := fun _ h => (List.mem_cons_of_mem _ (List.mem_append_left _ (List.mem_append_left _ (List.mem_append_right _ h))))
theorem zi_X7_crowd_0 : ∀ w ∈ u_ws RX0 TX0 15, w ∈ wsX7_crowd := fun _ h => (List.mem_cons_of_mem _ (List.mem_append_left _ (List.mem_append_left _ (List.mem_append_right _ h))))
theorem zi_X7_crowd_7 : ∀ w ∈ u_ws RX7 TX7 11, w ∈ wsX7_crowd := fun _ h => (List.mem_cons_of_mem _ (List.mem_append_left _ (List.mem_append_left _ (List.mem_append_left _ (List.mem_append_right _ h)))))
theorem zi_X7_dares_7 : ∀ w ∈ u_ws RX7 TX7 11, w ∈ wsX7_dares := fun _ h => (List.mem_cons_of_mem _ (List.mem_append_left _ (List.mem_append_right _ h)))
theorem zi_X7_drawn_5 : ∀ w ∈ u_ws RX5 TX5 7, w ∈ wsX7_drawn := fun _ h => (List.mem_cons_of_mem _ (List.mem_append_left _ (List.mem_append_right _ h)))
theorem zi_X7_drawn_7 : ∀ w ∈ u_ws RX7 TX7 11, w ∈ wsX7_drawn := fun _ h => (List.mem_cons_of_mem _ (List.mem_append_left _ (List.mem_append_left _ (List.mem_append_right _ h))))
theorem zi_X7_farthest_0 : ∀ w ∈ u_ws RX0 TX0 15, w ∈ wsX7_farthest := fun _ h => (List.mem_cons_of_mem _ (List.mem_append_left _ (List.mem_append_left _ (List.mem_append_right _ h))))
theorem zi_X7_farthest_5 : ∀ w ∈ u_ws RX5 TX5 7, w ∈ wsX7_farthest := fun _ h => (List.mem_cons_of_mem _ (List.mem_append_left _ (List.mem_append_right _ h)))
theorem zi_X7_farthest_7 : ∀ w ∈ u_ws RX7 TX7 11, w ∈ wsX7_farthest := fun _ h => (List.mem_cons_of_mem _ (List.mem_append_left _ (List.mem_append_left _ (List.mem_append_left _ (List.mem_append_right _ h)))))
theorem zi_X7_fault_7 : ∀ w ∈ u_ws RX7 TX7 11, w ∈ wsX7_fault := fun _ h => (List.mem_cons_of_mem _ (List.mem_append_right _ h))
theorem zi_X7_feed_3 : ∀ w ∈ u_ws RX3 TX3 14, w ∈ wsX7_feed := fun _ h => (List.mem_cons_of_mem _ (List.mem_append_right _ h))
theorem zi_X7_feed_7 : ∀ w ∈ u_ws RX7 TX7 11, w ∈ wsX7_feed := fun _ h => (List.mem_cons_of_mem _ (List.mem_append_left _ (List.mem_append_right _ h)))
theorem zi_X7_figure_0 : ∀ w ∈ u_ws RX0 TX0 15, w ∈ wsX7_figure := fun _ h => (List.mem_cons_of_mem _ (List.mem_append_left _ (List.mem_append_right _ h)))
theorem zi_X7_figure_5 : ∀ w ∈ u_ws RX5 TX5 7, w ∈ wsX7_figure := fun _ h => (List.mem_cons_of_mem _ (List.mem_append_right _ h))
theorem zi_X7_figure_7 : ∀ w ∈ u_ws RX7 TX7 11, w ∈ wsX7_figure := fun _ h => (List.mem_cons_of_mem _ (List.mem_append_left _ (List.mem_append_left _ (List.mem_append_right _ h))))
theorem zi_X7_fitAt_2 : ∀ w ∈ u_ws RX2 TX2 7, w ∈ wsX7_fitAt := fun _ h => (List.mem_cons_of_mem _ (List.mem_append_left _ (List.mem_append_right _ h)))
theorem zi_X7_fitAt_7 : ∀ w ∈ u_ws RX7 TX7 11, w ∈ wsX7_fitAt := fun _ h => (List.mem_cons_of_mem _ (List.mem_append_left _ (List.mem_append_left _ (List.mem_append_right _ h))))
theorem zi_X7_fits_2 : ∀ w ∈ u_ws RX2 TX2 7, w ∈ wsX7_fits := fun _ h => (List.mem_cons_of_mem _ (List.mem_append_left _ (List.mem_append_right _ h)))
theorem zi_X7_fits_7 : ∀ w ∈ u_ws RX7 TX7 11, w ∈ wsX7_fits := fun _ h => (List.mem_cons_of_mem _ (List.mem_append_left _ (List.mem_append_left _ (List.mem_append_right _ h))))
theorem zi_X7_gallery_0 : ∀ w ∈ u_ws RX0 TX0 15, w ∈ wsX7_gallery := fun _ h => (List.mem_cons_of_mem _ (List.mem_append_left _ (List.mem_append_left _ (List.mem_append_left _ (List.mem_append_left _ (List.mem_append_right _ h))))))
theorem zi_X7_gallery_3 : ∀ w ∈ u_ws RX3 TX3 14, w ∈ wsX7_gallery := fun _ h => (List.mem_cons_of_mem _ (List.mem_append_left _ (List.mem_append_left _ (List.mem_append_left _ (List.mem_append_left _ (List.mem_append_left _ (List.mem_append_right _ h)))))))
theorem zi_X7_gallery_7 : ∀ w ∈ u_ws RX7 TX7 11, w ∈ wsX7_gallery := fun _ h => (List.mem_cons_of_mem _ (List.mem_append_left _ (List.mem_append_left _ (List.mem_append_left _ (List.mem_append_left _ (List.mem_append_left _ (List.mem_append_left _ (List.mem_append_right _ h))))))))
theorem zi_X7_go_0 : ∀ w ∈ u_ws RX0 TX0 15, w ∈ wsX7_go := fun _ h => (List.mem_cons_of_mem _ (List.mem_append_left _ (List.mem_append_left _ (List.mem_append_right _ h))))
theorem zi_X7_go_5 : ∀ w ∈ u_ws RX5 TX5 7, w ∈ wsX7_go := fun _ h => (List.mem_cons_of_mem _ (List.mem_append_left _ (List.mem_append_left _ (List.mem_append_left _ (List.mem_append_right _ h)))))
theorem zi_X7_go_7 : ∀ w ∈ u_ws RX7 TX7 11, w ∈ wsX7_go := fun _ h => (List.mem_cons_of_mem _ (List.mem_append_left _ (List.mem_append_left _ (List.mem_append_left _ (List.mem_append_left _ (List.mem_append_right _ h))))))
theorem zi_X7_gone_5 : ∀ w ∈ u_ws RX5 TX5 7, w ∈ wsX7_gone := fun _ h => (List.mem_cons_of_mem _ (List.mem_append_left _ (List.mem_append_left _ (List.mem_append_right _ h))))
theorem zi_X7_gone_7 : ∀ w ∈ u_ws RX7 TX7 11, w ∈ wsX7_gone := fun _ h => (List.mem_cons_of_mem _ (List.mem_append_left _ (List.mem_append_left _ (List.mem_append_left _ (List.mem_append_right _ h)))))
theorem zi_X7_guard_0 : ∀ w ∈ u_ws RX0 TX0 15, w ∈ wsX7_guard := fun _ h => (List.mem_cons_of_mem _ (List.mem_append_left _ (List.mem_append_left _ (List.mem_append_right _ h))))
theorem zi_X7_guard_7 : ∀ w ∈ u_ws RX7 TX7 11, w ∈ wsX7_guard := fun _ h => (List.mem_cons_of_mem _ (List.mem_append_left _ (List.mem_append_left _ (List.mem_append_left _ (List.mem_append_right _ h)))))
theorem zi_X7_hasGallery_0 : ∀ w ∈ u_ws RX0 TX0 15, w ∈ wsX7_hasGallery := fun _ h => (List.mem_cons_of_mem _ (List.mem_append_right _ h))
theorem zi_X7_hasGallery_7 : ∀ w ∈ u_ws RX7 TX7 11, w ∈ wsX7_hasGallery := fun _ h => (List.mem_cons_of_mem _ (List.mem_append_left _ (List.mem_append_right _ h)))
theorem zi_X7_heard_5 : ∀ w ∈ u_ws RX5 TX5 7, w ∈ wsX7_heard := fun _ h => (List.mem_cons_of_mem _ (List.mem_append_left _ (List.mem_append_left _ (List.mem_append_right _ h))))
theorem zi_X7_heard_7 : ∀ w ∈ u_ws RX7 TX7 11, w ∈ wsX7_heard := fun _ h => (List.mem_cons_of_mem _ (List.mem_append_left _ (List.mem_append_left _ (List.mem_append_left _ (List.mem_append_right _ h)))))
theorem zi_X7_image_1 : ∀ w ∈ u_ws RX1 TX1 5, w ∈ wsX7_image := fun _ h => (List.mem_cons_of_mem _ (List.mem_append_left _ (List.mem_append_left _ (List.mem_append_right _ h))))
theorem zi_X7_image_7 : ∀ w ∈ u_ws RX7 TX7 11, w ∈ wsX7_image := fun _ h => (List.mem_cons_of_mem _ (List.mem_append_left _ (List.mem_append_left _ (List.mem_append_left _ (List.mem_append_right _ h)))))
theorem zi_X7_isFigure_0 : ∀ w ∈ u_ws RX0 TX0 15, w ∈ wsX7_isFigure := fun _ h => (List.mem_cons_of_mem _ (List.mem_append_right _ h))
theorem zi_X7_isFigure_7 : ∀ w ∈ u_ws RX7 TX7 11, w ∈ wsX7_isFigure := fun _ h => (List.mem_cons_of_mem _ (List.mem_append_left _ (List.mem_append_right _ h)))
theorem zi_X7_isPlace_0 : ∀ w ∈ u_ws RX0 TX0 15, w ∈ wsX7_isPlace := fun _ h => (List.mem_cons_of_mem _ (List.mem_append_right _ h))
theorem zi_X7_isPlace_7 : ∀ w ∈ u_ws RX7 TX7 11, w ∈ wsX7_isPlace := fun _ h => (List.mem_cons_of_mem _ (List.mem_append_left _ (List.mem_append_right _ h)))
theorem zi_X7_isShut_0 : ∀ w ∈ u_ws RX0 TX0 15, w ∈ wsX7_isShut := fun _ h => (List.mem_cons_of_mem _ (List.mem_append_right _ h))
theorem zi_X7_isShut_7 : ∀ w ∈ u_ws RX7 TX7 11, w ∈ wsX7_isShut := fun _ h => (List.mem_cons_of_mem _ (List.mem_append_left _ (List.mem_append_right _ h)))
theorem zi_X7_isWatcher_0 : ∀ w ∈ u_ws RX0 TX0 15, w ∈ wsX7_isWatcher := fun _ h => (List.mem_cons_of_mem _ (List.mem_append_left _ (List.mem_append_right _ h)))
theorem zi_X7_isWatcher_6 : ∀ w ∈ u_ws RX6 TX6 4, w ∈ wsX7_isWatcher := fun _ h => (List.mem_cons_of_mem _ (List.mem_append_right _ h))
theorem zi_X7_isWatcher_7 : ∀ w ∈ u_ws RX7 TX7 11, w ∈ wsX7_isWatcher := fun _ h => (List.mem_cons_of_mem _ (List.mem_append_left _ (List.mem_append_left _ (List.mem_append_right _ h))))
theorem zi_X7_judge_0 : ∀ w ∈ u_ws RX0 TX0 15, w ∈ wsX7_judge := fun _ h => (List.mem_cons_of_mem _ (List.mem_append_right _ h))
theorem zi_X7_judge_7 : ∀ w ∈ u_ws RX7 TX7 11, w ∈ wsX7_judge := fun _ h => (List.mem_cons_of_mem _ (List.mem_append_left _ (List.mem_append_right _ h)))
theorem zi_X7_lawsLike_0 : ∀ w ∈ u_ws RX0 TX0 15, w ∈ wsX7_lawsLike := fun _ h => (List.mem_cons_of_mem _ (List.mem_append_right _ h))
theorem zi_X7_lawsLike_7 : ∀ w ∈ u_ws RX7 TX7 11, w ∈ wsX7_lawsLike := fun _ h => (List.mem_cons_of_mem _ (List.mem_append_left _ (List.mem_append_right _ h)))
theorem zi_X7_left_0 : ∀ w ∈ u_ws RX0 TX0 15, w ∈ wsX7_left := fun _ h => (List.mem_cons_of_mem _ (List.mem_append_left _ (List.mem_append_right _ h)))
theorem zi_X7_left_5 : ∀ w ∈ u_ws RX5 TX5 7, w ∈ wsX7_left := fun _ h => (List.mem_cons_of_mem _ (List.mem_append_right _ h))
theorem zi_X7_left_7 : ∀ w ∈ u_ws RX7 TX7 11, w ∈ wsX7_left := fun _ h => (List.mem_cons_of_mem _ (List.mem_append_left _ (List.mem_append_left _ (List.mem_append_right _ h))))
theorem zi_X7_lookLeaves_2 : ∀ w ∈ u_ws RX2 TX2 7, w ∈ wsX7_lookLeaves := fun _ h => (List.mem_cons_of_mem _ (List.mem_append_left _ (List.mem_append_right _ h)))
theorem zi_X7_lookLeaves_7 : ∀ w ∈ u_ws RX7 TX7 11, w ∈ wsX7_lookLeaves := fun _ h => (List.mem_cons_of_mem _ (List.mem_append_left _ (List.mem_append_left _ (List.mem_append_right _ h))))
theorem zi_X7_look_2 : ∀ w ∈ u_ws RX2 TX2 7, w ∈ wsX7_look := fun _ h => (List.mem_cons_of_mem _ (List.mem_append_left _ (List.mem_append_right _ h)))
theorem zi_X7_look_7 : ∀ w ∈ u_ws RX7 TX7 11, w ∈ wsX7_look := fun _ h => (List.mem_cons_of_mem _ (List.mem_append_left _ (List.mem_append_left _ (List.mem_append_right _ h))))
theorem zi_X7_mean_0 : ∀ w ∈ u_ws RX0 TX0 15, w ∈ wsX7_mean := fun _ h => (List.mem_cons_of_mem _ (List.mem_append_left _ (List.mem_append_right _ h)))
theorem zi_X7_mean_7 : ∀ w ∈ u_ws RX7 TX7 11, w ∈ wsX7_mean := fun _ h => (List.mem_cons_of_mem _ (List.mem_append_left _ (List.mem_append_left _ (List.mem_append_right _ h))))
theorem zi_X7_meets_0 : ∀ w ∈ u_ws RX0 TX0 15, w ∈ wsX7_meets := fun _ h => (List.mem_cons_of_mem _ (List.mem_append_left _ (List.mem_append_left _ (List.mem_append_right _ h))))
theorem zi_X7_meets_5 : ∀ w ∈ u_ws RX5 TX5 7, w ∈ wsX7_meets := fun _ h => (List.mem_cons_of_mem _ (List.mem_append_left _ (List.mem_append_right _ h)))
theorem zi_X7_meets_7 : ∀ w ∈ u_ws RX7 TX7 11, w ∈ wsX7_meets := fun _ h => (List.mem_cons_of_mem _ (List.mem_append_left _ (List.mem_append_left _ (List.mem_append_left _ (List.mem_append_right _ h)))))
theorem zi_X7_minutesOf_0 : ∀ w ∈ u_ws RX0 TX0 15, w ∈ wsX7_minutesOf := fun _ h => (List.mem_cons_of_mem _ (List.mem_append_right _ h))
theorem zi_X7_minutesOf_5 : ∀ w ∈ u_ws RX5 TX5 7, w ∈ wsX7_minutesOf := fun _ h => (List.mem_cons_of_mem _ (List.mem_append_left _ (List.mem_append_right _ h)))
theorem zi_X7_minutesOf_7 : ∀ w ∈ u_ws RX7 TX7 11, w ∈ wsX7_minutesOf := fun _ h => (List.mem_cons_of_mem _ (List.mem_append_left _ (List.mem_append_left _ (List.mem_append_right _ h))))
theorem zi_X7_minutesTillGone_5 : ∀ w ∈ u_ws RX5 TX5 7, w ∈ wsX7_minutesTillGone := fun _ h => (List.mem_cons_of_mem _ (List.mem_append_left _ (List.mem_append_left _ (List.mem_append_right _ h))))
theorem zi_X7_minutesTillGone_7 : ∀ w ∈ u_ws RX7 TX7 11, w ∈ wsX7_minutesTillGone := fun _ h => (List.mem_cons_of_mem _ (List.mem_append_left _ (List.mem_append_left _ (List.mem_append_left _ (List.mem_append_right _ h)))))
theorem zi_X7_nearBy_0 : ∀ w ∈ u_ws RX0 TX0 15, w ∈ wsX7_nearBy := fun _ h => (List.mem_cons_of_mem _ (List.mem_append_left _ (List.mem_append_left _ (List.mem_append_right _ h))))
theorem zi_X7_nearBy_5 : ∀ w ∈ u_ws RX5 TX5 7, w ∈ wsX7_nearBy := fun _ h => (List.mem_cons_of_mem _ (List.mem_append_left _ (List.mem_append_right _ h)))
theorem zi_X7_nearBy_7 : ∀ w ∈ u_ws RX7 TX7 11, w ∈ wsX7_nearBy := fun _ h => (List.mem_cons_of_mem _ (List.mem_append_left _ (List.mem_append_left _ (List.mem_append_left _ (List.mem_append_right _ h)))))
theorem zi_X7_odds_0 : ∀ w ∈ u_ws RX0 TX0 15, w ∈ wsX7_odds := fun _ h => (List.mem_cons_of_mem _ (List.mem_append_left _ (List.mem_append_right _ h)))
theorem zi_X7_odds_7 : ∀ w ∈ u_ws RX7 TX7 11, w ∈ wsX7_odds := fun _ h => (List.mem_cons_of_mem _ (List.mem_append_left _ (List.mem_append_left _ (List.mem_append_right _ h))))
theorem zi_X7_ownTurns_5 : ∀ w ∈ u_ws RX5 TX5 7, w ∈ wsX7_ownTurns := fun _ h => (List.mem_cons_of_mem _ (List.mem_append_left _ (List.mem_append_right _ h)))
theorem zi_X7_ownTurns_7 : ∀ w ∈ u_ws RX7 TX7 11, w ∈ wsX7_ownTurns := fun _ h => (List.mem_cons_of_mem _ (List.mem_append_left _ (List.mem_append_left _ (List.mem_append_right _ h))))
theorem zi_X7_passAhead_0 : ∀ w ∈ u_ws RX0 TX0 15, w ∈ wsX7_passAhead := fun _ h => (List.mem_cons_of_mem _ (List.mem_append_left _ (List.mem_append_left _ (List.mem_append_right _ h))))
theorem zi_X7_passAhead_7 : ∀ w ∈ u_ws RX7 TX7 11, w ∈ wsX7_passAhead := fun _ h => (List.mem_cons_of_mem _ (List.mem_append_left _ (List.mem_append_left _ (List.mem_append_left _ (List.mem_append_right _ h)))))
theorem zi_X7_patrol_0 : ∀ w ∈ u_ws RX0 TX0 15, w ∈ wsX7_patrol := fun _ h => (List.mem_cons_of_mem _ (List.mem_append_left _ (List.mem_append_left _ (List.mem_append_right _ h))))
theorem zi_X7_patrol_5 : ∀ w ∈ u_ws RX5 TX5 7, w ∈ wsX7_patrol := fun _ h => (List.mem_cons_of_mem _ (List.mem_append_right _ h))
theorem zi_X7_patrol_6 : ∀ w ∈ u_ws RX6 TX6 4, w ∈ wsX7_patrol := fun _ h => (List.mem_cons_of_mem _ (List.mem_append_left _ (List.mem_append_right _ h)))
theorem zi_X7_patrol_7 : ∀ w ∈ u_ws RX7 TX7 11, w ∈ wsX7_patrol := fun _ h => (List.mem_cons_of_mem _ (List.mem_append_left _ (List.mem_append_left _ (List.mem_append_left _ (List.mem_append_right _ h)))))
theorem zi_X7_placeOfActing_0 : ∀ w ∈ u_ws RX0 TX0 15, w ∈ wsX7_placeOfActing := fun _ h => (List.mem_cons_of_mem _ (List.mem_append_left _ (List.mem_append_right _ h)))
theorem zi_X7_placeOfActing_5 : ∀ w ∈ u_ws RX5 TX5 7, w ∈ wsX7_placeOfActing := fun _ h => (List.mem_cons_of_mem _ (List.mem_append_left _ (List.mem_append_left _ (List.mem_append_right _ h))))
theorem zi_X7_placeOfActing_7 : ∀ w ∈ u_ws RX7 TX7 11, w ∈ wsX7_placeOfActing := fun _ h => (List.mem_cons_of_mem _ (List.mem_append_left _ (List.mem_append_left _ (List.mem_append_left _ (List.mem_append_right _ h)))))
theorem zi_X7_place_5 : ∀ w ∈ u_ws RX5 TX5 7, w ∈ wsX7_place := fun _ h => (List.mem_cons_of_mem _ (List.mem_append_left _ (List.mem_append_left _ (List.mem_append_right _ h))))
theorem zi_X7_place_7 : ∀ w ∈ u_ws RX7 TX7 11, w ∈ wsX7_place := fun _ h => (List.mem_cons_of_mem _ (List.mem_append_left _ (List.mem_append_left _ (List.mem_append_left _ (List.mem_append_right _ h)))))
theorem zi_X7_planRoutes_0 : ∀ w ∈ u_ws RX0 TX0 15, w ∈ wsX7_planRoutes := fun _ h => (List.mem_cons_of_mem _ (List.mem_append_left _ (List.mem_append_left _ (List.mem_append_left _ (List.mem_append_right _ h)))))
theorem zi_X7_planRoutes_7 : ∀ w ∈ u_ws RX7 TX7 11, w ∈ wsX7_planRoutes := fun _ h => (List.mem_cons_of_mem _ (List.mem_append_left _ (List.mem_append_left _ (List.mem_append_left _ (List.mem_append_left _ (List.mem_append_right _ h))))))
theorem zi_X7_postsHold_6 : ∀ w ∈ u_ws RX6 TX6 4, w ∈ wsX7_postsHold := fun _ h => (List.mem_cons_of_mem _ (List.mem_append_left _ (List.mem_append_left _ (List.mem_append_right _ h))))
theorem zi_X7_postsHold_7 : ∀ w ∈ u_ws RX7 TX7 11, w ∈ wsX7_postsHold := fun _ h => (List.mem_cons_of_mem _ (List.mem_append_left _ (List.mem_append_left _ (List.mem_append_left _ (List.mem_append_right _ h)))))
theorem zi_X7_put_5 : ∀ w ∈ u_ws RX5 TX5 7, w ∈ wsX7_put := fun _ h => (List.mem_cons_of_mem _ (List.mem_append_left _ (List.mem_append_left _ (List.mem_append_right _ h))))
theorem zi_X7_put_7 : ∀ w ∈ u_ws RX7 TX7 11, w ∈ wsX7_put := fun _ h => (List.mem_cons_of_mem _ (List.mem_append_left _ (List.mem_append_left _ (List.mem_append_left _ (List.mem_append_right _ h)))))
theorem zi_X7_refused_7 : ∀ w ∈ u_ws RX7 TX7 11, w ∈ wsX7_refused := fun _ h => (List.mem_cons_of_mem _ (List.mem_append_right _ h))
theorem zi_X7_roundLength_0 : ∀ w ∈ u_ws RX0 TX0 15, w ∈ wsX7_roundLength := fun _ h => (List.mem_cons_of_mem _ (List.mem_append_left _ (List.mem_append_right _ h)))
theorem zi_X7_roundLength_7 : ∀ w ∈ u_ws RX7 TX7 11, w ∈ wsX7_roundLength := fun _ h => (List.mem_cons_of_mem _ (List.mem_append_left _ (List.mem_append_left _ (List.mem_append_right _ h))))
theorem zi_X7_routeAt_7 : ∀ w ∈ u_ws RX7 TX7 11, w ∈ wsX7_routeAt := fun _ h => (List.mem_cons_of_mem _ (List.mem_append_left _ (List.mem_append_left _ (List.mem_append_left _ (List.mem_append_left _ (List.mem_append_right _ h))))))
theorem zi_X7_route_7 : ∀ w ∈ u_ws RX7 TX7 11, w ∈ wsX7_route := fun _ h => (List.mem_cons_of_mem _ (List.mem_append_left _ (List.mem_append_left _ (List.mem_append_left _ (List.mem_append_left _ (List.mem_append_right _ h))))))
theorem zi_X7_runAheadOnTrial_7 : ∀ w ∈ u_ws RX7 TX7 11, w ∈ wsX7_runAheadOnTrial := fun _ h => (List.mem_cons_of_mem _ (List.mem_append_left _ (List.mem_append_left _ (List.mem_append_left _ (List.mem_append_right _ h)))))
theorem zi_X7_runAhead_7 : ∀ w ∈ u_ws RX7 TX7 11, w ∈ wsX7_runAhead := fun _ h => (List.mem_cons_of_mem _ (List.mem_append_left _ (List.mem_append_left _ (List.mem_append_left _ (List.mem_append_right _ h)))))
theorem zi_X7_settles_0 : ∀ w ∈ u_ws RX0 TX0 15, w ∈ wsX7_settles := fun _ h => (List.mem_cons_of_mem _ (List.mem_append_left _ (List.mem_append_right _ h)))
theorem zi_X7_settles_7 : ∀ w ∈ u_ws RX7 TX7 11, w ∈ wsX7_settles := fun _ h => (List.mem_cons_of_mem _ (List.mem_append_left _ (List.mem_append_left _ (List.mem_append_right _ h))))
theorem zi_X7_size_1 : ∀ w ∈ u_ws RX1 TX1 5, w ∈ wsX7_size := fun _ h => (List.mem_cons_of_mem _ (List.mem_append_left _ (List.mem_append_left _ (List.mem_append_left _ (List.mem_append_right _ h)))))
theorem zi_X7_size_3 : ∀ w ∈ u_ws RX3 TX3 14, w ∈ wsX7_size := fun _ h => (List.mem_cons_of_mem _ (List.mem_append_left _ (List.mem_append_left _ (List.mem_append_right _ h))))
theorem zi_X7_size_5 : ∀ w ∈ u_ws RX5 TX5 7, w ∈ wsX7_size := fun _ h => (List.mem_cons_of_mem _ (List.mem_append_left _ (List.mem_append_left _ (List.mem_append_left _ (List.mem_append_left _ (List.mem_append_right _ h))))))
theorem zi_X7_size_7 : ∀ w ∈ u_ws RX7 TX7 11, w ∈ wsX7_size := fun _ h => (List.mem_cons_of_mem _ (List.mem_append_left _ (List.mem_append_left _ (List.mem_append_left _ (List.mem_append_left _ (List.mem_append_left _ (List.mem_append_right _ h)))))))
theorem zi_X7_spoken_0 : ∀ w ∈ u_ws RX0 TX0 15, w ∈ wsX7_spoken := fun _ h => (List.mem_cons_of_mem _ (List.mem_append_left _ (List.mem_append_right _ h)))
theorem zi_X7_spoken_5 : ∀ w ∈ u_ws RX5 TX5 7, w ∈ wsX7_spoken := fun _ h => (List.mem_cons_of_mem _ (List.mem_append_left _ (List.mem_append_left _ (List.mem_append_right _ h))))
theorem zi_X7_spoken_7 : ∀ w ∈ u_ws RX7 TX7 11, w ∈ wsX7_spoken := fun _ h => (List.mem_cons_of_mem _ (List.mem_append_left _ (List.mem_append_left _ (List.mem_append_left _ (List.mem_append_right _ h)))))
theorem zi_X7_stairs_0 : ∀ w ∈ u_ws RX0 TX0 15, w ∈ wsX7_stairs := fun _ h => (List.mem_cons_of_mem _ (List.mem_append_left _ (List.mem_append_left _ (List.mem_append_right _ h))))
theorem zi_X7_stairs_7 : ∀ w ∈ u_ws RX7 TX7 11, w ∈ wsX7_stairs := fun _ h => (List.mem_cons_of_mem _ (List.mem_append_left _ (List.mem_append_left _ (List.mem_append_left _ (List.mem_append_right _ h)))))
theorem zi_X7_stand_0 : ∀ w ∈ u_ws RX0 TX0 15, w ∈ wsX7_stand := fun _ h => (List.mem_cons_of_mem _ (List.mem_append_left _ (List.mem_append_left _ (List.mem_append_left _ (List.mem_append_right _ h)))))
theorem zi_X7_stand_7 : ∀ w ∈ u_ws RX7 TX7 11, w ∈ wsX7_stand := fun _ h => (List.mem_cons_of_mem _ (List.mem_append_left _ (List.mem_append_left _ (List.mem_append_left _ (List.mem_append_left _ (List.mem_append_right _ h))))))
theorem zi_X7_trouble_7 : ∀ w ∈ u_ws RX7 TX7 11, w ∈ wsX7_trouble := fun _ h => (List.mem_cons_of_mem _ (List.mem_append_right _ h))
theorem zi_X7_turnFromNow_0 : ∀ w ∈ u_ws RX0 TX0 15, w ∈ wsX7_turnFromNow := fun _ h => (List.mem_cons_of_mem _ (List.mem_append_left _ (List.mem_append_right _ h)))
theorem zi_X7_turnFromNow_5 : ∀ w ∈ u_ws RX5 TX5 7, w ∈ wsX7_turnFromNow := fun _ h => (List.mem_cons_of_mem _ (List.mem_append_right _ h))
theorem zi_X7_turnFromNow_7 : ∀ w ∈ u_ws RX7 TX7 11, w ∈ wsX7_turnFromNow := fun _ h => (List.mem_cons_of_mem _ (List.mem_append_left _ (List.mem_append_left _ (List.mem_append_right _ h))))
theorem zi_X7_turnIn_0 : ∀ w ∈ u_ws RX0 TX0 15, w ∈ wsX7_turnIn := fun _ h => (List.mem_cons_of_mem _ (List.mem_append_right _ h))
theorem zi_X7_turnIn_5 : ∀ w ∈ u_ws RX5 TX5 7, w ∈ wsX7_turnIn := fun _ h => (List.mem_cons_of_mem _ (List.mem_append_left _ (List.mem_append_right _ h)))
theorem zi_X7_turnIn_7 : ∀ w ∈ u_ws RX7 TX7 11, w ∈ wsX7_turnIn := fun _ h => (List.mem_cons_of_mem _ (List.mem_append_left _ (List.mem_append_left _ (List.mem_append_right _ h))))
theorem zi_X7_undo_7 : ∀ w ∈ u_ws RX7 TX7 11, w ∈ wsX7_undo := fun _ h => (List.mem_cons_of_mem _ (List.mem_append_left _ (List.mem_append_left _ (List.mem_append_right _ h))))
theorem zi_X7_watch_0 : ∀ w ∈ u_ws RX0 TX0 15, w ∈ wsX7_watch := fun _ h => (List.mem_cons_of_mem _ (List.mem_append_left _ (List.mem_append_left _ (List.mem_append_right _ h))))
theorem zi_X7_watch_5 : ∀ w ∈ u_ws RX5 TX5 7, w ∈ wsX7_watch := fun _ h => (List.mem_cons_of_mem _ (List.mem_append_left _ (List.mem_append_right _ h)))
theorem zi_X7_watch_7 : ∀ w ∈ u_ws RX7 TX7 11, w ∈ wsX7_watch := fun _ h => (List.mem_cons_of_mem _ (List.mem_append_left _ (List.mem_append_left _ (List.mem_append_left _ (List.mem_append_right _ h)))))
theorem zi_X7_watcher_0 : ∀ w ∈ u_ws RX0 TX0 15, w ∈ wsX7_watcher := fun _ h => (List.mem_cons_of_mem _ (List.mem_append_left _ (List.mem_append_left _ (List.mem_append_right _ h))))
theorem zi_X7_watcher_5 : ∀ w ∈ u_ws RX5 TX5 7, w ∈ wsX7_watcher := fun _ h => (List.mem_cons_of_mem _ (List.mem_append_right _ h))
theorem zi_X7_watcher_6 : ∀ w ∈ u_ws RX6 TX6 4, w ∈ wsX7_watcher := fun _ h => (List.mem_cons_of_mem _ (List.mem_append_left _ (List.mem_append_right _ h)))
theorem zi_X7_watcher_7 : ∀ w ∈ u_ws RX7 TX7 11, w ∈ wsX7_watcher := fun _ h => (List.mem_cons_of_mem _ (List.mem_append_left _ (List.mem_append_left _ (List.mem_append_left _ (List.mem_append_right _ h)))))
theorem zi_X7_where_7 : ∀ w ∈ u_ws RX7 TX7 11, w ∈ wsX7_where := fun _ h => (List.mem_cons_of_mem _ (List.mem_append_right _ h))
theorem zi_X7_windBest_0 : ∀ w ∈ u_ws RX0 TX0 15, w ∈ wsX7_windBest := fun _ h => (List.mem_cons_of_mem _ (List.mem_append_left _ (List.mem_append_left _ (List.mem_append_right _ h))))
theorem zi_X7_windBest_7 : ∀ w ∈ u_ws RX7 TX7 11, w ∈ wsX7_windBest := fun _ h => (List.mem_cons_of_mem _ (List.mem_append_left _ (List.mem_append_left _ (List.mem_append_left _ (List.mem_append_right _ h)))))
theorem zi_X7_wind_5 : ∀ w ∈ u_ws RX5 TX5 7, w ∈ wsX7_wind := fun _ h => (List.mem_cons_of_mem _ (List.mem_append_left _ (List.mem_append_left _ (List.mem_append_right _ h))))
theorem zi_X7_wind_7 : ∀ w ∈ u_ws RX7 TX7 11, w ∈ wsX7_wind := fun _ h => (List.mem_cons_of_mem _ (List.mem_append_left _ (List.mem_append_left _ (List.mem_append_left _ (List.mem_append_right _ h)))))
theorem zi_X8_aliveBy_8 : ∀ w ∈ u_ws RX8 TX8 40, w ∈ wsX8_aliveBy := fun _ h => (List.mem_cons_of_mem _ (List.mem_append_right _ h))
theorem zi_X8_alive_8 : ∀ w ∈ u_ws RX8 TX8 40, w ∈ wsX8_alive := fun _ h => (List.mem_cons_of_mem _ (List.mem_append_right _ h))
theorem zi_X8_allIn_8 : ∀ w ∈ u_ws RX8 TX8 40, w ∈ wsX8_allIn := fun _ h => (List.mem_cons_of_mem _ (List.mem_append_right _ h))
theorem zi_X8_back_8 : ∀ w ∈ u_ws RX8 TX8 40, w ∈ wsX8_back := fun _ h => (List.mem_cons_of_mem _ (List.mem_append_right _ h))
theorem zi_X8_begin_8 : ∀ w ∈ u_ws RX8 TX8 40, w ∈ wsX8_begin := fun _ h => (List.mem_cons_of_mem _ (List.mem_append_right _ h))
theorem zi_X8_begins_8 : ∀ w ∈ u_ws RX8 TX8 40, w ∈ wsX8_begins := fun _ h => (List.mem_cons_of_mem _ (List.mem_append_right _ h))
theorem zi_X8_bestFrom_8 : ∀ w ∈ u_ws RX8 TX8 40, w ∈ wsX8_bestFrom := fun _ h => (List.mem_cons_of_mem _ (List.mem_append_right _ h))
theorem zi_X8_byCode_8 : ∀ w ∈ u_ws RX8 TX8 40, w ∈ wsX8_byCode := fun _ h => (List.mem_cons_of_mem _ (List.mem_append_right _ h))
theorem zi_X8_called_8 : ∀ w ∈ u_ws RX8 TX8 40, w ∈ wsX8_called := fun _ h => (List.mem_cons_of_mem _ (List.mem_append_right _ h))
theorem zi_X8_catches_8 : ∀ w ∈ u_ws RX8 TX8 40, w ∈ wsX8_catches := fun _ h => (List.mem_cons_of_mem _ (List.mem_append_right _ h))
theorem zi_X8_caught_8 : ∀ w ∈ u_ws RX8 TX8 40, w ∈ wsX8_caught := fun _ h => (List.mem_cons_of_mem _ (List.mem_append_right _ h))
theorem zi_X8_codes_8 : ∀ w ∈ u_ws RX8 TX8 40, w ∈ wsX8_codes := fun _ h => (List.mem_cons_of_mem _ (List.mem_append_right _ h))
theorem zi_X8_could_8 : ∀ w ∈ u_ws RX8 TX8 40, w ∈ wsX8_could := fun _ h => (List.mem_cons_of_mem _ (List.mem_append_right _ h))
theorem zi_X8_crowd_8 : ∀ w ∈ u_ws RX8 TX8 40, w ∈ wsX8_crowd := fun _ h => (List.mem_cons_of_mem _ (List.mem_append_right _ h))
theorem zi_X8_dares_8 : ∀ w ∈ u_ws RX8 TX8 40, w ∈ wsX8_dares := fun _ h => (List.mem_cons_of_mem _ (List.mem_append_right _ h))
theorem zi_X8_doesFit_8 : ∀ w ∈ u_ws RX8 TX8 40, w ∈ wsX8_doesFit := fun _ h => (List.mem_cons_of_mem _ (List.mem_append_right _ h))
theorem zi_X8_drawWhy_8 : ∀ w ∈ u_ws RX8 TX8 40, w ∈ wsX8_drawWhy := fun _ h => (List.mem_cons_of_mem _ (List.mem_append_right _ h))
theorem zi_X8_drawn_8 : ∀ w ∈ u_ws RX8 TX8 40, w ∈ wsX8_drawn := fun _ h => (List.mem_cons_of_mem _ (List.mem_append_right _ h))
theorem zi_X8_farthest_8 : ∀ w ∈ u_ws RX8 TX8 40, w ∈ wsX8_farthest := fun _ h => (List.mem_cons_of_mem _ (List.mem_append_right _ h))
theorem zi_X8_fault_8 : ∀ w ∈ u_ws RX8 TX8 40, w ∈ wsX8_fault := fun _ h => (List.mem_cons_of_mem _ (List.mem_append_right _ h))
theorem zi_X8_feed_8 : ∀ w ∈ u_ws RX8 TX8 40, w ∈ wsX8_feed := fun _ h => (List.mem_cons_of_mem _ (List.mem_append_right _ h))
theorem zi_X8_figureLine_8 : ∀ w ∈ u_ws RX8 TX8 40, w ∈ wsX8_figureLine := fun _ h => (List.mem_cons_of_mem _ (List.mem_append_right _ h))
theorem zi_X8_figure_8 : ∀ w ∈ u_ws RX8 TX8 40, w ∈ wsX8_figure := fun _ h => (List.mem_cons_of_mem _ (List.mem_append_right _ h))
theorem zi_X8_firstShut_8 : ∀ w ∈ u_ws RX8 TX8 40, w ∈ wsX8_firstShut := fun _ h => (List.mem_cons_of_mem _ (List.mem_append_right _ h))
theorem zi_X8_fitAt_8 : ∀ w ∈ u_ws RX8 TX8 40, w ∈ wsX8_fitAt := fun _ h => (List.mem_cons_of_mem _ (List.mem_append_right _ h))
theorem zi_X8_fits_8 : ∀ w ∈ u_ws RX8 TX8 40, w ∈ wsX8_fits := fun _ h => (List.mem_cons_of_mem _ (List.mem_append_right _ h))
theorem zi_X8_galleryLine_8 : ∀ w ∈ u_ws RX8 TX8 40, w ∈ wsX8_galleryLine := fun _ h => (List.mem_cons_of_mem _ (List.mem_append_right _ h))
theorem zi_X8_gallery_8 : ∀ w ∈ u_ws RX8 TX8 40, w ∈ wsX8_gallery := fun _ h => (List.mem_cons_of_mem _ (List.mem_append_right _ h))
theorem zi_X8_goRound_8 : ∀ w ∈ u_ws RX8 TX8 40, w ∈ wsX8_goRound := fun _ h => (List.mem_cons_of_mem _ (List.mem_append_right _ h))
theorem zi_X8_go_8 : ∀ w ∈ u_ws RX8 TX8 40, w ∈ wsX8_go := fun _ h => (List.mem_cons_of_mem _ (List.mem_append_right _ h))
theorem zi_X8_gone_8 : ∀ w ∈ u_ws RX8 TX8 40, w ∈ wsX8_gone := fun _ h => (List.mem_cons_of_mem _ (List.mem_append_right _ h))
theorem zi_X8_good_8 : ∀ w ∈ u_ws RX8 TX8 40, w ∈ wsX8_good := fun _ h => (List.mem_cons_of_mem _ (List.mem_append_right _ h))
theorem zi_X8_guard_8 : ∀ w ∈ u_ws RX8 TX8 40, w ∈ wsX8_guard := fun _ h => (List.mem_cons_of_mem _ (List.mem_append_right _ h))
theorem zi_X8_heard_8 : ∀ w ∈ u_ws RX8 TX8 40, w ∈ wsX8_heard := fun _ h => (List.mem_cons_of_mem _ (List.mem_append_right _ h))
theorem zi_X8_image_8 : ∀ w ∈ u_ws RX8 TX8 40, w ∈ wsX8_image := fun _ h => (List.mem_cons_of_mem _ (List.mem_append_right _ h))
theorem zi_X8_isFigure_8 : ∀ w ∈ u_ws RX8 TX8 40, w ∈ wsX8_isFigure := fun _ h => (List.mem_cons_of_mem _ (List.mem_append_right _ h))
theorem zi_X8_isKnown_8 : ∀ w ∈ u_ws RX8 TX8 40, w ∈ wsX8_isKnown := fun _ h => (List.mem_cons_of_mem _ (List.mem_append_right _ h))
theorem zi_X8_isNot_8 : ∀ w ∈ u_ws RX8 TX8 40, w ∈ wsX8_isNot := fun _ h => (List.mem_cons_of_mem _ (List.mem_append_right _ h))
theorem zi_X8_isWatched_8 : ∀ w ∈ u_ws RX8 TX8 40, w ∈ wsX8_isWatched := fun _ h => (List.mem_cons_of_mem _ (List.mem_append_right _ h))
theorem zi_X8_isWatcher_8 : ∀ w ∈ u_ws RX8 TX8 40, w ∈ wsX8_isWatcher := fun _ h => (List.mem_cons_of_mem _ (List.mem_append_right _ h))
theorem zi_X8_isWord_8 : ∀ w ∈ u_ws RX8 TX8 40, w ∈ wsX8_isWord := fun _ h => (List.mem_cons_of_mem _ (List.mem_append_right _ h))
theorem zi_X8_judge_8 : ∀ w ∈ u_ws RX8 TX8 40, w ∈ wsX8_judge := fun _ h => (List.mem_cons_of_mem _ (List.mem_append_right _ h))
theorem zi_X8_last_8 : ∀ w ∈ u_ws RX8 TX8 40, w ∈ wsX8_last := fun _ h => (List.mem_cons_of_mem _ (List.mem_append_right _ h))
theorem zi_X8_lawLine_8 : ∀ w ∈ u_ws RX8 TX8 40, w ∈ wsX8_lawLine := fun _ h => (List.mem_cons_of_mem _ (List.mem_append_right _ h))
theorem zi_X8_lawsLike_8 : ∀ w ∈ u_ws RX8 TX8 40, w ∈ wsX8_lawsLike := fun _ h => (List.mem_cons_of_mem _ (List.mem_append_right _ h))
theorem zi_X8_layOften_8 : ∀ w ∈ u_ws RX8 TX8 40, w ∈ wsX8_layOften := fun _ h => (List.mem_cons_of_mem _ (List.mem_append_right _ h))
theorem zi_X8_layRoute_8 : ∀ w ∈ u_ws RX8 TX8 40, w ∈ wsX8_layRoute := fun _ h => (List.mem_cons_of_mem _ (List.mem_append_right _ h))
theorem zi_X8_led_8 : ∀ w ∈ u_ws RX8 TX8 40, w ∈ wsX8_led := fun _ h => (List.mem_cons_of_mem _ (List.mem_append_right _ h))
theorem zi_X8_left_8 : ∀ w ∈ u_ws RX8 TX8 40, w ∈ wsX8_left := fun _ h => (List.mem_cons_of_mem _ (List.mem_append_right _ h))
theorem zi_X8_lookLeaves_8 : ∀ w ∈ u_ws RX8 TX8 40, w ∈ wsX8_lookLeaves := fun _ h => (List.mem_cons_of_mem _ (List.mem_append_right _ h))
theorem zi_X8_lookOf_8 : ∀ w ∈ u_ws RX8 TX8 40, w ∈ wsX8_lookOf := fun _ h => (List.mem_cons_of_mem _ (List.mem_append_right _ h))
theorem zi_X8_look_8 : ∀ w ∈ u_ws RX8 TX8 40, w ∈ wsX8_look := fun _ h => (List.mem_cons_of_mem _ (List.mem_append_right _ h))
theorem zi_X8_mean_8 : ∀ w ∈ u_ws RX8 TX8 40, w ∈ wsX8_mean := fun _ h => (List.mem_cons_of_mem _ (List.mem_append_right _ h))
theorem zi_X8_meets_8 : ∀ w ∈ u_ws RX8 TX8 40, w ∈ wsX8_meets := fun _ h => (List.mem_cons_of_mem _ (List.mem_append_right _ h))
theorem zi_X8_minuteOn_8 : ∀ w ∈ u_ws RX8 TX8 40, w ∈ wsX8_minuteOn := fun _ h => (List.mem_cons_of_mem _ (List.mem_append_right _ h))
theorem zi_X8_minutesOf_8 : ∀ w ∈ u_ws RX8 TX8 40, w ∈ wsX8_minutesOf := fun _ h => (List.mem_cons_of_mem _ (List.mem_append_right _ h))
theorem zi_X8_minutesOn_8 : ∀ w ∈ u_ws RX8 TX8 40, w ∈ wsX8_minutesOn := fun _ h => (List.mem_cons_of_mem _ (List.mem_append_right _ h))
theorem zi_X8_must_8 : ∀ w ∈ u_ws RX8 TX8 40, w ∈ wsX8_must := fun _ h => (List.mem_cons_of_mem _ (List.mem_append_right _ h))
theorem zi_X8_nearBy_8 : ∀ w ∈ u_ws RX8 TX8 40, w ∈ wsX8_nearBy := fun _ h => (List.mem_cons_of_mem _ (List.mem_append_right _ h))
theorem zi_X8_newName_8 : ∀ w ∈ u_ws RX8 TX8 40, w ∈ wsX8_newName := fun _ h => (List.mem_cons_of_mem _ (List.mem_append_right _ h))
theorem zi_X8_nextGone_8 : ∀ w ∈ u_ws RX8 TX8 40, w ∈ wsX8_nextGone := fun _ h => (List.mem_cons_of_mem _ (List.mem_append_right _ h))
theorem zi_X8_nextOf_8 : ∀ w ∈ u_ws RX8 TX8 40, w ∈ wsX8_nextOf := fun _ h => (List.mem_cons_of_mem _ (List.mem_append_right _ h))
theorem zi_X8_next_8 : ∀ w ∈ u_ws RX8 TX8 40, w ∈ wsX8_next := fun _ h => (List.mem_cons_of_mem _ (List.mem_append_right _ h))
theorem zi_X8_no_8 : ∀ w ∈ u_ws RX8 TX8 40, w ∈ wsX8_no := fun _ h => (List.mem_cons_of_mem _ (List.mem_append_right _ h))
theorem zi_X8_note_8 : ∀ w ∈ u_ws RX8 TX8 40, w ∈ wsX8_note := fun _ h => (List.mem_cons_of_mem _ (List.mem_append_right _ h))
theorem zi_X8_numberHere_8 : ∀ w ∈ u_ws RX8 TX8 40, w ∈ wsX8_numberHere := fun _ h => (List.mem_cons_of_mem _ (List.mem_append_right _ h))
theorem zi_X8_numberOf_8 : ∀ w ∈ u_ws RX8 TX8 40, w ∈ wsX8_numberOf := fun _ h => (List.mem_cons_of_mem _ (List.mem_append_right _ h))
theorem zi_X8_odds_8 : ∀ w ∈ u_ws RX8 TX8 40, w ∈ wsX8_odds := fun _ h => (List.mem_cons_of_mem _ (List.mem_append_right _ h))
theorem zi_X8_pass_8 : ∀ w ∈ u_ws RX8 TX8 40, w ∈ wsX8_pass := fun _ h => (List.mem_cons_of_mem _ (List.mem_append_right _ h))
theorem zi_X8_patrol_8 : ∀ w ∈ u_ws RX8 TX8 40, w ∈ wsX8_patrol := fun _ h => (List.mem_cons_of_mem _ (List.mem_append_right _ h))
theorem zi_X8_place_8 : ∀ w ∈ u_ws RX8 TX8 40, w ∈ wsX8_place := fun _ h => (List.mem_cons_of_mem _ (List.mem_append_right _ h))
theorem zi_X8_put_8 : ∀ w ∈ u_ws RX8 TX8 40, w ∈ wsX8_put := fun _ h => (List.mem_cons_of_mem _ (List.mem_append_right _ h))
theorem zi_X8_readLine_8 : ∀ w ∈ u_ws RX8 TX8 40, w ∈ wsX8_readLine := fun _ h => (List.mem_cons_of_mem _ (List.mem_append_right _ h))
theorem zi_X8_rest_8 : ∀ w ∈ u_ws RX8 TX8 40, w ∈ wsX8_rest := fun _ h => (List.mem_cons_of_mem _ (List.mem_append_right _ h))
theorem zi_X8_rests_8 : ∀ w ∈ u_ws RX8 TX8 40, w ∈ wsX8_rests := fun _ h => (List.mem_cons_of_mem _ (List.mem_append_right _ h))
theorem zi_X8_round_8 : ∀ w ∈ u_ws RX8 TX8 40, w ∈ wsX8_round := fun _ h => (List.mem_cons_of_mem _ (List.mem_append_right _ h))
theorem zi_X8_route_8 : ∀ w ∈ u_ws RX8 TX8 40, w ∈ wsX8_route := fun _ h => (List.mem_cons_of_mem _ (List.mem_append_right _ h))
theorem zi_X8_see_8 : ∀ w ∈ u_ws RX8 TX8 40, w ∈ wsX8_see := fun _ h => (List.mem_cons_of_mem _ (List.mem_append_right _ h))
theorem zi_X8_seekRests_8 : ∀ w ∈ u_ws RX8 TX8 40, w ∈ wsX8_seekRests := fun _ h => (List.mem_cons_of_mem _ (List.mem_append_right _ h))
theorem zi_X8_seenLine_8 : ∀ w ∈ u_ws RX8 TX8 40, w ∈ wsX8_seenLine := fun _ h => (List.mem_cons_of_mem _ (List.mem_append_right _ h))
theorem zi_X8_settles_8 : ∀ w ∈ u_ws RX8 TX8 40, w ∈ wsX8_settles := fun _ h => (List.mem_cons_of_mem _ (List.mem_append_right _ h))
theorem zi_X8_size_8 : ∀ w ∈ u_ws RX8 TX8 40, w ∈ wsX8_size := fun _ h => (List.mem_cons_of_mem _ (List.mem_append_right _ h))
theorem zi_X8_speakOn_8 : ∀ w ∈ u_ws RX8 TX8 40, w ∈ wsX8_speakOn := fun _ h => (List.mem_cons_of_mem _ (List.mem_append_right _ h))
theorem zi_X8_spoken_8 : ∀ w ∈ u_ws RX8 TX8 40, w ∈ wsX8_spoken := fun _ h => (List.mem_cons_of_mem _ (List.mem_append_right _ h))
theorem zi_X8_stairs_8 : ∀ w ∈ u_ws RX8 TX8 40, w ∈ wsX8_stairs := fun _ h => (List.mem_cons_of_mem _ (List.mem_append_right _ h))
theorem zi_X8_stand_8 : ∀ w ∈ u_ws RX8 TX8 40, w ∈ wsX8_stand := fun _ h => (List.mem_cons_of_mem _ (List.mem_append_right _ h))
theorem zi_X8_trouble_8 : ∀ w ∈ u_ws RX8 TX8 40, w ∈ wsX8_trouble := fun _ h => (List.mem_cons_of_mem _ (List.mem_append_right _ h))
theorem zi_X8_turnAt_8 : ∀ w ∈ u_ws RX8 TX8 40, w ∈ wsX8_turnAt := fun _ h => (List.mem_cons_of_mem _ (List.mem_append_right _ h))
theorem zi_X8_turnBy_8 : ∀ w ∈ u_ws RX8 TX8 40, w ∈ wsX8_turnBy := fun _ h => (List.mem_cons_of_mem _ (List.mem_append_right _ h))
theorem zi_X8_turnIn_8 : ∀ w ∈ u_ws RX8 TX8 40, w ∈ wsX8_turnIn := fun _ h => (List.mem_cons_of_mem _ (List.mem_append_right _ h))
theorem zi_X8_turnOf_8 : ∀ w ∈ u_ws RX8 TX8 40, w ∈ wsX8_turnOf := fun _ h => (List.mem_cons_of_mem _ (List.mem_append_right _ h))
theorem zi_X8_undo_8 : ∀ w ∈ u_ws RX8 TX8 40, w ∈ wsX8_undo := fun _ h => (List.mem_cons_of_mem _ (List.mem_append_right _ h))
theorem zi_X8_walkOn_8 : ∀ w ∈ u_ws RX8 TX8 40, w ∈ wsX8_walkOn := fun _ h => (List.mem_cons_of_mem _ (List.mem_append_right _ h))
theorem zi_X8_watchAsTold_8 : ∀ w ∈ u_ws RX8 TX8 40, w ∈ wsX8_watchAsTold := fun _ h => (List.mem_cons_of_mem _ (List.mem_append_right _ h))
theorem zi_X8_watch_8 : ∀ w ∈ u_ws RX8 TX8 40, w ∈ wsX8_watch := fun _ h => (List.mem_cons_of_mem _ (List.mem_append_right _ h))
theorem zi_X8_watcherAt_8 : ∀ w ∈ u_ws RX8 TX8 40, w ∈ wsX8_watcherAt := fun _ h => (List.mem_cons_of_mem _ (List.mem_append_right _ h))
theorem zi_X8_watcherLine_8 : ∀ w ∈ u_ws RX8 TX8 40, w ∈ wsX8_watcherLine := fun _ h => (List.mem_cons_of_mem _ (List.mem_append_right _ h))
theorem zi_X8_watcher_8 : ∀ w ∈ u_ws RX8 TX8 40, w ∈ wsX8_watcher := fun _ h => (List.mem_cons_of_mem _ (List.mem_append_right _ h))
theorem zi_X8_where_8 : ∀ w ∈ u_ws RX8 TX8 40, w ∈ wsX8_where := fun _ h => (List.mem_cons_of_mem _ (List.mem_append_right _ h))
theorem zi_X8_windBest_8 : ∀ w ∈ u_ws RX8 TX8 40, w ∈ wsX8_windBest := fun _ h => (List.mem_cons_of_mem _ (List.mem_append_right _ h))
theorem zi_X8_wind_8 : ∀ w ∈ u_ws RX8 TX8 40, w ∈ wsX8_wind := fun _ h => (List.mem_cons_of_mem _ (List.mem_append_right _ h))
theorem zi_X8_wrong_8 : ∀ w ∈ u_ws RX8 TX8 40, w ∈ wsX8_wrong := fun _ h => (List.mem_cons_of_mem _ (List.mem_append_right _ h))
theorem zm_J0_charAt_5068e_r1 {w : Cond} (h : w ∈ wsJ0_charAt_5068e_r1) : w ∈ wsJ0_charAt_5068e := (List.mem_cons_of_mem _ (List.mem_append_left _ h))
theorem zm_X0_pass_r1 {w : Cond} (h : w ∈ wsX0_pass_r1) : w ∈ wsX0_pass := (List.mem_cons_of_mem _ (List.mem_append_left _ (List.mem_append_left _ (List.mem_append_left _ (List.mem_append_left _ h)))))
theorem zm_X0_step_r1 {w : Cond} (h : w ∈ wsX0_step_r1) : w ∈ wsX0_step := (List.mem_cons_of_mem _ (List.mem_append_left _ (List.mem_append_left _ (List.mem_append_left _ (List.mem_append_left _ h)))))
theorem zm_X2_chooseLook_r1 {w : Cond} (h : w ∈ wsX2_chooseLook_r1) : w ∈ wsX2_chooseLook := (List.mem_cons_of_mem _ (List.mem_append_left _ (List.mem_append_left _ (List.mem_append_left _ h))))
theorem zm_X3_isWord_r1 {w : Cond} (h : w ∈ wsX3_isWord_r1) : w ∈ wsX3_isWord := (List.mem_cons_of_mem _ (List.mem_append_left _ (List.mem_append_left _ h)))
theorem zm_X3_readFigure_r1 {w : Cond} (h : w ∈ wsX3_readFigure_r1) : w ∈ wsX3_readFigure := (List.mem_cons_of_mem _ (List.mem_append_left _ (List.mem_append_left _ (List.mem_append_left _ h))))
theorem zm_X3_readFigure_r5 {w : Cond} (h : w ∈ wsX3_readFigure_r5) : w ∈ wsX3_readFigure := (List.mem_cons_of_mem _ (List.mem_append_left _ (List.mem_append_left _ (List.mem_append_right _ (List.mem_append_right _ (List.mem_append_right _ (List.mem_append_right _ h)))))))
theorem zm_X3_readHall_r1 {w : Cond} (h : w ∈ wsX3_readHall_r1) : w ∈ wsX3_readHall := (List.mem_cons_of_mem _ (List.mem_append_left _ (List.mem_append_left _ (List.mem_append_left _ h))))
theorem zm_X3_readLaw_r1 {w : Cond} (h : w ∈ wsX3_readLaw_r1) : w ∈ wsX3_readLaw := (List.mem_cons_of_mem _ (List.mem_append_left _ (List.mem_append_left _ (List.mem_append_left _ h))))
theorem zm_X3_readLine_r1 {w : Cond} (h : w ∈ wsX3_readLine_r1) : w ∈ wsX3_readLine := (List.mem_cons_of_mem _ (List.mem_append_left _ (List.mem_append_left _ (List.mem_append_left _ (List.mem_append_left _ h)))))
theorem zm_X3_readSeen_r1 {w : Cond} (h : w ∈ wsX3_readSeen_r1) : w ∈ wsX3_readSeen := (List.mem_cons_of_mem _ (List.mem_append_left _ (List.mem_append_left _ (List.mem_append_left _ h))))
theorem zm_X3_readWatcher_r1 {w : Cond} (h : w ∈ wsX3_readWatcher_r1) : w ∈ wsX3_readWatcher := (List.mem_cons_of_mem _ (List.mem_append_left _ (List.mem_append_left _ (List.mem_append_left _ (List.mem_append_left _ h)))))
theorem zm_X3_read_r1 {w : Cond} (h : w ∈ wsX3_read_r1) : w ∈ wsX3_read := (List.mem_cons_of_mem _ (List.mem_append_left _ (List.mem_append_left _ (List.mem_append_left _ (List.mem_append_left _ h)))))
theorem zm_X3_takeName_r1 {w : Cond} (h : w ∈ wsX3_takeName_r1) : w ∈ wsX3_takeName := (List.mem_cons_of_mem _ (List.mem_append_left _ (List.mem_append_left _ h)))
theorem zm_X3_takeWhole_r1 {w : Cond} (h : w ∈ wsX3_takeWhole_r1) : w ∈ wsX3_takeWhole := (List.mem_cons_of_mem _ (List.mem_append_left _ (List.mem_append_left _ h)))
theorem zm_X7_aliveBy_r1 {w : Cond} (h : w ∈ wsX7_aliveBy_r1) : w ∈ wsX7_aliveBy := (List.mem_cons_of_mem _ (List.mem_append_left _ (List.mem_append_left _ (List.mem_append_left _ (List.mem_append_left _ h)))))
theorem zm_X7_allIn_r1 {w : Cond} (h : w ∈ wsX7_allIn_r1) : w ∈ wsX7_allIn := (List.mem_cons_of_mem _ (List.mem_append_left _ (List.mem_append_left _ (List.mem_append_left _ (List.mem_append_left _ (List.mem_append_left _ h))))))
theorem zm_X7_back_r1 {w : Cond} (h : w ∈ wsX7_back_r1) : w ∈ wsX7_back := (List.mem_cons_of_mem _ (List.mem_append_left _ (List.mem_append_left _ (List.mem_append_left _ (List.mem_append_left _ h)))))
theorem zm_X7_called_r1 {w : Cond} (h : w ∈ wsX7_called_r1) : w ∈ wsX7_called := (List.mem_cons_of_mem _ (List.mem_append_left _ (List.mem_append_left _ (List.mem_append_left _ (List.mem_append_left _ h)))))
theorem zm_X7_catches_r1 {w : Cond} (h : w ∈ wsX7_catches_r1) : w ∈ wsX7_catches := (List.mem_cons_of_mem _ (List.mem_append_left _ (List.mem_append_left _ (List.mem_append_left _ (List.mem_append_left _ (List.mem_append_left _ h))))))
theorem zm_X7_could_r1 {w : Cond} (h : w ∈ wsX7_could_r1) : w ∈ wsX7_could := (List.mem_cons_of_mem _ (List.mem_append_left _ (List.mem_append_left _ (List.mem_append_left _ (List.mem_append_left _ h)))))
theorem zm_X7_crowd_r1 {w : Cond} (h : w ∈ wsX7_crowd_r1) : w ∈ wsX7_crowd := (List.mem_cons_of_mem _ (List.mem_append_left _ (List.mem_append_left _ (List.mem_append_left _ (List.mem_append_left _ (List.mem_append_left _ h))))))
theorem zm_X7_dares_r1 {w : Cond} (h : w ∈ wsX7_dares_r1) : w ∈ wsX7_dares := (List.mem_cons_of_mem _ (List.mem_append_left _ (List.mem_append_left _ (List.mem_append_left _ h))))
theorem zm_X7_drawn_r1 {w : Cond} (h : w ∈ wsX7_drawn_r1) : w ∈ wsX7_drawn := (List.mem_cons_of_mem _ (List.mem_append_left _ (List.mem_append_left _ (List.mem_append_left _ (List.mem_append_left _ h)))))
theorem zm_X7_farthest_r1 {w : Cond} (h : w ∈ wsX7_farthest_r1) : w ∈ wsX7_farthest := (List.mem_cons_of_mem _ (List.mem_append_left _ (List.mem_append_left _ (List.mem_append_left _ (List.mem_append_left _ (List.mem_append_left _ h))))))
theorem zm_X7_figure_r1 {w : Cond} (h : w ∈ wsX7_figure_r1) : w ∈ wsX7_figure := (List.mem_cons_of_mem _ (List.mem_append_left _ (List.mem_append_left _ (List.mem_append_left _ (List.mem_append_left _ h)))))
theorem zm_X7_firstShut_r1 {w : Cond} (h : w ∈ wsX7_firstShut_r1) : w ∈ wsX7_firstShut := (List.mem_cons_of_mem _ (List.mem_append_left _ (List.mem_append_left _ (List.mem_append_left _ h))))
theorem zm_X7_fitAt_r1 {w : Cond} (h : w ∈ wsX7_fitAt_r1) : w ∈ wsX7_fitAt := (List.mem_cons_of_mem _ (List.mem_append_left _ (List.mem_append_left _ (List.mem_append_left _ (List.mem_append_left _ h)))))
theorem zm_X7_fits_r1 {w : Cond} (h : w ∈ wsX7_fits_r1) : w ∈ wsX7_fits := (List.mem_cons_of_mem _ (List.mem_append_left _ (List.mem_append_left _ (List.mem_append_left _ (List.mem_append_left _ h)))))
theorem zm_X7_gallery_r1 {w : Cond} (h : w ∈ wsX7_gallery_r1) : w ∈ wsX7_gallery := (List.mem_cons_of_mem _ (List.mem_append_left _ (List.mem_append_left _ (List.mem_append_left _ (List.mem_append_left _ (List.mem_append_left _ (List.mem_append_left _ (List.mem_append_left _ (List.mem_append_left _ h)))))))))
theorem zm_X7_go_r1 {w : Cond} (h : w ∈ wsX7_go_r1) : w ∈ wsX7_go := (List.mem_cons_of_mem _ (List.mem_append_left _ (List.mem_append_left _ (List.mem_append_left _ (List.mem_append_left _ (List.mem_append_left _ (List.mem_append_left _ h)))))))
theorem zm_X7_gone_r1 {w : Cond} (h : w ∈ wsX7_gone_r1) : w ∈ wsX7_gone := (List.mem_cons_of_mem _ (List.mem_append_left _ (List.mem_append_left _ (List.mem_append_left _ (List.mem_append_left _ (List.mem_append_left _ h))))))
theorem zm_X7_guard_r1 {w : Cond} (h : w ∈ wsX7_guard_r1) : w ∈ wsX7_guard := (List.mem_cons_of_mem _ (List.mem_append_left _ (List.mem_append_left _ (List.mem_append_left _ (List.mem_append_left _ (List.mem_append_left _ h))))))
theorem zm_X7_heard_r1 {w : Cond} (h : w ∈ wsX7_heard_r1) : w ∈ wsX7_heard := (List.mem_cons_of_mem _ (List.mem_append_left _ (List.mem_append_left _ (List.mem_append_left _ (List.mem_append_left _ (List.mem_append_left _ h))))))
theorem zm_X7_image_r1 {w : Cond} (h : w ∈ wsX7_image_r1) : w ∈ wsX7_image := (List.mem_cons_of_mem _ (List.mem_append_left _ (List.mem_append_left _ (List.mem_append_left _ (List.mem_append_left _ (List.mem_append_left _ h))))))
theorem zm_X7_judge_r1 {w : Cond} (h : w ∈ wsX7_judge_r1) : w ∈ wsX7_judge := (List.mem_cons_of_mem _ (List.mem_append_left _ (List.mem_append_left _ (List.mem_append_left _ h))))
theorem zm_X7_lawsLike_r1 {w : Cond} (h : w ∈ wsX7_lawsLike_r1) : w ∈ wsX7_lawsLike := (List.mem_cons_of_mem _ (List.mem_append_left _ (List.mem_append_left _ (List.mem_append_left _ h))))
theorem zm_X7_lookLeaves_r1 {w : Cond} (h : w ∈ wsX7_lookLeaves_r1) : w ∈ wsX7_lookLeaves := (List.mem_cons_of_mem _ (List.mem_append_left _ (List.mem_append_left _ (List.mem_append_left _ (List.mem_append_left _ h)))))
theorem zm_X7_look_r1 {w : Cond} (h : w ∈ wsX7_look_r1) : w ∈ wsX7_look := (List.mem_cons_of_mem _ (List.mem_append_left _ (List.mem_append_left _ (List.mem_append_left _ (List.mem_append_left _ h)))))
theorem zm_X7_mean_r1 {w : Cond} (h : w ∈ wsX7_mean_r1) : w ∈ wsX7_mean := (List.mem_cons_of_mem _ (List.mem_append_left _ (List.mem_append_left _ (List.mem_append_left _ (List.mem_append_left _ h)))))
theorem zm_X7_meets_r1 {w : Cond} (h : w ∈ wsX7_meets_r1) : w ∈ wsX7_meets := (List.mem_cons_of_mem _ (List.mem_append_left _ (List.mem_append_left _ (List.mem_append_left _ (List.mem_append_left _ (List.mem_append_left _ h))))))
theorem zm_X7_minutesOf_r1 {w : Cond} (h : w ∈ wsX7_minutesOf_r1) : w ∈ wsX7_minutesOf := (List.mem_cons_of_mem _ (List.mem_append_left _ (List.mem_append_left _ (List.mem_append_left _ (List.mem_append_left _ h)))))
theorem zm_X7_minutesTillGone_r1 {w : Cond} (h : w ∈ wsX7_minutesTillGone_r1) : w ∈ wsX7_minutesTillGone := (List.mem_cons_of_mem _ (List.mem_append_left _ (List.mem_append_left _ (List.mem_append_left _ (List.mem_append_left _ (List.mem_append_left _ h))))))
theorem zm_X7_nearBy_r1 {w : Cond} (h : w ∈ wsX7_nearBy_r1) : w ∈ wsX7_nearBy := (List.mem_cons_of_mem _ (List.mem_append_left _ (List.mem_append_left _ (List.mem_append_left _ (List.mem_append_left _ (List.mem_append_left _ h))))))
theorem zm_X7_odds_r1 {w : Cond} (h : w ∈ wsX7_odds_r1) : w ∈ wsX7_odds := (List.mem_cons_of_mem _ (List.mem_append_left _ (List.mem_append_left _ (List.mem_append_left _ (List.mem_append_left _ h)))))
theorem zm_X7_passAhead_r1 {w : Cond} (h : w ∈ wsX7_passAhead_r1) : w ∈ wsX7_passAhead := (List.mem_cons_of_mem _ (List.mem_append_left _ (List.mem_append_left _ (List.mem_append_left _ (List.mem_append_left _ (List.mem_append_left _ h))))))
theorem zm_X7_patrol_r1 {w : Cond} (h : w ∈ wsX7_patrol_r1) : w ∈ wsX7_patrol := (List.mem_cons_of_mem _ (List.mem_append_left _ (List.mem_append_left _ (List.mem_append_left _ (List.mem_append_left _ (List.mem_append_left _ h))))))
theorem zm_X7_placeOfActing_r1 {w : Cond} (h : w ∈ wsX7_placeOfActing_r1) : w ∈ wsX7_placeOfActing := (List.mem_cons_of_mem _ (List.mem_append_left _ (List.mem_append_left _ (List.mem_append_left _ (List.mem_append_left _ (List.mem_append_left _ h))))))
theorem zm_X7_place_r1 {w : Cond} (h : w ∈ wsX7_place_r1) : w ∈ wsX7_place := (List.mem_cons_of_mem _ (List.mem_append_left _ (List.mem_append_left _ (List.mem_append_left _ (List.mem_append_left _ (List.mem_append_left _ h))))))
theorem zm_X7_planRoutes_r1 {w : Cond} (h : w ∈ wsX7_planRoutes_r1) : w ∈ wsX7_planRoutes := (List.mem_cons_of_mem _ (List.mem_append_left _ (List.mem_append_left _ (List.mem_append_left _ (List.mem_append_left _ (List.mem_append_left _ (List.mem_append_left _ h)))))))
theorem zm_X7_postsHold_r1 {w : Cond} (h : w ∈ wsX7_postsHold_r1) : w ∈ wsX7_postsHold := (List.mem_cons_of_mem _ (List.mem_append_left _ (List.mem_append_left _ (List.mem_append_left _ (List.mem_append_left _ (List.mem_append_left _ h))))))
theorem zm_X7_put_r1 {w : Cond} (h : w ∈ wsX7_put_r1) : w ∈ wsX7_put := (List.mem_cons_of_mem _ (List.mem_append_left _ (List.mem_append_left _ (List.mem_append_left _ (List.mem_append_left _ (List.mem_append_left _ h))))))
theorem zm_X7_routeAt_r1 {w : Cond} (h : w ∈ wsX7_routeAt_r1) : w ∈ wsX7_routeAt := (List.mem_cons_of_mem _ (List.mem_append_left _ (List.mem_append_left _ (List.mem_append_left _ (List.mem_append_left _ (List.mem_append_left _ (List.mem_append_left _ h)))))))
theorem zm_X7_route_r1 {w : Cond} (h : w ∈ wsX7_route_r1) : w ∈ wsX7_route := (List.mem_cons_of_mem _ (List.mem_append_left _ (List.mem_append_left _ (List.mem_append_left _ (List.mem_append_left _ (List.mem_append_left _ (List.mem_append_left _ h)))))))
theorem zm_X7_runAheadOnTrial_r1 {w : Cond} (h : w ∈ wsX7_runAheadOnTrial_r1) : w ∈ wsX7_runAheadOnTrial := (List.mem_cons_of_mem _ (List.mem_append_left _ (List.mem_append_left _ (List.mem_append_left _ (List.mem_append_left _ (List.mem_append_left _ h))))))
theorem zm_X7_runAhead_r1 {w : Cond} (h : w ∈ wsX7_runAhead_r1) : w ∈ wsX7_runAhead := (List.mem_cons_of_mem _ (List.mem_append_left _ (List.mem_append_left _ (List.mem_append_left _ (List.mem_append_left _ (List.mem_append_left _ h))))))
theorem zm_X7_settles_r1 {w : Cond} (h : w ∈ wsX7_settles_r1) : w ∈ wsX7_settles := (List.mem_cons_of_mem _ (List.mem_append_left _ (List.mem_append_left _ (List.mem_append_left _ (List.mem_append_left _ h)))))
theorem zm_X7_size_r1 {w : Cond} (h : w ∈ wsX7_size_r1) : w ∈ wsX7_size := (List.mem_cons_of_mem _ (List.mem_append_left _ (List.mem_append_left _ (List.mem_append_left _ (List.mem_append_left _ (List.mem_append_left _ (List.mem_append_left _ (List.mem_append_left _ h))))))))
theorem zm_X7_spoken_r1 {w : Cond} (h : w ∈ wsX7_spoken_r1) : w ∈ wsX7_spoken := (List.mem_cons_of_mem _ (List.mem_append_left _ (List.mem_append_left _ (List.mem_append_left _ (List.mem_append_left _ (List.mem_append_left _ h))))))
theorem zm_X7_stairs_r1 {w : Cond} (h : w ∈ wsX7_stairs_r1) : w ∈ wsX7_stairs := (List.mem_cons_of_mem _ (List.mem_append_left _ (List.mem_append_left _ (List.mem_append_left _ (List.mem_append_left _ (List.mem_append_left _ h))))))
theorem zm_X7_stand_r1 {w : Cond} (h : w ∈ wsX7_stand_r1) : w ∈ wsX7_stand := (List.mem_cons_of_mem _ (List.mem_append_left _ (List.mem_append_left _ (List.mem_append_left _ (List.mem_append_left _ (List.mem_append_left _ (List.mem_append_left _ h)))))))
theorem zm_X7_turnIn_r1 {w : Cond} (h : w ∈ wsX7_turnIn_r1) : w ∈ wsX7_turnIn := (List.mem_cons_of_mem _ (List.mem_append_left _ (List.mem_append_left _ (List.mem_append_left _ (List.mem_append_left _ h)))))
theorem zm_X7_turnOf_r1 {w : Cond} (h : w ∈ wsX7_turnOf_r1) : w ∈ wsX7_turnOf := (List.mem_cons_of_mem _ (List.mem_append_left _ (List.mem_append_left _ (List.mem_append_left _ (List.mem_append_left _ h)))))
theorem zm_X7_watch_r1 {w : Cond} (h : w ∈ wsX7_watch_r1) : w ∈ wsX7_watch := (List.mem_cons_of_mem _ (List.mem_append_left _ (List.mem_append_left _ (List.mem_append_left _ (List.mem_append_left _ (List.mem_append_left _ h))))))
theorem zm_X7_watcher_r1 {w : Cond} (h : w ∈ wsX7_watcher_r1) : w ∈ wsX7_watcher := (List.mem_cons_of_mem _ (List.mem_append_left _ (List.mem_append_left _ (List.mem_append_left _ (List.mem_append_left _ (List.mem_append_left _ h))))))
theorem zm_X7_windBest_r1 {w : Cond} (h : w ∈ wsX7_windBest_r1) : w ∈ wsX7_windBest := (List.mem_cons_of_mem _ (List.mem_append_left _ (List.mem_append_left _ (List.mem_append_left _ (List.mem_append_left _ (List.mem_append_left _ h))))))
theorem zm_X7_wind_r1 {w : Cond} (h : w ∈ wsX7_wind_r1) : w ∈ wsX7_wind := (List.mem_cons_of_mem _ (List.mem_append_left _ (List.mem_append_left _ (List.mem_append_left _ (List.mem_append_left _ (List.mem_append_left _ h))))))
theorem zm_X8_aliveBy_r1 {w : Cond} (h : w ∈ wsX8_aliveBy_r1) : w ∈ wsX8_aliveBy := (List.mem_cons_of_mem _ (List.mem_append_left _ (List.mem_append_left _ h)))
theorem zm_X8_allIn_r1 {w : Cond} (h : w ∈ wsX8_allIn_r1) : w ∈ wsX8_allIn := (List.mem_cons_of_mem _ (List.mem_append_left _ (List.mem_append_left _ h)))
theorem zm_X8_begins_r1 {w : Cond} (h : w ∈ wsX8_begins_r1) : w ∈ wsX8_begins := (List.mem_cons_of_mem _ (List.mem_append_left _ (List.mem_append_left _ h)))
theorem zm_X8_called_r1 {w : Cond} (h : w ∈ wsX8_called_r1) : w ∈ wsX8_called := (List.mem_cons_of_mem _ (List.mem_append_left _ (List.mem_append_left _ h)))
theorem zm_X8_catches_r1 {w : Cond} (h : w ∈ wsX8_catches_r1) : w ∈ wsX8_catches := (List.mem_cons_of_mem _ (List.mem_append_left _ (List.mem_append_left _ h)))
theorem zm_X8_could_r1 {w : Cond} (h : w ∈ wsX8_could_r1) : w ∈ wsX8_could := (List.mem_cons_of_mem _ (List.mem_append_left _ (List.mem_append_left _ h)))
theorem zm_X8_crowd_r1 {w : Cond} (h : w ∈ wsX8_crowd_r1) : w ∈ wsX8_crowd := (List.mem_cons_of_mem _ (List.mem_append_left _ (List.mem_append_left _ h)))
theorem zm_X8_drawWhy_r1 {w : Cond} (h : w ∈ wsX8_drawWhy_r1) : w ∈ wsX8_drawWhy := (List.mem_cons_of_mem _ (List.mem_append_left _ (List.mem_append_left _ h)))
theorem zm_X8_drawn_r1 {w : Cond} (h : w ∈ wsX8_drawn_r1) : w ∈ wsX8_drawn := (List.mem_cons_of_mem _ (List.mem_append_left _ (List.mem_append_left _ h)))
theorem zm_X8_farthest_r1 {w : Cond} (h : w ∈ wsX8_farthest_r1) : w ∈ wsX8_farthest := (List.mem_cons_of_mem _ (List.mem_append_left _ (List.mem_append_left _ h)))
theorem zm_X8_figureLine_r1 {w : Cond} (h : w ∈ wsX8_figureLine_r1) : w ∈ wsX8_figureLine := (List.mem_cons_of_mem _ (List.mem_append_left _ (List.mem_append_left _ h)))
theorem zm_X8_firstShut_r1 {w : Cond} (h : w ∈ wsX8_firstShut_r1) : w ∈ wsX8_firstShut := (List.mem_cons_of_mem _ (List.mem_append_left _ (List.mem_append_left _ h)))
theorem zm_X8_fitAt_r1 {w : Cond} (h : w ∈ wsX8_fitAt_r1) : w ∈ wsX8_fitAt := (List.mem_cons_of_mem _ (List.mem_append_left _ (List.mem_append_left _ h)))
theorem zm_X8_fits_r1 {w : Cond} (h : w ∈ wsX8_fits_r1) : w ∈ wsX8_fits := (List.mem_cons_of_mem _ (List.mem_append_left _ (List.mem_append_left _ h)))
theorem zm_X8_galleryLine_r1 {w : Cond} (h : w ∈ wsX8_galleryLine_r1) : w ∈ wsX8_galleryLine := (List.mem_cons_of_mem _ (List.mem_append_left _ (List.mem_append_left _ h)))
theorem zm_X8_gallery_r1 {w : Cond} (h : w ∈ wsX8_gallery_r1) : w ∈ wsX8_gallery := (List.mem_cons_of_mem _ (List.mem_append_left _ (List.mem_append_left _ h)))
theorem zm_X8_go_r1 {w : Cond} (h : w ∈ wsX8_go_r1) : w ∈ wsX8_go := (List.mem_cons_of_mem _ (List.mem_append_left _ (List.mem_append_left _ h)))
theorem zm_X8_gone_r1 {w : Cond} (h : w ∈ wsX8_gone_r1) : w ∈ wsX8_gone := (List.mem_cons_of_mem _ (List.mem_append_left _ (List.mem_append_left _ h)))
theorem zm_X8_guard_r1 {w : Cond} (h : w ∈ wsX8_guard_r1) : w ∈ wsX8_guard := (List.mem_cons_of_mem _ (List.mem_append_left _ (List.mem_append_left _ h)))
theorem zm_X8_heard_r1 {w : Cond} (h : w ∈ wsX8_heard_r1) : w ∈ wsX8_heard := (List.mem_cons_of_mem _ (List.mem_append_left _ (List.mem_append_left _ h)))
theorem zm_X8_isWord_r1 {w : Cond} (h : w ∈ wsX8_isWord_r1) : w ∈ wsX8_isWord := (List.mem_cons_of_mem _ (List.mem_append_left _ (List.mem_append_left _ h)))
theorem zm_X8_lawLine_r1 {w : Cond} (h : w ∈ wsX8_lawLine_r1) : w ∈ wsX8_lawLine := (List.mem_cons_of_mem _ (List.mem_append_left _ (List.mem_append_left _ h)))
theorem zm_X8_lawsLike_r1 {w : Cond} (h : w ∈ wsX8_lawsLike_r1) : w ∈ wsX8_lawsLike := (List.mem_cons_of_mem _ (List.mem_append_left _ (List.mem_append_left _ h)))
theorem zm_X8_layRoute_r1 {w : Cond} (h : w ∈ wsX8_layRoute_r1) : w ∈ wsX8_layRoute := (List.mem_cons_of_mem _ (List.mem_append_left _ (List.mem_append_left _ h)))
theorem zm_X8_lookLeaves_r1 {w : Cond} (h : w ∈ wsX8_lookLeaves_r1) : w ∈ wsX8_lookLeaves := (List.mem_cons_of_mem _ (List.mem_append_left _ (List.mem_append_left _ h)))
theorem zm_X8_lookOf_r1 {w : Cond} (h : w ∈ wsX8_lookOf_r1) : w ∈ wsX8_lookOf := (List.mem_cons_of_mem _ (List.mem_append_left _ (List.mem_append_left _ h)))
theorem zm_X8_look_r1 {w : Cond} (h : w ∈ wsX8_look_r1) : w ∈ wsX8_look := (List.mem_cons_of_mem _ (List.mem_append_left _ (List.mem_append_left _ h)))
theorem zm_X8_mean_r1 {w : Cond} (h : w ∈ wsX8_mean_r1) : w ∈ wsX8_mean := (List.mem_cons_of_mem _ (List.mem_append_left _ (List.mem_append_left _ h)))
theorem zm_X8_meets_r1 {w : Cond} (h : w ∈ wsX8_meets_r1) : w ∈ wsX8_meets := (List.mem_cons_of_mem _ (List.mem_append_left _ (List.mem_append_left _ h)))
theorem zm_X8_minuteOn_r1 {w : Cond} (h : w ∈ wsX8_minuteOn_r1) : w ∈ wsX8_minuteOn := (List.mem_cons_of_mem _ (List.mem_append_left _ (List.mem_append_left _ h)))
theorem zm_X8_minutesOf_r1 {w : Cond} (h : w ∈ wsX8_minutesOf_r1) : w ∈ wsX8_minutesOf := (List.mem_cons_of_mem _ (List.mem_append_left _ (List.mem_append_left _ h)))
theorem zm_X8_minutesOn_r1 {w : Cond} (h : w ∈ wsX8_minutesOn_r1) : w ∈ wsX8_minutesOn := (List.mem_cons_of_mem _ (List.mem_append_left _ (List.mem_append_left _ h)))
theorem zm_X8_must_r1 {w : Cond} (h : w ∈ wsX8_must_r1) : w ∈ wsX8_must := (List.mem_cons_of_mem _ (List.mem_append_left _ (List.mem_append_left _ h)))
theorem zm_X8_nearBy_r1 {w : Cond} (h : w ∈ wsX8_nearBy_r1) : w ∈ wsX8_nearBy := (List.mem_cons_of_mem _ (List.mem_append_left _ (List.mem_append_left _ h)))
theorem zm_X8_newName_r1 {w : Cond} (h : w ∈ wsX8_newName_r1) : w ∈ wsX8_newName := (List.mem_cons_of_mem _ (List.mem_append_left _ (List.mem_append_left _ h)))
theorem zm_X8_nextGone_r1 {w : Cond} (h : w ∈ wsX8_nextGone_r1) : w ∈ wsX8_nextGone := (List.mem_cons_of_mem _ (List.mem_append_left _ (List.mem_append_left _ h)))
theorem zm_X8_odds_r1 {w : Cond} (h : w ∈ wsX8_odds_r1) : w ∈ wsX8_odds := (List.mem_cons_of_mem _ (List.mem_append_left _ (List.mem_append_left _ h)))
theorem zm_X8_patrol_r1 {w : Cond} (h : w ∈ wsX8_patrol_r1) : w ∈ wsX8_patrol := (List.mem_cons_of_mem _ (List.mem_append_left _ (List.mem_append_left _ h)))
theorem zm_X8_place_r1 {w : Cond} (h : w ∈ wsX8_place_r1) : w ∈ wsX8_place := (List.mem_cons_of_mem _ (List.mem_append_left _ (List.mem_append_left _ h)))
theorem zm_X8_put_r1 {w : Cond} (h : w ∈ wsX8_put_r1) : w ∈ wsX8_put := (List.mem_cons_of_mem _ (List.mem_append_left _ (List.mem_append_left _ h)))
theorem zm_X8_readLine_r1 {w : Cond} (h : w ∈ wsX8_readLine_r1) : w ∈ wsX8_readLine := (List.mem_cons_of_mem _ (List.mem_append_left _ (List.mem_append_left _ h)))
theorem zm_X8_rest_r1 {w : Cond} (h : w ∈ wsX8_rest_r1) : w ∈ wsX8_rest := (List.mem_cons_of_mem _ (List.mem_append_left _ (List.mem_append_left _ h)))
theorem zm_X8_rests_r1 {w : Cond} (h : w ∈ wsX8_rests_r1) : w ∈ wsX8_rests := (List.mem_cons_of_mem _ (List.mem_append_left _ (List.mem_append_left _ h)))
theorem zm_X8_round_r1 {w : Cond} (h : w ∈ wsX8_round_r1) : w ∈ wsX8_round := (List.mem_cons_of_mem _ (List.mem_append_left _ (List.mem_append_left _ h)))
theorem zm_X8_route_r1 {w : Cond} (h : w ∈ wsX8_route_r1) : w ∈ wsX8_route := (List.mem_cons_of_mem _ (List.mem_append_left _ (List.mem_append_left _ h)))
theorem zm_X8_seenLine_r1 {w : Cond} (h : w ∈ wsX8_seenLine_r1) : w ∈ wsX8_seenLine := (List.mem_cons_of_mem _ (List.mem_append_left _ (List.mem_append_left _ h)))
theorem zm_X8_settles_r1 {w : Cond} (h : w ∈ wsX8_settles_r1) : w ∈ wsX8_settles := (List.mem_cons_of_mem _ (List.mem_append_left _ (List.mem_append_left _ h)))
theorem zm_X8_spoken_r1 {w : Cond} (h : w ∈ wsX8_spoken_r1) : w ∈ wsX8_spoken := (List.mem_cons_of_mem _ (List.mem_append_left _ (List.mem_append_left _ h)))
theorem zm_X8_stairs_r1 {w : Cond} (h : w ∈ wsX8_stairs_r1) : w ∈ wsX8_stairs := (List.mem_cons_of_mem _ (List.mem_append_left _ (List.mem_append_left _ h)))
theorem zm_X8_stand_r1 {w : Cond} (h : w ∈ wsX8_stand_r1) : w ∈ wsX8_stand := (List.mem_cons_of_mem _ (List.mem_append_left _ (List.mem_append_left _ h)))
theorem zm_X8_turnIn_r1 {w : Cond} (h : w ∈ wsX8_turnIn_r1) : w ∈ wsX8_turnIn := (List.mem_cons_of_mem _ (List.mem_append_left _ (List.mem_append_left _ h)))
theorem zm_X8_turnOf_r1 {w : Cond} (h : w ∈ wsX8_turnOf_r1) : w ∈ wsX8_turnOf := (List.mem_cons_of_mem _ (List.mem_append_left _ (List.mem_append_left _ h)))
theorem zm_X8_watch_r1 {w : Cond} (h : w ∈ wsX8_watch_r1) : w ∈ wsX8_watch := (List.mem_cons_of_mem _ (List.mem_append_left _ (List.mem_append_left _ h)))
theorem zm_X8_watcherLine_r1 {w : Cond} (h : w ∈ wsX8_watcherLine_r1) : w ∈ wsX8_watcherLine := (List.mem_cons_of_mem _ (List.mem_append_left _ (List.mem_append_left _ h)))
theorem zm_X8_watcher_r1 {w : Cond} (h : w ∈ wsX8_watcher_r1) : w ∈ wsX8_watcher := (List.mem_cons_of_mem _ (List.mem_append_left _ (List.mem_append_left _ h)))
theorem zm_X8_windBest_r1 {w : Cond} (h : w ∈ wsX8_windBest_r1) : w ∈ wsX8_windBest := (List.mem_cons_of_mem _ (List.mem_append_left _ (List.mem_append_left _ h)))
theorem zm_X8_wind_r1 {w : Cond} (h : w ∈ wsX8_wind_r1) : w ∈ wsX8_wind := (List.mem_cons_of_mem _ (List.mem_append_left _ (List.mem_append_left _ h)))
