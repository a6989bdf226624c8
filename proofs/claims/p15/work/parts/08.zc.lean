section P08_zc
theorem zr_0 {s : State} {H : Heap} {D : va_G} {a q0 : Nat} {fs : List Value} {ws : va_W} {tys : List (ClassId × FieldType)} (hK : va_K D vwCl tys s) (hP : va_P D vwCl ws H) (he : ws[q0]? = some (a, .inr (0, fs))) : ∃ cell : Cell, H[a]? = some cell ∧ cell.vm.isStatics = false ∧ s.vm.findClass RX0 = some cell.cls := va_recv hK hP (ci := 0) (q0 := q0) rfl he
theorem zr_1 {s : State} {H : Heap} {D : va_G} {a q0 : Nat} {fs : List Value} {ws : va_W} {tys : List (ClassId × FieldType)} (hK : va_K D vwCl tys s) (hP : va_P D vwCl ws H) (he : ws[q0]? = some (a, .inr (1, fs))) : ∃ cell : Cell, H[a]? = some cell ∧ cell.vm.isStatics = false ∧ s.vm.findClass RX1 = some cell.cls := va_recv hK hP (ci := 1) (q0 := q0) rfl he
theorem zr_2 {s : State} {H : Heap} {D : va_G} {a q0 : Nat} {fs : List Value} {ws : va_W} {tys : List (ClassId × FieldType)} (hK : va_K D vwCl tys s) (hP : va_P D vwCl ws H) (he : ws[q0]? = some (a, .inr (2, fs))) : ∃ cell : Cell, H[a]? = some cell ∧ cell.vm.isStatics = false ∧ s.vm.findClass RX2 = some cell.cls := va_recv hK hP (ci := 2) (q0 := q0) rfl he
theorem zr_3 {s : State} {H : Heap} {D : va_G} {a q0 : Nat} {fs : List Value} {ws : va_W} {tys : List (ClassId × FieldType)} (hK : va_K D vwCl tys s) (hP : va_P D vwCl ws H) (he : ws[q0]? = some (a, .inr (3, fs))) : ∃ cell : Cell, H[a]? = some cell ∧ cell.vm.isStatics = false ∧ s.vm.findClass RX3 = some cell.cls := va_recv hK hP (ci := 3) (q0 := q0) rfl he
theorem zr_4 {s : State} {H : Heap} {D : va_G} {a q0 : Nat} {fs : List Value} {ws : va_W} {tys : List (ClassId × FieldType)} (hK : va_K D vwCl tys s) (hP : va_P D vwCl ws H) (he : ws[q0]? = some (a, .inr (4, fs))) : ∃ cell : Cell, H[a]? = some cell ∧ cell.vm.isStatics = false ∧ s.vm.findClass RX4 = some cell.cls := va_recv hK hP (ci := 4) (q0 := q0) rfl he
theorem zr_5 {s : State} {H : Heap} {D : va_G} {a q0 : Nat} {fs : List Value} {ws : va_W} {tys : List (ClassId × FieldType)} (hK : va_K D vwCl tys s) (hP : va_P D vwCl ws H) (he : ws[q0]? = some (a, .inr (5, fs))) : ∃ cell : Cell, H[a]? = some cell ∧ cell.vm.isStatics = false ∧ s.vm.findClass RX5 = some cell.cls := va_recv hK hP (ci := 5) (q0 := q0) rfl he
theorem zr_6 {s : State} {H : Heap} {D : va_G} {a q0 : Nat} {fs : List Value} {ws : va_W} {tys : List (ClassId × FieldType)} (hK : va_K D vwCl tys s) (hP : va_P D vwCl ws H) (he : ws[q0]? = some (a, .inr (6, fs))) : ∃ cell : Cell, H[a]? = some cell ∧ cell.vm.isStatics = false ∧ s.vm.findClass RX6 = some cell.cls := va_recv hK hP (ci := 6) (q0 := q0) rfl he
theorem zr_7 {s : State} {H : Heap} {D : va_G} {a q0 : Nat} {fs : List Value} {ws : va_W} {tys : List (ClassId × FieldType)} (hK : va_K D vwCl tys s) (hP : va_P D vwCl ws H) (he : ws[q0]? = some (a, .inr (7, fs))) : ∃ cell : Cell, H[a]? = some cell ∧ cell.vm.isStatics = false ∧ s.vm.findClass RX7 = some cell.cls := va_recv hK hP (ci := 7) (q0 := q0) rfl he
theorem zr_8 {s : State} {H : Heap} {D : va_G} {a q0 : Nat} {fs : List Value} {ws : va_W} {tys : List (ClassId × FieldType)} (hK : va_K D vwCl tys s) (hP : va_P D vwCl ws H) (he : ws[q0]? = some (a, .inr (8, fs))) : ∃ cell : Cell, H[a]? = some cell ∧ cell.vm.isStatics = false ∧ s.vm.findClass RX8 = some cell.cls := va_recv hK hP (ci := 8) (q0 := q0) rfl he
section ZC
theorem zc_key {ws wc : va_W} {is : List Nat} (hs : is.map (fun i => ws[i]?) = wc.map some) (k : Nat) (q : Nat × va_E) (hq : wc[k]? = some q) : ∃ i, is[k]? = some i ∧ ws[i]? = some q := by
  have h1 : (is.map (fun i => ws[i]?))[k]? = some (some q) := by rw [hs, List.getElem?_map, hq]; rfl
  rw [List.getElem?_map] at h1
  cases hi : is[k]? with
  | none => rw [hi] at h1; cases h1
  | some i => rw [hi] at h1; exact ⟨i, rfl, Option.some.inj h1⟩
/-- a callee's world out of the caller's: its cells, apart, free, and the places -/
theorem zc_cut {A0 : Nat → Prop} {D : va_G} {cl : List vw_C} {ws wc : va_W} {H0 H : Heap} {locs : List Loc} (hP : va_P D cl ws H) (hD : va_D A0 ws) (hS : va_S A0 H0 H locs) (hA : ∀ q, H0.size ≤ q → A0 q) (is : List Nat) (hn : va_nd is = true) (hC : is.map (fun i => ws[i]?) = wc.map some) : va_P D cl wc H ∧ va_D A0 wc ∧ (∀ q, va_A wc H.size q → A0 q) ∧ is.map (fun i => ws[i]?) = wc.map some :=
  ⟨fun k q hk => by obtain ⟨i, -, h2⟩ := zc_key hC k q hk; exact hP i q h2, hD.sub is hn hC, va_free hD hS hA is hC, hC⟩
def zc_f (ws w1 : va_W) : Sum Nat Nat → Option (Nat × va_E) := Sum.elim (fun i => ws[i]?) (fun j => w1[j]?)
def zc_code : Sum Nat Nat → Nat := Sum.elim (fun i => 2 * i) (fun j => 2 * j + 1)
def zc_ok (isC : List Nat) (sel : List (Sum Nat Nat)) : Bool := va_nd (sel.map zc_code) && sel.all (Sum.elim (fun i => !decide (i ∈ isC)) (fun _ => true))
/-- behind a call: the caller's other cells and the callee's, in the order that sel says -/
theorem zc_back {A0 : Nat → Prop} {D : va_G} {cl : List vw_C} {ws wc w1 w : va_W} {H H1 : Heap} {isC : List Nat} (hP : va_P D cl ws H) (hD : va_D A0 ws) (hC : isC.map (fun i => ws[i]?) = wc.map some) (hk : ∀ q : Nat, q < H.size → ¬ va_A wc H.size q → H1[q]? = H[q]?) (hF : ∀ q, va_A wc H.size q → A0 q) (hP1 : va_P D cl w1 H1) (hD1 : va_D (va_A wc H.size) w1) (sel : List (Sum Nat Nat)) (ho : zc_ok isC sel = true) (hw : sel.map (zc_f ws w1) = w.map some) : va_P D cl w H1 ∧ va_D A0 w := by
  unfold zc_ok at ho
  rw [Bool.and_eq_true] at ho
  obtain ⟨hn, ha⟩ := ho
  have key : ∀ (k : Nat) (q : Nat × va_E), w[k]? = some q → ∃ c, sel[k]? = some c ∧ zc_f ws w1 c = some q := by
    intro k q hq
    have h1 : (sel.map (zc_f ws w1))[k]? = some (some q) := by rw [hw, List.getElem?_map, hq]; rfl
    rw [List.getElem?_map] at h1
    cases hi : sel[k]? with
    | none => rw [hi] at h1; cases h1
    | some i => rw [hi] at h1; exact ⟨i, rfl, Option.some.inj h1⟩
  have apart : ∀ (k i : Nat) (q : Nat × va_E), sel[k]? = some (.inl i) → ws[i]? = some q → q.1 < H.size ∧ ¬ va_A wc H.size q.1 := by
    intro k i q h1 h2
    have hl := (hP i q h2).lt
    refine ⟨hl, fun h => ?_⟩
    rcases h with ⟨k2, e, h⟩ | h
    · obtain ⟨j, h3, h4⟩ := zc_key hC k2 (q.1, e) h
      have hij := hD.1 i j q (q.1, e) h2 h4 rfl
      subst hij
      have h5 := List.all_eq_true.mp ha (.inl i) (List.mem_of_getElem? h1)
      have h6 : (!decide (i ∈ isC)) = true := h5
      rw [decide_eq_true (List.mem_of_getElem? h3)] at h6
      exact absurd h6 (by decide)
    · omega
  have code : ∀ (a b : Nat) (c : Sum Nat Nat), sel[a]? = some c → sel[b]? = some c → a = b := by
    intro a b c h1 h2
    exact va_nd_inj _ hn a b (zc_code c) (by rw [List.getElem?_map, h1]; rfl) (by rw [List.getElem?_map, h2]; rfl)
  refine ⟨fun k q hq => ?_, fun a b x y ha' hb' hxy => ?_, fun k q hq => ?_⟩
  · obtain ⟨c, h1, h2⟩ := key k q hq
    cases c with
    | inl i =>
      have h2 : ws[i]? = some q := h2
      obtain ⟨g1, g2⟩ := apart k i q h1 h2
      exact (hP i q h2).kept (hk q.1 g1 g2)
    | inr j => exact hP1 j q h2
  · obtain ⟨c, h1, h2⟩ := key a x ha'
    obtain ⟨d, h3, h4⟩ := key b y hb'
    cases c with
    | inl i =>
      have h2 : ws[i]? = some x := h2
      cases d with
      | inl j =>
        have h4 : ws[j]? = some y := h4
        have hij := hD.1 i j x y h2 h4 hxy
        subst hij
        exact code a b _ h1 h3
      | inr j =>
        have h4 : w1[j]? = some y := h4
        exact absurd (hD1.2 j y h4) (by rw [← hxy]; exact (apart a i x h1 h2).2)
    | inr i =>
      have h2 : w1[i]? = some x := h2
      cases d with
      | inl j =>
        have h4 : ws[j]? = some y := h4
        exact absurd (hD1.2 i x h2) (by rw [hxy]; exact (apart b j y h3 h4).2)
      | inr j =>
        have h4 : w1[j]? = some y := h4
        have hij := hD1.1 i j x y h2 h4 hxy
        subst hij
        exact code a b _ h1 h3
  · obtain ⟨c, h1, h2⟩ := key k q hq
    cases c with
    | inl i => exact hD.2 i q h2
    | inr j => exact hF q.1 (hD1.2 j q h2)
theorem zc_re {A0 : Nat → Prop} {D : va_G} {cl : List vw_C} {ws w : va_W} {H : Heap} (hP : va_P D cl ws H) (hD : va_D A0 ws) (h : ws = w) : va_P D cl w H ∧ va_D A0 w := by
  subst h; exact ⟨hP, hD⟩
end ZC
theorem zq0 : (1 : Int32).toInt ≤ (1 : Int) := by decide
theorem zq1 : (1 : Int) ≤ (1 : Int32).toInt := by decide
theorem zq2 : (9 : Int) ≤ (9 : Int32).toInt := by decide
theorem zq3 : (9 : Int32).toInt ≤ (9 : Int) := by decide
theorem zq4 : (0 : Int) ≤ 1 := by decide
theorem zq5 : (0 : Int) ≤ (0 : Int32).toInt := by decide
theorem zq6 : (0 : Int32).toInt ≤ (0 : Int) := by decide
theorem zq7 : (0 : Int) ≤ 9 := by decide
theorem zq8 : (3 : Int) ≤ (3 : Int32).toInt := by decide
theorem zq9 : (3 : Int32).toInt ≤ (3 : Int) := by decide
theorem zq10 : (8 : Int) ≤ 80 := by decide
theorem zq11 : (0 : Int) ≤ 3 := by decide
theorem zq12 : (2 : Int) ≤ (2 : Int32).toInt := by decide
theorem zq13 : (2 : Int32).toInt ≤ (2 : Int) := by decide
theorem zq14 : (2 : Int) * 80 ≤ 2147483647 := by decide
theorem zq15 : (6 : Int) ≤ (6 : Int32).toInt := by decide
theorem zq16 : (6 : Int32).toInt ≤ (6 : Int) := by decide
theorem zq17 : (0 : Int) ≤ 6 := by decide
theorem zq18 : (8 : Int) * 8 ≤ 2147483647 := by decide
theorem zq19 : (0 : Int) < 1 := by decide
theorem zq20 : (0 : Int) ≤ 8 := by decide
theorem zq21 : (9 : Int) * 9 ≤ 2147483647 := by decide
theorem zq22 : (8 : Int) ≤ 9 := by decide
theorem zq23 : (0 : Int) < 100 := by decide
theorem zq24 : (100 : Int) ≤ (100 : Int32).toInt := by decide
theorem zq25 : (0 : Int) < 10 := by decide
theorem zq26 : (10 : Int) ≤ (10 : Int32).toInt := by decide
theorem zq27 : (10 : Int32).toInt ≤ (10 : Int) := by decide
theorem zq28 : (8 : Int32).toInt ≤ (8 : Int) := by decide
theorem zq29 : (729 : Int) ≤ (729 : Int32).toInt := by decide
theorem zq30 : (729 : Int32).toInt ≤ (729 : Int) := by decide
theorem zq31 : (888 : Int) ≤ 999 := by decide
theorem zq32 : (100 : Int32).toInt ≤ (100 : Int) := by decide
theorem zq33 : (100 : Int) * 8 ≤ 2147483647 := by decide
theorem zq34 : (10 : Int) * 8 ≤ 2147483647 := by decide
theorem zq35 : (0 : Int) ≤ 729 := by decide
theorem zq36 : (99 : Int) * 9 ≤ 2147483647 := by decide
theorem zq37 : (900 : Int) ≤ (900 : Int32).toInt := by decide
theorem zq38 : (0 : Int) ≤ 100 := by decide
theorem zq39 : (900 : Int32).toInt ≤ (900 : Int) := by decide
theorem zq40 : (0 : Int) ≤ 900 := by decide
theorem zq41 : (0 : Int) ≤ 99 := by decide
theorem zq42 : (99 : Int) ≤ (99 : Int32).toInt := by decide
theorem zq43 : (99 : Int32).toInt ≤ (99 : Int) := by decide
theorem zq44 : ((-2) : Int32).toInt ≤ (-2 : Int) := by decide
theorem zq45 : (-2 : Int) ≤ ((-2) : Int32).toInt := by decide
theorem zq46 : (60 : Int32).toInt ≤ (60 : Int) := by decide
theorem zq47 : (60 : Int) * 9 ≤ 2147483647 := by decide
theorem zq48 : (1 : Int) ≤ 8 := by decide
theorem zq49 : (7 : Int) ≤ 8 := by decide
theorem zq50 : (0 : Int) ≤ 2 := by decide
theorem zq51 : (60 : Int) ≤ (60 : Int32).toInt := by decide
theorem zq52 : (59 : Int) ≤ 60 := by decide
theorem zq53 : (59 : Int) * 9 ≤ 2147483647 := by decide
theorem zq54 : (1 : Int) ≤ 2 := by decide
theorem zq55 : (1 : Int) ≤ 61 := by decide
theorem zq56 : (1 : Int) ≤ 9 := by decide
theorem zq57 : (-2 : Int) ≤ 300 := by decide
theorem zq58 : (301 : Int) ≤ 729 := by decide
theorem zq59 : (-2 : Int) ≤ 1 := by decide
theorem zq60 : (1 : Int) ≤ 729 := by decide
theorem zq61 : (61 : Int) ≤ 80 := by decide
theorem zq62 : (1 : Int) ≤ 80 := by decide
theorem zq63 : (60 : Int) ≤ 300 := by decide
theorem zq64 : (200 : Int) ≤ (200 : Int32).toInt := by decide
theorem zq65 : (200 : Int32).toInt ≤ (200 : Int) := by decide
theorem zq66 : (0 : Int) ≤ 200 := by decide
theorem zq67 : (4 : Int32).toInt ≤ (4 : Int) := by decide
theorem zq68 : (4 : Int) ≤ (4 : Int32).toInt := by decide
theorem zq69 : (-1 : Int) ≤ 0 := by decide
theorem zq70 : (-1 : Int) ≤ ((-1) : Int32).toInt := by decide
theorem zq71 : ((-1) : Int32).toInt ≤ (-1 : Int) := by decide
theorem zq72 : (-1 : Int) ≤ 8 := by decide
theorem zq73 : (2000000000 : Int32).toInt ≤ (2000000000 : Int) := by decide
theorem zq74 : (-2 : Int) ≤ 8 := by decide
theorem zq75 : (-2 : Int) ≤ 0 := by decide
theorem zq76 : (-2 : Int) ≤ -1 := by decide
theorem zq77 : (-1 : Int) ≤ 9 := by decide
theorem zq78 : (-1 : Int) ≤ 1 := by decide
theorem zq79 : (999 : Int32).toInt ≤ (999 : Int) := by decide
theorem zq80 : (0 : Int) ≤ 2147483646 := by decide
theorem zq81 : (0 : Int) ≤ 999 := by decide
theorem zq82 : (300 : Int32).toInt ≤ (300 : Int) := by decide
theorem zq83 : (0 : Int) ≤ 300 := by decide
theorem zq84 : (300 : Int) ≤ (300 : Int32).toInt := by decide
theorem zq85 : (-1 : Int) ≤ 300 := by decide
theorem zq86 : (1 : Int) ≤ 301 := by decide
theorem zq87 : (300 : Int) ≤ 301 := by decide
theorem zq88 : (-1 : Int) ≤ 301 := by decide
theorem zq89 : (301 : Int) ≤ (301 : Int32).toInt := by decide
theorem zq90 : (301 : Int32).toInt ≤ (301 : Int) := by decide
theorem zq91 : (10 : Int) * 80 ≤ 2147483647 := by decide
theorem zq92 : (0 : Int) ≤ 81 := by decide
theorem zq93 : (0 : Int) ≤ 880 := by decide
theorem zq94 : (-1 : Int) ≤ 880 := by decide
theorem zq95 : (-1 : Int) ≤ 729 := by decide
theorem zq96 : (-1 : Int) ≤ 888 := by decide
theorem zq97 : (-1 : Int) ≤ 80 := by decide
theorem zq98 : (-2 : Int) ≤ 5 := by decide
theorem zq99 : (-1 : Int) ≤ 5 := by decide
theorem zq100 : (0 : Int) < 2 := by decide
theorem zq101 : (0 : Int) ≤ 4 := by decide
theorem zq102 : (-2 : Int) ≤ 11 := by decide
theorem zq103 : (10 : Int) * 1 ≤ 2147483647 := by decide
theorem zq104 : (-1 : Int) ≤ 11 := by decide
theorem zq105 : (65536 : Int32).toInt ≤ (65536 : Int) := by decide
theorem zq106 : (1 : Int) ≤ 201 := by decide
theorem zq107 : (-1 : Int) ≤ 200 := by decide
theorem zq108 : (-2 : Int) ≤ 200 := by decide
theorem zq109 : (0 : Int) < 16 := by decide
theorem zq110 : (16 : Int) ≤ (16 : Int32).toInt := by decide
theorem zq111 : (16 : Int32).toInt ≤ (16 : Int) := by decide
theorem zq112 : (5 : Int) ≤ (5 : Int32).toInt := by decide
theorem zq113 : (5 : Int32).toInt ≤ (5 : Int) := by decide
theorem zq114 : (7 : Int) ≤ (7 : Int32).toInt := by decide
theorem zq115 : (7 : Int32).toInt ≤ (7 : Int) := by decide
theorem zq116 : (8 : Int) ≤ (8 : Int32).toInt := by decide
theorem zq117 : (11 : Int) ≤ (11 : Int32).toInt := by decide
theorem zq118 : (11 : Int32).toInt ≤ (11 : Int) := by decide
theorem zq119 : (12 : Int) ≤ (12 : Int32).toInt := by decide
theorem zq120 : (12 : Int32).toInt ≤ (12 : Int) := by decide
theorem zq121 : (13 : Int) ≤ (13 : Int32).toInt := by decide
theorem zq122 : (13 : Int32).toInt ≤ (13 : Int) := by decide
theorem zq123 : (14 : Int) ≤ (14 : Int32).toInt := by decide
theorem zq124 : (14 : Int32).toInt ≤ (14 : Int) := by decide
theorem zq125 : (15 : Int) ≤ (15 : Int32).toInt := by decide
theorem zq126 : (15 : Int32).toInt ≤ (15 : Int) := by decide
theorem zq127 : (9999 : Int32).toInt ≤ (9999 : Int) := by decide
theorem zq128 : (0 : Int) ≤ 60 := by decide
theorem zq129 : (9999 : Int) ≤ (9999 : Int32).toInt := by decide
theorem zq130 : (2 : Int) ≤ 3 := by decide
theorem zq132 : (24 : Int) ≤ (24 : Int32).toInt := by decide
theorem zq133 : (24 : Int32).toInt ≤ (24 : Int) := by decide
theorem zq135 : (1 : Int) ≤ 4 := by decide
theorem zq136 : (97 : Int32).toInt ≤ (97 : Int) := by decide
theorem zq137 : (97 : Int) ≤ (97 : Int32).toInt := by decide
theorem zq138 : (122 : Int) ≤ (122 : Int32).toInt := by decide
theorem zq139 : (122 : Int32).toInt ≤ (122 : Int) := by decide
theorem zq140 : (2 : Int) ≤ 4 := by decide
theorem zq141 : (48 : Int32).toInt ≤ (48 : Int) := by decide
theorem zq142 : (48 : Int) ≤ (48 : Int32).toInt := by decide
theorem zq143 : (57 : Int) ≤ (57 : Int32).toInt := by decide
theorem zq144 : (57 : Int32).toInt ≤ (57 : Int) := by decide
theorem zq145 : (899 : Int) ≤ 900 := by decide
theorem zq146 : (59 : Int32).toInt ≤ (59 : Int) := by decide
theorem zq147 : (59 : Int) ≤ (59 : Int32).toInt := by decide
theorem zq148 : (32 : Int32).toInt ≤ (32 : Int) := by decide
theorem zq149 : (32 : Int) ≤ (32 : Int32).toInt := by decide
theorem zq150 : (2 : Int) * 2 ≤ 2147483647 := by decide
theorem zq151 : (30 : Int) ≤ (30 : Int32).toInt := by decide
theorem zq152 : (30 : Int32).toInt ≤ (30 : Int) := by decide
theorem zq153 : (20 : Int) ≤ (20 : Int32).toInt := by decide
theorem zq154 : (20 : Int32).toInt ≤ (20 : Int) := by decide
theorem zq155 : (2 : Int) * 8 ≤ 2147483647 := by decide
theorem zq156 : (22 : Int) ≤ (22 : Int32).toInt := by decide
theorem zq157 : (18 : Int) ≤ (18 : Int32).toInt := by decide
theorem zq158 : (18 : Int32).toInt ≤ (18 : Int) := by decide
theorem zq159 : (7 : Int) ≤ 10 := by decide
theorem zq160 : (19 : Int) ≤ (19 : Int32).toInt := by decide
theorem zq161 : (19 : Int32).toInt ≤ (19 : Int) := by decide
theorem zq162 : (21 : Int) ≤ (21 : Int32).toInt := by decide
theorem zq163 : (0 : Int) ≤ 19 := by decide
theorem zq164 : (0 : Int) ≤ 23 := by decide
theorem zq165 : (0 : Int) ≤ (0 : Int32).toInt ∧ (0 : Int32).toInt ≤ 8 := by decide
theorem zq166 : (0 : Int) ≤ (0 : Int32).toInt ∧ (0 : Int32).toInt ≤ 19 := by decide
theorem zq167 : (0 : Int) ≤ 156 := by decide
theorem zq168 : (10 : Int) ≤ 12 := by decide
theorem zq169 : (0 : Int) ≤ 12 := by decide
theorem zq170 : (23 : Int) ≤ (23 : Int32).toInt := by decide
theorem zq171 : (23 : Int32).toInt ≤ (23 : Int) := by decide
theorem zq172 : (0 : Int) ≤ 301 := by decide
theorem zq173 : (81 : Int) ≤ 99 := by decide
theorem zq174 : (100000000 : Int32).toInt ≤ (100000000 : Int) := by decide
theorem zq175 : (-2 : Int) ≤ 880 := by decide
theorem zq176 : (999 : Int) * 8 ≤ 2147483647 := by decide
theorem zq177 : (81 : Int) * 9 ≤ 2147483647 := by decide
theorem zq178 : (0 : Int) < 4 := by decide
theorem zq179 : (728 : Int) ≤ 999 := by decide
theorem zq180 : (100 : Int) * 728 ≤ 2147483647 := by decide
theorem zq181 : (2 : Int) * 5 ≤ 2147483647 := by decide
theorem zq182 : (36 : Int) ≤ (36 : Int32).toInt := by decide
theorem zq183 : (36 : Int32).toInt ≤ (36 : Int) := by decide
theorem zq184 : (-1 : Int) ≤ 72888 := by decide
theorem zq185 : (0 : Int) ≤ 512 := by decide
theorem zq186 : (99 : Int) ≤ 999 := by decide
theorem zq187 : (119 : Int) ≤ 300 := by decide
theorem zq188 : (-2 : Int) ≤ 99 := by decide
theorem zq189 : (8 : Int) ≤ 999 := by decide
theorem zq190 : (19 : Int) ≤ 999 := by decide
theorem zq191 : (0 : Int) ≤ 20 := by decide
theorem zq192 : (80 : Int) ≤ 728 := by decide
theorem zq193 : (81 : Int) ≤ 98 := by decide
theorem zq194 : (0 : Int) ≤ 98 := by decide
theorem zq195 : (10 : Int) * 60 ≤ 2147483647 := by decide
theorem zq196 : (7 : Int) ≤ 9 := by decide
theorem zq197 : (58 : Int) ≤ 59 := by decide
theorem zq198 : (10 : Int) * 59 ≤ 2147483647 := by decide
theorem zq199 : (512 : Int) ≤ 729 := by decide
theorem zq200 : (511 : Int) ≤ 729 := by decide
theorem zq201 : (-2 : Int) ≤ 729 := by decide
theorem zq202 : (75 : Int) ≤ (75 : Int32).toInt := by decide
theorem zq203 : (75 : Int32).toInt ≤ (75 : Int) := by decide
theorem zq204 : (75 : Int) * 65536 ≤ 2147483647 := by decide
theorem zq205 : (74 : Int) ≤ (74 : Int32).toInt := by decide
theorem zq206 : (74 : Int32).toInt ≤ (74 : Int) := by decide
theorem zq207 : (0 : Int) ≤ 74 := by decide
theorem zq208 : (0 : Int) < 65537 := by decide
theorem zq209 : (65537 : Int) ≤ (65537 : Int32).toInt := by decide
theorem zq210 : (65537 : Int32).toInt ≤ (65537 : Int) := by decide
theorem zq211 : (23 : Int) * 15 ≤ 2147483647 := by decide
theorem zq212 : (345 : Int) ≤ (345 : Int32).toInt := by decide
theorem zq213 : (0 : Int) ≤ 345 := by decide
theorem zq214 : (0 : Int) ≤ 15 := by decide
theorem zq215 : (345 : Int32).toInt ≤ (345 : Int) := by decide
theorem zq216 : (23 : Int) * 2 ≤ 2147483647 := by decide
theorem zq217 : (-1 : Int) ≤ 2 := by decide
theorem zq218 : (0 : Int) ≤ 16 := by decide
theorem zq219 : (8 : Int) * 3 ≤ 2147483647 := by decide
theorem zq220 : (0 : Int) ≤ 17 := by decide
theorem zq221 : (0 : Int) ≤ 13 := by decide
theorem zq222 : (16 : Int) ≤ 20 := by decide
theorem zq223 : (12 : Int) ≤ 20 := by decide
theorem zq224 : (0 : Int) ≤ 5 := by decide
theorem zq225 : (8 : Int) ≤ 20 := by decide
theorem zq226 : (4 : Int) ≤ 20 := by decide
theorem zq227 : (880 : Int) ≤ 900 := by decide
theorem zq228 : (-1 : Int) ≤ 900 := by decide
theorem zq229 : (5 : Int) ≤ 6 := by decide
theorem zq230 : (3 : Int) ≤ 4 := by decide
theorem zq231 : (1 : Int) ≤ 900 := by decide
theorem zq232 : (8 : Int) * 11 ≤ 2147483647 := by decide
theorem zq233 : (8 : Int) ≤ 900 := by decide
theorem zq234 : (2 : Int) ≤ 9 := by decide
theorem zq235 : (1 : Int) ≤ 20 := by decide
theorem zq236 : (8 : Int) ≤ 11 := by decide
theorem zq237 : (2 : Int) ≤ 20 := by decide
theorem zq238 : (2 : Int) * 4 ≤ 2147483647 := by decide
theorem zq239 : (156 : Int) ≤ (156 : Int32).toInt := by decide
theorem zq240 : (156 : Int32).toInt ≤ (156 : Int) := by decide
theorem zq241 : (9 : Int) ≤ 23 := by decide
theorem zq242 : (8 : Int) ≤ 19 := by decide
theorem zq243 : (880 : Int) ≤ 896 := by decide
theorem zq244 : (884 : Int) ≤ 896 := by decide
theorem zq245 : (888 : Int) ≤ 896 := by decide
theorem zq246 : (892 : Int) ≤ 896 := by decide
theorem zk_iconst_0 : Int32.ofInt 0 = 0 := by decide
theorem zk_iconst_1 : Int32.ofInt 1 = 1 := by decide
theorem zk_bipush_9 : (Int8.ofInt 9).toInt32 = 9 := by decide
theorem zk_iconst_3 : Int32.ofInt 3 = 3 := by decide
theorem zk_iconst_2 : Int32.ofInt 2 = 2 := by decide
theorem zk_bipush_6 : (Int8.ofInt 6).toInt32 = 6 := by decide
theorem zk_bipush_100 : (Int8.ofInt 100).toInt32 = 100 := by decide
theorem zk_bipush_10 : (Int8.ofInt 10).toInt32 = 10 := by decide
theorem zk_bipush_8 : (Int8.ofInt 8).toInt32 = 8 := by decide
theorem zk_bipush_7 : (Int8.ofInt 7).toInt32 = 7 := by decide
theorem zk_sipush_729 : (Int16.ofInt 729).toInt32 = 729 := by decide
theorem zk_bipush_n2 : (Int8.ofInt (-2)).toInt32 = (-2) := by decide
theorem zk_bipush_99 : (Int8.ofInt 99).toInt32 = 99 := by decide
theorem zk_bipush_60 : (Int8.ofInt 60).toInt32 = 60 := by decide
theorem zk_iconst_n1 : Int32.ofInt (-1) = (-1) := by decide
theorem zk_iconst_4 : Int32.ofInt 4 = 4 := by decide
theorem zk_sipush_200 : (Int16.ofInt 200).toInt32 = 200 := by decide
theorem zk_bipush_75 : (Int8.ofInt 75).toInt32 = 75 := by decide
theorem zk_bipush_74 : (Int8.ofInt 74).toInt32 = 74 := by decide
theorem zk_bipush_16 : (Int8.ofInt 16).toInt32 = 16 := by decide
theorem zk_bipush_63 : (Int8.ofInt 63).toInt32 = 63 := by decide
theorem zk_sipush_999 : (Int16.ofInt 999).toInt32 = 999 := by decide
theorem zk_sipush_300 : (Int16.ofInt 300).toInt32 = 300 := by decide
theorem zk_sipush_301 : (Int16.ofInt 301).toInt32 = 301 := by decide
theorem zk_bipush_n100 : (Int8.ofInt (-100)).toInt32 = (-100) := by decide
theorem zk_sipush_9999 : (Int16.ofInt 9999).toInt32 = 9999 := by decide
theorem zk_iconst_5 : Int32.ofInt 5 = 5 := by decide
theorem zk_bipush_24 : (Int8.ofInt 24).toInt32 = 24 := by decide
theorem zk_sipush_900 : (Int16.ofInt 900).toInt32 = 900 := by decide
theorem zk_bipush_97 : (Int8.ofInt 97).toInt32 = 97 := by decide
theorem zk_bipush_122 : (Int8.ofInt 122).toInt32 = 122 := by decide
theorem zk_bipush_48 : (Int8.ofInt 48).toInt32 = 48 := by decide
theorem zk_bipush_57 : (Int8.ofInt 57).toInt32 = 57 := by decide
theorem zk_bipush_59 : (Int8.ofInt 59).toInt32 = 59 := by decide
theorem zk_bipush_32 : (Int8.ofInt 32).toInt32 = 32 := by decide
theorem zk_bipush_30 : (Int8.ofInt 30).toInt32 = 30 := by decide
theorem zk_bipush_20 : (Int8.ofInt 20).toInt32 = 20 := by decide
theorem zk_bipush_12 : (Int8.ofInt 12).toInt32 = 12 := by decide
theorem zk_bipush_21 : (Int8.ofInt 21).toInt32 = 21 := by decide
theorem zk_bipush_22 : (Int8.ofInt 22).toInt32 = 22 := by decide
theorem zk_bipush_18 : (Int8.ofInt 18).toInt32 = 18 := by decide
theorem zk_bipush_19 : (Int8.ofInt 19).toInt32 = 19 := by decide
theorem zk_sipush_255 : (Int16.ofInt 255).toInt32 = 255 := by decide
theorem zk_bipush_23 : (Int8.ofInt 23).toInt32 = 23 := by decide
theorem zk_bipush_36 : (Int8.ofInt 36).toInt32 = 36 := by decide
theorem zk_sipush_345 : (Int16.ofInt 345).toInt32 = 345 := by decide
theorem zk_bipush_13 : (Int8.ofInt 13).toInt32 = 13 := by decide
theorem zk_bipush_11 : (Int8.ofInt 11).toInt32 = 11 := by decide
theorem zk_sipush_156 : (Int16.ofInt 156).toInt32 = 156 := by decide
theorem zk_bipush_61 : (Int8.ofInt 61).toInt32 = 61 := by decide
theorem zk_sipush_549 : (Int16.ofInt 549).toInt32 = 549 := by decide
theorem zk_sipush_368 : (Int16.ofInt 368).toInt32 = 368 := by decide
theorem zk_bipush_69 : (Int8.ofInt 69).toInt32 = 69 := by decide
theorem zk_sipush_620 : (Int16.ofInt 620).toInt32 = 620 := by decide
theorem zd_J0_charAt_5068e : yJ0_charAt_5068e.cls = RJ0 ∧ yJ0_charAt_5068e.cls ≠ "java/lang/invoke/MethodHandle" ∧ yJ0_charAt_5068e.cls ≠ "java/lang/invoke/VarHandle" ∧ (parseMethodDescriptor yJ0_charAt_5068e.desc).map (fun d => d.parameters.length) = some 1 := by decide +kernel
theorem zd_J0_checkIndex_df160 : yJ0_checkIndex_df160.cls = RJ0 ∧ yJ0_checkIndex_df160.cls ≠ "java/lang/invoke/MethodHandle" ∧ yJ0_checkIndex_df160.cls ≠ "java/lang/invoke/VarHandle" ∧ (parseMethodDescriptor yJ0_checkIndex_df160.desc).map (fun d => d.parameters.length) = some 2 := by decide +kernel
theorem zd_J0_coder_7d493 : yJ0_coder_7d493.cls = RJ0 ∧ yJ0_coder_7d493.cls ≠ "java/lang/invoke/MethodHandle" ∧ yJ0_coder_7d493.cls ≠ "java/lang/invoke/VarHandle" ∧ (parseMethodDescriptor yJ0_coder_7d493.desc).map (fun d => d.parameters.length) = some 0 := by decide +kernel
theorem zd_J0_isLatin1_aae02 : yJ0_isLatin1_aae02.cls = RJ0 ∧ yJ0_isLatin1_aae02.cls ≠ "java/lang/invoke/MethodHandle" ∧ yJ0_isLatin1_aae02.cls ≠ "java/lang/invoke/VarHandle" ∧ (parseMethodDescriptor yJ0_isLatin1_aae02.desc).map (fun d => d.parameters.length) = some 0 := by decide +kernel
theorem zd_J0_length_8abf5 : yJ0_length_8abf5.cls = RJ0 ∧ yJ0_length_8abf5.cls ≠ "java/lang/invoke/MethodHandle" ∧ yJ0_length_8abf5.cls ≠ "java/lang/invoke/VarHandle" ∧ (parseMethodDescriptor yJ0_length_8abf5.desc).map (fun d => d.parameters.length) = some 0 := by decide +kernel
theorem zd_J1_charAt_3b067 : yJ1_charAt_3b067.cls = RJ1 ∧ yJ1_charAt_3b067.cls ≠ "java/lang/invoke/MethodHandle" ∧ yJ1_charAt_3b067.cls ≠ "java/lang/invoke/VarHandle" ∧ (parseMethodDescriptor yJ1_charAt_3b067.desc).map (fun d => d.parameters.length) = some 2 := by decide +kernel
theorem zd_J3_checkIndex_8e157 : yJ3_checkIndex_8e157.cls = RJ3 ∧ yJ3_checkIndex_8e157.cls ≠ "java/lang/invoke/MethodHandle" ∧ yJ3_checkIndex_8e157.cls ≠ "java/lang/invoke/VarHandle" ∧ (parseMethodDescriptor yJ3_checkIndex_8e157.desc).map (fun d => d.parameters.length) = some 3 := by decide +kernel
theorem zd_J6_bitCount_0f7a4 : yJ6_bitCount_0f7a4.cls = RJ6 ∧ yJ6_bitCount_0f7a4.cls ≠ "java/lang/invoke/MethodHandle" ∧ yJ6_bitCount_0f7a4.cls ≠ "java/lang/invoke/VarHandle" ∧ (parseMethodDescriptor yJ6_bitCount_0f7a4.desc).map (fun d => d.parameters.length) = some 1 := by decide +kernel
theorem zd_X0_addFigure : yX0_addFigure.cls = RX0 ∧ yX0_addFigure.cls ≠ "java/lang/invoke/MethodHandle" ∧ yX0_addFigure.cls ≠ "java/lang/invoke/VarHandle" ∧ (parseMethodDescriptor yX0_addFigure.desc).map (fun d => d.parameters.length) = some 3 := by decide +kernel
theorem zd_X0_addSeen : yX0_addSeen.cls = RX0 ∧ yX0_addSeen.cls ≠ "java/lang/invoke/MethodHandle" ∧ yX0_addSeen.cls ≠ "java/lang/invoke/VarHandle" ∧ (parseMethodDescriptor yX0_addSeen.desc).map (fun d => d.parameters.length) = some 2 := by decide +kernel
theorem zd_X0_aliveByLaw : yX0_aliveByLaw.cls = RX0 ∧ yX0_aliveByLaw.cls ≠ "java/lang/invoke/MethodHandle" ∧ yX0_aliveByLaw.cls ≠ "java/lang/invoke/VarHandle" ∧ (parseMethodDescriptor yX0_aliveByLaw.desc).map (fun d => d.parameters.length) = some 2 := by decide +kernel
theorem zd_X0_clear : yX0_clear.cls = RX0 ∧ yX0_clear.cls ≠ "java/lang/invoke/MethodHandle" ∧ yX0_clear.cls ≠ "java/lang/invoke/VarHandle" ∧ (parseMethodDescriptor yX0_clear.desc).map (fun d => d.parameters.length) = some 0 := by decide +kernel
theorem zd_X0_goesLike : yX0_goesLike.cls = RX0 ∧ yX0_goesLike.cls ≠ "java/lang/invoke/MethodHandle" ∧ yX0_goesLike.cls ≠ "java/lang/invoke/VarHandle" ∧ (parseMethodDescriptor yX0_goesLike.desc).map (fun d => d.parameters.length) = some 2 := by decide +kernel
theorem zd_X0_isHeardAt : yX0_isHeardAt.cls = RX0 ∧ yX0_isHeardAt.cls ≠ "java/lang/invoke/MethodHandle" ∧ yX0_isHeardAt.cls ≠ "java/lang/invoke/VarHandle" ∧ (parseMethodDescriptor yX0_isHeardAt.desc).map (fun d => d.parameters.length) = some 2 := by decide +kernel
theorem zd_X0_isSeenMinute : yX0_isSeenMinute.cls = RX0 ∧ yX0_isSeenMinute.cls ≠ "java/lang/invoke/MethodHandle" ∧ yX0_isSeenMinute.cls ≠ "java/lang/invoke/VarHandle" ∧ (parseMethodDescriptor yX0_isSeenMinute.desc).map (fun d => d.parameters.length) = some 1 := by decide +kernel
theorem zd_X0_nearer : yX0_nearer.cls = RX0 ∧ yX0_nearer.cls ≠ "java/lang/invoke/MethodHandle" ∧ yX0_nearer.cls ≠ "java/lang/invoke/VarHandle" ∧ (parseMethodDescriptor yX0_nearer.desc).map (fun d => d.parameters.length) = some 1 := by decide +kernel
theorem zd_X0_next : yX0_next.cls = RX0 ∧ yX0_next.cls ≠ "java/lang/invoke/MethodHandle" ∧ yX0_next.cls ≠ "java/lang/invoke/VarHandle" ∧ (parseMethodDescriptor yX0_next.desc).map (fun d => d.parameters.length) = some 1 := by decide +kernel
theorem zd_X0_partSaid : yX0_partSaid.cls = RX0 ∧ yX0_partSaid.cls ≠ "java/lang/invoke/MethodHandle" ∧ yX0_partSaid.cls ≠ "java/lang/invoke/VarHandle" ∧ (parseMethodDescriptor yX0_partSaid.desc).map (fun d => d.parameters.length) = some 2 := by decide +kernel
theorem zd_X0_pass : yX0_pass.cls = RX0 ∧ yX0_pass.cls ≠ "java/lang/invoke/MethodHandle" ∧ yX0_pass.cls ≠ "java/lang/invoke/VarHandle" ∧ (parseMethodDescriptor yX0_pass.desc).map (fun d => d.parameters.length) = some 2 := by decide +kernel
theorem zd_X0_sizeTold : yX0_sizeTold.cls = RX0 ∧ yX0_sizeTold.cls ≠ "java/lang/invoke/MethodHandle" ∧ yX0_sizeTold.cls ≠ "java/lang/invoke/VarHandle" ∧ (parseMethodDescriptor yX0_sizeTold.desc).map (fun d => d.parameters.length) = some 1 := by decide +kernel
theorem zd_X0_step : yX0_step.cls = RX0 ∧ yX0_step.cls ≠ "java/lang/invoke/MethodHandle" ∧ yX0_step.cls ≠ "java/lang/invoke/VarHandle" ∧ (parseMethodDescriptor yX0_step.desc).map (fun d => d.parameters.length) = some 3 := by decide +kernel
theorem zd_X0_stepsIn : yX0_stepsIn.cls = RX0 ∧ yX0_stepsIn.cls ≠ "java/lang/invoke/MethodHandle" ∧ yX0_stepsIn.cls ≠ "java/lang/invoke/VarHandle" ∧ (parseMethodDescriptor yX0_stepsIn.desc).map (fun d => d.parameters.length) = some 2 := by decide +kernel
theorem zd_X1_addImage : yX1_addImage.cls = RX1 ∧ yX1_addImage.cls ≠ "java/lang/invoke/MethodHandle" ∧ yX1_addImage.cls ≠ "java/lang/invoke/VarHandle" ∧ (parseMethodDescriptor yX1_addImage.desc).map (fun d => d.parameters.length) = some 1 := by decide +kernel
theorem zd_X1_clear : yX1_clear.cls = RX1 ∧ yX1_clear.cls ≠ "java/lang/invoke/MethodHandle" ∧ yX1_clear.cls ≠ "java/lang/invoke/VarHandle" ∧ (parseMethodDescriptor yX1_clear.desc).map (fun d => d.parameters.length) = some 0 := by decide +kernel
theorem zd_X1_goBack : yX1_goBack.cls = RX1 ∧ yX1_goBack.cls ≠ "java/lang/invoke/MethodHandle" ∧ yX1_goBack.cls ≠ "java/lang/invoke/VarHandle" ∧ (parseMethodDescriptor yX1_goBack.desc).map (fun d => d.parameters.length) = some 2 := by decide +kernel
theorem zd_X1_keep : yX1_keep.cls = RX1 ∧ yX1_keep.cls ≠ "java/lang/invoke/MethodHandle" ∧ yX1_keep.cls ≠ "java/lang/invoke/VarHandle" ∧ (parseMethodDescriptor yX1_keep.desc).map (fun d => d.parameters.length) = some 1 := by decide +kernel
theorem zd_X1_takeLatest : yX1_takeLatest.cls = RX1 ∧ yX1_takeLatest.cls ≠ "java/lang/invoke/MethodHandle" ∧ yX1_takeLatest.cls ≠ "java/lang/invoke/VarHandle" ∧ (parseMethodDescriptor yX1_takeLatest.desc).map (fun d => d.parameters.length) = some 1 := by decide +kernel
theorem zd_X2_addIfFit : yX2_addIfFit.cls = RX2 ∧ yX2_addIfFit.cls ≠ "java/lang/invoke/MethodHandle" ∧ yX2_addIfFit.cls ≠ "java/lang/invoke/VarHandle" ∧ (parseMethodDescriptor yX2_addIfFit.desc).map (fun d => d.parameters.length) = some 2 := by decide +kernel
theorem zd_X2_chooseLook : yX2_chooseLook.cls = RX2 ∧ yX2_chooseLook.cls ≠ "java/lang/invoke/MethodHandle" ∧ yX2_chooseLook.cls ≠ "java/lang/invoke/VarHandle" ∧ (parseMethodDescriptor yX2_chooseLook.desc).map (fun d => d.parameters.length) = some 1 := by decide +kernel
theorem zd_X2_forget : yX2_forget.cls = RX2 ∧ yX2_forget.cls ≠ "java/lang/invoke/MethodHandle" ∧ yX2_forget.cls ≠ "java/lang/invoke/VarHandle" ∧ (parseMethodDescriptor yX2_forget.desc).map (fun d => d.parameters.length) = some 0 := by decide +kernel
theorem zd_X2_list : yX2_list.cls = RX2 ∧ yX2_list.cls ≠ "java/lang/invoke/MethodHandle" ∧ yX2_list.cls ≠ "java/lang/invoke/VarHandle" ∧ (parseMethodDescriptor yX2_list.desc).map (fun d => d.parameters.length) = some 1 := by decide +kernel
theorem zd_X2_mostOf : yX2_mostOf.cls = RX2 ∧ yX2_mostOf.cls ≠ "java/lang/invoke/MethodHandle" ∧ yX2_mostOf.cls ≠ "java/lang/invoke/VarHandle" ∧ (parseMethodDescriptor yX2_mostOf.desc).map (fun d => d.parameters.length) = some 1 := by decide +kernel
theorem zd_X2_tally : yX2_tally.cls = RX2 ∧ yX2_tally.cls ≠ "java/lang/invoke/MethodHandle" ∧ yX2_tally.cls ≠ "java/lang/invoke/VarHandle" ∧ (parseMethodDescriptor yX2_tally.desc).map (fun d => d.parameters.length) = some 2 := by decide +kernel
theorem zd_X3_advance : yX3_advance.cls = RX3 ∧ yX3_advance.cls ≠ "java/lang/invoke/MethodHandle" ∧ yX3_advance.cls ≠ "java/lang/invoke/VarHandle" ∧ (parseMethodDescriptor yX3_advance.desc).map (fun d => d.parameters.length) = some 0 := by decide +kernel
theorem zd_X3_append : yX3_append.cls = RX3 ∧ yX3_append.cls ≠ "java/lang/invoke/MethodHandle" ∧ yX3_append.cls ≠ "java/lang/invoke/VarHandle" ∧ (parseMethodDescriptor yX3_append.desc).map (fun d => d.parameters.length) = some 1 := by decide +kernel
theorem zd_X3_exchange : yX3_exchange.cls = RX3 ∧ yX3_exchange.cls ≠ "java/lang/invoke/MethodHandle" ∧ yX3_exchange.cls ≠ "java/lang/invoke/VarHandle" ∧ (parseMethodDescriptor yX3_exchange.desc).map (fun d => d.parameters.length) = some 1 := by decide +kernel
theorem zd_X3_fails : yX3_fails.cls = RX3 ∧ yX3_fails.cls ≠ "java/lang/invoke/MethodHandle" ∧ yX3_fails.cls ≠ "java/lang/invoke/VarHandle" ∧ (parseMethodDescriptor yX3_fails.desc).map (fun d => d.parameters.length) = some 1 := by decide +kernel
theorem zd_X3_isWholeWithin : yX3_isWholeWithin.cls = RX3 ∧ yX3_isWholeWithin.cls ≠ "java/lang/invoke/MethodHandle" ∧ yX3_isWholeWithin.cls ≠ "java/lang/invoke/VarHandle" ∧ (parseMethodDescriptor yX3_isWholeWithin.desc).map (fun d => d.parameters.length) = some 2 := by decide +kernel
theorem zd_X3_isWord : yX3_isWord.cls = RX3 ∧ yX3_isWord.cls ≠ "java/lang/invoke/MethodHandle" ∧ yX3_isWord.cls ≠ "java/lang/invoke/VarHandle" ∧ (parseMethodDescriptor yX3_isWord.desc).map (fun d => d.parameters.length) = some 1 := by decide +kernel
theorem zd_X3_read : yX3_read.cls = RX3 ∧ yX3_read.cls ≠ "java/lang/invoke/MethodHandle" ∧ yX3_read.cls ≠ "java/lang/invoke/VarHandle" ∧ (parseMethodDescriptor yX3_read.desc).map (fun d => d.parameters.length) = some 1 := by decide +kernel
theorem zd_X3_readFigure : yX3_readFigure.cls = RX3 ∧ yX3_readFigure.cls ≠ "java/lang/invoke/MethodHandle" ∧ yX3_readFigure.cls ≠ "java/lang/invoke/VarHandle" ∧ (parseMethodDescriptor yX3_readFigure.desc).map (fun d => d.parameters.length) = some 0 := by decide +kernel
theorem zd_X3_readHall : yX3_readHall.cls = RX3 ∧ yX3_readHall.cls ≠ "java/lang/invoke/MethodHandle" ∧ yX3_readHall.cls ≠ "java/lang/invoke/VarHandle" ∧ (parseMethodDescriptor yX3_readHall.desc).map (fun d => d.parameters.length) = some 0 := by decide +kernel
theorem zd_X3_readLaw : yX3_readLaw.cls = RX3 ∧ yX3_readLaw.cls ≠ "java/lang/invoke/MethodHandle" ∧ yX3_readLaw.cls ≠ "java/lang/invoke/VarHandle" ∧ (parseMethodDescriptor yX3_readLaw.desc).map (fun d => d.parameters.length) = some 0 := by decide +kernel
theorem zd_X3_readLine : yX3_readLine.cls = RX3 ∧ yX3_readLine.cls ≠ "java/lang/invoke/MethodHandle" ∧ yX3_readLine.cls ≠ "java/lang/invoke/VarHandle" ∧ (parseMethodDescriptor yX3_readLine.desc).map (fun d => d.parameters.length) = some 0 := by decide +kernel
theorem zd_X3_readSeen : yX3_readSeen.cls = RX3 ∧ yX3_readSeen.cls ≠ "java/lang/invoke/MethodHandle" ∧ yX3_readSeen.cls ≠ "java/lang/invoke/VarHandle" ∧ (parseMethodDescriptor yX3_readSeen.desc).map (fun d => d.parameters.length) = some 0 := by decide +kernel
theorem zd_X3_readWatcher : yX3_readWatcher.cls = RX3 ∧ yX3_readWatcher.cls ≠ "java/lang/invoke/MethodHandle" ∧ yX3_readWatcher.cls ≠ "java/lang/invoke/VarHandle" ∧ (parseMethodDescriptor yX3_readWatcher.desc).map (fun d => d.parameters.length) = some 0 := by decide +kernel
theorem zd_X3_scanWhole : yX3_scanWhole.cls = RX3 ∧ yX3_scanWhole.cls ≠ "java/lang/invoke/MethodHandle" ∧ yX3_scanWhole.cls ≠ "java/lang/invoke/VarHandle" ∧ (parseMethodDescriptor yX3_scanWhole.desc).map (fun d => d.parameters.length) = some 0 := by decide +kernel
theorem zd_X3_scanWord : yX3_scanWord.cls = RX3 ∧ yX3_scanWord.cls ≠ "java/lang/invoke/MethodHandle" ∧ yX3_scanWord.cls ≠ "java/lang/invoke/VarHandle" ∧ (parseMethodDescriptor yX3_scanWord.desc).map (fun d => d.parameters.length) = some 0 := by decide +kernel
theorem zd_X3_takeName : yX3_takeName.cls = RX3 ∧ yX3_takeName.cls ≠ "java/lang/invoke/MethodHandle" ∧ yX3_takeName.cls ≠ "java/lang/invoke/VarHandle" ∧ (parseMethodDescriptor yX3_takeName.desc).map (fun d => d.parameters.length) = some 0 := by decide +kernel
theorem zd_X3_takeWhole : yX3_takeWhole.cls = RX3 ∧ yX3_takeWhole.cls ≠ "java/lang/invoke/MethodHandle" ∧ yX3_takeWhole.cls ≠ "java/lang/invoke/VarHandle" ∧ (parseMethodDescriptor yX3_takeWhole.desc).map (fun d => d.parameters.length) = some 3 := by decide +kernel
theorem zd_X3_takeWord : yX3_takeWord.cls = RX3 ∧ yX3_takeWord.cls ≠ "java/lang/invoke/MethodHandle" ∧ yX3_takeWord.cls ≠ "java/lang/invoke/VarHandle" ∧ (parseMethodDescriptor yX3_takeWord.desc).map (fun d => d.parameters.length) = some 1 := by decide +kernel
theorem zd_X4_aim : yX4_aim.cls = RX4 ∧ yX4_aim.cls ≠ "java/lang/invoke/MethodHandle" ∧ yX4_aim.cls ≠ "java/lang/invoke/VarHandle" ∧ (parseMethodDescriptor yX4_aim.desc).map (fun d => d.parameters.length) = some 2 := by decide +kernel
theorem zd_X4_minutesWith : yX4_minutesWith.cls = RX4 ∧ yX4_minutesWith.cls ≠ "java/lang/invoke/MethodHandle" ∧ yX4_minutesWith.cls ≠ "java/lang/invoke/VarHandle" ∧ (parseMethodDescriptor yX4_minutesWith.desc).map (fun d => d.parameters.length) = some 1 := by decide +kernel
theorem zd_X4_placeIn : yX4_placeIn.cls = RX4 ∧ yX4_placeIn.cls ≠ "java/lang/invoke/MethodHandle" ∧ yX4_placeIn.cls ≠ "java/lang/invoke/VarHandle" ∧ (parseMethodDescriptor yX4_placeIn.desc).map (fun d => d.parameters.length) = some 2 := by decide +kernel
theorem zd_X4_step : yX4_step.cls = RX4 ∧ yX4_step.cls ≠ "java/lang/invoke/MethodHandle" ∧ yX4_step.cls ≠ "java/lang/invoke/VarHandle" ∧ (parseMethodDescriptor yX4_step.desc).map (fun d => d.parameters.length) = some 2 := by decide +kernel
theorem zd_X4_weigh : yX4_weigh.cls = RX4 ∧ yX4_weigh.cls ≠ "java/lang/invoke/MethodHandle" ∧ yX4_weigh.cls ≠ "java/lang/invoke/VarHandle" ∧ (parseMethodDescriptor yX4_weigh.desc).map (fun d => d.parameters.length) = some 2 := by decide +kernel
theorem zd_X4_worth : yX4_worth.cls = RX4 ∧ yX4_worth.cls ≠ "java/lang/invoke/MethodHandle" ∧ yX4_worth.cls ≠ "java/lang/invoke/VarHandle" ∧ (parseMethodDescriptor yX4_worth.desc).map (fun d => d.parameters.length) = some 2 := by decide +kernel
theorem zd_X5_begin : yX5_begin.cls = RX5 ∧ yX5_begin.cls ≠ "java/lang/invoke/MethodHandle" ∧ yX5_begin.cls ≠ "java/lang/invoke/VarHandle" ∧ (parseMethodDescriptor yX5_begin.desc).map (fun d => d.parameters.length) = some 1 := by decide +kernel
theorem zd_X5_copyFrom : yX5_copyFrom.cls = RX5 ∧ yX5_copyFrom.cls ≠ "java/lang/invoke/MethodHandle" ∧ yX5_copyFrom.cls ≠ "java/lang/invoke/VarHandle" ∧ (parseMethodDescriptor yX5_copyFrom.desc).map (fun d => d.parameters.length) = some 1 := by decide +kernel
theorem zd_X5_isGone : yX5_isGone.cls = RX5 ∧ yX5_isGone.cls ≠ "java/lang/invoke/MethodHandle" ∧ yX5_isGone.cls ≠ "java/lang/invoke/VarHandle" ∧ (parseMethodDescriptor yX5_isGone.desc).map (fun d => d.parameters.length) = some 1 := by decide +kernel
theorem zd_X5_startTurn : yX5_startTurn.cls = RX5 ∧ yX5_startTurn.cls ≠ "java/lang/invoke/MethodHandle" ∧ yX5_startTurn.cls ≠ "java/lang/invoke/VarHandle" ∧ (parseMethodDescriptor yX5_startTurn.desc).map (fun d => d.parameters.length) = some 1 := by decide +kernel
theorem zd_X6_add : yX6_add.cls = RX6 ∧ yX6_add.cls ≠ "java/lang/invoke/MethodHandle" ∧ yX6_add.cls ≠ "java/lang/invoke/VarHandle" ∧ (parseMethodDescriptor yX6_add.desc).map (fun d => d.parameters.length) = some 2 := by decide +kernel
theorem zd_X6_copyFrom : yX6_copyFrom.cls = RX6 ∧ yX6_copyFrom.cls ≠ "java/lang/invoke/MethodHandle" ∧ yX6_copyFrom.cls ≠ "java/lang/invoke/VarHandle" ∧ (parseMethodDescriptor yX6_copyFrom.desc).map (fun d => d.parameters.length) = some 1 := by decide +kernel
theorem zd_X6_placeOf : yX6_placeOf.cls = RX6 ∧ yX6_placeOf.cls ≠ "java/lang/invoke/MethodHandle" ∧ yX6_placeOf.cls ≠ "java/lang/invoke/VarHandle" ∧ (parseMethodDescriptor yX6_placeOf.desc).map (fun d => d.parameters.length) = some 2 := by decide +kernel
theorem zd_X6_placesIn : yX6_placesIn.cls = RX6 ∧ yX6_placesIn.cls ≠ "java/lang/invoke/MethodHandle" ∧ yX6_placesIn.cls ≠ "java/lang/invoke/VarHandle" ∧ (parseMethodDescriptor yX6_placesIn.desc).map (fun d => d.parameters.length) = some 1 := by decide +kernel
theorem zd_X7_answered : yX7_answered.cls = RX7 ∧ yX7_answered.cls ≠ "java/lang/invoke/MethodHandle" ∧ yX7_answered.cls ≠ "java/lang/invoke/VarHandle" ∧ (parseMethodDescriptor yX7_answered.desc).map (fun d => d.parameters.length) = some 1 := by decide +kernel
theorem zd_X7_attendantShare : yX7_attendantShare.cls = RX7 ∧ yX7_attendantShare.cls ≠ "java/lang/invoke/MethodHandle" ∧ yX7_attendantShare.cls ≠ "java/lang/invoke/VarHandle" ∧ (parseMethodDescriptor yX7_attendantShare.desc).map (fun d => d.parameters.length) = some 2 := by decide +kernel
theorem zd_X7_crowdAt : yX7_crowdAt.cls = RX7 ∧ yX7_crowdAt.cls ≠ "java/lang/invoke/MethodHandle" ∧ yX7_crowdAt.cls ≠ "java/lang/invoke/VarHandle" ∧ (parseMethodDescriptor yX7_crowdAt.desc).map (fun d => d.parameters.length) = some 1 := by decide +kernel
theorem zd_X7_figureShare : yX7_figureShare.cls = RX7 ∧ yX7_figureShare.cls ≠ "java/lang/invoke/MethodHandle" ∧ yX7_figureShare.cls ≠ "java/lang/invoke/VarHandle" ∧ (parseMethodDescriptor yX7_figureShare.desc).map (fun d => d.parameters.length) = some 3 := by decide +kernel
theorem zd_X7_hasBit : yX7_hasBit.cls = RX7 ∧ yX7_hasBit.cls ≠ "java/lang/invoke/MethodHandle" ∧ yX7_hasBit.cls ≠ "java/lang/invoke/VarHandle" ∧ (parseMethodDescriptor yX7_hasBit.desc).map (fun d => d.parameters.length) = some 2 := by decide +kernel
theorem zd_X7_hasGallery : yX7_hasGallery.cls = RX7 ∧ yX7_hasGallery.cls ≠ "java/lang/invoke/MethodHandle" ∧ yX7_hasGallery.cls ≠ "java/lang/invoke/VarHandle" ∧ (parseMethodDescriptor yX7_hasGallery.desc).map (fun d => d.parameters.length) = some 0 := by decide +kernel
theorem zd_X7_inLowestTerms : yX7_inLowestTerms.cls = RX7 ∧ yX7_inLowestTerms.cls ≠ "java/lang/invoke/MethodHandle" ∧ yX7_inLowestTerms.cls ≠ "java/lang/invoke/VarHandle" ∧ (parseMethodDescriptor yX7_inLowestTerms.desc).map (fun d => d.parameters.length) = some 3 := by decide +kernel
theorem zd_X7_isFigure : yX7_isFigure.cls = RX7 ∧ yX7_isFigure.cls ≠ "java/lang/invoke/MethodHandle" ∧ yX7_isFigure.cls ≠ "java/lang/invoke/VarHandle" ∧ (parseMethodDescriptor yX7_isFigure.desc).map (fun d => d.parameters.length) = some 1 := by decide +kernel
theorem zd_X7_isPlace : yX7_isPlace.cls = RX7 ∧ yX7_isPlace.cls ≠ "java/lang/invoke/MethodHandle" ∧ yX7_isPlace.cls ≠ "java/lang/invoke/VarHandle" ∧ (parseMethodDescriptor yX7_isPlace.desc).map (fun d => d.parameters.length) = some 1 := by decide +kernel
theorem zd_X7_isRest : yX7_isRest.cls = RX7 ∧ yX7_isRest.cls ≠ "java/lang/invoke/MethodHandle" ∧ yX7_isRest.cls ≠ "java/lang/invoke/VarHandle" ∧ (parseMethodDescriptor yX7_isRest.desc).map (fun d => d.parameters.length) = some 3 := by decide +kernel
theorem zd_X7_isShut : yX7_isShut.cls = RX7 ∧ yX7_isShut.cls ≠ "java/lang/invoke/MethodHandle" ∧ yX7_isShut.cls ≠ "java/lang/invoke/VarHandle" ∧ (parseMethodDescriptor yX7_isShut.desc).map (fun d => d.parameters.length) = some 1 := by decide +kernel
theorem zd_X7_isWatcher : yX7_isWatcher.cls = RX7 ∧ yX7_isWatcher.cls ≠ "java/lang/invoke/MethodHandle" ∧ yX7_isWatcher.cls ≠ "java/lang/invoke/VarHandle" ∧ (parseMethodDescriptor yX7_isWatcher.desc).map (fun d => d.parameters.length) = some 1 := by decide +kernel
theorem zd_X7_laterTurn : yX7_laterTurn.cls = RX7 ∧ yX7_laterTurn.cls ≠ "java/lang/invoke/MethodHandle" ∧ yX7_laterTurn.cls ≠ "java/lang/invoke/VarHandle" ∧ (parseMethodDescriptor yX7_laterTurn.desc).map (fun d => d.parameters.length) = some 5 := by decide +kernel
theorem zd_X7_minutesTillGone : yX7_minutesTillGone.cls = RX7 ∧ yX7_minutesTillGone.cls ≠ "java/lang/invoke/MethodHandle" ∧ yX7_minutesTillGone.cls ≠ "java/lang/invoke/VarHandle" ∧ (parseMethodDescriptor yX7_minutesTillGone.desc).map (fun d => d.parameters.length) = some 2 := by decide +kernel
theorem zd_X7_nextDraw : yX7_nextDraw.cls = RX7 ∧ yX7_nextDraw.cls ≠ "java/lang/invoke/MethodHandle" ∧ yX7_nextDraw.cls ≠ "java/lang/invoke/VarHandle" ∧ (parseMethodDescriptor yX7_nextDraw.desc).map (fun d => d.parameters.length) = some 1 := by decide +kernel
theorem zd_X7_ownTurns : yX7_ownTurns.cls = RX7 ∧ yX7_ownTurns.cls ≠ "java/lang/invoke/MethodHandle" ∧ yX7_ownTurns.cls ≠ "java/lang/invoke/VarHandle" ∧ (parseMethodDescriptor yX7_ownTurns.desc).map (fun d => d.parameters.length) = some 2 := by decide +kernel
theorem zd_X7_passAhead : yX7_passAhead.cls = RX7 ∧ yX7_passAhead.cls ≠ "java/lang/invoke/MethodHandle" ∧ yX7_passAhead.cls ≠ "java/lang/invoke/VarHandle" ∧ (parseMethodDescriptor yX7_passAhead.desc).map (fun d => d.parameters.length) = some 1 := by decide +kernel
theorem zd_X7_placeOfActing : yX7_placeOfActing.cls = RX7 ∧ yX7_placeOfActing.cls ≠ "java/lang/invoke/MethodHandle" ∧ yX7_placeOfActing.cls ≠ "java/lang/invoke/VarHandle" ∧ (parseMethodDescriptor yX7_placeOfActing.desc).map (fun d => d.parameters.length) = some 0 := by decide +kernel
theorem zd_X7_planRoutes : yX7_planRoutes.cls = RX7 ∧ yX7_planRoutes.cls ≠ "java/lang/invoke/MethodHandle" ∧ yX7_planRoutes.cls ≠ "java/lang/invoke/VarHandle" ∧ (parseMethodDescriptor yX7_planRoutes.desc).map (fun d => d.parameters.length) = some 1 := by decide +kernel
theorem zd_X7_postsHold : yX7_postsHold.cls = RX7 ∧ yX7_postsHold.cls ≠ "java/lang/invoke/MethodHandle" ∧ yX7_postsHold.cls ≠ "java/lang/invoke/VarHandle" ∧ (parseMethodDescriptor yX7_postsHold.desc).map (fun d => d.parameters.length) = some 2 := by decide +kernel
theorem zd_X7_refused : yX7_refused.cls = RX7 ∧ yX7_refused.cls ≠ "java/lang/invoke/MethodHandle" ∧ yX7_refused.cls ≠ "java/lang/invoke/VarHandle" ∧ (parseMethodDescriptor yX7_refused.desc).map (fun d => d.parameters.length) = some 1 := by decide +kernel
theorem zd_X7_roundLength : yX7_roundLength.cls = RX7 ∧ yX7_roundLength.cls ≠ "java/lang/invoke/MethodHandle" ∧ yX7_roundLength.cls ≠ "java/lang/invoke/VarHandle" ∧ (parseMethodDescriptor yX7_roundLength.desc).map (fun d => d.parameters.length) = some 0 := by decide +kernel
theorem zd_X7_runAhead : yX7_runAhead.cls = RX7 ∧ yX7_runAhead.cls ≠ "java/lang/invoke/MethodHandle" ∧ yX7_runAhead.cls ≠ "java/lang/invoke/VarHandle" ∧ (parseMethodDescriptor yX7_runAhead.desc).map (fun d => d.parameters.length) = some 1 := by decide +kernel
theorem zd_X7_runAheadOnTrial : yX7_runAheadOnTrial.cls = RX7 ∧ yX7_runAheadOnTrial.cls ≠ "java/lang/invoke/MethodHandle" ∧ yX7_runAheadOnTrial.cls ≠ "java/lang/invoke/VarHandle" ∧ (parseMethodDescriptor yX7_runAheadOnTrial.desc).map (fun d => d.parameters.length) = some 1 := by decide +kernel
theorem zd_X7_troubleOfFigureWithin : yX7_troubleOfFigureWithin.cls = RX7 ∧ yX7_troubleOfFigureWithin.cls ≠ "java/lang/invoke/MethodHandle" ∧ yX7_troubleOfFigureWithin.cls ≠ "java/lang/invoke/VarHandle" ∧ (parseMethodDescriptor yX7_troubleOfFigureWithin.desc).map (fun d => d.parameters.length) = some 3 := by decide +kernel
theorem zd_X7_troubleOfNumber : yX7_troubleOfNumber.cls = RX7 ∧ yX7_troubleOfNumber.cls ≠ "java/lang/invoke/MethodHandle" ∧ yX7_troubleOfNumber.cls ≠ "java/lang/invoke/VarHandle" ∧ (parseMethodDescriptor yX7_troubleOfNumber.desc).map (fun d => d.parameters.length) = some 3 := by decide +kernel
theorem zd_X7_turnFromNow : yX7_turnFromNow.cls = RX7 ∧ yX7_turnFromNow.cls ≠ "java/lang/invoke/MethodHandle" ∧ yX7_turnFromNow.cls ≠ "java/lang/invoke/VarHandle" ∧ (parseMethodDescriptor yX7_turnFromNow.desc).map (fun d => d.parameters.length) = some 1 := by decide +kernel
theorem zd_X7_within : yX7_within.cls = RX7 ∧ yX7_within.cls ≠ "java/lang/invoke/MethodHandle" ∧ yX7_within.cls ≠ "java/lang/invoke/VarHandle" ∧ (parseMethodDescriptor yX7_within.desc).map (fun d => d.parameters.length) = some 3 := by decide +kernel
theorem zd_X8_after : yX8_after.cls = RX8 ∧ yX8_after.cls ≠ "java/lang/invoke/MethodHandle" ∧ yX8_after.cls ≠ "java/lang/invoke/VarHandle" ∧ (parseMethodDescriptor yX8_after.desc).map (fun d => d.parameters.length) = some 3 := by decide +kernel
theorem zd_X8_aheadWhy : yX8_aheadWhy.cls = RX8 ∧ yX8_aheadWhy.cls ≠ "java/lang/invoke/MethodHandle" ∧ yX8_aheadWhy.cls ≠ "java/lang/invoke/VarHandle" ∧ (parseMethodDescriptor yX8_aheadWhy.desc).map (fun d => d.parameters.length) = some 3 := by decide +kernel
theorem zd_X8_begin : yX8_begin.cls = RX8 ∧ yX8_begin.cls ≠ "java/lang/invoke/MethodHandle" ∧ yX8_begin.cls ≠ "java/lang/invoke/VarHandle" ∧ (parseMethodDescriptor yX8_begin.desc).map (fun d => d.parameters.length) = some 0 := by decide +kernel
theorem zd_X8_begins : yX8_begins.cls = RX8 ∧ yX8_begins.cls ≠ "java/lang/invoke/MethodHandle" ∧ yX8_begins.cls ≠ "java/lang/invoke/VarHandle" ∧ (parseMethodDescriptor yX8_begins.desc).map (fun d => d.parameters.length) = some 2 := by decide +kernel
theorem zd_X8_bestFrom : yX8_bestFrom.cls = RX8 ∧ yX8_bestFrom.cls ≠ "java/lang/invoke/MethodHandle" ∧ yX8_bestFrom.cls ≠ "java/lang/invoke/VarHandle" ∧ (parseMethodDescriptor yX8_bestFrom.desc).map (fun d => d.parameters.length) = some 3 := by decide +kernel
theorem zd_X8_between : yX8_between.cls = RX8 ∧ yX8_between.cls ≠ "java/lang/invoke/MethodHandle" ∧ yX8_between.cls ≠ "java/lang/invoke/VarHandle" ∧ (parseMethodDescriptor yX8_between.desc).map (fun d => d.parameters.length) = some 2 := by decide +kernel
theorem zd_X8_byCode : yX8_byCode.cls = RX8 ∧ yX8_byCode.cls ≠ "java/lang/invoke/MethodHandle" ∧ yX8_byCode.cls ≠ "java/lang/invoke/VarHandle" ∧ (parseMethodDescriptor yX8_byCode.desc).map (fun d => d.parameters.length) = some 2 := by decide +kernel
theorem zd_X8_codes : yX8_codes.cls = RX8 ∧ yX8_codes.cls ≠ "java/lang/invoke/MethodHandle" ∧ yX8_codes.cls ≠ "java/lang/invoke/VarHandle" ∧ (parseMethodDescriptor yX8_codes.desc).map (fun d => d.parameters.length) = some 0 := by decide +kernel
theorem zd_X8_copy : yX8_copy.cls = RX8 ∧ yX8_copy.cls ≠ "java/lang/invoke/MethodHandle" ∧ yX8_copy.cls ≠ "java/lang/invoke/VarHandle" ∧ (parseMethodDescriptor yX8_copy.desc).map (fun d => d.parameters.length) = some 5 := by decide +kernel
theorem zd_X8_doesFit : yX8_doesFit.cls = RX8 ∧ yX8_doesFit.cls ≠ "java/lang/invoke/MethodHandle" ∧ yX8_doesFit.cls ≠ "java/lang/invoke/VarHandle" ∧ (parseMethodDescriptor yX8_doesFit.desc).map (fun d => d.parameters.length) = some 1 := by decide +kernel
theorem zd_X8_drawWhy : yX8_drawWhy.cls = RX8 ∧ yX8_drawWhy.cls ≠ "java/lang/invoke/MethodHandle" ∧ yX8_drawWhy.cls ≠ "java/lang/invoke/VarHandle" ∧ (parseMethodDescriptor yX8_drawWhy.desc).map (fun d => d.parameters.length) = some 4 := by decide +kernel
theorem zd_X8_figureHas : yX8_figureHas.cls = RX8 ∧ yX8_figureHas.cls ≠ "java/lang/invoke/MethodHandle" ∧ yX8_figureHas.cls ≠ "java/lang/invoke/VarHandle" ∧ (parseMethodDescriptor yX8_figureHas.desc).map (fun d => d.parameters.length) = some 3 := by decide +kernel
theorem zd_X8_figureLine : yX8_figureLine.cls = RX8 ∧ yX8_figureLine.cls ≠ "java/lang/invoke/MethodHandle" ∧ yX8_figureLine.cls ≠ "java/lang/invoke/VarHandle" ∧ (parseMethodDescriptor yX8_figureLine.desc).map (fun d => d.parameters.length) = some 0 := by decide +kernel
theorem zd_X8_galleryLine : yX8_galleryLine.cls = RX8 ∧ yX8_galleryLine.cls ≠ "java/lang/invoke/MethodHandle" ∧ yX8_galleryLine.cls ≠ "java/lang/invoke/VarHandle" ∧ (parseMethodDescriptor yX8_galleryLine.desc).map (fun d => d.parameters.length) = some 0 := by decide +kernel
theorem zd_X8_goRound : yX8_goRound.cls = RX8 ∧ yX8_goRound.cls ≠ "java/lang/invoke/MethodHandle" ∧ yX8_goRound.cls ≠ "java/lang/invoke/VarHandle" ∧ (parseMethodDescriptor yX8_goRound.desc).map (fun d => d.parameters.length) = some 0 := by decide +kernel
theorem zd_X8_good : yX8_good.cls = RX8 ∧ yX8_good.cls ≠ "java/lang/invoke/MethodHandle" ∧ yX8_good.cls ≠ "java/lang/invoke/VarHandle" ∧ (parseMethodDescriptor yX8_good.desc).map (fun d => d.parameters.length) = some 0 := by decide +kernel
theorem zd_X8_hasBit : yX8_hasBit.cls = RX8 ∧ yX8_hasBit.cls ≠ "java/lang/invoke/MethodHandle" ∧ yX8_hasBit.cls ≠ "java/lang/invoke/VarHandle" ∧ (parseMethodDescriptor yX8_hasBit.desc).map (fun d => d.parameters.length) = some 2 := by decide +kernel
theorem zd_X8_in : yX8_in.cls = RX8 ∧ yX8_in.cls ≠ "java/lang/invoke/MethodHandle" ∧ yX8_in.cls ≠ "java/lang/invoke/VarHandle" ∧ (parseMethodDescriptor yX8_in.desc).map (fun d => d.parameters.length) = some 3 := by decide +kernel
theorem zd_X8_isDigit : yX8_isDigit.cls = RX8 ∧ yX8_isDigit.cls ≠ "java/lang/invoke/MethodHandle" ∧ yX8_isDigit.cls ≠ "java/lang/invoke/VarHandle" ∧ (parseMethodDescriptor yX8_isDigit.desc).map (fun d => d.parameters.length) = some 1 := by decide +kernel
theorem zd_X8_isFigure : yX8_isFigure.cls = RX8 ∧ yX8_isFigure.cls ≠ "java/lang/invoke/MethodHandle" ∧ yX8_isFigure.cls ≠ "java/lang/invoke/VarHandle" ∧ (parseMethodDescriptor yX8_isFigure.desc).map (fun d => d.parameters.length) = some 1 := by decide +kernel
theorem zd_X8_isKnown : yX8_isKnown.cls = RX8 ∧ yX8_isKnown.cls ≠ "java/lang/invoke/MethodHandle" ∧ yX8_isKnown.cls ≠ "java/lang/invoke/VarHandle" ∧ (parseMethodDescriptor yX8_isKnown.desc).map (fun d => d.parameters.length) = some 0 := by decide +kernel
theorem zd_X8_isNot : yX8_isNot.cls = RX8 ∧ yX8_isNot.cls ≠ "java/lang/invoke/MethodHandle" ∧ yX8_isNot.cls ≠ "java/lang/invoke/VarHandle" ∧ (parseMethodDescriptor yX8_isNot.desc).map (fun d => d.parameters.length) = some 1 := by decide +kernel
theorem zd_X8_isSmall : yX8_isSmall.cls = RX8 ∧ yX8_isSmall.cls ≠ "java/lang/invoke/MethodHandle" ∧ yX8_isSmall.cls ≠ "java/lang/invoke/VarHandle" ∧ (parseMethodDescriptor yX8_isSmall.desc).map (fun d => d.parameters.length) = some 1 := by decide +kernel
theorem zd_X8_isWatched : yX8_isWatched.cls = RX8 ∧ yX8_isWatched.cls ≠ "java/lang/invoke/MethodHandle" ∧ yX8_isWatched.cls ≠ "java/lang/invoke/VarHandle" ∧ (parseMethodDescriptor yX8_isWatched.desc).map (fun d => d.parameters.length) = some 2 := by decide +kernel
theorem zd_X8_isWatcher : yX8_isWatcher.cls = RX8 ∧ yX8_isWatcher.cls ≠ "java/lang/invoke/MethodHandle" ∧ yX8_isWatcher.cls ≠ "java/lang/invoke/VarHandle" ∧ (parseMethodDescriptor yX8_isWatcher.desc).map (fun d => d.parameters.length) = some 1 := by decide +kernel
theorem zd_X8_isWord : yX8_isWord.cls = RX8 ∧ yX8_isWord.cls ≠ "java/lang/invoke/MethodHandle" ∧ yX8_isWord.cls ≠ "java/lang/invoke/VarHandle" ∧ (parseMethodDescriptor yX8_isWord.desc).map (fun d => d.parameters.length) = some 1 := by decide +kernel
theorem zd_X8_last : yX8_last.cls = RX8 ∧ yX8_last.cls ≠ "java/lang/invoke/MethodHandle" ∧ yX8_last.cls ≠ "java/lang/invoke/VarHandle" ∧ (parseMethodDescriptor yX8_last.desc).map (fun d => d.parameters.length) = some 0 := by decide +kernel
theorem zd_X8_lawLine : yX8_lawLine.cls = RX8 ∧ yX8_lawLine.cls ≠ "java/lang/invoke/MethodHandle" ∧ yX8_lawLine.cls ≠ "java/lang/invoke/VarHandle" ∧ (parseMethodDescriptor yX8_lawLine.desc).map (fun d => d.parameters.length) = some 0 := by decide +kernel
theorem zd_X8_layOften : yX8_layOften.cls = RX8 ∧ yX8_layOften.cls ≠ "java/lang/invoke/MethodHandle" ∧ yX8_layOften.cls ≠ "java/lang/invoke/VarHandle" ∧ (parseMethodDescriptor yX8_layOften.desc).map (fun d => d.parameters.length) = some 1 := by decide +kernel
theorem zd_X8_layRoute : yX8_layRoute.cls = RX8 ∧ yX8_layRoute.cls ≠ "java/lang/invoke/MethodHandle" ∧ yX8_layRoute.cls ≠ "java/lang/invoke/VarHandle" ∧ (parseMethodDescriptor yX8_layRoute.desc).map (fun d => d.parameters.length) = some 1 := by decide +kernel
theorem zd_X8_lookOf : yX8_lookOf.cls = RX8 ∧ yX8_lookOf.cls ≠ "java/lang/invoke/MethodHandle" ∧ yX8_lookOf.cls ≠ "java/lang/invoke/VarHandle" ∧ (parseMethodDescriptor yX8_lookOf.desc).map (fun d => d.parameters.length) = some 0 := by decide +kernel
theorem zd_X8_lowest : yX8_lowest.cls = RX8 ∧ yX8_lowest.cls ≠ "java/lang/invoke/MethodHandle" ∧ yX8_lowest.cls ≠ "java/lang/invoke/VarHandle" ∧ (parseMethodDescriptor yX8_lowest.desc).map (fun d => d.parameters.length) = some 3 := by decide +kernel
theorem zd_X8_minuteOn : yX8_minuteOn.cls = RX8 ∧ yX8_minuteOn.cls ≠ "java/lang/invoke/MethodHandle" ∧ yX8_minuteOn.cls ≠ "java/lang/invoke/VarHandle" ∧ (parseMethodDescriptor yX8_minuteOn.desc).map (fun d => d.parameters.length) = some 1 := by decide +kernel
theorem zd_X8_minutesOn : yX8_minutesOn.cls = RX8 ∧ yX8_minutesOn.cls ≠ "java/lang/invoke/MethodHandle" ∧ yX8_minutesOn.cls ≠ "java/lang/invoke/VarHandle" ∧ (parseMethodDescriptor yX8_minutesOn.desc).map (fun d => d.parameters.length) = some 1 := by decide +kernel
theorem zd_X8_must : yX8_must.cls = RX8 ∧ yX8_must.cls ≠ "java/lang/invoke/MethodHandle" ∧ yX8_must.cls ≠ "java/lang/invoke/VarHandle" ∧ (parseMethodDescriptor yX8_must.desc).map (fun d => d.parameters.length) = some 1 := by decide +kernel
theorem zd_X8_newName : yX8_newName.cls = RX8 ∧ yX8_newName.cls ≠ "java/lang/invoke/MethodHandle" ∧ yX8_newName.cls ≠ "java/lang/invoke/VarHandle" ∧ (parseMethodDescriptor yX8_newName.desc).map (fun d => d.parameters.length) = some 1 := by decide +kernel
theorem zd_X8_next : yX8_next.cls = RX8 ∧ yX8_next.cls ≠ "java/lang/invoke/MethodHandle" ∧ yX8_next.cls ≠ "java/lang/invoke/VarHandle" ∧ (parseMethodDescriptor yX8_next.desc).map (fun d => d.parameters.length) = some 0 := by decide +kernel
theorem zd_X8_nextGone : yX8_nextGone.cls = RX8 ∧ yX8_nextGone.cls ≠ "java/lang/invoke/MethodHandle" ∧ yX8_nextGone.cls ≠ "java/lang/invoke/VarHandle" ∧ (parseMethodDescriptor yX8_nextGone.desc).map (fun d => d.parameters.length) = some 0 := by decide +kernel
theorem zd_X8_nextOf : yX8_nextOf.cls = RX8 ∧ yX8_nextOf.cls ≠ "java/lang/invoke/MethodHandle" ∧ yX8_nextOf.cls ≠ "java/lang/invoke/VarHandle" ∧ (parseMethodDescriptor yX8_nextOf.desc).map (fun d => d.parameters.length) = some 1 := by decide +kernel
theorem zd_X8_no : yX8_no.cls = RX8 ∧ yX8_no.cls ≠ "java/lang/invoke/MethodHandle" ∧ yX8_no.cls ≠ "java/lang/invoke/VarHandle" ∧ (parseMethodDescriptor yX8_no.desc).map (fun d => d.parameters.length) = some 1 := by decide +kernel
theorem zd_X8_note : yX8_note.cls = RX8 ∧ yX8_note.cls ≠ "java/lang/invoke/MethodHandle" ∧ yX8_note.cls ≠ "java/lang/invoke/VarHandle" ∧ (parseMethodDescriptor yX8_note.desc).map (fun d => d.parameters.length) = some 0 := by decide +kernel
theorem zd_X8_number : yX8_number.cls = RX8 ∧ yX8_number.cls ≠ "java/lang/invoke/MethodHandle" ∧ yX8_number.cls ≠ "java/lang/invoke/VarHandle" ∧ (parseMethodDescriptor yX8_number.desc).map (fun d => d.parameters.length) = some 2 := by decide +kernel
theorem zd_X8_numberHere : yX8_numberHere.cls = RX8 ∧ yX8_numberHere.cls ≠ "java/lang/invoke/MethodHandle" ∧ yX8_numberHere.cls ≠ "java/lang/invoke/VarHandle" ∧ (parseMethodDescriptor yX8_numberHere.desc).map (fun d => d.parameters.length) = some 2 := by decide +kernel
theorem zd_X8_numberOf : yX8_numberOf.cls = RX8 ∧ yX8_numberOf.cls ≠ "java/lang/invoke/MethodHandle" ∧ yX8_numberOf.cls ≠ "java/lang/invoke/VarHandle" ∧ (parseMethodDescriptor yX8_numberOf.desc).map (fun d => d.parameters.length) = some 1 := by decide +kernel
theorem zd_X8_ones : yX8_ones.cls = RX8 ∧ yX8_ones.cls ≠ "java/lang/invoke/MethodHandle" ∧ yX8_ones.cls ≠ "java/lang/invoke/VarHandle" ∧ (parseMethodDescriptor yX8_ones.desc).map (fun d => d.parameters.length) = some 1 := by decide +kernel
theorem zd_X8_otherHas : yX8_otherHas.cls = RX8 ∧ yX8_otherHas.cls ≠ "java/lang/invoke/MethodHandle" ∧ yX8_otherHas.cls ≠ "java/lang/invoke/VarHandle" ∧ (parseMethodDescriptor yX8_otherHas.desc).map (fun d => d.parameters.length) = some 2 := by decide +kernel
theorem zd_X8_pass : yX8_pass.cls = RX8 ∧ yX8_pass.cls ≠ "java/lang/invoke/MethodHandle" ∧ yX8_pass.cls ≠ "java/lang/invoke/VarHandle" ∧ (parseMethodDescriptor yX8_pass.desc).map (fun d => d.parameters.length) = some 0 := by decide +kernel
theorem zd_X8_readLine : yX8_readLine.cls = RX8 ∧ yX8_readLine.cls ≠ "java/lang/invoke/MethodHandle" ∧ yX8_readLine.cls ≠ "java/lang/invoke/VarHandle" ∧ (parseMethodDescriptor yX8_readLine.desc).map (fun d => d.parameters.length) = some 0 := by decide +kernel
theorem zd_X8_routeWhy : yX8_routeWhy.cls = RX8 ∧ yX8_routeWhy.cls ≠ "java/lang/invoke/MethodHandle" ∧ yX8_routeWhy.cls ≠ "java/lang/invoke/VarHandle" ∧ (parseMethodDescriptor yX8_routeWhy.desc).map (fun d => d.parameters.length) = some 2 := by decide +kernel
theorem zd_X8_see : yX8_see.cls = RX8 ∧ yX8_see.cls ≠ "java/lang/invoke/MethodHandle" ∧ yX8_see.cls ≠ "java/lang/invoke/VarHandle" ∧ (parseMethodDescriptor yX8_see.desc).map (fun d => d.parameters.length) = some 1 := by decide +kernel
theorem zd_X8_seekRests : yX8_seekRests.cls = RX8 ∧ yX8_seekRests.cls ≠ "java/lang/invoke/MethodHandle" ∧ yX8_seekRests.cls ≠ "java/lang/invoke/VarHandle" ∧ (parseMethodDescriptor yX8_seekRests.desc).map (fun d => d.parameters.length) = some 1 := by decide +kernel
theorem zd_X8_seenLine : yX8_seenLine.cls = RX8 ∧ yX8_seenLine.cls ≠ "java/lang/invoke/MethodHandle" ∧ yX8_seenLine.cls ≠ "java/lang/invoke/VarHandle" ∧ (parseMethodDescriptor yX8_seenLine.desc).map (fun d => d.parameters.length) = some 0 := by decide +kernel
theorem zd_X8_speakOn : yX8_speakOn.cls = RX8 ∧ yX8_speakOn.cls ≠ "java/lang/invoke/MethodHandle" ∧ yX8_speakOn.cls ≠ "java/lang/invoke/VarHandle" ∧ (parseMethodDescriptor yX8_speakOn.desc).map (fun d => d.parameters.length) = some 2 := by decide +kernel
theorem zd_X8_takesWord : yX8_takesWord.cls = RX8 ∧ yX8_takesWord.cls ≠ "java/lang/invoke/MethodHandle" ∧ yX8_takesWord.cls ≠ "java/lang/invoke/VarHandle" ∧ (parseMethodDescriptor yX8_takesWord.desc).map (fun d => d.parameters.length) = some 1 := by decide +kernel
theorem zd_X8_turnAt : yX8_turnAt.cls = RX8 ∧ yX8_turnAt.cls ≠ "java/lang/invoke/MethodHandle" ∧ yX8_turnAt.cls ≠ "java/lang/invoke/VarHandle" ∧ (parseMethodDescriptor yX8_turnAt.desc).map (fun d => d.parameters.length) = some 1 := by decide +kernel
theorem zd_X8_turnBy : yX8_turnBy.cls = RX8 ∧ yX8_turnBy.cls ≠ "java/lang/invoke/MethodHandle" ∧ yX8_turnBy.cls ≠ "java/lang/invoke/VarHandle" ∧ (parseMethodDescriptor yX8_turnBy.desc).map (fun d => d.parameters.length) = some 4 := by decide +kernel
theorem zd_X8_turnsOf : yX8_turnsOf.cls = RX8 ∧ yX8_turnsOf.cls ≠ "java/lang/invoke/MethodHandle" ∧ yX8_turnsOf.cls ≠ "java/lang/invoke/VarHandle" ∧ (parseMethodDescriptor yX8_turnsOf.desc).map (fun d => d.parameters.length) = some 2 := by decide +kernel
theorem zd_X8_walkOn : yX8_walkOn.cls = RX8 ∧ yX8_walkOn.cls ≠ "java/lang/invoke/MethodHandle" ∧ yX8_walkOn.cls ≠ "java/lang/invoke/VarHandle" ∧ (parseMethodDescriptor yX8_walkOn.desc).map (fun d => d.parameters.length) = some 2 := by decide +kernel
theorem zd_X8_watchAsTold : yX8_watchAsTold.cls = RX8 ∧ yX8_watchAsTold.cls ≠ "java/lang/invoke/MethodHandle" ∧ yX8_watchAsTold.cls ≠ "java/lang/invoke/VarHandle" ∧ (parseMethodDescriptor yX8_watchAsTold.desc).map (fun d => d.parameters.length) = some 0 := by decide +kernel
theorem zd_X8_watcherAt : yX8_watcherAt.cls = RX8 ∧ yX8_watcherAt.cls ≠ "java/lang/invoke/MethodHandle" ∧ yX8_watcherAt.cls ≠ "java/lang/invoke/VarHandle" ∧ (parseMethodDescriptor yX8_watcherAt.desc).map (fun d => d.parameters.length) = some 2 := by decide +kernel
theorem zd_X8_watcherLine : yX8_watcherLine.cls = RX8 ∧ yX8_watcherLine.cls ≠ "java/lang/invoke/MethodHandle" ∧ yX8_watcherLine.cls ≠ "java/lang/invoke/VarHandle" ∧ (parseMethodDescriptor yX8_watcherLine.desc).map (fun d => d.parameters.length) = some 0 := by decide +kernel
theorem zd_X8_why : yX8_why.cls = RX8 ∧ yX8_why.cls ≠ "java/lang/invoke/MethodHandle" ∧ yX8_why.cls ≠ "java/lang/invoke/VarHandle" ∧ (parseMethodDescriptor yX8_why.desc).map (fun d => d.parameters.length) = some 2 := by decide +kernel
theorem zd_X8_wrong : yX8_wrong.cls = RX8 ∧ yX8_wrong.cls ≠ "java/lang/invoke/MethodHandle" ∧ yX8_wrong.cls ≠ "java/lang/invoke/VarHandle" ∧ (parseMethodDescriptor yX8_wrong.desc).map (fun d => d.parameters.length) = some 2 := by decide +kernel
theorem zi_X0_addFigure_0 : ∀ w ∈ u_ws RX0 TX0 15, w ∈ wsX0_addFigure := fun _ h => (List.mem_cons_of_mem _ (List.mem_append_right _ h))
theorem zi_X0_addSeen_0 : ∀ w ∈ u_ws RX0 TX0 15, w ∈ wsX0_addSeen := fun _ h => (List.mem_cons_of_mem _ (List.mem_append_right _ h))
theorem zi_X0_aliveByLaw_0 : ∀ w ∈ u_ws RX0 TX0 15, w ∈ wsX0_aliveByLaw := fun _ h => (List.mem_cons_of_mem _ (List.mem_append_right _ h))
theorem zi_X0_clear_0 : ∀ w ∈ u_ws RX0 TX0 15, w ∈ wsX0_clear := fun _ h => (List.mem_cons_of_mem _ (List.mem_append_left _ (List.mem_append_right _ h)))
theorem zi_X0_clear_6 : ∀ w ∈ u_ws RX6 TX6 4, w ∈ wsX0_clear := fun _ h => (List.mem_cons_of_mem _ (List.mem_append_right _ h))
theorem zi_X0_goesLike_0 : ∀ w ∈ u_ws RX0 TX0 15, w ∈ wsX0_goesLike := fun _ h => (List.mem_cons_of_mem _ (List.mem_append_right _ h))
theorem zi_X0_isSeenMinute_0 : ∀ w ∈ u_ws RX0 TX0 15, w ∈ wsX0_isSeenMinute := fun _ h => (List.mem_cons_of_mem _ (List.mem_append_right _ h))
theorem zi_X0_nearer_0 : ∀ w ∈ u_ws RX0 TX0 15, w ∈ wsX0_nearer := fun _ h => (List.mem_cons_of_mem _ (List.mem_append_right _ h))
theorem zi_X0_next_0 : ∀ w ∈ u_ws RX0 TX0 15, w ∈ wsX0_next := fun _ h => (List.mem_cons_of_mem _ (List.mem_append_right _ h))
theorem zi_X0_partSaid_0 : ∀ w ∈ u_ws RX0 TX0 15, w ∈ wsX0_partSaid := fun _ h => (List.mem_cons_of_mem _ (List.mem_append_right _ h))
theorem zi_X0_pass_0 : ∀ w ∈ u_ws RX0 TX0 15, w ∈ wsX0_pass := fun _ h => (List.mem_cons_of_mem _ (List.mem_append_left _ (List.mem_append_right _ h)))
theorem zi_X0_pass_5 : ∀ w ∈ u_ws RX5 TX5 7, w ∈ wsX0_pass := fun _ h => (List.mem_cons_of_mem _ (List.mem_append_left _ (List.mem_append_left _ (List.mem_append_right _ h))))
theorem zi_X0_sizeTold_0 : ∀ w ∈ u_ws RX0 TX0 15, w ∈ wsX0_sizeTold := fun _ h => (List.mem_cons_of_mem _ (List.mem_append_left _ (List.mem_append_right _ h)))
theorem zi_X0_sizeTold_6 : ∀ w ∈ u_ws RX6 TX6 4, w ∈ wsX0_sizeTold := fun _ h => (List.mem_cons_of_mem _ (List.mem_append_right _ h))
theorem zi_X0_step_0 : ∀ w ∈ u_ws RX0 TX0 15, w ∈ wsX0_step := fun _ h => (List.mem_cons_of_mem _ (List.mem_append_left _ (List.mem_append_right _ h)))
theorem zi_X0_step_5 : ∀ w ∈ u_ws RX5 TX5 7, w ∈ wsX0_step := fun _ h => (List.mem_cons_of_mem _ (List.mem_append_left _ (List.mem_append_left _ (List.mem_append_right _ h))))
theorem zi_X0_stepsIn_0 : ∀ w ∈ u_ws RX0 TX0 15, w ∈ wsX0_stepsIn := fun _ h => (List.mem_cons_of_mem _ (List.mem_append_right _ h))
theorem zi_X1_addImage_1 : ∀ w ∈ u_ws RX1 TX1 5, w ∈ wsX1_addImage := fun _ h => (List.mem_cons_of_mem _ (List.mem_append_left _ (List.mem_append_right _ h)))
theorem zi_X1_clear_1 : ∀ w ∈ u_ws RX1 TX1 5, w ∈ wsX1_clear := fun _ h => (List.mem_cons_of_mem _ (List.mem_append_right _ h))
theorem zi_X1_goBack_1 : ∀ w ∈ u_ws RX1 TX1 5, w ∈ wsX1_goBack := fun _ h => (List.mem_cons_of_mem _ (List.mem_append_left _ (List.mem_append_right _ h)))
theorem zi_X1_keep_1 : ∀ w ∈ u_ws RX1 TX1 5, w ∈ wsX1_keep := fun _ h => (List.mem_cons_of_mem _ (List.mem_append_left _ (List.mem_append_right _ h)))
theorem zi_X1_takeLatest_1 : ∀ w ∈ u_ws RX1 TX1 5, w ∈ wsX1_takeLatest := fun _ h => (List.mem_cons_of_mem _ (List.mem_append_left _ (List.mem_append_right _ h)))
theorem zi_X2_addIfFit_0 : ∀ w ∈ u_ws RX0 TX0 15, w ∈ wsX2_addIfFit := fun _ h => (List.mem_cons_of_mem _ (List.mem_append_left _ (List.mem_append_right _ h)))
theorem zi_X2_addIfFit_2 : ∀ w ∈ u_ws RX2 TX2 7, w ∈ wsX2_addIfFit := fun _ h => (List.mem_cons_of_mem _ (List.mem_append_right _ h))
theorem zi_X2_chooseLook_0 : ∀ w ∈ u_ws RX0 TX0 15, w ∈ wsX2_chooseLook := fun _ h => (List.mem_cons_of_mem _ (List.mem_append_right _ h))
theorem zi_X2_chooseLook_2 : ∀ w ∈ u_ws RX2 TX2 7, w ∈ wsX2_chooseLook := fun _ h => (List.mem_cons_of_mem _ (List.mem_append_left _ (List.mem_append_right _ h)))
theorem zi_X2_forget_2 : ∀ w ∈ u_ws RX2 TX2 7, w ∈ wsX2_forget := fun _ h => (List.mem_cons_of_mem _ (List.mem_append_right _ h))
theorem zi_X2_list_0 : ∀ w ∈ u_ws RX0 TX0 15, w ∈ wsX2_list := fun _ h => (List.mem_cons_of_mem _ (List.mem_append_right _ h))
theorem zi_X2_list_2 : ∀ w ∈ u_ws RX2 TX2 7, w ∈ wsX2_list := fun _ h => (List.mem_cons_of_mem _ (List.mem_append_left _ (List.mem_append_right _ h)))
theorem zi_X2_mostOf_2 : ∀ w ∈ u_ws RX2 TX2 7, w ∈ wsX2_mostOf := fun _ h => (List.mem_cons_of_mem _ (List.mem_append_right _ h))
theorem zi_X2_tally_2 : ∀ w ∈ u_ws RX2 TX2 7, w ∈ wsX2_tally := fun _ h => (List.mem_cons_of_mem _ (List.mem_append_right _ h))
theorem zi_X3_advance_3 : ∀ w ∈ u_ws RX3 TX3 14, w ∈ wsX3_advance := fun _ h => (List.mem_cons_of_mem _ (List.mem_append_right _ h))
theorem zi_X3_append_3 : ∀ w ∈ u_ws RX3 TX3 14, w ∈ wsX3_append := fun _ h => (List.mem_cons_of_mem _ (List.mem_append_right _ h))
theorem zi_X3_exchange_3 : ∀ w ∈ u_ws RX3 TX3 14, w ∈ wsX3_exchange := fun _ h => (List.mem_cons_of_mem _ (List.mem_append_right _ h))
theorem zi_X3_fails_3 : ∀ w ∈ u_ws RX3 TX3 14, w ∈ wsX3_fails := fun _ h => (List.mem_cons_of_mem _ (List.mem_append_right _ h))
theorem zi_X3_isWholeWithin_3 : ∀ w ∈ u_ws RX3 TX3 14, w ∈ wsX3_isWholeWithin := fun _ h => (List.mem_cons_of_mem _ (List.mem_append_right _ h))
theorem zi_X3_isWord_3 : ∀ w ∈ u_ws RX3 TX3 14, w ∈ wsX3_isWord := fun _ h => (List.mem_cons_of_mem _ (List.mem_append_right _ h))
theorem zi_X3_readFigure_0 : ∀ w ∈ u_ws RX0 TX0 15, w ∈ wsX3_readFigure := fun _ h => (List.mem_cons_of_mem _ (List.mem_append_right _ h))
theorem zi_X3_readFigure_3 : ∀ w ∈ u_ws RX3 TX3 14, w ∈ wsX3_readFigure := fun _ h => (List.mem_cons_of_mem _ (List.mem_append_left _ (List.mem_append_right _ h)))
theorem zi_X3_readHall_0 : ∀ w ∈ u_ws RX0 TX0 15, w ∈ wsX3_readHall := fun _ h => (List.mem_cons_of_mem _ (List.mem_append_right _ h))
theorem zi_X3_readHall_3 : ∀ w ∈ u_ws RX3 TX3 14, w ∈ wsX3_readHall := fun _ h => (List.mem_cons_of_mem _ (List.mem_append_left _ (List.mem_append_right _ h)))
theorem zi_X3_readLaw_0 : ∀ w ∈ u_ws RX0 TX0 15, w ∈ wsX3_readLaw := fun _ h => (List.mem_cons_of_mem _ (List.mem_append_right _ h))
theorem zi_X3_readLaw_3 : ∀ w ∈ u_ws RX3 TX3 14, w ∈ wsX3_readLaw := fun _ h => (List.mem_cons_of_mem _ (List.mem_append_left _ (List.mem_append_right _ h)))
theorem zi_X3_readLine_0 : ∀ w ∈ u_ws RX0 TX0 15, w ∈ wsX3_readLine := fun _ h => (List.mem_cons_of_mem _ (List.mem_append_left _ (List.mem_append_right _ h)))
theorem zi_X3_readLine_3 : ∀ w ∈ u_ws RX3 TX3 14, w ∈ wsX3_readLine := fun _ h => (List.mem_cons_of_mem _ (List.mem_append_left _ (List.mem_append_left _ (List.mem_append_right _ h))))
theorem zi_X3_readLine_6 : ∀ w ∈ u_ws RX6 TX6 4, w ∈ wsX3_readLine := fun _ h => (List.mem_cons_of_mem _ (List.mem_append_right _ h))
theorem zi_X3_readSeen_0 : ∀ w ∈ u_ws RX0 TX0 15, w ∈ wsX3_readSeen := fun _ h => (List.mem_cons_of_mem _ (List.mem_append_right _ h))
theorem zi_X3_readSeen_3 : ∀ w ∈ u_ws RX3 TX3 14, w ∈ wsX3_readSeen := fun _ h => (List.mem_cons_of_mem _ (List.mem_append_left _ (List.mem_append_right _ h)))
theorem zi_X3_readWatcher_0 : ∀ w ∈ u_ws RX0 TX0 15, w ∈ wsX3_readWatcher := fun _ h => (List.mem_cons_of_mem _ (List.mem_append_left _ (List.mem_append_right _ h)))
theorem zi_X3_readWatcher_3 : ∀ w ∈ u_ws RX3 TX3 14, w ∈ wsX3_readWatcher := fun _ h => (List.mem_cons_of_mem _ (List.mem_append_left _ (List.mem_append_left _ (List.mem_append_right _ h))))
theorem zi_X3_read_0 : ∀ w ∈ u_ws RX0 TX0 15, w ∈ wsX3_read := fun _ h => (List.mem_cons_of_mem _ (List.mem_append_left _ (List.mem_append_right _ h)))
theorem zi_X3_read_3 : ∀ w ∈ u_ws RX3 TX3 14, w ∈ wsX3_read := fun _ h => (List.mem_cons_of_mem _ (List.mem_append_left _ (List.mem_append_left _ (List.mem_append_right _ h))))
theorem zi_X3_scanWhole_3 : ∀ w ∈ u_ws RX3 TX3 14, w ∈ wsX3_scanWhole := fun _ h => (List.mem_cons_of_mem _ (List.mem_append_right _ h))
theorem zi_X3_scanWord_3 : ∀ w ∈ u_ws RX3 TX3 14, w ∈ wsX3_scanWord := fun _ h => (List.mem_cons_of_mem _ (List.mem_append_right _ h))
theorem zi_X3_takeName_3 : ∀ w ∈ u_ws RX3 TX3 14, w ∈ wsX3_takeName := fun _ h => (List.mem_cons_of_mem _ (List.mem_append_right _ h))
theorem zi_X3_takeWhole_3 : ∀ w ∈ u_ws RX3 TX3 14, w ∈ wsX3_takeWhole := fun _ h => (List.mem_cons_of_mem _ (List.mem_append_right _ h))
theorem zi_X4_aim_4 : ∀ w ∈ u_ws RX4 TX4 3, w ∈ wsX4_aim := fun _ h => (List.mem_cons_of_mem _ (List.mem_append_right _ h))
theorem zi_X4_minutesWith_4 : ∀ w ∈ u_ws RX4 TX4 3, w ∈ wsX4_minutesWith := fun _ h => (List.mem_cons_of_mem _ (List.mem_append_right _ h))
theorem zi_X4_step_4 : ∀ w ∈ u_ws RX4 TX4 3, w ∈ wsX4_step := fun _ h => (List.mem_cons_of_mem _ (List.mem_append_right _ h))
theorem zi_X4_weigh_4 : ∀ w ∈ u_ws RX4 TX4 3, w ∈ wsX4_weigh := fun _ h => (List.mem_cons_of_mem _ (List.mem_append_right _ h))
theorem zi_X4_worth_4 : ∀ w ∈ u_ws RX4 TX4 3, w ∈ wsX4_worth := fun _ h => (List.mem_cons_of_mem _ (List.mem_append_right _ h))
theorem zi_X5_begin_5 : ∀ w ∈ u_ws RX5 TX5 7, w ∈ wsX5_begin := fun _ h => (List.mem_cons_of_mem _ (List.mem_append_right _ h))
theorem zi_X5_copyFrom_5 : ∀ w ∈ u_ws RX5 TX5 7, w ∈ wsX5_copyFrom := fun _ h => (List.mem_cons_of_mem _ (List.mem_append_right _ h))
theorem zi_X5_isGone_5 : ∀ w ∈ u_ws RX5 TX5 7, w ∈ wsX5_isGone := fun _ h => (List.mem_cons_of_mem _ (List.mem_append_right _ h))
theorem zi_X5_startTurn_5 : ∀ w ∈ u_ws RX5 TX5 7, w ∈ wsX5_startTurn := fun _ h => (List.mem_cons_of_mem _ (List.mem_append_right _ h))
theorem zi_X6_add_6 : ∀ w ∈ u_ws RX6 TX6 4, w ∈ wsX6_add := fun _ h => (List.mem_cons_of_mem _ (List.mem_append_right _ h))
theorem zi_X6_copyFrom_6 : ∀ w ∈ u_ws RX6 TX6 4, w ∈ wsX6_copyFrom := fun _ h => (List.mem_cons_of_mem _ (List.mem_append_right _ h))
theorem zi_X6_placeOf_6 : ∀ w ∈ u_ws RX6 TX6 4, w ∈ wsX6_placeOf := fun _ h => (List.mem_cons_of_mem _ (List.mem_append_right _ h))
theorem zi_X6_placesIn_6 : ∀ w ∈ u_ws RX6 TX6 4, w ∈ wsX6_placesIn := fun _ h => (List.mem_cons_of_mem _ (List.mem_append_right _ h))
theorem zi_X7_aliveBy_2 : ∀ w ∈ u_ws RX2 TX2 7, w ∈ wsX7_aliveBy := fun _ h => (List.mem_cons_of_mem _ (List.mem_append_left _ (List.mem_append_right _ h)))
theorem zi_X7_aliveBy_7 : ∀ w ∈ u_ws RX7 TX7 11, w ∈ wsX7_aliveBy := fun _ h => (List.mem_cons_of_mem _ (List.mem_append_left _ (List.mem_append_left _ (List.mem_append_right _ h))))
theorem zi_X7_alive_5 : ∀ w ∈ u_ws RX5 TX5 7, w ∈ wsX7_alive := fun _ h => (List.mem_cons_of_mem _ (List.mem_append_left _ (List.mem_append_right _ h)))
theorem zi_X7_alive_7 : ∀ w ∈ u_ws RX7 TX7 11, w ∈ wsX7_alive := fun _ h => (List.mem_cons_of_mem _ (List.mem_append_left _ (List.mem_append_left _ (List.mem_append_right _ h))))
theorem zi_X7_allIn_0 : ∀ w ∈ u_ws RX0 TX0 15, w ∈ wsX7_allIn := fun _ h => (List.mem_cons_of_mem _ (List.mem_append_left _ (List.mem_append_left _ (List.mem_append_right _ h))))
theorem zi_X7_allIn_5 : ∀ w ∈ u_ws RX5 TX5 7, w ∈ wsX7_allIn := fun _ h => (List.mem_cons_of_mem _ (List.mem_append_left _ (List.mem_append_right _ h)))
theorem zi_X7_allIn_7 : ∀ w ∈ u_ws RX7 TX7 11, w ∈ wsX7_allIn := fun _ h => (List.mem_cons_of_mem _ (List.mem_append_left _ (List.mem_append_left _ (List.mem_append_left _ (List.mem_append_right _ h)))))
theorem zi_X7_answered_7 : ∀ w ∈ u_ws RX7 TX7 11, w ∈ wsX7_answered := fun _ h => (List.mem_cons_of_mem _ (List.mem_append_right _ h))
theorem zi_X7_back_7 : ∀ w ∈ u_ws RX7 TX7 11, w ∈ wsX7_back := fun _ h => (List.mem_cons_of_mem _ (List.mem_append_left _ (List.mem_append_left _ (List.mem_append_right _ h))))
theorem zi_X7_called_0 : ∀ w ∈ u_ws RX0 TX0 15, w ∈ wsX7_called := fun _ h => (List.mem_cons_of_mem _ (List.mem_append_right _ h))
theorem zi_X7_called_5 : ∀ w ∈ u_ws RX5 TX5 7, w ∈ wsX7_called := fun _ h => (List.mem_cons_of_mem _ (List.mem_append_left _ (List.mem_append_right _ h)))
theorem zi_X7_called_7 : ∀ w ∈ u_ws RX7 TX7 11, w ∈ wsX7_called := fun _ h => (List.mem_cons_of_mem _ (List.mem_append_left _ (List.mem_append_left _ (List.mem_append_right _ h))))
theorem zi_X7_catches_5 : ∀ w ∈ u_ws RX5 TX5 7, w ∈ wsX7_catches := fun _ h => (List.mem_cons_of_mem _ (List.mem_append_left _ (List.mem_append_left _ (List.mem_append_right _ h))))
theorem zi_X7_catches_7 : ∀ w ∈ u_ws RX7 TX7 11, w ∈ wsX7_catches := fun _ h => (List.mem_cons_of_mem _ (List.mem_append_left _ (List.mem_append_left _ (List.mem_append_left _ (List.mem_append_right _ h)))))
theorem zi_X7_caught_5 : ∀ w ∈ u_ws RX5 TX5 7, w ∈ wsX7_caught := fun _ h => (List.mem_cons_of_mem _ (List.mem_append_left _ (List.mem_append_right _ h)))
theorem zi_X7_caught_7 : ∀ w ∈ u_ws RX7 TX7 11, w ∈ wsX7_caught := fun _ h => (List.mem_cons_of_mem _ (List.mem_append_left _ (List.mem_append_left _ (List.mem_append_right _ h))))
theorem zi_X7_could_2 : ∀ w ∈ u_ws RX2 TX2 7, w ∈ wsX7_could := fun _ h => (List.mem_cons_of_mem _ (List.mem_append_left _ (List.mem_append_right _ h)))
theorem zi_X7_could_7 : ∀ w ∈ u_ws RX7 TX7 11, w ∈ wsX7_could := fun _ h => (List.mem_cons_of_mem _ (List.mem_append_left _ (List.mem_append_left _ (List.mem_append_right _ h))))
theorem zi_X7_crowdAt_0 : ∀ w ∈ u_ws RX0 TX0 15, w ∈ wsX7_crowdAt := fun _ h => (List.mem_cons_of_mem _ (List.mem_append_left _ (List.mem_append_right _ h)))
theorem zi_X7_crowdAt_5 : ∀ w ∈ u_ws RX5 TX5 7, w ∈ wsX7_crowdAt := fun _ h => (List.mem_cons_of_mem _ (List.mem_append_right _ h))
theorem zi_X7_crowdAt_7 : ∀ w ∈ u_ws RX7 TX7 11, w ∈ wsX7_crowdAt := fun _ h => (List.mem_cons_of_mem _ (List.mem_append_left _ (List.mem_append_left _ (List.mem_append_right _ h))))
theorem zi_X7_crowd_0 : ∀ w ∈ u_ws RX0 TX0 15, w ∈ wsX7_crowd := fun _ h => (List.mem_cons_of_mem _ (List.mem_append_left _ (List.mem_append_left _ (List.mem_append_right _ h))))
theorem zi_X7_crowd_7 : ∀ w ∈ u_ws RX7 TX7 11, w ∈ wsX7_crowd := fun _ h => (List.mem_cons_of_mem _ (List.mem_append_left _ (List.mem_append_left _ (List.mem_append_left _ (List.mem_append_right _ h)))))
theorem zi_X7_dares_7 : ∀ w ∈ u_ws RX7 TX7 11, w ∈ wsX7_dares := fun _ h => (List.mem_cons_of_mem _ (List.mem_append_left _ (List.mem_append_right _ h)))
theorem zi_X7_drawn_5 : ∀ w ∈ u_ws RX5 TX5 7, w ∈ wsX7_drawn := fun _ h => (List.mem_cons_of_mem _ (List.mem_append_left _ (List.mem_append_right _ h)))
theorem zi_X7_drawn_7 : ∀ w ∈ u_ws RX7 TX7 11, w ∈ wsX7_drawn := fun _ h => (List.mem_cons_of_mem _ (List.mem_append_left _ (List.mem_append_left _ (List.mem_append_right _ h))))
theorem zi_X7_farthest_0 : ∀ w ∈ u_ws RX0 TX0 15, w ∈ wsX7_farthest := fun _ h => (List.mem_cons_of_mem _ (List.mem_append_left _ (List.mem_append_left _ (List.mem_append_right _ h))))
theorem zi_X7_farthest_5 : ∀ w ∈ u_ws RX5 TX5 7, w ∈ wsX7_farthest := fun _ h => (List.mem_cons_of_mem _ (List.mem_append_left _ (List.mem_append_right _ h)))
theorem zi_X7_farthest_7 : ∀ w ∈ u_ws RX7 TX7 11, w ∈ wsX7_farthest := fun _ h => (List.mem_cons_of_mem _ (List.mem_append_left _ (List.mem_append_left _ (List.mem_append_left _ (List.mem_append_right _ h)))))
theorem zi_X7_fault_7 : ∀ w ∈ u_ws RX7 TX7 11, w ∈ wsX7_fault := fun _ h => (List.mem_cons_of_mem _ (List.mem_append_right _ h))
theorem zi_X7_feed_3 : ∀ w ∈ u_ws RX3 TX3 14, w ∈ wsX7_feed := fun _ h => (List.mem_cons_of_mem _ (List.mem_append_right _ h))
theorem zi_X7_feed_7 : ∀ w ∈ u_ws RX7 TX7 11, w ∈ wsX7_feed := fun _ h => (List.mem_cons_of_mem _ (List.mem_append_left _ (List.mem_append_right _ h)))
theorem zi_X7_figure_0 : ∀ w ∈ u_ws RX0 TX0 15, w ∈ wsX7_figure := fun _ h => (List.mem_cons_of_mem _ (List.mem_append_left _ (List.mem_append_right _ h)))
theorem zi_X7_figure_5 : ∀ w ∈ u_ws RX5 TX5 7, w ∈ wsX7_figure := fun _ h => (List.mem_cons_of_mem _ (List.mem_append_right _ h))
theorem zi_X7_figure_7 : ∀ w ∈ u_ws RX7 TX7 11, w ∈ wsX7_figure := fun _ h => (List.mem_cons_of_mem _ (List.mem_append_left _ (List.mem_append_left _ (List.mem_append_right _ h))))
theorem zi_X7_fitAt_2 : ∀ w ∈ u_ws RX2 TX2 7, w ∈ wsX7_fitAt := fun _ h => (List.mem_cons_of_mem _ (List.mem_append_left _ (List.mem_append_right _ h)))
theorem zi_X7_fitAt_7 : ∀ w ∈ u_ws RX7 TX7 11, w ∈ wsX7_fitAt := fun _ h => (List.mem_cons_of_mem _ (List.mem_append_left _ (List.mem_append_left _ (List.mem_append_right _ h))))
theorem zi_X7_fits_2 : ∀ w ∈ u_ws RX2 TX2 7, w ∈ wsX7_fits := fun _ h => (List.mem_cons_of_mem _ (List.mem_append_left _ (List.mem_append_right _ h)))
theorem zi_X7_fits_7 : ∀ w ∈ u_ws RX7 TX7 11, w ∈ wsX7_fits := fun _ h => (List.mem_cons_of_mem _ (List.mem_append_left _ (List.mem_append_left _ (List.mem_append_right _ h))))
theorem zi_X7_gallery_0 : ∀ w ∈ u_ws RX0 TX0 15, w ∈ wsX7_gallery := fun _ h => (List.mem_cons_of_mem _ (List.mem_append_left _ (List.mem_append_left _ (List.mem_append_left _ (List.mem_append_left _ (List.mem_append_right _ h))))))
theorem zi_X7_gallery_3 : ∀ w ∈ u_ws RX3 TX3 14, w ∈ wsX7_gallery := fun _ h => (List.mem_cons_of_mem _ (List.mem_append_left _ (List.mem_append_left _ (List.mem_append_left _ (List.mem_append_left _ (List.mem_append_left _ (List.mem_append_right _ h)))))))
theorem zi_X7_gallery_7 : ∀ w ∈ u_ws RX7 TX7 11, w ∈ wsX7_gallery := fun _ h => (List.mem_cons_of_mem _ (List.mem_append_left _ (List.mem_append_left _ (List.mem_append_left _ (List.mem_append_left _ (List.mem_append_left _ (List.mem_append_left _ (List.mem_append_right _ h))))))))
theorem zi_X7_go_0 : ∀ w ∈ u_ws RX0 TX0 15, w ∈ wsX7_go := fun _ h => (List.mem_cons_of_mem _ (List.mem_append_left _ (List.mem_append_left _ (List.mem_append_right _ h))))
theorem zi_X7_go_5 : ∀ w ∈ u_ws RX5 TX5 7, w ∈ wsX7_go := fun _ h => (List.mem_cons_of_mem _ (List.mem_append_left _ (List.mem_append_left _ (List.mem_append_left _ (List.mem_append_right _ h)))))
theorem zi_X7_go_7 : ∀ w ∈ u_ws RX7 TX7 11, w ∈ wsX7_go := fun _ h => (List.mem_cons_of_mem _ (List.mem_append_left _ (List.mem_append_left _ (List.mem_append_left _ (List.mem_append_left _ (List.mem_append_right _ h))))))
theorem zi_X7_gone_5 : ∀ w ∈ u_ws RX5 TX5 7, w ∈ wsX7_gone := fun _ h => (List.mem_cons_of_mem _ (List.mem_append_left _ (List.mem_append_left _ (List.mem_append_right _ h))))
theorem zi_X7_gone_7 : ∀ w ∈ u_ws RX7 TX7 11, w ∈ wsX7_gone := fun _ h => (List.mem_cons_of_mem _ (List.mem_append_left _ (List.mem_append_left _ (List.mem_append_left _ (List.mem_append_right _ h)))))
theorem zi_X7_guard_0 : ∀ w ∈ u_ws RX0 TX0 15, w ∈ wsX7_guard := fun _ h => (List.mem_cons_of_mem _ (List.mem_append_left _ (List.mem_append_left _ (List.mem_append_right _ h))))
theorem zi_X7_guard_7 : ∀ w ∈ u_ws RX7 TX7 11, w ∈ wsX7_guard := fun _ h => (List.mem_cons_of_mem _ (List.mem_append_left _ (List.mem_append_left _ (List.mem_append_left _ (List.mem_append_right _ h)))))
theorem zi_X7_hasGallery_0 : ∀ w ∈ u_ws RX0 TX0 15, w ∈ wsX7_hasGallery := fun _ h => (List.mem_cons_of_mem _ (List.mem_append_right _ h))
theorem zi_X7_hasGallery_7 : ∀ w ∈ u_ws RX7 TX7 11, w ∈ wsX7_hasGallery := fun _ h => (List.mem_cons_of_mem _ (List.mem_append_left _ (List.mem_append_right _ h)))
theorem zi_X7_heard_5 : ∀ w ∈ u_ws RX5 TX5 7, w ∈ wsX7_heard := fun _ h => (List.mem_cons_of_mem _ (List.mem_append_left _ (List.mem_append_left _ (List.mem_append_right _ h))))
theorem zi_X7_heard_7 : ∀ w ∈ u_ws RX7 TX7 11, w ∈ wsX7_heard := fun _ h => (List.mem_cons_of_mem _ (List.mem_append_left _ (List.mem_append_left _ (List.mem_append_left _ (List.mem_append_right _ h)))))
theorem zi_X7_image_1 : ∀ w ∈ u_ws RX1 TX1 5, w ∈ wsX7_image := fun _ h => (List.mem_cons_of_mem _ (List.mem_append_left _ (List.mem_append_left _ (List.mem_append_right _ h))))
theorem zi_X7_image_7 : ∀ w ∈ u_ws RX7 TX7 11, w ∈ wsX7_image := fun _ h => (List.mem_cons_of_mem _ (List.mem_append_left _ (List.mem_append_left _ (List.mem_append_left _ (List.mem_append_right _ h)))))
theorem zi_X7_isFigure_0 : ∀ w ∈ u_ws RX0 TX0 15, w ∈ wsX7_isFigure := fun _ h => (List.mem_cons_of_mem _ (List.mem_append_right _ h))
theorem zi_X7_isFigure_7 : ∀ w ∈ u_ws RX7 TX7 11, w ∈ wsX7_isFigure := fun _ h => (List.mem_cons_of_mem _ (List.mem_append_left _ (List.mem_append_right _ h)))
theorem zi_X7_isPlace_0 : ∀ w ∈ u_ws RX0 TX0 15, w ∈ wsX7_isPlace := fun _ h => (List.mem_cons_of_mem _ (List.mem_append_right _ h))
theorem zi_X7_isPlace_7 : ∀ w ∈ u_ws RX7 TX7 11, w ∈ wsX7_isPlace := fun _ h => (List.mem_cons_of_mem _ (List.mem_append_left _ (List.mem_append_right _ h)))
theorem zi_X7_isShut_0 : ∀ w ∈ u_ws RX0 TX0 15, w ∈ wsX7_isShut := fun _ h => (List.mem_cons_of_mem _ (List.mem_append_right _ h))
theorem zi_X7_isShut_7 : ∀ w ∈ u_ws RX7 TX7 11, w ∈ wsX7_isShut := fun _ h => (List.mem_cons_of_mem _ (List.mem_append_left _ (List.mem_append_right _ h)))
theorem zi_X7_isWatcher_0 : ∀ w ∈ u_ws RX0 TX0 15, w ∈ wsX7_isWatcher := fun _ h => (List.mem_cons_of_mem _ (List.mem_append_left _ (List.mem_append_right _ h)))
theorem zi_X7_isWatcher_6 : ∀ w ∈ u_ws RX6 TX6 4, w ∈ wsX7_isWatcher := fun _ h => (List.mem_cons_of_mem _ (List.mem_append_right _ h))
theorem zi_X7_isWatcher_7 : ∀ w ∈ u_ws RX7 TX7 11, w ∈ wsX7_isWatcher := fun _ h => (List.mem_cons_of_mem _ (List.mem_append_left _ (List.mem_append_left _ (List.mem_append_right _ h))))
theorem zi_X7_judge_0 : ∀ w ∈ u_ws RX0 TX0 15, w ∈ wsX7_judge := fun _ h => (List.mem_cons_of_mem _ (List.mem_append_right _ h))
theorem zi_X7_judge_7 : ∀ w ∈ u_ws RX7 TX7 11, w ∈ wsX7_judge := fun _ h => (List.mem_cons_of_mem _ (List.mem_append_left _ (List.mem_append_right _ h)))
theorem zi_X7_lawsLike_0 : ∀ w ∈ u_ws RX0 TX0 15, w ∈ wsX7_lawsLike := fun _ h => (List.mem_cons_of_mem _ (List.mem_append_right _ h))
theorem zi_X7_lawsLike_7 : ∀ w ∈ u_ws RX7 TX7 11, w ∈ wsX7_lawsLike := fun _ h => (List.mem_cons_of_mem _ (List.mem_append_left _ (List.mem_append_right _ h)))
theorem zi_X7_left_0 : ∀ w ∈ u_ws RX0 TX0 15, w ∈ wsX7_left := fun _ h => (List.mem_cons_of_mem _ (List.mem_append_left _ (List.mem_append_right _ h)))
theorem zi_X7_left_5 : ∀ w ∈ u_ws RX5 TX5 7, w ∈ wsX7_left := fun _ h => (List.mem_cons_of_mem _ (List.mem_append_right _ h))
theorem zi_X7_left_7 : ∀ w ∈ u_ws RX7 TX7 11, w ∈ wsX7_left := fun _ h => (List.mem_cons_of_mem _ (List.mem_append_left _ (List.mem_append_left _ (List.mem_append_right _ h))))
theorem zi_X7_lookLeaves_2 : ∀ w ∈ u_ws RX2 TX2 7, w ∈ wsX7_lookLeaves := fun _ h => (List.mem_cons_of_mem _ (List.mem_append_left _ (List.mem_append_right _ h)))
theorem zi_X7_lookLeaves_7 : ∀ w ∈ u_ws RX7 TX7 11, w ∈ wsX7_lookLeaves := fun _ h => (List.mem_cons_of_mem _ (List.mem_append_left _ (List.mem_append_left _ (List.mem_append_right _ h))))
theorem zi_X7_look_2 : ∀ w ∈ u_ws RX2 TX2 7, w ∈ wsX7_look := fun _ h => (List.mem_cons_of_mem _ (List.mem_append_left _ (List.mem_append_right _ h)))
theorem zi_X7_look_7 : ∀ w ∈ u_ws RX7 TX7 11, w ∈ wsX7_look := fun _ h => (List.mem_cons_of_mem _ (List.mem_append_left _ (List.mem_append_left _ (List.mem_append_right _ h))))
theorem zi_X7_mean_0 : ∀ w ∈ u_ws RX0 TX0 15, w ∈ wsX7_mean := fun _ h => (List.mem_cons_of_mem _ (List.mem_append_left _ (List.mem_append_right _ h)))
theorem zi_X7_mean_7 : ∀ w ∈ u_ws RX7 TX7 11, w ∈ wsX7_mean := fun _ h => (List.mem_cons_of_mem _ (List.mem_append_left _ (List.mem_append_left _ (List.mem_append_right _ h))))
theorem zi_X7_meets_0 : ∀ w ∈ u_ws RX0 TX0 15, w ∈ wsX7_meets := fun _ h => (List.mem_cons_of_mem _ (List.mem_append_left _ (List.mem_append_left _ (List.mem_append_right _ h))))
theorem zi_X7_meets_5 : ∀ w ∈ u_ws RX5 TX5 7, w ∈ wsX7_meets := fun _ h => (List.mem_cons_of_mem _ (List.mem_append_left _ (List.mem_append_right _ h)))
theorem zi_X7_meets_7 : ∀ w ∈ u_ws RX7 TX7 11, w ∈ wsX7_meets := fun _ h => (List.mem_cons_of_mem _ (List.mem_append_left _ (List.mem_append_left _ (List.mem_append_left _ (List.mem_append_right _ h)))))
theorem zi_X7_minutesOf_0 : ∀ w ∈ u_ws RX0 TX0 15, w ∈ wsX7_minutesOf := fun _ h => (List.mem_cons_of_mem _ (List.mem_append_right _ h))
theorem zi_X7_minutesOf_5 : ∀ w ∈ u_ws RX5 TX5 7, w ∈ wsX7_minutesOf := fun _ h => (List.mem_cons_of_mem _ (List.mem_append_left _ (List.mem_append_right _ h)))
theorem zi_X7_minutesOf_7 : ∀ w ∈ u_ws RX7 TX7 11, w ∈ wsX7_minutesOf := fun _ h => (List.mem_cons_of_mem _ (List.mem_append_left _ (List.mem_append_left _ (List.mem_append_right _ h))))
theorem zi_X7_minutesTillGone_5 : ∀ w ∈ u_ws RX5 TX5 7, w ∈ wsX7_minutesTillGone := fun _ h => (List.mem_cons_of_mem _ (List.mem_append_left _ (List.mem_append_left _ (List.mem_append_right _ h))))
theorem zi_X7_minutesTillGone_7 : ∀ w ∈ u_ws RX7 TX7 11, w ∈ wsX7_minutesTillGone := fun _ h => (List.mem_cons_of_mem _ (List.mem_append_left _ (List.mem_append_left _ (List.mem_append_left _ (List.mem_append_right _ h)))))
theorem zi_X7_nearBy_0 : ∀ w ∈ u_ws RX0 TX0 15, w ∈ wsX7_nearBy := fun _ h => (List.mem_cons_of_mem _ (List.mem_append_left _ (List.mem_append_left _ (List.mem_append_right _ h))))
theorem zi_X7_nearBy_5 : ∀ w ∈ u_ws RX5 TX5 7, w ∈ wsX7_nearBy := fun _ h => (List.mem_cons_of_mem _ (List.mem_append_left _ (List.mem_append_right _ h)))
theorem zi_X7_nearBy_7 : ∀ w ∈ u_ws RX7 TX7 11, w ∈ wsX7_nearBy := fun _ h => (List.mem_cons_of_mem _ (List.mem_append_left _ (List.mem_append_left _ (List.mem_append_left _ (List.mem_append_right _ h)))))
theorem zi_X7_odds_0 : ∀ w ∈ u_ws RX0 TX0 15, w ∈ wsX7_odds := fun _ h => (List.mem_cons_of_mem _ (List.mem_append_left _ (List.mem_append_right _ h)))
theorem zi_X7_odds_7 : ∀ w ∈ u_ws RX7 TX7 11, w ∈ wsX7_odds := fun _ h => (List.mem_cons_of_mem _ (List.mem_append_left _ (List.mem_append_left _ (List.mem_append_right _ h))))
theorem zi_X7_ownTurns_5 : ∀ w ∈ u_ws RX5 TX5 7, w ∈ wsX7_ownTurns := fun _ h => (List.mem_cons_of_mem _ (List.mem_append_left _ (List.mem_append_right _ h)))
theorem zi_X7_ownTurns_7 : ∀ w ∈ u_ws RX7 TX7 11, w ∈ wsX7_ownTurns := fun _ h => (List.mem_cons_of_mem _ (List.mem_append_left _ (List.mem_append_left _ (List.mem_append_right _ h))))
theorem zi_X7_passAhead_0 : ∀ w ∈ u_ws RX0 TX0 15, w ∈ wsX7_passAhead := fun _ h => (List.mem_cons_of_mem _ (List.mem_append_left _ (List.mem_append_left _ (List.mem_append_right _ h))))
theorem zi_X7_passAhead_7 : ∀ w ∈ u_ws RX7 TX7 11, w ∈ wsX7_passAhead := fun _ h => (List.mem_cons_of_mem _ (List.mem_append_left _ (List.mem_append_left _ (List.mem_append_left _ (List.mem_append_right _ h)))))
theorem zi_X7_patrol_0 : ∀ w ∈ u_ws RX0 TX0 15, w ∈ wsX7_patrol := fun _ h => (List.mem_cons_of_mem _ (List.mem_append_left _ (List.mem_append_left _ (List.mem_append_right _ h))))
theorem zi_X7_patrol_5 : ∀ w ∈ u_ws RX5 TX5 7, w ∈ wsX7_patrol := fun _ h => (List.mem_cons_of_mem _ (List.mem_append_right _ h))
theorem zi_X7_patrol_6 : ∀ w ∈ u_ws RX6 TX6 4, w ∈ wsX7_patrol := fun _ h => (List.mem_cons_of_mem _ (List.mem_append_left _ (List.mem_append_right _ h)))
theorem zi_X7_patrol_7 : ∀ w ∈ u_ws RX7 TX7 11, w ∈ wsX7_patrol := fun _ h => (List.mem_cons_of_mem _ (List.mem_append_left _ (List.mem_append_left _ (List.mem_append_left _ (List.mem_append_right _ h)))))
theorem zi_X7_placeOfActing_0 : ∀ w ∈ u_ws RX0 TX0 15, w ∈ wsX7_placeOfActing := fun _ h => (List.mem_cons_of_mem _ (List.mem_append_left _ (List.mem_append_right _ h)))
theorem zi_X7_placeOfActing_5 : ∀ w ∈ u_ws RX5 TX5 7, w ∈ wsX7_placeOfActing := fun _ h => (List.mem_cons_of_mem _ (List.mem_append_left _ (List.mem_append_left _ (List.mem_append_right _ h))))
theorem zi_X7_placeOfActing_7 : ∀ w ∈ u_ws RX7 TX7 11, w ∈ wsX7_placeOfActing := fun _ h => (List.mem_cons_of_mem _ (List.mem_append_left _ (List.mem_append_left _ (List.mem_append_left _ (List.mem_append_right _ h)))))
theorem zi_X7_place_5 : ∀ w ∈ u_ws RX5 TX5 7, w ∈ wsX7_place := fun _ h => (List.mem_cons_of_mem _ (List.mem_append_left _ (List.mem_append_left _ (List.mem_append_right _ h))))
theorem zi_X7_place_7 : ∀ w ∈ u_ws RX7 TX7 11, w ∈ wsX7_place := fun _ h => (List.mem_cons_of_mem _ (List.mem_append_left _ (List.mem_append_left _ (List.mem_append_left _ (List.mem_append_right _ h)))))
theorem zi_X7_planRoutes_0 : ∀ w ∈ u_ws RX0 TX0 15, w ∈ wsX7_planRoutes := fun _ h => (List.mem_cons_of_mem _ (List.mem_append_left _ (List.mem_append_left _ (List.mem_append_left _ (List.mem_append_right _ h)))))
theorem zi_X7_planRoutes_7 : ∀ w ∈ u_ws RX7 TX7 11, w ∈ wsX7_planRoutes := fun _ h => (List.mem_cons_of_mem _ (List.mem_append_left _ (List.mem_append_left _ (List.mem_append_left _ (List.mem_append_left _ (List.mem_append_right _ h))))))
theorem zi_X7_postsHold_6 : ∀ w ∈ u_ws RX6 TX6 4, w ∈ wsX7_postsHold := fun _ h => (List.mem_cons_of_mem _ (List.mem_append_left _ (List.mem_append_left _ (List.mem_append_right _ h))))
theorem zi_X7_postsHold_7 : ∀ w ∈ u_ws RX7 TX7 11, w ∈ wsX7_postsHold := fun _ h => (List.mem_cons_of_mem _ (List.mem_append_left _ (List.mem_append_left _ (List.mem_append_left _ (List.mem_append_right _ h)))))
theorem zi_X7_put_5 : ∀ w ∈ u_ws RX5 TX5 7, w ∈ wsX7_put := fun _ h => (List.mem_cons_of_mem _ (List.mem_append_left _ (List.mem_append_left _ (List.mem_append_right _ h))))
theorem zi_X7_put_7 : ∀ w ∈ u_ws RX7 TX7 11, w ∈ wsX7_put := fun _ h => (List.mem_cons_of_mem _ (List.mem_append_left _ (List.mem_append_left _ (List.mem_append_left _ (List.mem_append_right _ h)))))
theorem zi_X7_refused_7 : ∀ w ∈ u_ws RX7 TX7 11, w ∈ wsX7_refused := fun _ h => (List.mem_cons_of_mem _ (List.mem_append_right _ h))
theorem zi_X7_roundLength_0 : ∀ w ∈ u_ws RX0 TX0 15, w ∈ wsX7_roundLength := fun _ h => (List.mem_cons_of_mem _ (List.mem_append_left _ (List.mem_append_right _ h)))
theorem zi_X7_roundLength_7 : ∀ w ∈ u_ws RX7 TX7 11, w ∈ wsX7_roundLength := fun _ h => (List.mem_cons_of_mem _ (List.mem_append_left _ (List.mem_append_left _ (List.mem_append_right _ h))))
theorem zi_X7_routeAt_7 : ∀ w ∈ u_ws RX7 TX7 11, w ∈ wsX7_routeAt := fun _ h => (List.mem_cons_of_mem _ (List.mem_append_left _ (List.mem_append_left _ (List.mem_append_left _ (List.mem_append_left _ (List.mem_append_right _ h))))))
theorem zi_X7_route_7 : ∀ w ∈ u_ws RX7 TX7 11, w ∈ wsX7_route := fun _ h => (List.mem_cons_of_mem _ (List.mem_append_left _ (List.mem_append_left _ (List.mem_append_left _ (List.mem_append_left _ (List.mem_append_right _ h))))))
theorem zi_X7_runAheadOnTrial_7 : ∀ w ∈ u_ws RX7 TX7 11, w ∈ wsX7_runAheadOnTrial := fun _ h => (List.mem_cons_of_mem _ (List.mem_append_left _ (List.mem_append_left _ (List.mem_append_left _ (List.mem_append_right _ h)))))
theorem zi_X7_runAhead_7 : ∀ w ∈ u_ws RX7 TX7 11, w ∈ wsX7_runAhead := fun _ h => (List.mem_cons_of_mem _ (List.mem_append_left _ (List.mem_append_left _ (List.mem_append_left _ (List.mem_append_right _ h)))))
theorem zi_X7_settles_0 : ∀ w ∈ u_ws RX0 TX0 15, w ∈ wsX7_settles := fun _ h => (List.mem_cons_of_mem _ (List.mem_append_left _ (List.mem_append_right _ h)))
theorem zi_X7_settles_7 : ∀ w ∈ u_ws RX7 TX7 11, w ∈ wsX7_settles := fun _ h => (List.mem_cons_of_mem _ (List.mem_append_left _ (List.mem_append_left _ (List.mem_append_right _ h))))
theorem zi_X7_size_1 : ∀ w ∈ u_ws RX1 TX1 5, w ∈ wsX7_size := fun _ h => (List.mem_cons_of_mem _ (List.mem_append_left _ (List.mem_append_left _ (List.mem_append_left _ (List.mem_append_right _ h)))))
theorem zi_X7_size_3 : ∀ w ∈ u_ws RX3 TX3 14, w ∈ wsX7_size := fun _ h => (List.mem_cons_of_mem _ (List.mem_append_left _ (List.mem_append_left _ (List.mem_append_right _ h))))
theorem zi_X7_size_5 : ∀ w ∈ u_ws RX5 TX5 7, w ∈ wsX7_size := fun _ h => (List.mem_cons_of_mem _ (List.mem_append_left _ (List.mem_append_left _ (List.mem_append_left _ (List.mem_append_left _ (List.mem_append_right _ h))))))
theorem zi_X7_size_7 : ∀ w ∈ u_ws RX7 TX7 11, w ∈ wsX7_size := fun _ h => (List.mem_cons_of_mem _ (List.mem_append_left _ (List.mem_append_left _ (List.mem_append_left _ (List.mem_append_left _ (List.mem_append_left _ (List.mem_append_right _ h)))))))
theorem zi_X7_spoken_0 : ∀ w ∈ u_ws RX0 TX0 15, w ∈ wsX7_spoken := fun _ h => (List.mem_cons_of_mem _ (List.mem_append_left _ (List.mem_append_right _ h)))
theorem zi_X7_spoken_5 : ∀ w ∈ u_ws RX5 TX5 7, w ∈ wsX7_spoken := fun _ h => (List.mem_cons_of_mem _ (List.mem_append_left _ (List.mem_append_left _ (List.mem_append_right _ h))))
theorem zi_X7_spoken_7 : ∀ w ∈ u_ws RX7 TX7 11, w ∈ wsX7_spoken := fun _ h => (List.mem_cons_of_mem _ (List.mem_append_left _ (List.mem_append_left _ (List.mem_append_left _ (List.mem_append_right _ h)))))
theorem zi_X7_stairs_0 : ∀ w ∈ u_ws RX0 TX0 15, w ∈ wsX7_stairs := fun _ h => (List.mem_cons_of_mem _ (List.mem_append_left _ (List.mem_append_left _ (List.mem_append_right _ h))))
theorem zi_X7_stairs_7 : ∀ w ∈ u_ws RX7 TX7 11, w ∈ wsX7_stairs := fun _ h => (List.mem_cons_of_mem _ (List.mem_append_left _ (List.mem_append_left _ (List.mem_append_left _ (List.mem_append_right _ h)))))
theorem zi_X7_stand_0 : ∀ w ∈ u_ws RX0 TX0 15, w ∈ wsX7_stand := fun _ h => (List.mem_cons_of_mem _ (List.mem_append_left _ (List.mem_append_left _ (List.mem_append_left _ (List.mem_append_right _ h)))))
theorem zi_X7_stand_7 : ∀ w ∈ u_ws RX7 TX7 11, w ∈ wsX7_stand := fun _ h => (List.mem_cons_of_mem _ (List.mem_append_left _ (List.mem_append_left _ (List.mem_append_left _ (List.mem_append_left _ (List.mem_append_right _ h))))))
theorem zi_X7_trouble_7 : ∀ w ∈ u_ws RX7 TX7 11, w ∈ wsX7_trouble := fun _ h => (List.mem_cons_of_mem _ (List.mem_append_right _ h))
theorem zi_X7_turnFromNow_0 : ∀ w ∈ u_ws RX0 TX0 15, w ∈ wsX7_turnFromNow := fun _ h => (List.mem_cons_of_mem _ (List.mem_append_left _ (List.mem_append_right _ h)))
theorem zi_X7_turnFromNow_5 : ∀ w ∈ u_ws RX5 TX5 7, w ∈ wsX7_turnFromNow := fun _ h => (List.mem_cons_of_mem _ (List.mem_append_right _ h))
theorem zi_X7_turnFromNow_7 : ∀ w ∈ u_ws RX7 TX7 11, w ∈ wsX7_turnFromNow := fun _ h => (List.mem_cons_of_mem _ (List.mem_append_left _ (List.mem_append_left _ (List.mem_append_right _ h))))
theorem zi_X7_turnIn_0 : ∀ w ∈ u_ws RX0 TX0 15, w ∈ wsX7_turnIn := fun _ h => (List.mem_cons_of_mem _ (List.mem_append_right _ h))
theorem zi_X7_turnIn_5 : ∀ w ∈ u_ws RX5 TX5 7, w ∈ wsX7_turnIn := fun _ h => (List.mem_cons_of_mem _ (List.mem_append_left _ (List.mem_append_right _ h)))
theorem zi_X7_turnIn_7 : ∀ w ∈ u_ws RX7 TX7 11, w ∈ wsX7_turnIn := fun _ h => (List.mem_cons_of_mem _ (List.mem_append_left _ (List.mem_append_left _ (List.mem_append_right _ h))))
theorem zi_X7_undo_7 : ∀ w ∈ u_ws RX7 TX7 11, w ∈ wsX7_undo := fun _ h => (List.mem_cons_of_mem _ (List.mem_append_left _ (List.mem_append_left _ (List.mem_append_right _ h))))
theorem zi_X7_watch_0 : ∀ w ∈ u_ws RX0 TX0 15, w ∈ wsX7_watch := fun _ h => (List.mem_cons_of_mem _ (List.mem_append_left _ (List.mem_append_left _ (List.mem_append_right _ h))))
theorem zi_X7_watch_5 : ∀ w ∈ u_ws RX5 TX5 7, w ∈ wsX7_watch := fun _ h => (List.mem_cons_of_mem _ (List.mem_append_left _ (List.mem_append_right _ h)))
theorem zi_X7_watch_7 : ∀ w ∈ u_ws RX7 TX7 11, w ∈ wsX7_watch := fun _ h => (List.mem_cons_of_mem _ (List.mem_append_left _ (List.mem_append_left _ (List.mem_append_left _ (List.mem_append_right _ h)))))
theorem zi_X7_watcher_0 : ∀ w ∈ u_ws RX0 TX0 15, w ∈ wsX7_watcher := fun _ h => (List.mem_cons_of_mem _ (List.mem_append_left _ (List.mem_append_left _ (List.mem_append_right _ h))))
theorem zi_X7_watcher_5 : ∀ w ∈ u_ws RX5 TX5 7, w ∈ wsX7_watcher := fun _ h => (List.mem_cons_of_mem _ (List.mem_append_right _ h))
theorem zi_X7_watcher_6 : ∀ w ∈ u_ws RX6 TX6 4, w ∈ wsX7_watcher := fun _ h => (List.mem_cons_of_mem _ (List.mem_append_left _ (List.mem_append_right _ h)))
theorem zi_X7_watcher_7 : ∀ w ∈ u_ws RX7 TX7 11, w ∈ wsX7_watcher := fun _ h => (List.mem_cons_of_mem _ (List.mem_append_left _ (List.mem_append_left _ (List.mem_append_left _ (List.mem_append_right _ h)))))
theorem zi_X7_where_7 : ∀ w ∈ u_ws RX7 TX7 11, w ∈ wsX7_where := fun _ h => (List.mem_cons_of_mem _ (List.mem_append_right _ h))
theorem zi_X7_windBest_0 : ∀ w ∈ u_ws RX0 TX0 15, w ∈ wsX7_windBest := fun _ h => (List.mem_cons_of_mem _ (List.mem_append_left _ (List.mem_append_left _ (List.mem_append_right _ h))))
theorem zi_X7_windBest_7 : ∀ w ∈ u_ws RX7 TX7 11, w ∈ wsX7_windBest := fun _ h => (List.mem_cons_of_mem _ (List.mem_append_left _ (List.mem_append_left _ (List.mem_append_left _ (List.mem_append_right _ h)))))
theorem zi_X7_wind_5 : ∀ w ∈ u_ws RX5 TX5 7, w ∈ wsX7_wind := fun _ h => (List.mem_cons_of_mem _ (List.mem_append_left _ (List.mem_append_left _ (List.mem_append_right _ h))))
theorem zi_X7_wind_7 : ∀ w ∈ u_ws RX7 TX7 11, w ∈ wsX7_wind := fun _ h => (List.mem_cons_of_mem _ (List.mem_append_left _ (List.mem_append_left _ (List.mem_append_left _ (List.mem_append_right _ h)))))
theorem zi_X8_aliveBy_8 : ∀ w ∈ u_ws RX8 TX8 40, w ∈ wsX8_aliveBy := fun _ h => (List.mem_cons_of_mem _ (List.mem_append_right _ h))
theorem zi_X8_alive_8 : ∀ w ∈ u_ws RX8 TX8 40, w ∈ wsX8_alive := fun _ h => (List.mem_cons_of_mem _ (List.mem_append_right _ h))
theorem zi_X8_allIn_8 : ∀ w ∈ u_ws RX8 TX8 40, w ∈ wsX8_allIn := fun _ h => (List.mem_cons_of_mem _ (List.mem_append_right _ h))
theorem zi_X8_back_8 : ∀ w ∈ u_ws RX8 TX8 40, w ∈ wsX8_back := fun _ h => (List.mem_cons_of_mem _ (List.mem_append_right _ h))
theorem zi_X8_begin_8 : ∀ w ∈ u_ws RX8 TX8 40, w ∈ wsX8_begin := fun _ h => (List.mem_cons_of_mem _ (List.mem_append_right _ h))
theorem zi_X8_begins_8 : ∀ w ∈ u_ws RX8 TX8 40, w ∈ wsX8_begins := fun _ h => (List.mem_cons_of_mem _ (List.mem_append_right _ h))
theorem zi_X8_bestFrom_8 : ∀ w ∈ u_ws RX8 TX8 40, w ∈ wsX8_bestFrom := fun _ h => (List.mem_cons_of_mem _ (List.mem_append_right _ h))
theorem zi_X8_byCode_8 : ∀ w ∈ u_ws RX8 TX8 40, w ∈ wsX8_byCode := fun _ h => (List.mem_cons_of_mem _ (List.mem_append_right _ h))
theorem zi_X8_called_8 : ∀ w ∈ u_ws RX8 TX8 40, w ∈ wsX8_called := fun _ h => (List.mem_cons_of_mem _ (List.mem_append_right _ h))
theorem zi_X8_catches_8 : ∀ w ∈ u_ws RX8 TX8 40, w ∈ wsX8_catches := fun _ h => (List.mem_cons_of_mem _ (List.mem_append_right _ h))
theorem zi_X8_caught_8 : ∀ w ∈ u_ws RX8 TX8 40, w ∈ wsX8_caught := fun _ h => (List.mem_cons_of_mem _ (List.mem_append_right _ h))
theorem zi_X8_codes_8 : ∀ w ∈ u_ws RX8 TX8 40, w ∈ wsX8_codes := fun _ h => (List.mem_cons_of_mem _ (List.mem_append_right _ h))
theorem zi_X8_could_8 : ∀ w ∈ u_ws RX8 TX8 40, w ∈ wsX8_could := fun _ h => (List.mem_cons_of_mem _ (List.mem_append_right _ h))
theorem zi_X8_crowd_8 : ∀ w ∈ u_ws RX8 TX8 40, w ∈ wsX8_crowd := fun _ h => (List.mem_cons_of_mem _ (List.mem_append_right _ h))
theorem zi_X8_dares_8 : ∀ w ∈ u_ws RX8 TX8 40, w ∈ wsX8_dares := fun _ h => (List.mem_cons_of_mem _ (List.mem_append_right _ h))
theorem zi_X8_doesFit_8 : ∀ w ∈ u_ws RX8 TX8 40, w ∈ wsX8_doesFit := fun _ h => (List.mem_cons_of_mem _ (List.mem_append_right _ h))
theorem zi_X8_drawWhy_8 : ∀ w ∈ u_ws RX8 TX8 40, w ∈ wsX8_drawWhy := fun _ h => (List.mem_cons_of_mem _ (List.mem_append_right _ h))
theorem zi_X8_drawn_8 : ∀ w ∈ u_ws RX8 TX8 40, w ∈ wsX8_drawn := fun _ h => (List.mem_cons_of_mem _ (List.mem_append_right _ h))
theorem zi_X8_farthest_8 : ∀ w ∈ u_ws RX8 TX8 40, w ∈ wsX8_farthest := fun _ h => (List.mem_cons_of_mem _ (List.mem_append_right _ h))
theorem zi_X8_fault_8 : ∀ w ∈ u_ws RX8 TX8 40, w ∈ wsX8_fault := fun _ h => (List.mem_cons_of_mem _ (List.mem_append_right _ h))
theorem zi_X8_feed_8 : ∀ w ∈ u_ws RX8 TX8 40, w ∈ wsX8_feed := fun _ h => (List.mem_cons_of_mem _ (List.mem_append_right _ h))
theorem zi_X8_figureLine_8 : ∀ w ∈ u_ws RX8 TX8 40, w ∈ wsX8_figureLine := fun _ h => (List.mem_cons_of_mem _ (List.mem_append_right _ h))
theorem zi_X8_figure_8 : ∀ w ∈ u_ws RX8 TX8 40, w ∈ wsX8_figure := fun _ h => (List.mem_cons_of_mem _ (List.mem_append_right _ h))
theorem zi_X8_firstShut_8 : ∀ w ∈ u_ws RX8 TX8 40, w ∈ wsX8_firstShut := fun _ h => (List.mem_cons_of_mem _ (List.mem_append_right _ h))
theorem zi_X8_fitAt_8 : ∀ w ∈ u_ws RX8 TX8 40, w ∈ wsX8_fitAt := fun _ h => (List.mem_cons_of_mem _ (List.mem_append_right _ h))
theorem zi_X8_fits_8 : ∀ w ∈ u_ws RX8 TX8 40, w ∈ wsX8_fits := fun _ h => (List.mem_cons_of_mem _ (List.mem_append_right _ h))
theorem zi_X8_galleryLine_8 : ∀ w ∈ u_ws RX8 TX8 40, w ∈ wsX8_galleryLine := fun _ h => (List.mem_cons_of_mem _ (List.mem_append_right _ h))
theorem zi_X8_gallery_8 : ∀ w ∈ u_ws RX8 TX8 40, w ∈ wsX8_gallery := fun _ h => (List.mem_cons_of_mem _ (List.mem_append_right _ h))
theorem zi_X8_goRound_8 : ∀ w ∈ u_ws RX8 TX8 40, w ∈ wsX8_goRound := fun _ h => (List.mem_cons_of_mem _ (List.mem_append_right _ h))
theorem zi_X8_go_8 : ∀ w ∈ u_ws RX8 TX8 40, w ∈ wsX8_go := fun _ h => (List.mem_cons_of_mem _ (List.mem_append_right _ h))
theorem zi_X8_gone_8 : ∀ w ∈ u_ws RX8 TX8 40, w ∈ wsX8_gone := fun _ h => (List.mem_cons_of_mem _ (List.mem_append_right _ h))
theorem zi_X8_good_8 : ∀ w ∈ u_ws RX8 TX8 40, w ∈ wsX8_good := fun _ h => (List.mem_cons_of_mem _ (List.mem_append_right _ h))
theorem zi_X8_guard_8 : ∀ w ∈ u_ws RX8 TX8 40, w ∈ wsX8_guard := fun _ h => (List.mem_cons_of_mem _ (List.mem_append_right _ h))
theorem zi_X8_heard_8 : ∀ w ∈ u_ws RX8 TX8 40, w ∈ wsX8_heard := fun _ h => (List.mem_cons_of_mem _ (List.mem_append_right _ h))
theorem zi_X8_image_8 : ∀ w ∈ u_ws RX8 TX8 40, w ∈ wsX8_image := fun _ h => (List.mem_cons_of_mem _ (List.mem_append_right _ h))
theorem zi_X8_isFigure_8 : ∀ w ∈ u_ws RX8 TX8 40, w ∈ wsX8_isFigure := fun _ h => (List.mem_cons_of_mem _ (List.mem_append_right _ h))
theorem zi_X8_isKnown_8 : ∀ w ∈ u_ws RX8 TX8 40, w ∈ wsX8_isKnown := fun _ h => (List.mem_cons_of_mem _ (List.mem_append_right _ h))
theorem zi_X8_isNot_8 : ∀ w ∈ u_ws RX8 TX8 40, w ∈ wsX8_isNot := fun _ h => (List.mem_cons_of_mem _ (List.mem_append_right _ h))
theorem zi_X8_isWatched_8 : ∀ w ∈ u_ws RX8 TX8 40, w ∈ wsX8_isWatched := fun _ h => (List.mem_cons_of_mem _ (List.mem_append_right _ h))
theorem zi_X8_isWatcher_8 : ∀ w ∈ u_ws RX8 TX8 40, w ∈ wsX8_isWatcher := fun _ h => (List.mem_cons_of_mem _ (List.mem_append_right _ h))
theorem zi_X8_isWord_8 : ∀ w ∈ u_ws RX8 TX8 40, w ∈ wsX8_isWord := fun _ h => (List.mem_cons_of_mem _ (List.mem_append_right _ h))
theorem zi_X8_judge_8 : ∀ w ∈ u_ws RX8 TX8 40, w ∈ wsX8_judge := fun _ h => (List.mem_cons_of_mem _ (List.mem_append_right _ h))
theorem zi_X8_last_8 : ∀ w ∈ u_ws RX8 TX8 40, w ∈ wsX8_last := fun _ h => (List.mem_cons_of_mem _ (List.mem_append_right _ h))
theorem zi_X8_lawLine_8 : ∀ w ∈ u_ws RX8 TX8 40, w ∈ wsX8_lawLine := fun _ h => (List.mem_cons_of_mem _ (List.mem_append_right _ h))
theorem zi_X8_lawsLike_8 : ∀ w ∈ u_ws RX8 TX8 40, w ∈ wsX8_lawsLike := fun _ h => (List.mem_cons_of_mem _ (List.mem_append_right _ h))
theorem zi_X8_layOften_8 : ∀ w ∈ u_ws RX8 TX8 40, w ∈ wsX8_layOften := fun _ h => (List.mem_cons_of_mem _ (List.mem_append_right _ h))
theorem zi_X8_layRoute_8 : ∀ w ∈ u_ws RX8 TX8 40, w ∈ wsX8_layRoute := fun _ h => (List.mem_cons_of_mem _ (List.mem_append_right _ h))
theorem zi_X8_led_8 : ∀ w ∈ u_ws RX8 TX8 40, w ∈ wsX8_led := fun _ h => (List.mem_cons_of_mem _ (List.mem_append_right _ h))
theorem zi_X8_left_8 : ∀ w ∈ u_ws RX8 TX8 40, w ∈ wsX8_left := fun _ h => (List.mem_cons_of_mem _ (List.mem_append_right _ h))
theorem zi_X8_lookLeaves_8 : ∀ w ∈ u_ws RX8 TX8 40, w ∈ wsX8_lookLeaves := fun _ h => (List.mem_cons_of_mem _ (List.mem_append_right _ h))
theorem zi_X8_lookOf_8 : ∀ w ∈ u_ws RX8 TX8 40, w ∈ wsX8_lookOf := fun _ h => (List.mem_cons_of_mem _ (List.mem_append_right _ h))
theorem zi_X8_look_8 : ∀ w ∈ u_ws RX8 TX8 40, w ∈ wsX8_look := fun _ h => (List.mem_cons_of_mem _ (List.mem_append_right _ h))
theorem zi_X8_mean_8 : ∀ w ∈ u_ws RX8 TX8 40, w ∈ wsX8_mean := fun _ h => (List.mem_cons_of_mem _ (List.mem_append_right _ h))
theorem zi_X8_meets_8 : ∀ w ∈ u_ws RX8 TX8 40, w ∈ wsX8_meets := fun _ h => (List.mem_cons_of_mem _ (List.mem_append_right _ h))
theorem zi_X8_minuteOn_8 : ∀ w ∈ u_ws RX8 TX8 40, w ∈ wsX8_minuteOn := fun _ h => (List.mem_cons_of_mem _ (List.mem_append_right _ h))
theorem zi_X8_minutesOf_8 : ∀ w ∈ u_ws RX8 TX8 40, w ∈ wsX8_minutesOf := fun _ h => (List.mem_cons_of_mem _ (List.mem_append_right _ h))
theorem zi_X8_minutesOn_8 : ∀ w ∈ u_ws RX8 TX8 40, w ∈ wsX8_minutesOn := fun _ h => (List.mem_cons_of_mem _ (List.mem_append_right _ h))
theorem zi_X8_must_8 : ∀ w ∈ u_ws RX8 TX8 40, w ∈ wsX8_must := fun _ h => (List.mem_cons_of_mem _ (List.mem_append_right _ h))
theorem zi_X8_nearBy_8 : ∀ w ∈ u_ws RX8 TX8 40, w ∈ wsX8_nearBy := fun _ h => (List.mem_cons_of_mem _ (List.mem_append_right _ h))
theorem zi_X8_newName_8 : ∀ w ∈ u_ws RX8 TX8 40, w ∈ wsX8_newName := fun _ h => (List.mem_cons_of_mem _ (List.mem_append_right _ h))
theorem zi_X8_nextGone_8 : ∀ w ∈ u_ws RX8 TX8 40, w ∈ wsX8_nextGone := fun _ h => (List.mem_cons_of_mem _ (List.mem_append_right _ h))
theorem zi_X8_nextOf_8 : ∀ w ∈ u_ws RX8 TX8 40, w ∈ wsX8_nextOf := fun _ h => (List.mem_cons_of_mem _ (List.mem_append_right _ h))
theorem zi_X8_next_8 : ∀ w ∈ u_ws RX8 TX8 40, w ∈ wsX8_next := fun _ h => (List.mem_cons_of_mem _ (List.mem_append_right _ h))
theorem zi_X8_no_8 : ∀ w ∈ u_ws RX8 TX8 40, w ∈ wsX8_no := fun _ h => (List.mem_cons_of_mem _ (List.mem_append_right _ h))
theorem zi_X8_note_8 : ∀ w ∈ u_ws RX8 TX8 40, w ∈ wsX8_note := fun _ h => (List.mem_cons_of_mem _ (List.mem_append_right _ h))
theorem zi_X8_numberHere_8 : ∀ w ∈ u_ws RX8 TX8 40, w ∈ wsX8_numberHere := fun _ h => (List.mem_cons_of_mem _ (List.mem_append_right _ h))
theorem zi_X8_numberOf_8 : ∀ w ∈ u_ws RX8 TX8 40, w ∈ wsX8_numberOf := fun _ h => (List.mem_cons_of_mem _ (List.mem_append_right _ h))
theorem zi_X8_odds_8 : ∀ w ∈ u_ws RX8 TX8 40, w ∈ wsX8_odds := fun _ h => (List.mem_cons_of_mem _ (List.mem_append_right _ h))
theorem zi_X8_pass_8 : ∀ w ∈ u_ws RX8 TX8 40, w ∈ wsX8_pass := fun _ h => (List.mem_cons_of_mem _ (List.mem_append_right _ h))
theorem zi_X8_patrol_8 : ∀ w ∈ u_ws RX8 TX8 40, w ∈ wsX8_patrol := fun _ h => (List.mem_cons_of_mem _ (List.mem_append_right _ h))
theorem zi_X8_place_8 : ∀ w ∈ u_ws RX8 TX8 40, w ∈ wsX8_place := fun _ h => (List.mem_cons_of_mem _ (List.mem_append_right _ h))
theorem zi_X8_put_8 : ∀ w ∈ u_ws RX8 TX8 40, w ∈ wsX8_put := fun _ h => (List.mem_cons_of_mem _ (List.mem_append_right _ h))
theorem zi_X8_readLine_8 : ∀ w ∈ u_ws RX8 TX8 40, w ∈ wsX8_readLine := fun _ h => (List.mem_cons_of_mem _ (List.mem_append_right _ h))
theorem zi_X8_rest_8 : ∀ w ∈ u_ws RX8 TX8 40, w ∈ wsX8_rest := fun _ h => (List.mem_cons_of_mem _ (List.mem_append_right _ h))
theorem zi_X8_rests_8 : ∀ w ∈ u_ws RX8 TX8 40, w ∈ wsX8_rests := fun _ h => (List.mem_cons_of_mem _ (List.mem_append_right _ h))
theorem zi_X8_round_8 : ∀ w ∈ u_ws RX8 TX8 40, w ∈ wsX8_round := fun _ h => (List.mem_cons_of_mem _ (List.mem_append_right _ h))
theorem zi_X8_route_8 : ∀ w ∈ u_ws RX8 TX8 40, w ∈ wsX8_route := fun _ h => (List.mem_cons_of_mem _ (List.mem_append_right _ h))
theorem zi_X8_see_8 : ∀ w ∈ u_ws RX8 TX8 40, w ∈ wsX8_see := fun _ h => (List.mem_cons_of_mem _ (List.mem_append_right _ h))
theorem zi_X8_seekRests_8 : ∀ w ∈ u_ws RX8 TX8 40, w ∈ wsX8_seekRests := fun _ h => (List.mem_cons_of_mem _ (List.mem_append_right _ h))
theorem zi_X8_seenLine_8 : ∀ w ∈ u_ws RX8 TX8 40, w ∈ wsX8_seenLine := fun _ h => (List.mem_cons_of_mem _ (List.mem_append_right _ h))
theorem zi_X8_settles_8 : ∀ w ∈ u_ws RX8 TX8 40, w ∈ wsX8_settles := fun _ h => (List.mem_cons_of_mem _ (List.mem_append_right _ h))
theorem zi_X8_size_8 : ∀ w ∈ u_ws RX8 TX8 40, w ∈ wsX8_size := fun _ h => (List.mem_cons_of_mem _ (List.mem_append_right _ h))
theorem zi_X8_speakOn_8 : ∀ w ∈ u_ws RX8 TX8 40, w ∈ wsX8_speakOn := fun _ h => (List.mem_cons_of_mem _ (List.mem_append_right _ h))
theorem zi_X8_spoken_8 : ∀ w ∈ u_ws RX8 TX8 40, w ∈ wsX8_spoken := fun _ h => (List.mem_cons_of_mem _ (List.mem_append_right _ h))
theorem zi_X8_stairs_8 : ∀ w ∈ u_ws RX8 TX8 40, w ∈ wsX8_stairs := fun _ h => (List.mem_cons_of_mem _ (List.mem_append_right _ h))
theorem zi_X8_stand_8 : ∀ w ∈ u_ws RX8 TX8 40, w ∈ wsX8_stand := fun _ h => (List.mem_cons_of_mem _ (List.mem_append_right _ h))
theorem zi_X8_trouble_8 : ∀ w ∈ u_ws RX8 TX8 40, w ∈ wsX8_trouble := fun _ h => (List.mem_cons_of_mem _ (List.mem_append_right _ h))
theorem zi_X8_turnAt_8 : ∀ w ∈ u_ws RX8 TX8 40, w ∈ wsX8_turnAt := fun _ h => (List.mem_cons_of_mem _ (List.mem_append_right _ h))
theorem zi_X8_turnBy_8 : ∀ w ∈ u_ws RX8 TX8 40, w ∈ wsX8_turnBy := fun _ h => (List.mem_cons_of_mem _ (List.mem_append_right _ h))
theorem zi_X8_turnIn_8 : ∀ w ∈ u_ws RX8 TX8 40, w ∈ wsX8_turnIn := fun _ h => (List.mem_cons_of_mem _ (List.mem_append_right _ h))
theorem zi_X8_turnOf_8 : ∀ w ∈ u_ws RX8 TX8 40, w ∈ wsX8_turnOf := fun _ h => (List.mem_cons_of_mem _ (List.mem_append_right _ h))
theorem zi_X8_undo_8 : ∀ w ∈ u_ws RX8 TX8 40, w ∈ wsX8_undo := fun _ h => (List.mem_cons_of_mem _ (List.mem_append_right _ h))
theorem zi_X8_walkOn_8 : ∀ w ∈ u_ws RX8 TX8 40, w ∈ wsX8_walkOn := fun _ h => (List.mem_cons_of_mem _ (List.mem_append_right _ h))
theorem zi_X8_watchAsTold_8 : ∀ w ∈ u_ws RX8 TX8 40, w ∈ wsX8_watchAsTold := fun _ h => (List.mem_cons_of_mem _ (List.mem_append_right _ h))
theorem zi_X8_watch_8 : ∀ w ∈ u_ws RX8 TX8 40, w ∈ wsX8_watch := fun _ h => (List.mem_cons_of_mem _ (List.mem_append_right _ h))
theorem zi_X8_watcherAt_8 : ∀ w ∈ u_ws RX8 TX8 40, w ∈ wsX8_watcherAt := fun _ h => (List.mem_cons_of_mem _ (List.mem_append_right _ h))
theorem zi_X8_watcherLine_8 : ∀ w ∈ u_ws RX8 TX8 40, w ∈ wsX8_watcherLine := fun _ h => (List.mem_cons_of_mem _ (List.mem_append_right _ h))
theorem zi_X8_watcher_8 : ∀ w ∈ u_ws RX8 TX8 40, w ∈ wsX8_watcher := fun _ h => (List.mem_cons_of_mem _ (List.mem_append_right _ h))
theorem zi_X8_where_8 : ∀ w ∈ u_ws RX8 TX8 40, w ∈ wsX8_where := fun _ h => (List.mem_cons_of_mem _ (List.mem_append_right _ h))
theorem zi_X8_windBest_8 : ∀ w ∈ u_ws RX8 TX8 40, w ∈ wsX8_windBest := fun _ h => (List.mem_cons_of_mem _ (List.mem_append_right _ h))
theorem zi_X8_wind_8 : ∀ w ∈ u_ws RX8 TX8 40, w ∈ wsX8_wind := fun _ h => (List.mem_cons_of_mem _ (List.mem_append_right _ h))
theorem zi_X8_wrong_8 : ∀ w ∈ u_ws RX8 TX8 40, w ∈ wsX8_wrong := fun _ h => (List.mem_cons_of_mem _ (List.mem_append_right _ h))
theorem zm_J0_charAt_5068e_r1 {w : Cond} (h : w ∈ wsJ0_charAt_5068e_r1) : w ∈ wsJ0_charAt_5068e := (List.mem_cons_of_mem _ (List.mem_append_left _ h))
theorem zm_X0_pass_r1 {w : Cond} (h : w ∈ wsX0_pass_r1) : w ∈ wsX0_pass := (List.mem_cons_of_mem _ (List.mem_append_left _ (List.mem_append_left _ (List.mem_append_left _ (List.mem_append_left _ h)))))
theorem zm_X0_step_r1 {w : Cond} (h : w ∈ wsX0_step_r1) : w ∈ wsX0_step := (List.mem_cons_of_mem _ (List.mem_append_left _ (List.mem_append_left _ (List.mem_append_left _ (List.mem_append_left _ h)))))
theorem zm_X2_chooseLook_r1 {w : Cond} (h : w ∈ wsX2_chooseLook_r1) : w ∈ wsX2_chooseLook := (List.mem_cons_of_mem _ (List.mem_append_left _ (List.mem_append_left _ (List.mem_append_left _ h))))
theorem zm_X3_isWord_r1 {w : Cond} (h : w ∈ wsX3_isWord_r1) : w ∈ wsX3_isWord := (List.mem_cons_of_mem _ (List.mem_append_left _ (List.mem_append_left _ h)))
theorem zm_X3_readFigure_r1 {w : Cond} (h : w ∈ wsX3_readFigure_r1) : w ∈ wsX3_readFigure := (List.mem_cons_of_mem _ (List.mem_append_left _ (List.mem_append_left _ (List.mem_append_left _ h))))
theorem zm_X3_readFigure_r5 {w : Cond} (h : w ∈ wsX3_readFigure_r5) : w ∈ wsX3_readFigure := (List.mem_cons_of_mem _ (List.mem_append_left _ (List.mem_append_left _ (List.mem_append_right _ (List.mem_append_right _ (List.mem_append_right _ (List.mem_append_right _ h)))))))
theorem zm_X3_readHall_r1 {w : Cond} (h : w ∈ wsX3_readHall_r1) : w ∈ wsX3_readHall := (List.mem_cons_of_mem _ (List.mem_append_left _ (List.mem_append_left _ (List.mem_append_left _ h))))
theorem zm_X3_readLaw_r1 {w : Cond} (h : w ∈ wsX3_readLaw_r1) : w ∈ wsX3_readLaw := (List.mem_cons_of_mem _ (List.mem_append_left _ (List.mem_append_left _ (List.mem_append_left _ h))))
theorem zm_X3_readLine_r1 {w : Cond} (h : w ∈ wsX3_readLine_r1) : w ∈ wsX3_readLine := (List.mem_cons_of_mem _ (List.mem_append_left _ (List.mem_append_left _ (List.mem_append_left _ (List.mem_append_left _ h)))))
theorem zm_X3_readSeen_r1 {w : Cond} (h : w ∈ wsX3_readSeen_r1) : w ∈ wsX3_readSeen := (List.mem_cons_of_mem _ (List.mem_append_left _ (List.mem_append_left _ (List.mem_append_left _ h))))
theorem zm_X3_readWatcher_r1 {w : Cond} (h : w ∈ wsX3_readWatcher_r1) : w ∈ wsX3_readWatcher := (List.mem_cons_of_mem _ (List.mem_append_left _ (List.mem_append_left _ (List.mem_append_left _ (List.mem_append_left _ h)))))
theorem zm_X3_read_r1 {w : Cond} (h : w ∈ wsX3_read_r1) : w ∈ wsX3_read := (List.mem_cons_of_mem _ (List.mem_append_left _ (List.mem_append_left _ (List.mem_append_left _ (List.mem_append_left _ h)))))
theorem zm_X3_takeName_r1 {w : Cond} (h : w ∈ wsX3_takeName_r1) : w ∈ wsX3_takeName := (List.mem_cons_of_mem _ (List.mem_append_left _ (List.mem_append_left _ h)))
theorem zm_X3_takeWhole_r1 {w : Cond} (h : w ∈ wsX3_takeWhole_r1) : w ∈ wsX3_takeWhole := (List.mem_cons_of_mem _ (List.mem_append_left _ (List.mem_append_left _ h)))
theorem zm_X7_aliveBy_r1 {w : Cond} (h : w ∈ wsX7_aliveBy_r1) : w ∈ wsX7_aliveBy := (List.mem_cons_of_mem _ (List.mem_append_left _ (List.mem_append_left _ (List.mem_append_left _ (List.mem_append_left _ h)))))
theorem zm_X7_allIn_r1 {w : Cond} (h : w ∈ wsX7_allIn_r1) : w ∈ wsX7_allIn := (List.mem_cons_of_mem _ (List.mem_append_left _ (List.mem_append_left _ (List.mem_append_left _ (List.mem_append_left _ (List.mem_append_left _ h))))))
theorem zm_X7_back_r1 {w : Cond} (h : w ∈ wsX7_back_r1) : w ∈ wsX7_back := (List.mem_cons_of_mem _ (List.mem_append_left _ (List.mem_append_left _ (List.mem_append_left _ (List.mem_append_left _ h)))))
theorem zm_X7_called_r1 {w : Cond} (h : w ∈ wsX7_called_r1) : w ∈ wsX7_called := (List.mem_cons_of_mem _ (List.mem_append_left _ (List.mem_append_left _ (List.mem_append_left _ (List.mem_append_left _ h)))))
theorem zm_X7_catches_r1 {w : Cond} (h : w ∈ wsX7_catches_r1) : w ∈ wsX7_catches := (List.mem_cons_of_mem _ (List.mem_append_left _ (List.mem_append_left _ (List.mem_append_left _ (List.mem_append_left _ (List.mem_append_left _ h))))))
theorem zm_X7_could_r1 {w : Cond} (h : w ∈ wsX7_could_r1) : w ∈ wsX7_could := (List.mem_cons_of_mem _ (List.mem_append_left _ (List.mem_append_left _ (List.mem_append_left _ (List.mem_append_left _ h)))))
theorem zm_X7_crowd_r1 {w : Cond} (h : w ∈ wsX7_crowd_r1) : w ∈ wsX7_crowd := (List.mem_cons_of_mem _ (List.mem_append_left _ (List.mem_append_left _ (List.mem_append_left _ (List.mem_append_left _ (List.mem_append_left _ h))))))
theorem zm_X7_dares_r1 {w : Cond} (h : w ∈ wsX7_dares_r1) : w ∈ wsX7_dares := (List.mem_cons_of_mem _ (List.mem_append_left _ (List.mem_append_left _ (List.mem_append_left _ h))))
theorem zm_X7_drawn_r1 {w : Cond} (h : w ∈ wsX7_drawn_r1) : w ∈ wsX7_drawn := (List.mem_cons_of_mem _ (List.mem_append_left _ (List.mem_append_left _ (List.mem_append_left _ (List.mem_append_left _ h)))))
theorem zm_X7_farthest_r1 {w : Cond} (h : w ∈ wsX7_farthest_r1) : w ∈ wsX7_farthest := (List.mem_cons_of_mem _ (List.mem_append_left _ (List.mem_append_left _ (List.mem_append_left _ (List.mem_append_left _ (List.mem_append_left _ h))))))
theorem zm_X7_figure_r1 {w : Cond} (h : w ∈ wsX7_figure_r1) : w ∈ wsX7_figure := (List.mem_cons_of_mem _ (List.mem_append_left _ (List.mem_append_left _ (List.mem_append_left _ (List.mem_append_left _ h)))))
theorem zm_X7_firstShut_r1 {w : Cond} (h : w ∈ wsX7_firstShut_r1) : w ∈ wsX7_firstShut := (List.mem_cons_of_mem _ (List.mem_append_left _ (List.mem_append_left _ (List.mem_append_left _ h))))
theorem zm_X7_fitAt_r1 {w : Cond} (h : w ∈ wsX7_fitAt_r1) : w ∈ wsX7_fitAt := (List.mem_cons_of_mem _ (List.mem_append_left _ (List.mem_append_left _ (List.mem_append_left _ (List.mem_append_left _ h)))))
theorem zm_X7_fits_r1 {w : Cond} (h : w ∈ wsX7_fits_r1) : w ∈ wsX7_fits := (List.mem_cons_of_mem _ (List.mem_append_left _ (List.mem_append_left _ (List.mem_append_left _ (List.mem_append_left _ h)))))
theorem zm_X7_gallery_r1 {w : Cond} (h : w ∈ wsX7_gallery_r1) : w ∈ wsX7_gallery := (List.mem_cons_of_mem _ (List.mem_append_left _ (List.mem_append_left _ (List.mem_append_left _ (List.mem_append_left _ (List.mem_append_left _ (List.mem_append_left _ (List.mem_append_left _ (List.mem_append_left _ h)))))))))
theorem zm_X7_go_r1 {w : Cond} (h : w ∈ wsX7_go_r1) : w ∈ wsX7_go := (List.mem_cons_of_mem _ (List.mem_append_left _ (List.mem_append_left _ (List.mem_append_left _ (List.mem_append_left _ (List.mem_append_left _ (List.mem_append_left _ h)))))))
theorem zm_X7_gone_r1 {w : Cond} (h : w ∈ wsX7_gone_r1) : w ∈ wsX7_gone := (List.mem_cons_of_mem _ (List.mem_append_left _ (List.mem_append_left _ (List.mem_append_left _ (List.mem_append_left _ (List.mem_append_left _ h))))))
theorem zm_X7_guard_r1 {w : Cond} (h : w ∈ wsX7_guard_r1) : w ∈ wsX7_guard := (List.mem_cons_of_mem _ (List.mem_append_left _ (List.mem_append_left _ (List.mem_append_left _ (List.mem_append_left _ (List.mem_append_left _ h))))))
theorem zm_X7_heard_r1 {w : Cond} (h : w ∈ wsX7_heard_r1) : w ∈ wsX7_heard := (List.mem_cons_of_mem _ (List.mem_append_left _ (List.mem_append_left _ (List.mem_append_left _ (List.mem_append_left _ (List.mem_append_left _ h))))))
theorem zm_X7_image_r1 {w : Cond} (h : w ∈ wsX7_image_r1) : w ∈ wsX7_image := (List.mem_cons_of_mem _ (List.mem_append_left _ (List.mem_append_left _ (List.mem_append_left _ (List.mem_append_left _ (List.mem_append_left _ h))))))
theorem zm_X7_judge_r1 {w : Cond} (h : w ∈ wsX7_judge_r1) : w ∈ wsX7_judge := (List.mem_cons_of_mem _ (List.mem_append_left _ (List.mem_append_left _ (List.mem_append_left _ h))))
theorem zm_X7_lawsLike_r1 {w : Cond} (h : w ∈ wsX7_lawsLike_r1) : w ∈ wsX7_lawsLike := (List.mem_cons_of_mem _ (List.mem_append_left _ (List.mem_append_left _ (List.mem_append_left _ h))))
theorem zm_X7_lookLeaves_r1 {w : Cond} (h : w ∈ wsX7_lookLeaves_r1) : w ∈ wsX7_lookLeaves := (List.mem_cons_of_mem _ (List.mem_append_left _ (List.mem_append_left _ (List.mem_append_left _ (List.mem_append_left _ h)))))
theorem zm_X7_look_r1 {w : Cond} (h : w ∈ wsX7_look_r1) : w ∈ wsX7_look := (List.mem_cons_of_mem _ (List.mem_append_left _ (List.mem_append_left _ (List.mem_append_left _ (List.mem_append_left _ h)))))
theorem zm_X7_mean_r1 {w : Cond} (h : w ∈ wsX7_mean_r1) : w ∈ wsX7_mean := (List.mem_cons_of_mem _ (List.mem_append_left _ (List.mem_append_left _ (List.mem_append_left _ (List.mem_append_left _ h)))))
theorem zm_X7_meets_r1 {w : Cond} (h : w ∈ wsX7_meets_r1) : w ∈ wsX7_meets := (List.mem_cons_of_mem _ (List.mem_append_left _ (List.mem_append_left _ (List.mem_append_left _ (List.mem_append_left _ (List.mem_append_left _ h))))))
theorem zm_X7_minutesOf_r1 {w : Cond} (h : w ∈ wsX7_minutesOf_r1) : w ∈ wsX7_minutesOf := (List.mem_cons_of_mem _ (List.mem_append_left _ (List.mem_append_left _ (List.mem_append_left _ (List.mem_append_left _ h)))))
theorem zm_X7_minutesTillGone_r1 {w : Cond} (h : w ∈ wsX7_minutesTillGone_r1) : w ∈ wsX7_minutesTillGone := (List.mem_cons_of_mem _ (List.mem_append_left _ (List.mem_append_left _ (List.mem_append_left _ (List.mem_append_left _ (List.mem_append_left _ h))))))
theorem zm_X7_nearBy_r1 {w : Cond} (h : w ∈ wsX7_nearBy_r1) : w ∈ wsX7_nearBy := (List.mem_cons_of_mem _ (List.mem_append_left _ (List.mem_append_left _ (List.mem_append_left _ (List.mem_append_left _ (List.mem_append_left _ h))))))
theorem zm_X7_odds_r1 {w : Cond} (h : w ∈ wsX7_odds_r1) : w ∈ wsX7_odds := (List.mem_cons_of_mem _ (List.mem_append_left _ (List.mem_append_left _ (List.mem_append_left _ (List.mem_append_left _ h)))))
theorem zm_X7_passAhead_r1 {w : Cond} (h : w ∈ wsX7_passAhead_r1) : w ∈ wsX7_passAhead := (List.mem_cons_of_mem _ (List.mem_append_left _ (List.mem_append_left _ (List.mem_append_left _ (List.mem_append_left _ (List.mem_append_left _ h))))))
theorem zm_X7_patrol_r1 {w : Cond} (h : w ∈ wsX7_patrol_r1) : w ∈ wsX7_patrol := (List.mem_cons_of_mem _ (List.mem_append_left _ (List.mem_append_left _ (List.mem_append_left _ (List.mem_append_left _ (List.mem_append_left _ h))))))
theorem zm_X7_placeOfActing_r1 {w : Cond} (h : w ∈ wsX7_placeOfActing_r1) : w ∈ wsX7_placeOfActing := (List.mem_cons_of_mem _ (List.mem_append_left _ (List.mem_append_left _ (List.mem_append_left _ (List.mem_append_left _ (List.mem_append_left _ h))))))
theorem zm_X7_place_r1 {w : Cond} (h : w ∈ wsX7_place_r1) : w ∈ wsX7_place := (List.mem_cons_of_mem _ (List.mem_append_left _ (List.mem_append_left _ (List.mem_append_left _ (List.mem_append_left _ (List.mem_append_left _ h))))))
theorem zm_X7_planRoutes_r1 {w : Cond} (h : w ∈ wsX7_planRoutes_r1) : w ∈ wsX7_planRoutes := (List.mem_cons_of_mem _ (List.mem_append_left _ (List.mem_append_left _ (List.mem_append_left _ (List.mem_append_left _ (List.mem_append_left _ (List.mem_append_left _ h)))))))
theorem zm_X7_postsHold_r1 {w : Cond} (h : w ∈ wsX7_postsHold_r1) : w ∈ wsX7_postsHold := (List.mem_cons_of_mem _ (List.mem_append_left _ (List.mem_append_left _ (List.mem_append_left _ (List.mem_append_left _ (List.mem_append_left _ h))))))
theorem zm_X7_put_r1 {w : Cond} (h : w ∈ wsX7_put_r1) : w ∈ wsX7_put := (List.mem_cons_of_mem _ (List.mem_append_left _ (List.mem_append_left _ (List.mem_append_left _ (List.mem_append_left _ (List.mem_append_left _ h))))))
theorem zm_X7_routeAt_r1 {w : Cond} (h : w ∈ wsX7_routeAt_r1) : w ∈ wsX7_routeAt := (List.mem_cons_of_mem _ (List.mem_append_left _ (List.mem_append_left _ (List.mem_append_left _ (List.mem_append_left _ (List.mem_append_left _ (List.mem_append_left _ h)))))))
theorem zm_X7_route_r1 {w : Cond} (h : w ∈ wsX7_route_r1) : w ∈ wsX7_route := (List.mem_cons_of_mem _ (List.mem_append_left _ (List.mem_append_left _ (List.mem_append_left _ (List.mem_append_left _ (List.mem_append_left _ (List.mem_append_left _ h)))))))
theorem zm_X7_runAheadOnTrial_r1 {w : Cond} (h : w ∈ wsX7_runAheadOnTrial_r1) : w ∈ wsX7_runAheadOnTrial := (List.mem_cons_of_mem _ (List.mem_append_left _ (List.mem_append_left _ (List.mem_append_left _ (List.mem_append_left _ (List.mem_append_left _ h))))))
theorem zm_X7_runAhead_r1 {w : Cond} (h : w ∈ wsX7_runAhead_r1) : w ∈ wsX7_runAhead := (List.mem_cons_of_mem _ (List.mem_append_left _ (List.mem_append_left _ (List.mem_append_left _ (List.mem_append_left _ (List.mem_append_left _ h))))))
theorem zm_X7_settles_r1 {w : Cond} (h : w ∈ wsX7_settles_r1) : w ∈ wsX7_settles := (List.mem_cons_of_mem _ (List.mem_append_left _ (List.mem_append_left _ (List.mem_append_left _ (List.mem_append_left _ h)))))
theorem zm_X7_size_r1 {w : Cond} (h : w ∈ wsX7_size_r1) : w ∈ wsX7_size := (List.mem_cons_of_mem _ (List.mem_append_left _ (List.mem_append_left _ (List.mem_append_left _ (List.mem_append_left _ (List.mem_append_left _ (List.mem_append_left _ (List.mem_append_left _ h))))))))
theorem zm_X7_spoken_r1 {w : Cond} (h : w ∈ wsX7_spoken_r1) : w ∈ wsX7_spoken := (List.mem_cons_of_mem _ (List.mem_append_left _ (List.mem_append_left _ (List.mem_append_left _ (List.mem_append_left _ (List.mem_append_left _ h))))))
theorem zm_X7_stairs_r1 {w : Cond} (h : w ∈ wsX7_stairs_r1) : w ∈ wsX7_stairs := (List.mem_cons_of_mem _ (List.mem_append_left _ (List.mem_append_left _ (List.mem_append_left _ (List.mem_append_left _ (List.mem_append_left _ h))))))
theorem zm_X7_stand_r1 {w : Cond} (h : w ∈ wsX7_stand_r1) : w ∈ wsX7_stand := (List.mem_cons_of_mem _ (List.mem_append_left _ (List.mem_append_left _ (List.mem_append_left _ (List.mem_append_left _ (List.mem_append_left _ (List.mem_append_left _ h)))))))
theorem zm_X7_turnIn_r1 {w : Cond} (h : w ∈ wsX7_turnIn_r1) : w ∈ wsX7_turnIn := (List.mem_cons_of_mem _ (List.mem_append_left _ (List.mem_append_left _ (List.mem_append_left _ (List.mem_append_left _ h)))))
theorem zm_X7_turnOf_r1 {w : Cond} (h : w ∈ wsX7_turnOf_r1) : w ∈ wsX7_turnOf := (List.mem_cons_of_mem _ (List.mem_append_left _ (List.mem_append_left _ (List.mem_append_left _ (List.mem_append_left _ h)))))
theorem zm_X7_watch_r1 {w : Cond} (h : w ∈ wsX7_watch_r1) : w ∈ wsX7_watch := (List.mem_cons_of_mem _ (List.mem_append_left _ (List.mem_append_left _ (List.mem_append_left _ (List.mem_append_left _ (List.mem_append_left _ h))))))
theorem zm_X7_watcher_r1 {w : Cond} (h : w ∈ wsX7_watcher_r1) : w ∈ wsX7_watcher := (List.mem_cons_of_mem _ (List.mem_append_left _ (List.mem_append_left _ (List.mem_append_left _ (List.mem_append_left _ (List.mem_append_left _ h))))))
theorem zm_X7_windBest_r1 {w : Cond} (h : w ∈ wsX7_windBest_r1) : w ∈ wsX7_windBest := (List.mem_cons_of_mem _ (List.mem_append_left _ (List.mem_append_left _ (List.mem_append_left _ (List.mem_append_left _ (List.mem_append_left _ h))))))
theorem zm_X7_wind_r1 {w : Cond} (h : w ∈ wsX7_wind_r1) : w ∈ wsX7_wind := (List.mem_cons_of_mem _ (List.mem_append_left _ (List.mem_append_left _ (List.mem_append_left _ (List.mem_append_left _ (List.mem_append_left _ h))))))
theorem zm_X8_aliveBy_r1 {w : Cond} (h : w ∈ wsX8_aliveBy_r1) : w ∈ wsX8_aliveBy := (List.mem_cons_of_mem _ (List.mem_append_left _ (List.mem_append_left _ h)))
theorem zm_X8_allIn_r1 {w : Cond} (h : w ∈ wsX8_allIn_r1) : w ∈ wsX8_allIn := (List.mem_cons_of_mem _ (List.mem_append_left _ (List.mem_append_left _ h)))
theorem zm_X8_begins_r1 {w : Cond} (h : w ∈ wsX8_begins_r1) : w ∈ wsX8_begins := (List.mem_cons_of_mem _ (List.mem_append_left _ (List.mem_append_left _ h)))
theorem zm_X8_called_r1 {w : Cond} (h : w ∈ wsX8_called_r1) : w ∈ wsX8_called := (List.mem_cons_of_mem _ (List.mem_append_left _ (List.mem_append_left _ h)))
theorem zm_X8_catches_r1 {w : Cond} (h : w ∈ wsX8_catches_r1) : w ∈ wsX8_catches := (List.mem_cons_of_mem _ (List.mem_append_left _ (List.mem_append_left _ h)))
theorem zm_X8_could_r1 {w : Cond} (h : w ∈ wsX8_could_r1) : w ∈ wsX8_could := (List.mem_cons_of_mem _ (List.mem_append_left _ (List.mem_append_left _ h)))
theorem zm_X8_crowd_r1 {w : Cond} (h : w ∈ wsX8_crowd_r1) : w ∈ wsX8_crowd := (List.mem_cons_of_mem _ (List.mem_append_left _ (List.mem_append_left _ h)))
theorem zm_X8_drawWhy_r1 {w : Cond} (h : w ∈ wsX8_drawWhy_r1) : w ∈ wsX8_drawWhy := (List.mem_cons_of_mem _ (List.mem_append_left _ (List.mem_append_left _ h)))
theorem zm_X8_drawn_r1 {w : Cond} (h : w ∈ wsX8_drawn_r1) : w ∈ wsX8_drawn := (List.mem_cons_of_mem _ (List.mem_append_left _ (List.mem_append_left _ h)))
theorem zm_X8_farthest_r1 {w : Cond} (h : w ∈ wsX8_farthest_r1) : w ∈ wsX8_farthest := (List.mem_cons_of_mem _ (List.mem_append_left _ (List.mem_append_left _ h)))
theorem zm_X8_figureLine_r1 {w : Cond} (h : w ∈ wsX8_figureLine_r1) : w ∈ wsX8_figureLine := (List.mem_cons_of_mem _ (List.mem_append_left _ (List.mem_append_left _ h)))
theorem zm_X8_firstShut_r1 {w : Cond} (h : w ∈ wsX8_firstShut_r1) : w ∈ wsX8_firstShut := (List.mem_cons_of_mem _ (List.mem_append_left _ (List.mem_append_left _ h)))
theorem zm_X8_fitAt_r1 {w : Cond} (h : w ∈ wsX8_fitAt_r1) : w ∈ wsX8_fitAt := (List.mem_cons_of_mem _ (List.mem_append_left _ (List.mem_append_left _ h)))
theorem zm_X8_fits_r1 {w : Cond} (h : w ∈ wsX8_fits_r1) : w ∈ wsX8_fits := (List.mem_cons_of_mem _ (List.mem_append_left _ (List.mem_append_left _ h)))
theorem zm_X8_galleryLine_r1 {w : Cond} (h : w ∈ wsX8_galleryLine_r1) : w ∈ wsX8_galleryLine := (List.mem_cons_of_mem _ (List.mem_append_left _ (List.mem_append_left _ h)))
theorem zm_X8_gallery_r1 {w : Cond} (h : w ∈ wsX8_gallery_r1) : w ∈ wsX8_gallery := (List.mem_cons_of_mem _ (List.mem_append_left _ (List.mem_append_left _ h)))
theorem zm_X8_go_r1 {w : Cond} (h : w ∈ wsX8_go_r1) : w ∈ wsX8_go := (List.mem_cons_of_mem _ (List.mem_append_left _ (List.mem_append_left _ h)))
theorem zm_X8_gone_r1 {w : Cond} (h : w ∈ wsX8_gone_r1) : w ∈ wsX8_gone := (List.mem_cons_of_mem _ (List.mem_append_left _ (List.mem_append_left _ h)))
theorem zm_X8_guard_r1 {w : Cond} (h : w ∈ wsX8_guard_r1) : w ∈ wsX8_guard := (List.mem_cons_of_mem _ (List.mem_append_left _ (List.mem_append_left _ h)))
theorem zm_X8_heard_r1 {w : Cond} (h : w ∈ wsX8_heard_r1) : w ∈ wsX8_heard := (List.mem_cons_of_mem _ (List.mem_append_left _ (List.mem_append_left _ h)))
theorem zm_X8_isWord_r1 {w : Cond} (h : w ∈ wsX8_isWord_r1) : w ∈ wsX8_isWord := (List.mem_cons_of_mem _ (List.mem_append_left _ (List.mem_append_left _ h)))
theorem zm_X8_lawLine_r1 {w : Cond} (h : w ∈ wsX8_lawLine_r1) : w ∈ wsX8_lawLine := (List.mem_cons_of_mem _ (List.mem_append_left _ (List.mem_append_left _ h)))
theorem zm_X8_lawsLike_r1 {w : Cond} (h : w ∈ wsX8_lawsLike_r1) : w ∈ wsX8_lawsLike := (List.mem_cons_of_mem _ (List.mem_append_left _ (List.mem_append_left _ h)))
theorem zm_X8_layRoute_r1 {w : Cond} (h : w ∈ wsX8_layRoute_r1) : w ∈ wsX8_layRoute := (List.mem_cons_of_mem _ (List.mem_append_left _ (List.mem_append_left _ h)))
theorem zm_X8_lookLeaves_r1 {w : Cond} (h : w ∈ wsX8_lookLeaves_r1) : w ∈ wsX8_lookLeaves := (List.mem_cons_of_mem _ (List.mem_append_left _ (List.mem_append_left _ h)))
theorem zm_X8_lookOf_r1 {w : Cond} (h : w ∈ wsX8_lookOf_r1) : w ∈ wsX8_lookOf := (List.mem_cons_of_mem _ (List.mem_append_left _ (List.mem_append_left _ h)))
theorem zm_X8_look_r1 {w : Cond} (h : w ∈ wsX8_look_r1) : w ∈ wsX8_look := (List.mem_cons_of_mem _ (List.mem_append_left _ (List.mem_append_left _ h)))
theorem zm_X8_mean_r1 {w : Cond} (h : w ∈ wsX8_mean_r1) : w ∈ wsX8_mean := (List.mem_cons_of_mem _ (List.mem_append_left _ (List.mem_append_left _ h)))
theorem zm_X8_meets_r1 {w : Cond} (h : w ∈ wsX8_meets_r1) : w ∈ wsX8_meets := (List.mem_cons_of_mem _ (List.mem_append_left _ (List.mem_append_left _ h)))
theorem zm_X8_minuteOn_r1 {w : Cond} (h : w ∈ wsX8_minuteOn_r1) : w ∈ wsX8_minuteOn := (List.mem_cons_of_mem _ (List.mem_append_left _ (List.mem_append_left _ h)))
theorem zm_X8_minutesOf_r1 {w : Cond} (h : w ∈ wsX8_minutesOf_r1) : w ∈ wsX8_minutesOf := (List.mem_cons_of_mem _ (List.mem_append_left _ (List.mem_append_left _ h)))
theorem zm_X8_minutesOn_r1 {w : Cond} (h : w ∈ wsX8_minutesOn_r1) : w ∈ wsX8_minutesOn := (List.mem_cons_of_mem _ (List.mem_append_left _ (List.mem_append_left _ h)))
theorem zm_X8_must_r1 {w : Cond} (h : w ∈ wsX8_must_r1) : w ∈ wsX8_must := (List.mem_cons_of_mem _ (List.mem_append_left _ (List.mem_append_left _ h)))
theorem zm_X8_nearBy_r1 {w : Cond} (h : w ∈ wsX8_nearBy_r1) : w ∈ wsX8_nearBy := (List.mem_cons_of_mem _ (List.mem_append_left _ (List.mem_append_left _ h)))
theorem zm_X8_newName_r1 {w : Cond} (h : w ∈ wsX8_newName_r1) : w ∈ wsX8_newName := (List.mem_cons_of_mem _ (List.mem_append_left _ (List.mem_append_left _ h)))
theorem zm_X8_nextGone_r1 {w : Cond} (h : w ∈ wsX8_nextGone_r1) : w ∈ wsX8_nextGone := (List.mem_cons_of_mem _ (List.mem_append_left _ (List.mem_append_left _ h)))
theorem zm_X8_odds_r1 {w : Cond} (h : w ∈ wsX8_odds_r1) : w ∈ wsX8_odds := (List.mem_cons_of_mem _ (List.mem_append_left _ (List.mem_append_left _ h)))
theorem zm_X8_patrol_r1 {w : Cond} (h : w ∈ wsX8_patrol_r1) : w ∈ wsX8_patrol := (List.mem_cons_of_mem _ (List.mem_append_left _ (List.mem_append_left _ h)))
theorem zm_X8_place_r1 {w : Cond} (h : w ∈ wsX8_place_r1) : w ∈ wsX8_place := (List.mem_cons_of_mem _ (List.mem_append_left _ (List.mem_append_left _ h)))
theorem zm_X8_put_r1 {w : Cond} (h : w ∈ wsX8_put_r1) : w ∈ wsX8_put := (List.mem_cons_of_mem _ (List.mem_append_left _ (List.mem_append_left _ h)))
theorem zm_X8_readLine_r1 {w : Cond} (h : w ∈ wsX8_readLine_r1) : w ∈ wsX8_readLine := (List.mem_cons_of_mem _ (List.mem_append_left _ (List.mem_append_left _ h)))
theorem zm_X8_rest_r1 {w : Cond} (h : w ∈ wsX8_rest_r1) : w ∈ wsX8_rest := (List.mem_cons_of_mem _ (List.mem_append_left _ (List.mem_append_left _ h)))
theorem zm_X8_rests_r1 {w : Cond} (h : w ∈ wsX8_rests_r1) : w ∈ wsX8_rests := (List.mem_cons_of_mem _ (List.mem_append_left _ (List.mem_append_left _ h)))
theorem zm_X8_round_r1 {w : Cond} (h : w ∈ wsX8_round_r1) : w ∈ wsX8_round := (List.mem_cons_of_mem _ (List.mem_append_left _ (List.mem_append_left _ h)))
theorem zm_X8_route_r1 {w : Cond} (h : w ∈ wsX8_route_r1) : w ∈ wsX8_route := (List.mem_cons_of_mem _ (List.mem_append_left _ (List.mem_append_left _ h)))
theorem zm_X8_seenLine_r1 {w : Cond} (h : w ∈ wsX8_seenLine_r1) : w ∈ wsX8_seenLine := (List.mem_cons_of_mem _ (List.mem_append_left _ (List.mem_append_left _ h)))
theorem zm_X8_settles_r1 {w : Cond} (h : w ∈ wsX8_settles_r1) : w ∈ wsX8_settles := (List.mem_cons_of_mem _ (List.mem_append_left _ (List.mem_append_left _ h)))
theorem zm_X8_spoken_r1 {w : Cond} (h : w ∈ wsX8_spoken_r1) : w ∈ wsX8_spoken := (List.mem_cons_of_mem _ (List.mem_append_left _ (List.mem_append_left _ h)))
theorem zm_X8_stairs_r1 {w : Cond} (h : w ∈ wsX8_stairs_r1) : w ∈ wsX8_stairs := (List.mem_cons_of_mem _ (List.mem_append_left _ (List.mem_append_left _ h)))
theorem zm_X8_stand_r1 {w : Cond} (h : w ∈ wsX8_stand_r1) : w ∈ wsX8_stand := (List.mem_cons_of_mem _ (List.mem_append_left _ (List.mem_append_left _ h)))
theorem zm_X8_turnIn_r1 {w : Cond} (h : w ∈ wsX8_turnIn_r1) : w ∈ wsX8_turnIn := (List.mem_cons_of_mem _ (List.mem_append_left _ (List.mem_append_left _ h)))
theorem zm_X8_turnOf_r1 {w : Cond} (h : w ∈ wsX8_turnOf_r1) : w ∈ wsX8_turnOf := (List.mem_cons_of_mem _ (List.mem_append_left _ (List.mem_append_left _ h)))
theorem zm_X8_watch_r1 {w : Cond} (h : w ∈ wsX8_watch_r1) : w ∈ wsX8_watch := (List.mem_cons_of_mem _ (List.mem_append_left _ (List.mem_append_left _ h)))
theorem zm_X8_watcherLine_r1 {w : Cond} (h : w ∈ wsX8_watcherLine_r1) : w ∈ wsX8_watcherLine := (List.mem_cons_of_mem _ (List.mem_append_left _ (List.mem_append_left _ h)))
theorem zm_X8_watcher_r1 {w : Cond} (h : w ∈ wsX8_watcher_r1) : w ∈ wsX8_watcher := (List.mem_cons_of_mem _ (List.mem_append_left _ (List.mem_append_left _ h)))
theorem zm_X8_windBest_r1 {w : Cond} (h : w ∈ wsX8_windBest_r1) : w ∈ wsX8_windBest := (List.mem_cons_of_mem _ (List.mem_append_left _ (List.mem_append_left _ h)))
theorem zm_X8_wind_r1 {w : Cond} (h : w ∈ wsX8_wind_r1) : w ∈ wsX8_wind := (List.mem_cons_of_mem _ (List.mem_append_left _ (List.mem_append_left _ h)))
end P08_zc
section P081_zp
section ZP
theorem zp_at {α : Type} {us ws : List α} {j : Nat} : (us ++ ws)[us.length + j]? = ws[j]? := by rw [List.getElem?_append_right (Nat.le_add_right _ _), Nat.add_sub_cancel_left]
theorem zp_in {α : Type} {vs ws : List α} {k : Nat} {q : α} (h : (vs ++ ws)[k]? = some q) : (k < vs.length ∧ vs[k]? = some q) ∨ (vs.length ≤ k ∧ ws[k - vs.length]? = some q) := by
  rcases Nat.lt_or_ge k vs.length with g | g
  · exact Or.inl ⟨g, by rwa [List.getElem?_append_left g] at h⟩
  · exact Or.inr ⟨g, by rwa [List.getElem?_append_right g] at h⟩
theorem zp_key {us ws : va_W} {k : Nat} {q : Nat × va_E} (h : us[k]? = some q) : (us ++ ws)[k]? = some q := by
  obtain ⟨g, -⟩ := List.getElem?_eq_some_iff.mp h
  rw [List.getElem?_append_left g]; exact h
/-- a callee's world stands first in the caller's: its cells, apart, free -/
theorem zp_P {D : va_G} {cl : List vw_C} {us ws : va_W} {H : Heap} (hP : va_P D cl (us ++ ws) H) : va_P D cl us H := fun k q hk => hP k q (zp_key hk)
theorem zp_D {A0 : Nat → Prop} {us ws : va_W} (hD : va_D A0 (us ++ ws)) : va_D A0 us := ⟨fun i j p q h1 h2 => hD.1 i j p q (zp_key h1) (zp_key h2), fun k q hk => hD.2 k q (zp_key hk)⟩
theorem zp_F {A0 : Nat → Prop} {us ws : va_W} {H0 H : Heap} {locs : List Loc} (hD : va_D A0 (us ++ ws)) (hS : va_S A0 H0 H locs) (hA : ∀ q, H0.size ≤ q → A0 q) : ∀ q, va_A us H.size q → A0 q := by
  intro q h
  rcases h with ⟨k, e, h⟩ | h
  · exact hD.2 k (q, e) (zp_key h)
  · exact hA q (Nat.le_trans hS.1 h)
/-- behind the call: the callee's cells as it leaves them, the others as they were -/
theorem zp_back {A0 : Nat → Prop} {D : va_G} {cl : List vw_C} {us vs ws : va_W} {H H1 h1 : Heap} (hP : va_P D cl (us ++ ws) H) (hD : va_D A0 (us ++ ws)) (hk : ∀ q : Nat, q < H.size → ¬ va_A us H.size q → H1[q]? = H[q]?) (hF : ∀ q, va_A us H.size q → A0 q) (ht : h1 = H1) (hP1 : va_P D cl vs h1) (hD1 : va_D (va_A us H.size) vs) : va_P D cl (vs ++ ws) H1 ∧ va_D A0 (vs ++ ws) := by
  subst ht
  have apart : ∀ (j : Nat) (q : Nat × va_E), ws[j]? = some q → q.1 < H.size ∧ ¬ va_A us H.size q.1 := by
    intro j q h2
    have h3 : (us ++ ws)[us.length + j]? = some q := zp_at.trans h2
    have hl := (hP _ q h3).lt
    refine ⟨hl, fun h => ?_⟩
    rcases h with ⟨k2, e, h⟩ | h
    · obtain ⟨g, -⟩ := List.getElem?_eq_some_iff.mp h
      have h4 : (us ++ ws)[k2]? = some (q.1, e) := zp_key h
      have h5 := hD.1 _ _ q (q.1, e) h3 h4 rfl
      omega
    · omega
  refine ⟨fun k q hq => ?_, fun a b x y ha hb hxy => ?_, fun k q hq => ?_⟩
  · rcases zp_in hq with ⟨-, h⟩ | ⟨-, h⟩
    · exact hP1 k q h
    · obtain ⟨g1, g2⟩ := apart _ q h
      exact (hP _ q (zp_at.trans h)).kept (hk q.1 g1 g2)
  · rcases zp_in ha with ⟨ga, h1⟩ | ⟨ga, h1⟩ <;> rcases zp_in hb with ⟨gb, h2⟩ | ⟨gb, h2⟩
    · exact hD1.1 a b x y h1 h2 hxy
    · exact absurd (hD1.2 a x h1) (by rw [hxy]; exact (apart _ y h2).2)
    · exact absurd (hD1.2 b y h2) (by rw [← hxy]; exact (apart _ x h1).2)
    · have h5 := hD.1 _ _ x y (zp_at.trans h1) (zp_at.trans h2) hxy
      omega
  · rcases zp_in hq with ⟨-, h⟩ | ⟨-, h⟩
    · exact hF q.1 (hD1.2 k q h)
    · exact hD.2 _ q (zp_at.trans h)
theorem zp_K {D : va_G} {cl : List vw_C} {tys : List (ClassId × FieldType)} {U : State} (h : va_K D cl tys U) : va_K D cl [] U := h.sub (tys' := []) [] rfl
theorem zc_cutc {A0 : Nat → Prop} {D : va_G} {cl : List vw_C} {ws wc : va_W} {H0 H : Heap} {locs : List Loc} {P : Prop} (hP : va_P D cl ws H) (hD : va_D A0 ws) (hS : va_S A0 H0 H locs) (hA : ∀ q, H0.size ≤ q → A0 q) (is : List Nat) (hn : va_nd is = true) (hC : is.map (fun i => ws[i]?) = wc.map some) (kk : va_P D cl wc H → va_D A0 wc → (∀ q, va_A wc H.size q → A0 q) → is.map (fun i => ws[i]?) = wc.map some → P) : P := by
  obtain ⟨a, b, c, d⟩ := zc_cut hP hD hS hA is hn hC
  exact kk a b c d
theorem zc_backc {A0 : Nat → Prop} {D : va_G} {cl : List vw_C} {ws wc w1 w : va_W} {H H1 : Heap} {isC : List Nat} {P : Prop} (hP : va_P D cl ws H) (hD : va_D A0 ws) (hC : isC.map (fun i => ws[i]?) = wc.map some) (hk : ∀ q : Nat, q < H.size → ¬ va_A wc H.size q → H1[q]? = H[q]?) (hF : ∀ q, va_A wc H.size q → A0 q) (hP1 : va_P D cl w1 H1) (hD1 : va_D (va_A wc H.size) w1) (sel : List (Sum Nat Nat)) (ho : zc_ok isC sel = true) (hw : sel.map (zc_f ws w1) = w.map some) (kk : va_P D cl w H1 → va_D A0 w → P) : P := by
  obtain ⟨a, b⟩ := zc_back hP hD hC hk hF hP1 hD1 sel ho hw
  exact kk a b
theorem zc_rec {A0 : Nat → Prop} {D : va_G} {cl : List vw_C} {ws w : va_W} {H : Heap} {P : Prop} (hP : va_P D cl ws H) (hD : va_D A0 ws) (h : ws = w) (kk : va_P D cl w H → va_D A0 w → P) : P := by
  subst h; exact kk hP hD
theorem zp_P0 {D : va_G} {cl : List vw_C} {ws : va_W} {H : Heap} (hP : va_P D cl (ws) H) : va_P D cl [] H := zp_P (us := []) (ws := ws) hP
theorem zp_D0 {A0 : Nat → Prop} {ws : va_W} (hD : va_D A0 (ws)) : va_D A0 [] := zp_D (us := []) (ws := ws) hD
theorem zp_F0 {A0 : Nat → Prop} {ws : va_W} {H0 H : Heap} {locs : List Loc} (hD : va_D A0 (ws)) (hS : va_S A0 H0 H locs) (hA : ∀ q, H0.size ≤ q → A0 q) : ∀ q, va_A [] H.size q → A0 q := zp_F (us := []) (ws := ws) hD hS hA
theorem zo0 {dC : Nat → ClassId} {dI : Nat → Nat → Nat} {A0 : Nat → Prop} {ws : va_W} {H0 H H1 : Heap} {locs : List Loc} {t : State} {T : List (ClassId × FieldType)} {P : Prop} (hB : ax_B dC dI (va_A [] H.size) [] T t) (ht : t.heap = H1) (hP : va_P (dC, dI) vwCl (ws) H) (hD : va_D A0 (ws)) (hk : ∀ q : Nat, q < H.size → ¬ va_A [] H.size q → H1[q]? = H[q]?) (hF : ∀ q, va_A [] H.size q → A0 q) (hS : va_S A0 H0 H1 locs) (kk : va_P (dC, dI) vwCl (ws) H1 → va_K (dC, dI) vwCl T t → va_D A0 (ws) → va_S A0 H0 H1 locs → P) : P := by
  obtain ⟨b1, b2⟩ := zp_back (us := []) (vs := []) (ws := ws) hP hD hk hF ht hB.1 hB.2.2
  exact kk b1 hB.2.1 b2 hS
theorem zp_P1 {D : va_G} {cl : List vw_C} {x0 : Nat × va_E} {ws : va_W} {H : Heap} (hP : va_P D cl (x0 :: ws) H) : va_P D cl [x0] H := zp_P (us := [x0]) (ws := ws) hP
theorem zp_D1 {A0 : Nat → Prop} {x0 : Nat × va_E} {ws : va_W} (hD : va_D A0 (x0 :: ws)) : va_D A0 [x0] := zp_D (us := [x0]) (ws := ws) hD
theorem zp_F1 {A0 : Nat → Prop} {x0 : Nat × va_E} {ws : va_W} {H0 H : Heap} {locs : List Loc} (hD : va_D A0 (x0 :: ws)) (hS : va_S A0 H0 H locs) (hA : ∀ q, H0.size ≤ q → A0 q) : ∀ q, va_A [x0] H.size q → A0 q := zp_F (us := [x0]) (ws := ws) hD hS hA
theorem zo1 {dC : Nat → ClassId} {dI : Nat → Nat → Nat} {A0 : Nat → Prop} {x0 : Nat × va_E} {w0 : Nat × va_E} {ws : va_W} {H0 H H1 : Heap} {locs : List Loc} {t : State} {T : List (ClassId × FieldType)} {P : Prop} (hB : ax_B dC dI (va_A [x0] H.size) [w0] T t) (ht : t.heap = H1) (hP : va_P (dC, dI) vwCl (x0 :: ws) H) (hD : va_D A0 (x0 :: ws)) (hk : ∀ q : Nat, q < H.size → ¬ va_A [x0] H.size q → H1[q]? = H[q]?) (hF : ∀ q, va_A [x0] H.size q → A0 q) (hS : va_S A0 H0 H1 locs) (kk : va_P (dC, dI) vwCl (w0 :: ws) H1 → va_K (dC, dI) vwCl T t → va_D A0 (w0 :: ws) → va_S A0 H0 H1 locs → P) : P := by
  obtain ⟨b1, b2⟩ := zp_back (us := [x0]) (vs := [w0]) (ws := ws) hP hD hk hF ht hB.1 hB.2.2
  exact kk b1 hB.2.1 b2 hS
theorem zp_P2 {D : va_G} {cl : List vw_C} {x0 x1 : Nat × va_E} {ws : va_W} {H : Heap} (hP : va_P D cl (x0 :: x1 :: ws) H) : va_P D cl [x0, x1] H := zp_P (us := [x0, x1]) (ws := ws) hP
theorem zp_D2 {A0 : Nat → Prop} {x0 x1 : Nat × va_E} {ws : va_W} (hD : va_D A0 (x0 :: x1 :: ws)) : va_D A0 [x0, x1] := zp_D (us := [x0, x1]) (ws := ws) hD
theorem zp_F2 {A0 : Nat → Prop} {x0 x1 : Nat × va_E} {ws : va_W} {H0 H : Heap} {locs : List Loc} (hD : va_D A0 (x0 :: x1 :: ws)) (hS : va_S A0 H0 H locs) (hA : ∀ q, H0.size ≤ q → A0 q) : ∀ q, va_A [x0, x1] H.size q → A0 q := zp_F (us := [x0, x1]) (ws := ws) hD hS hA
theorem zo2 {dC : Nat → ClassId} {dI : Nat → Nat → Nat} {A0 : Nat → Prop} {x0 x1 : Nat × va_E} {w0 w1 : Nat × va_E} {ws : va_W} {H0 H H1 : Heap} {locs : List Loc} {t : State} {T : List (ClassId × FieldType)} {P : Prop} (hB : ax_B dC dI (va_A [x0, x1] H.size) [w0, w1] T t) (ht : t.heap = H1) (hP : va_P (dC, dI) vwCl (x0 :: x1 :: ws) H) (hD : va_D A0 (x0 :: x1 :: ws)) (hk : ∀ q : Nat, q < H.size → ¬ va_A [x0, x1] H.size q → H1[q]? = H[q]?) (hF : ∀ q, va_A [x0, x1] H.size q → A0 q) (hS : va_S A0 H0 H1 locs) (kk : va_P (dC, dI) vwCl (w0 :: w1 :: ws) H1 → va_K (dC, dI) vwCl T t → va_D A0 (w0 :: w1 :: ws) → va_S A0 H0 H1 locs → P) : P := by
  obtain ⟨b1, b2⟩ := zp_back (us := [x0, x1]) (vs := [w0, w1]) (ws := ws) hP hD hk hF ht hB.1 hB.2.2
  exact kk b1 hB.2.1 b2 hS
theorem zp_P3 {D : va_G} {cl : List vw_C} {x0 x1 x2 : Nat × va_E} {ws : va_W} {H : Heap} (hP : va_P D cl (x0 :: x1 :: x2 :: ws) H) : va_P D cl [x0, x1, x2] H := zp_P (us := [x0, x1, x2]) (ws := ws) hP
theorem zp_D3 {A0 : Nat → Prop} {x0 x1 x2 : Nat × va_E} {ws : va_W} (hD : va_D A0 (x0 :: x1 :: x2 :: ws)) : va_D A0 [x0, x1, x2] := zp_D (us := [x0, x1, x2]) (ws := ws) hD
theorem zp_F3 {A0 : Nat → Prop} {x0 x1 x2 : Nat × va_E} {ws : va_W} {H0 H : Heap} {locs : List Loc} (hD : va_D A0 (x0 :: x1 :: x2 :: ws)) (hS : va_S A0 H0 H locs) (hA : ∀ q, H0.size ≤ q → A0 q) : ∀ q, va_A [x0, x1, x2] H.size q → A0 q := zp_F (us := [x0, x1, x2]) (ws := ws) hD hS hA
theorem zo3 {dC : Nat → ClassId} {dI : Nat → Nat → Nat} {A0 : Nat → Prop} {x0 x1 x2 : Nat × va_E} {w0 w1 w2 : Nat × va_E} {ws : va_W} {H0 H H1 : Heap} {locs : List Loc} {t : State} {T : List (ClassId × FieldType)} {P : Prop} (hB : ax_B dC dI (va_A [x0, x1, x2] H.size) [w0, w1, w2] T t) (ht : t.heap = H1) (hP : va_P (dC, dI) vwCl (x0 :: x1 :: x2 :: ws) H) (hD : va_D A0 (x0 :: x1 :: x2 :: ws)) (hk : ∀ q : Nat, q < H.size → ¬ va_A [x0, x1, x2] H.size q → H1[q]? = H[q]?) (hF : ∀ q, va_A [x0, x1, x2] H.size q → A0 q) (hS : va_S A0 H0 H1 locs) (kk : va_P (dC, dI) vwCl (w0 :: w1 :: w2 :: ws) H1 → va_K (dC, dI) vwCl T t → va_D A0 (w0 :: w1 :: w2 :: ws) → va_S A0 H0 H1 locs → P) : P := by
  obtain ⟨b1, b2⟩ := zp_back (us := [x0, x1, x2]) (vs := [w0, w1, w2]) (ws := ws) hP hD hk hF ht hB.1 hB.2.2
  exact kk b1 hB.2.1 b2 hS
theorem zp_P4 {D : va_G} {cl : List vw_C} {x0 x1 x2 x3 : Nat × va_E} {ws : va_W} {H : Heap} (hP : va_P D cl (x0 :: x1 :: x2 :: x3 :: ws) H) : va_P D cl [x0, x1, x2, x3] H := zp_P (us := [x0, x1, x2, x3]) (ws := ws) hP
theorem zp_D4 {A0 : Nat → Prop} {x0 x1 x2 x3 : Nat × va_E} {ws : va_W} (hD : va_D A0 (x0 :: x1 :: x2 :: x3 :: ws)) : va_D A0 [x0, x1, x2, x3] := zp_D (us := [x0, x1, x2, x3]) (ws := ws) hD
theorem zp_F4 {A0 : Nat → Prop} {x0 x1 x2 x3 : Nat × va_E} {ws : va_W} {H0 H : Heap} {locs : List Loc} (hD : va_D A0 (x0 :: x1 :: x2 :: x3 :: ws)) (hS : va_S A0 H0 H locs) (hA : ∀ q, H0.size ≤ q → A0 q) : ∀ q, va_A [x0, x1, x2, x3] H.size q → A0 q := zp_F (us := [x0, x1, x2, x3]) (ws := ws) hD hS hA
theorem zo4 {dC : Nat → ClassId} {dI : Nat → Nat → Nat} {A0 : Nat → Prop} {x0 x1 x2 x3 : Nat × va_E} {w0 w1 w2 w3 : Nat × va_E} {ws : va_W} {H0 H H1 : Heap} {locs : List Loc} {t : State} {T : List (ClassId × FieldType)} {P : Prop} (hB : ax_B dC dI (va_A [x0, x1, x2, x3] H.size) [w0, w1, w2, w3] T t) (ht : t.heap = H1) (hP : va_P (dC, dI) vwCl (x0 :: x1 :: x2 :: x3 :: ws) H) (hD : va_D A0 (x0 :: x1 :: x2 :: x3 :: ws)) (hk : ∀ q : Nat, q < H.size → ¬ va_A [x0, x1, x2, x3] H.size q → H1[q]? = H[q]?) (hF : ∀ q, va_A [x0, x1, x2, x3] H.size q → A0 q) (hS : va_S A0 H0 H1 locs) (kk : va_P (dC, dI) vwCl (w0 :: w1 :: w2 :: w3 :: ws) H1 → va_K (dC, dI) vwCl T t → va_D A0 (w0 :: w1 :: w2 :: w3 :: ws) → va_S A0 H0 H1 locs → P) : P := by
  obtain ⟨b1, b2⟩ := zp_back (us := [x0, x1, x2, x3]) (vs := [w0, w1, w2, w3]) (ws := ws) hP hD hk hF ht hB.1 hB.2.2
  exact kk b1 hB.2.1 b2 hS
theorem zp_P5 {D : va_G} {cl : List vw_C} {x0 x1 x2 x3 x4 : Nat × va_E} {ws : va_W} {H : Heap} (hP : va_P D cl (x0 :: x1 :: x2 :: x3 :: x4 :: ws) H) : va_P D cl [x0, x1, x2, x3, x4] H := zp_P (us := [x0, x1, x2, x3, x4]) (ws := ws) hP
theorem zp_D5 {A0 : Nat → Prop} {x0 x1 x2 x3 x4 : Nat × va_E} {ws : va_W} (hD : va_D A0 (x0 :: x1 :: x2 :: x3 :: x4 :: ws)) : va_D A0 [x0, x1, x2, x3, x4] := zp_D (us := [x0, x1, x2, x3, x4]) (ws := ws) hD
theorem zp_F5 {A0 : Nat → Prop} {x0 x1 x2 x3 x4 : Nat × va_E} {ws : va_W} {H0 H : Heap} {locs : List Loc} (hD : va_D A0 (x0 :: x1 :: x2 :: x3 :: x4 :: ws)) (hS : va_S A0 H0 H locs) (hA : ∀ q, H0.size ≤ q → A0 q) : ∀ q, va_A [x0, x1, x2, x3, x4] H.size q → A0 q := zp_F (us := [x0, x1, x2, x3, x4]) (ws := ws) hD hS hA
theorem zo5 {dC : Nat → ClassId} {dI : Nat → Nat → Nat} {A0 : Nat → Prop} {x0 x1 x2 x3 x4 : Nat × va_E} {w0 w1 w2 w3 w4 : Nat × va_E} {ws : va_W} {H0 H H1 : Heap} {locs : List Loc} {t : State} {T : List (ClassId × FieldType)} {P : Prop} (hB : ax_B dC dI (va_A [x0, x1, x2, x3, x4] H.size) [w0, w1, w2, w3, w4] T t) (ht : t.heap = H1) (hP : va_P (dC, dI) vwCl (x0 :: x1 :: x2 :: x3 :: x4 :: ws) H) (hD : va_D A0 (x0 :: x1 :: x2 :: x3 :: x4 :: ws)) (hk : ∀ q : Nat, q < H.size → ¬ va_A [x0, x1, x2, x3, x4] H.size q → H1[q]? = H[q]?) (hF : ∀ q, va_A [x0, x1, x2, x3, x4] H.size q → A0 q) (hS : va_S A0 H0 H1 locs) (kk : va_P (dC, dI) vwCl (w0 :: w1 :: w2 :: w3 :: w4 :: ws) H1 → va_K (dC, dI) vwCl T t → va_D A0 (w0 :: w1 :: w2 :: w3 :: w4 :: ws) → va_S A0 H0 H1 locs → P) : P := by
  obtain ⟨b1, b2⟩ := zp_back (us := [x0, x1, x2, x3, x4]) (vs := [w0, w1, w2, w3, w4]) (ws := ws) hP hD hk hF ht hB.1 hB.2.2
  exact kk b1 hB.2.1 b2 hS
theorem zp_P6 {D : va_G} {cl : List vw_C} {x0 x1 x2 x3 x4 x5 : Nat × va_E} {ws : va_W} {H : Heap} (hP : va_P D cl (x0 :: x1 :: x2 :: x3 :: x4 :: x5 :: ws) H) : va_P D cl [x0, x1, x2, x3, x4, x5] H := zp_P (us := [x0, x1, x2, x3, x4, x5]) (ws := ws) hP
theorem zp_D6 {A0 : Nat → Prop} {x0 x1 x2 x3 x4 x5 : Nat × va_E} {ws : va_W} (hD : va_D A0 (x0 :: x1 :: x2 :: x3 :: x4 :: x5 :: ws)) : va_D A0 [x0, x1, x2, x3, x4, x5] := zp_D (us := [x0, x1, x2, x3, x4, x5]) (ws := ws) hD
theorem zp_F6 {A0 : Nat → Prop} {x0 x1 x2 x3 x4 x5 : Nat × va_E} {ws : va_W} {H0 H : Heap} {locs : List Loc} (hD : va_D A0 (x0 :: x1 :: x2 :: x3 :: x4 :: x5 :: ws)) (hS : va_S A0 H0 H locs) (hA : ∀ q, H0.size ≤ q → A0 q) : ∀ q, va_A [x0, x1, x2, x3, x4, x5] H.size q → A0 q := zp_F (us := [x0, x1, x2, x3, x4, x5]) (ws := ws) hD hS hA
theorem zo6 {dC : Nat → ClassId} {dI : Nat → Nat → Nat} {A0 : Nat → Prop} {x0 x1 x2 x3 x4 x5 : Nat × va_E} {w0 w1 w2 w3 w4 w5 : Nat × va_E} {ws : va_W} {H0 H H1 : Heap} {locs : List Loc} {t : State} {T : List (ClassId × FieldType)} {P : Prop} (hB : ax_B dC dI (va_A [x0, x1, x2, x3, x4, x5] H.size) [w0, w1, w2, w3, w4, w5] T t) (ht : t.heap = H1) (hP : va_P (dC, dI) vwCl (x0 :: x1 :: x2 :: x3 :: x4 :: x5 :: ws) H) (hD : va_D A0 (x0 :: x1 :: x2 :: x3 :: x4 :: x5 :: ws)) (hk : ∀ q : Nat, q < H.size → ¬ va_A [x0, x1, x2, x3, x4, x5] H.size q → H1[q]? = H[q]?) (hF : ∀ q, va_A [x0, x1, x2, x3, x4, x5] H.size q → A0 q) (hS : va_S A0 H0 H1 locs) (kk : va_P (dC, dI) vwCl (w0 :: w1 :: w2 :: w3 :: w4 :: w5 :: ws) H1 → va_K (dC, dI) vwCl T t → va_D A0 (w0 :: w1 :: w2 :: w3 :: w4 :: w5 :: ws) → va_S A0 H0 H1 locs → P) : P := by
  obtain ⟨b1, b2⟩ := zp_back (us := [x0, x1, x2, x3, x4, x5]) (vs := [w0, w1, w2, w3, w4, w5]) (ws := ws) hP hD hk hF ht hB.1 hB.2.2
  exact kk b1 hB.2.1 b2 hS
theorem zp_P8 {D : va_G} {cl : List vw_C} {x0 x1 x2 x3 x4 x5 x6 x7 : Nat × va_E} {ws : va_W} {H : Heap} (hP : va_P D cl (x0 :: x1 :: x2 :: x3 :: x4 :: x5 :: x6 :: x7 :: ws) H) : va_P D cl [x0, x1, x2, x3, x4, x5, x6, x7] H := zp_P (us := [x0, x1, x2, x3, x4, x5, x6, x7]) (ws := ws) hP
theorem zp_D8 {A0 : Nat → Prop} {x0 x1 x2 x3 x4 x5 x6 x7 : Nat × va_E} {ws : va_W} (hD : va_D A0 (x0 :: x1 :: x2 :: x3 :: x4 :: x5 :: x6 :: x7 :: ws)) : va_D A0 [x0, x1, x2, x3, x4, x5, x6, x7] := zp_D (us := [x0, x1, x2, x3, x4, x5, x6, x7]) (ws := ws) hD
theorem zp_F8 {A0 : Nat → Prop} {x0 x1 x2 x3 x4 x5 x6 x7 : Nat × va_E} {ws : va_W} {H0 H : Heap} {locs : List Loc} (hD : va_D A0 (x0 :: x1 :: x2 :: x3 :: x4 :: x5 :: x6 :: x7 :: ws)) (hS : va_S A0 H0 H locs) (hA : ∀ q, H0.size ≤ q → A0 q) : ∀ q, va_A [x0, x1, x2, x3, x4, x5, x6, x7] H.size q → A0 q := zp_F (us := [x0, x1, x2, x3, x4, x5, x6, x7]) (ws := ws) hD hS hA
theorem zo8 {dC : Nat → ClassId} {dI : Nat → Nat → Nat} {A0 : Nat → Prop} {x0 x1 x2 x3 x4 x5 x6 x7 : Nat × va_E} {w0 w1 w2 w3 w4 w5 w6 w7 : Nat × va_E} {ws : va_W} {H0 H H1 : Heap} {locs : List Loc} {t : State} {T : List (ClassId × FieldType)} {P : Prop} (hB : ax_B dC dI (va_A [x0, x1, x2, x3, x4, x5, x6, x7] H.size) [w0, w1, w2, w3, w4, w5, w6, w7] T t) (ht : t.heap = H1) (hP : va_P (dC, dI) vwCl (x0 :: x1 :: x2 :: x3 :: x4 :: x5 :: x6 :: x7 :: ws) H) (hD : va_D A0 (x0 :: x1 :: x2 :: x3 :: x4 :: x5 :: x6 :: x7 :: ws)) (hk : ∀ q : Nat, q < H.size → ¬ va_A [x0, x1, x2, x3, x4, x5, x6, x7] H.size q → H1[q]? = H[q]?) (hF : ∀ q, va_A [x0, x1, x2, x3, x4, x5, x6, x7] H.size q → A0 q) (hS : va_S A0 H0 H1 locs) (kk : va_P (dC, dI) vwCl (w0 :: w1 :: w2 :: w3 :: w4 :: w5 :: w6 :: w7 :: ws) H1 → va_K (dC, dI) vwCl T t → va_D A0 (w0 :: w1 :: w2 :: w3 :: w4 :: w5 :: w6 :: w7 :: ws) → va_S A0 H0 H1 locs → P) : P := by
  obtain ⟨b1, b2⟩ := zp_back (us := [x0, x1, x2, x3, x4, x5, x6, x7]) (vs := [w0, w1, w2, w3, w4, w5, w6, w7]) (ws := ws) hP hD hk hF ht hB.1 hB.2.2
  exact kk b1 hB.2.1 b2 hS
theorem zo {dC : Nat → ClassId} {dI : Nat → Nat → Nat} {A : Nat → Prop} {w : va_W} {H1 : Heap} {t : State} {T : List (ClassId × FieldType)} {P : Prop} (hB : ax_B dC dI A w T t) (ht : t.heap = H1) {A0 : Nat → Prop} {H0 : Heap} {locs : List Loc} (hS : va_S A0 H0 H1 locs) (kk : va_P (dC, dI) vwCl w H1 → va_K (dC, dI) vwCl T t → va_D A w → va_S A0 H0 H1 locs → P) : P := by
  subst ht
  exact kk hB.1 hB.2.1 hB.2.2 hS
theorem zx_1 {α0 : Type} {p : α0 → Prop} {P : Prop} (kk : ∀ (u0 : α0), p u0 → P) (h : ∃ u0 : α0, p u0) : P := Exists.elim h fun u0 h1 => kk u0 h1
theorem zx_2 {α0 α1 : Type} {p : α0 → α1 → Prop} {P : Prop} (kk : ∀ (u0 : α0) (u1 : α1), p u0 u1 → P) (h : ∃ u0 : α0, ∃ u1 : α1, p u0 u1) : P := Exists.elim h fun u0 h1 => Exists.elim h1 fun u1 h2 => kk u0 u1 h2
theorem zx_3 {α0 α1 α2 : Type} {p : α0 → α1 → α2 → Prop} {P : Prop} (kk : ∀ (u0 : α0) (u1 : α1) (u2 : α2), p u0 u1 u2 → P) (h : ∃ u0 : α0, ∃ u1 : α1, ∃ u2 : α2, p u0 u1 u2) : P := Exists.elim h fun u0 h1 => Exists.elim h1 fun u1 h2 => Exists.elim h2 fun u2 h3 => kk u0 u1 u2 h3
theorem zx_4 {α0 α1 α2 α3 : Type} {p : α0 → α1 → α2 → α3 → Prop} {P : Prop} (kk : ∀ (u0 : α0) (u1 : α1) (u2 : α2) (u3 : α3), p u0 u1 u2 u3 → P) (h : ∃ u0 : α0, ∃ u1 : α1, ∃ u2 : α2, ∃ u3 : α3, p u0 u1 u2 u3) : P := Exists.elim h fun u0 h1 => Exists.elim h1 fun u1 h2 => Exists.elim h2 fun u2 h3 => Exists.elim h3 fun u3 h4 => kk u0 u1 u2 u3 h4
theorem zx_5 {α0 α1 α2 α3 α4 : Type} {p : α0 → α1 → α2 → α3 → α4 → Prop} {P : Prop} (kk : ∀ (u0 : α0) (u1 : α1) (u2 : α2) (u3 : α3) (u4 : α4), p u0 u1 u2 u3 u4 → P) (h : ∃ u0 : α0, ∃ u1 : α1, ∃ u2 : α2, ∃ u3 : α3, ∃ u4 : α4, p u0 u1 u2 u3 u4) : P := Exists.elim h fun u0 h1 => Exists.elim h1 fun u1 h2 => Exists.elim h2 fun u2 h3 => Exists.elim h3 fun u3 h4 => Exists.elim h4 fun u4 h5 => kk u0 u1 u2 u3 u4 h5
theorem zx_6 {α0 α1 α2 α3 α4 α5 : Type} {p : α0 → α1 → α2 → α3 → α4 → α5 → Prop} {P : Prop} (kk : ∀ (u0 : α0) (u1 : α1) (u2 : α2) (u3 : α3) (u4 : α4) (u5 : α5), p u0 u1 u2 u3 u4 u5 → P) (h : ∃ u0 : α0, ∃ u1 : α1, ∃ u2 : α2, ∃ u3 : α3, ∃ u4 : α4, ∃ u5 : α5, p u0 u1 u2 u3 u4 u5) : P := Exists.elim h fun u0 h1 => Exists.elim h1 fun u1 h2 => Exists.elim h2 fun u2 h3 => Exists.elim h3 fun u3 h4 => Exists.elim h4 fun u4 h5 => Exists.elim h5 fun u5 h6 => kk u0 u1 u2 u3 u4 u5 h6
theorem zx_7 {α0 α1 α2 α3 α4 α5 α6 : Type} {p : α0 → α1 → α2 → α3 → α4 → α5 → α6 → Prop} {P : Prop} (kk : ∀ (u0 : α0) (u1 : α1) (u2 : α2) (u3 : α3) (u4 : α4) (u5 : α5) (u6 : α6), p u0 u1 u2 u3 u4 u5 u6 → P) (h : ∃ u0 : α0, ∃ u1 : α1, ∃ u2 : α2, ∃ u3 : α3, ∃ u4 : α4, ∃ u5 : α5, ∃ u6 : α6, p u0 u1 u2 u3 u4 u5 u6) : P := Exists.elim h fun u0 h1 => Exists.elim h1 fun u1 h2 => Exists.elim h2 fun u2 h3 => Exists.elim h3 fun u3 h4 => Exists.elim h4 fun u4 h5 => Exists.elim h5 fun u5 h6 => Exists.elim h6 fun u6 h7 => kk u0 u1 u2 u3 u4 u5 u6 h7
theorem zx_8 {α0 α1 α2 α3 α4 α5 α6 α7 : Type} {p : α0 → α1 → α2 → α3 → α4 → α5 → α6 → α7 → Prop} {P : Prop} (kk : ∀ (u0 : α0) (u1 : α1) (u2 : α2) (u3 : α3) (u4 : α4) (u5 : α5) (u6 : α6) (u7 : α7), p u0 u1 u2 u3 u4 u5 u6 u7 → P) (h : ∃ u0 : α0, ∃ u1 : α1, ∃ u2 : α2, ∃ u3 : α3, ∃ u4 : α4, ∃ u5 : α5, ∃ u6 : α6, ∃ u7 : α7, p u0 u1 u2 u3 u4 u5 u6 u7) : P := Exists.elim h fun u0 h1 => Exists.elim h1 fun u1 h2 => Exists.elim h2 fun u2 h3 => Exists.elim h3 fun u3 h4 => Exists.elim h4 fun u4 h5 => Exists.elim h5 fun u5 h6 => Exists.elim h6 fun u6 h7 => Exists.elim h7 fun u7 h8 => kk u0 u1 u2 u3 u4 u5 u6 u7 h8
theorem zx_9 {α0 α1 α2 α3 α4 α5 α6 α7 α8 : Type} {p : α0 → α1 → α2 → α3 → α4 → α5 → α6 → α7 → α8 → Prop} {P : Prop} (kk : ∀ (u0 : α0) (u1 : α1) (u2 : α2) (u3 : α3) (u4 : α4) (u5 : α5) (u6 : α6) (u7 : α7) (u8 : α8), p u0 u1 u2 u3 u4 u5 u6 u7 u8 → P) (h : ∃ u0 : α0, ∃ u1 : α1, ∃ u2 : α2, ∃ u3 : α3, ∃ u4 : α4, ∃ u5 : α5, ∃ u6 : α6, ∃ u7 : α7, ∃ u8 : α8, p u0 u1 u2 u3 u4 u5 u6 u7 u8) : P := Exists.elim h fun u0 h1 => Exists.elim h1 fun u1 h2 => Exists.elim h2 fun u2 h3 => Exists.elim h3 fun u3 h4 => Exists.elim h4 fun u4 h5 => Exists.elim h5 fun u5 h6 => Exists.elim h6 fun u6 h7 => Exists.elim h7 fun u7 h8 => Exists.elim h8 fun u8 h9 => kk u0 u1 u2 u3 u4 u5 u6 u7 u8 h9
theorem zx_10 {α0 α1 α2 α3 α4 α5 α6 α7 α8 α9 : Type} {p : α0 → α1 → α2 → α3 → α4 → α5 → α6 → α7 → α8 → α9 → Prop} {P : Prop} (kk : ∀ (u0 : α0) (u1 : α1) (u2 : α2) (u3 : α3) (u4 : α4) (u5 : α5) (u6 : α6) (u7 : α7) (u8 : α8) (u9 : α9), p u0 u1 u2 u3 u4 u5 u6 u7 u8 u9 → P) (h : ∃ u0 : α0, ∃ u1 : α1, ∃ u2 : α2, ∃ u3 : α3, ∃ u4 : α4, ∃ u5 : α5, ∃ u6 : α6, ∃ u7 : α7, ∃ u8 : α8, ∃ u9 : α9, p u0 u1 u2 u3 u4 u5 u6 u7 u8 u9) : P := Exists.elim h fun u0 h1 => Exists.elim h1 fun u1 h2 => Exists.elim h2 fun u2 h3 => Exists.elim h3 fun u3 h4 => Exists.elim h4 fun u4 h5 => Exists.elim h5 fun u5 h6 => Exists.elim h6 fun u6 h7 => Exists.elim h7 fun u7 h8 => Exists.elim h8 fun u8 h9 => Exists.elim h9 fun u9 h10 => kk u0 u1 u2 u3 u4 u5 u6 u7 u8 u9 h10
theorem zx_11 {α0 α1 α2 α3 α4 α5 α6 α7 α8 α9 α10 : Type} {p : α0 → α1 → α2 → α3 → α4 → α5 → α6 → α7 → α8 → α9 → α10 → Prop} {P : Prop} (kk : ∀ (u0 : α0) (u1 : α1) (u2 : α2) (u3 : α3) (u4 : α4) (u5 : α5) (u6 : α6) (u7 : α7) (u8 : α8) (u9 : α9) (u10 : α10), p u0 u1 u2 u3 u4 u5 u6 u7 u8 u9 u10 → P) (h : ∃ u0 : α0, ∃ u1 : α1, ∃ u2 : α2, ∃ u3 : α3, ∃ u4 : α4, ∃ u5 : α5, ∃ u6 : α6, ∃ u7 : α7, ∃ u8 : α8, ∃ u9 : α9, ∃ u10 : α10, p u0 u1 u2 u3 u4 u5 u6 u7 u8 u9 u10) : P := Exists.elim h fun u0 h1 => Exists.elim h1 fun u1 h2 => Exists.elim h2 fun u2 h3 => Exists.elim h3 fun u3 h4 => Exists.elim h4 fun u4 h5 => Exists.elim h5 fun u5 h6 => Exists.elim h6 fun u6 h7 => Exists.elim h7 fun u7 h8 => Exists.elim h8 fun u8 h9 => Exists.elim h9 fun u9 h10 => Exists.elim h10 fun u10 h11 => kk u0 u1 u2 u3 u4 u5 u6 u7 u8 u9 u10 h11
theorem zx_12 {α0 α1 α2 α3 α4 α5 α6 α7 α8 α9 α10 α11 : Type} {p : α0 → α1 → α2 → α3 → α4 → α5 → α6 → α7 → α8 → α9 → α10 → α11 → Prop} {P : Prop} (kk : ∀ (u0 : α0) (u1 : α1) (u2 : α2) (u3 : α3) (u4 : α4) (u5 : α5) (u6 : α6) (u7 : α7) (u8 : α8) (u9 : α9) (u10 : α10) (u11 : α11), p u0 u1 u2 u3 u4 u5 u6 u7 u8 u9 u10 u11 → P) (h : ∃ u0 : α0, ∃ u1 : α1, ∃ u2 : α2, ∃ u3 : α3, ∃ u4 : α4, ∃ u5 : α5, ∃ u6 : α6, ∃ u7 : α7, ∃ u8 : α8, ∃ u9 : α9, ∃ u10 : α10, ∃ u11 : α11, p u0 u1 u2 u3 u4 u5 u6 u7 u8 u9 u10 u11) : P := Exists.elim h fun u0 h1 => Exists.elim h1 fun u1 h2 => Exists.elim h2 fun u2 h3 => Exists.elim h3 fun u3 h4 => Exists.elim h4 fun u4 h5 => Exists.elim h5 fun u5 h6 => Exists.elim h6 fun u6 h7 => Exists.elim h7 fun u7 h8 => Exists.elim h8 fun u8 h9 => Exists.elim h9 fun u9 h10 => Exists.elim h10 fun u10 h11 => Exists.elim h11 fun u11 h12 => kk u0 u1 u2 u3 u4 u5 u6 u7 u8 u9 u10 u11 h12
theorem zx_13 {α0 α1 α2 α3 α4 α5 α6 α7 α8 α9 α10 α11 α12 : Type} {p : α0 → α1 → α2 → α3 → α4 → α5 → α6 → α7 → α8 → α9 → α10 → α11 → α12 → Prop} {P : Prop} (kk : ∀ (u0 : α0) (u1 : α1) (u2 : α2) (u3 : α3) (u4 : α4) (u5 : α5) (u6 : α6) (u7 : α7) (u8 : α8) (u9 : α9) (u10 : α10) (u11 : α11) (u12 : α12), p u0 u1 u2 u3 u4 u5 u6 u7 u8 u9 u10 u11 u12 → P) (h : ∃ u0 : α0, ∃ u1 : α1, ∃ u2 : α2, ∃ u3 : α3, ∃ u4 : α4, ∃ u5 : α5, ∃ u6 : α6, ∃ u7 : α7, ∃ u8 : α8, ∃ u9 : α9, ∃ u10 : α10, ∃ u11 : α11, ∃ u12 : α12, p u0 u1 u2 u3 u4 u5 u6 u7 u8 u9 u10 u11 u12) : P := Exists.elim h fun u0 h1 => Exists.elim h1 fun u1 h2 => Exists.elim h2 fun u2 h3 => Exists.elim h3 fun u3 h4 => Exists.elim h4 fun u4 h5 => Exists.elim h5 fun u5 h6 => Exists.elim h6 fun u6 h7 => Exists.elim h7 fun u7 h8 => Exists.elim h8 fun u8 h9 => Exists.elim h9 fun u9 h10 => Exists.elim h10 fun u10 h11 => Exists.elim h11 fun u11 h12 => Exists.elim h12 fun u12 h13 => kk u0 u1 u2 u3 u4 u5 u6 u7 u8 u9 u10 u11 u12 h13
theorem zx_27 {α0 α1 α2 α3 α4 α5 α6 α7 α8 α9 α10 α11 α12 α13 α14 α15 α16 α17 α18 α19 α20 α21 α22 α23 α24 α25 α26 : Type} {p : α0 → α1 → α2 → α3 → α4 → α5 → α6 → α7 → α8 → α9 → α10 → α11 → α12 → α13 → α14 → α15 → α16 → α17 → α18 → α19 → α20 → α21 → α22 → α23 → α24 → α25 → α26 → Prop} {P : Prop} (kk : ∀ (u0 : α0) (u1 : α1) (u2 : α2) (u3 : α3) (u4 : α4) (u5 : α5) (u6 : α6) (u7 : α7) (u8 : α8) (u9 : α9) (u10 : α10) (u11 : α11) (u12 : α12) (u13 : α13) (u14 : α14) (u15 : α15) (u16 : α16) (u17 : α17) (u18 : α18) (u19 : α19) (u20 : α20) (u21 : α21) (u22 : α22) (u23 : α23) (u24 : α24) (u25 : α25) (u26 : α26), p u0 u1 u2 u3 u4 u5 u6 u7 u8 u9 u10 u11 u12 u13 u14 u15 u16 u17 u18 u19 u20 u21 u22 u23 u24 u25 u26 → P) (h : ∃ u0 : α0, ∃ u1 : α1, ∃ u2 : α2, ∃ u3 : α3, ∃ u4 : α4, ∃ u5 : α5, ∃ u6 : α6, ∃ u7 : α7, ∃ u8 : α8, ∃ u9 : α9, ∃ u10 : α10, ∃ u11 : α11, ∃ u12 : α12, ∃ u13 : α13, ∃ u14 : α14, ∃ u15 : α15, ∃ u16 : α16, ∃ u17 : α17, ∃ u18 : α18, ∃ u19 : α19, ∃ u20 : α20, ∃ u21 : α21, ∃ u22 : α22, ∃ u23 : α23, ∃ u24 : α24, ∃ u25 : α25, ∃ u26 : α26, p u0 u1 u2 u3 u4 u5 u6 u7 u8 u9 u10 u11 u12 u13 u14 u15 u16 u17 u18 u19 u20 u21 u22 u23 u24 u25 u26) : P := Exists.elim h fun u0 h1 => Exists.elim h1 fun u1 h2 => Exists.elim h2 fun u2 h3 => Exists.elim h3 fun u3 h4 => Exists.elim h4 fun u4 h5 => Exists.elim h5 fun u5 h6 => Exists.elim h6 fun u6 h7 => Exists.elim h7 fun u7 h8 => Exists.elim h8 fun u8 h9 => Exists.elim h9 fun u9 h10 => Exists.elim h10 fun u10 h11 => Exists.elim h11 fun u11 h12 => Exists.elim h12 fun u12 h13 => Exists.elim h13 fun u13 h14 => Exists.elim h14 fun u14 h15 => Exists.elim h15 fun u15 h16 => Exists.elim h16 fun u16 h17 => Exists.elim h17 fun u17 h18 => Exists.elim h18 fun u18 h19 => Exists.elim h19 fun u19 h20 => Exists.elim h20 fun u20 h21 => Exists.elim h21 fun u21 h22 => Exists.elim h22 fun u22 h23 => Exists.elim h23 fun u23 h24 => Exists.elim h24 fun u24 h25 => Exists.elim h25 fun u25 h26 => Exists.elim h26 fun u26 h27 => kk u0 u1 u2 u3 u4 u5 u6 u7 u8 u9 u10 u11 u12 u13 u14 u15 u16 u17 u18 u19 u20 u21 u22 u23 u24 u25 u26 h27
theorem zx_28 {α0 α1 α2 α3 α4 α5 α6 α7 α8 α9 α10 α11 α12 α13 α14 α15 α16 α17 α18 α19 α20 α21 α22 α23 α24 α25 α26 α27 : Type} {p : α0 → α1 → α2 → α3 → α4 → α5 → α6 → α7 → α8 → α9 → α10 → α11 → α12 → α13 → α14 → α15 → α16 → α17 → α18 → α19 → α20 → α21 → α22 → α23 → α24 → α25 → α26 → α27 → Prop} {P : Prop} (kk : ∀ (u0 : α0) (u1 : α1) (u2 : α2) (u3 : α3) (u4 : α4) (u5 : α5) (u6 : α6) (u7 : α7) (u8 : α8) (u9 : α9) (u10 : α10) (u11 : α11) (u12 : α12) (u13 : α13) (u14 : α14) (u15 : α15) (u16 : α16) (u17 : α17) (u18 : α18) (u19 : α19) (u20 : α20) (u21 : α21) (u22 : α22) (u23 : α23) (u24 : α24) (u25 : α25) (u26 : α26) (u27 : α27), p u0 u1 u2 u3 u4 u5 u6 u7 u8 u9 u10 u11 u12 u13 u14 u15 u16 u17 u18 u19 u20 u21 u22 u23 u24 u25 u26 u27 → P) (h : ∃ u0 : α0, ∃ u1 : α1, ∃ u2 : α2, ∃ u3 : α3, ∃ u4 : α4, ∃ u5 : α5, ∃ u6 : α6, ∃ u7 : α7, ∃ u8 : α8, ∃ u9 : α9, ∃ u10 : α10, ∃ u11 : α11, ∃ u12 : α12, ∃ u13 : α13, ∃ u14 : α14, ∃ u15 : α15, ∃ u16 : α16, ∃ u17 : α17, ∃ u18 : α18, ∃ u19 : α19, ∃ u20 : α20, ∃ u21 : α21, ∃ u22 : α22, ∃ u23 : α23, ∃ u24 : α24, ∃ u25 : α25, ∃ u26 : α26, ∃ u27 : α27, p u0 u1 u2 u3 u4 u5 u6 u7 u8 u9 u10 u11 u12 u13 u14 u15 u16 u17 u18 u19 u20 u21 u22 u23 u24 u25 u26 u27) : P := Exists.elim h fun u0 h1 => Exists.elim h1 fun u1 h2 => Exists.elim h2 fun u2 h3 => Exists.elim h3 fun u3 h4 => Exists.elim h4 fun u4 h5 => Exists.elim h5 fun u5 h6 => Exists.elim h6 fun u6 h7 => Exists.elim h7 fun u7 h8 => Exists.elim h8 fun u8 h9 => Exists.elim h9 fun u9 h10 => Exists.elim h10 fun u10 h11 => Exists.elim h11 fun u11 h12 => Exists.elim h12 fun u12 h13 => Exists.elim h13 fun u13 h14 => Exists.elim h14 fun u14 h15 => Exists.elim h15 fun u15 h16 => Exists.elim h16 fun u16 h17 => Exists.elim h17 fun u17 h18 => Exists.elim h18 fun u18 h19 => Exists.elim h19 fun u19 h20 => Exists.elim h20 fun u20 h21 => Exists.elim h21 fun u21 h22 => Exists.elim h22 fun u22 h23 => Exists.elim h23 fun u23 h24 => Exists.elim h24 fun u24 h25 => Exists.elim h25 fun u25 h26 => Exists.elim h26 fun u26 h27 => Exists.elim h27 fun u27 h28 => kk u0 u1 u2 u3 u4 u5 u6 u7 u8 u9 u10 u11 u12 u13 u14 u15 u16 u17 u18 u19 u20 u21 u22 u23 u24 u25 u26 u27 h28
theorem zy_1 {f0 R P : Prop} (kk : f0 → R → P) (h : f0 ∧ R) : P := kk h.1 h.2
theorem zy_2 {f0 f1 R P : Prop} (kk : f0 → f1 → R → P) (h : f0 ∧ f1 ∧ R) : P := kk h.1 h.2.1 h.2.2
theorem zy_3 {f0 f1 f2 R P : Prop} (kk : f0 → f1 → f2 → R → P) (h : f0 ∧ f1 ∧ f2 ∧ R) : P := kk h.1 h.2.1 h.2.2.1 h.2.2.2
theorem zy_4 {f0 f1 f2 f3 R P : Prop} (kk : f0 → f1 → f2 → f3 → R → P) (h : f0 ∧ f1 ∧ f2 ∧ f3 ∧ R) : P := kk h.1 h.2.1 h.2.2.1 h.2.2.2.1 h.2.2.2.2
theorem zy_5 {f0 f1 f2 f3 f4 R P : Prop} (kk : f0 → f1 → f2 → f3 → f4 → R → P) (h : f0 ∧ f1 ∧ f2 ∧ f3 ∧ f4 ∧ R) : P := kk h.1 h.2.1 h.2.2.1 h.2.2.2.1 h.2.2.2.2.1 h.2.2.2.2.2
theorem zy_6 {f0 f1 f2 f3 f4 f5 R P : Prop} (kk : f0 → f1 → f2 → f3 → f4 → f5 → R → P) (h : f0 ∧ f1 ∧ f2 ∧ f3 ∧ f4 ∧ f5 ∧ R) : P := kk h.1 h.2.1 h.2.2.1 h.2.2.2.1 h.2.2.2.2.1 h.2.2.2.2.2.1 h.2.2.2.2.2.2
theorem zy_7 {f0 f1 f2 f3 f4 f5 f6 R P : Prop} (kk : f0 → f1 → f2 → f3 → f4 → f5 → f6 → R → P) (h : f0 ∧ f1 ∧ f2 ∧ f3 ∧ f4 ∧ f5 ∧ f6 ∧ R) : P := kk h.1 h.2.1 h.2.2.1 h.2.2.2.1 h.2.2.2.2.1 h.2.2.2.2.2.1 h.2.2.2.2.2.2.1 h.2.2.2.2.2.2.2
theorem zy_8 {f0 f1 f2 f3 f4 f5 f6 f7 R P : Prop} (kk : f0 → f1 → f2 → f3 → f4 → f5 → f6 → f7 → R → P) (h : f0 ∧ f1 ∧ f2 ∧ f3 ∧ f4 ∧ f5 ∧ f6 ∧ f7 ∧ R) : P := kk h.1 h.2.1 h.2.2.1 h.2.2.2.1 h.2.2.2.2.1 h.2.2.2.2.2.1 h.2.2.2.2.2.2.1 h.2.2.2.2.2.2.2.1 h.2.2.2.2.2.2.2.2
theorem zy_15 {f0 f1 f2 f3 f4 f5 f6 f7 f8 f9 f10 f11 f12 f13 f14 R P : Prop} (kk : f0 → f1 → f2 → f3 → f4 → f5 → f6 → f7 → f8 → f9 → f10 → f11 → f12 → f13 → f14 → R → P) (h : f0 ∧ f1 ∧ f2 ∧ f3 ∧ f4 ∧ f5 ∧ f6 ∧ f7 ∧ f8 ∧ f9 ∧ f10 ∧ f11 ∧ f12 ∧ f13 ∧ f14 ∧ R) : P := kk h.1 h.2.1 h.2.2.1 h.2.2.2.1 h.2.2.2.2.1 h.2.2.2.2.2.1 h.2.2.2.2.2.2.1 h.2.2.2.2.2.2.2.1 h.2.2.2.2.2.2.2.2.1 h.2.2.2.2.2.2.2.2.2.1 h.2.2.2.2.2.2.2.2.2.2.1 h.2.2.2.2.2.2.2.2.2.2.2.1 h.2.2.2.2.2.2.2.2.2.2.2.2.1 h.2.2.2.2.2.2.2.2.2.2.2.2.2.1 h.2.2.2.2.2.2.2.2.2.2.2.2.2.2.1 h.2.2.2.2.2.2.2.2.2.2.2.2.2.2.2
theorem zy_16 {f0 f1 f2 f3 f4 f5 f6 f7 f8 f9 f10 f11 f12 f13 f14 f15 R P : Prop} (kk : f0 → f1 → f2 → f3 → f4 → f5 → f6 → f7 → f8 → f9 → f10 → f11 → f12 → f13 → f14 → f15 → R → P) (h : f0 ∧ f1 ∧ f2 ∧ f3 ∧ f4 ∧ f5 ∧ f6 ∧ f7 ∧ f8 ∧ f9 ∧ f10 ∧ f11 ∧ f12 ∧ f13 ∧ f14 ∧ f15 ∧ R) : P := kk h.1 h.2.1 h.2.2.1 h.2.2.2.1 h.2.2.2.2.1 h.2.2.2.2.2.1 h.2.2.2.2.2.2.1 h.2.2.2.2.2.2.2.1 h.2.2.2.2.2.2.2.2.1 h.2.2.2.2.2.2.2.2.2.1 h.2.2.2.2.2.2.2.2.2.2.1 h.2.2.2.2.2.2.2.2.2.2.2.1 h.2.2.2.2.2.2.2.2.2.2.2.2.1 h.2.2.2.2.2.2.2.2.2.2.2.2.2.1 h.2.2.2.2.2.2.2.2.2.2.2.2.2.2.1 h.2.2.2.2.2.2.2.2.2.2.2.2.2.2.2.1 h.2.2.2.2.2.2.2.2.2.2.2.2.2.2.2.2
theorem zy_19 {f0 f1 f2 f3 f4 f5 f6 f7 f8 f9 f10 f11 f12 f13 f14 f15 f16 f17 f18 R P : Prop} (kk : f0 → f1 → f2 → f3 → f4 → f5 → f6 → f7 → f8 → f9 → f10 → f11 → f12 → f13 → f14 → f15 → f16 → f17 → f18 → R → P) (h : f0 ∧ f1 ∧ f2 ∧ f3 ∧ f4 ∧ f5 ∧ f6 ∧ f7 ∧ f8 ∧ f9 ∧ f10 ∧ f11 ∧ f12 ∧ f13 ∧ f14 ∧ f15 ∧ f16 ∧ f17 ∧ f18 ∧ R) : P := kk h.1 h.2.1 h.2.2.1 h.2.2.2.1 h.2.2.2.2.1 h.2.2.2.2.2.1 h.2.2.2.2.2.2.1 h.2.2.2.2.2.2.2.1 h.2.2.2.2.2.2.2.2.1 h.2.2.2.2.2.2.2.2.2.1 h.2.2.2.2.2.2.2.2.2.2.1 h.2.2.2.2.2.2.2.2.2.2.2.1 h.2.2.2.2.2.2.2.2.2.2.2.2.1 h.2.2.2.2.2.2.2.2.2.2.2.2.2.1 h.2.2.2.2.2.2.2.2.2.2.2.2.2.2.1 h.2.2.2.2.2.2.2.2.2.2.2.2.2.2.2.1 h.2.2.2.2.2.2.2.2.2.2.2.2.2.2.2.2.1 h.2.2.2.2.2.2.2.2.2.2.2.2.2.2.2.2.2.1 h.2.2.2.2.2.2.2.2.2.2.2.2.2.2.2.2.2.2.1 h.2.2.2.2.2.2.2.2.2.2.2.2.2.2.2.2.2.2.2
theorem zs_0 {A0 : Nat → Prop} {D : va_G} {cl : List vw_C} {x y : Nat × va_E} {z : Nat × va_E} {ws : va_W} {H : Heap} {P : Prop} (hP : va_P D cl (List.set (z :: ws) 0 x) H) (hD : va_D A0 (List.set (z :: ws) 0 x)) (h : x = y) (kk : va_P D cl (y :: ws) H → va_D A0 (y :: ws) → P) : P := by
  subst h; exact kk hP hD
theorem zs_1 {A0 : Nat → Prop} {D : va_G} {cl : List vw_C} {x0 x y : Nat × va_E} {z : Nat × va_E} {ws : va_W} {H : Heap} {P : Prop} (hP : va_P D cl (List.set (x0 :: z :: ws) 1 x) H) (hD : va_D A0 (List.set (x0 :: z :: ws) 1 x)) (h : x = y) (kk : va_P D cl (x0 :: y :: ws) H → va_D A0 (x0 :: y :: ws) → P) : P := by
  subst h; exact kk hP hD
theorem zs_2 {A0 : Nat → Prop} {D : va_G} {cl : List vw_C} {x0 x1 x y : Nat × va_E} {z : Nat × va_E} {ws : va_W} {H : Heap} {P : Prop} (hP : va_P D cl (List.set (x0 :: x1 :: z :: ws) 2 x) H) (hD : va_D A0 (List.set (x0 :: x1 :: z :: ws) 2 x)) (h : x = y) (kk : va_P D cl (x0 :: x1 :: y :: ws) H → va_D A0 (x0 :: x1 :: y :: ws) → P) : P := by
  subst h; exact kk hP hD
theorem zs_3 {A0 : Nat → Prop} {D : va_G} {cl : List vw_C} {x0 x1 x2 x y : Nat × va_E} {z : Nat × va_E} {ws : va_W} {H : Heap} {P : Prop} (hP : va_P D cl (List.set (x0 :: x1 :: x2 :: z :: ws) 3 x) H) (hD : va_D A0 (List.set (x0 :: x1 :: x2 :: z :: ws) 3 x)) (h : x = y) (kk : va_P D cl (x0 :: x1 :: x2 :: y :: ws) H → va_D A0 (x0 :: x1 :: x2 :: y :: ws) → P) : P := by
  subst h; exact kk hP hD
theorem zs_5 {A0 : Nat → Prop} {D : va_G} {cl : List vw_C} {x0 x1 x2 x3 x4 x y : Nat × va_E} {z : Nat × va_E} {ws : va_W} {H : Heap} {P : Prop} (hP : va_P D cl (List.set (x0 :: x1 :: x2 :: x3 :: x4 :: z :: ws) 5 x) H) (hD : va_D A0 (List.set (x0 :: x1 :: x2 :: x3 :: x4 :: z :: ws) 5 x)) (h : x = y) (kk : va_P D cl (x0 :: x1 :: x2 :: x3 :: x4 :: y :: ws) H → va_D A0 (x0 :: x1 :: x2 :: x3 :: x4 :: y :: ws) → P) : P := by
  subst h; exact kk hP hD
theorem zs_6 {A0 : Nat → Prop} {D : va_G} {cl : List vw_C} {x0 x1 x2 x3 x4 x5 x y : Nat × va_E} {z : Nat × va_E} {ws : va_W} {H : Heap} {P : Prop} (hP : va_P D cl (List.set (x0 :: x1 :: x2 :: x3 :: x4 :: x5 :: z :: ws) 6 x) H) (hD : va_D A0 (List.set (x0 :: x1 :: x2 :: x3 :: x4 :: x5 :: z :: ws) 6 x)) (h : x = y) (kk : va_P D cl (x0 :: x1 :: x2 :: x3 :: x4 :: x5 :: y :: ws) H → va_D A0 (x0 :: x1 :: x2 :: x3 :: x4 :: x5 :: y :: ws) → P) : P := by
  subst h; exact kk hP hD
theorem zs_7 {A0 : Nat → Prop} {D : va_G} {cl : List vw_C} {x0 x1 x2 x3 x4 x5 x6 x y : Nat × va_E} {z : Nat × va_E} {ws : va_W} {H : Heap} {P : Prop} (hP : va_P D cl (List.set (x0 :: x1 :: x2 :: x3 :: x4 :: x5 :: x6 :: z :: ws) 7 x) H) (hD : va_D A0 (List.set (x0 :: x1 :: x2 :: x3 :: x4 :: x5 :: x6 :: z :: ws) 7 x)) (h : x = y) (kk : va_P D cl (x0 :: x1 :: x2 :: x3 :: x4 :: x5 :: x6 :: y :: ws) H → va_D A0 (x0 :: x1 :: x2 :: x3 :: x4 :: x5 :: x6 :: y :: ws) → P) : P := by
  subst h; exact kk hP hD
theorem zs_8 {A0 : Nat → Prop} {D : va_G} {cl : List vw_C} {x0 x1 x2 x3 x4 x5 x6 x7 x y : Nat × va_E} {z : Nat × va_E} {ws : va_W} {H : Heap} {P : Prop} (hP : va_P D cl (List.set (x0 :: x1 :: x2 :: x3 :: x4 :: x5 :: x6 :: x7 :: z :: ws) 8 x) H) (hD : va_D A0 (List.set (x0 :: x1 :: x2 :: x3 :: x4 :: x5 :: x6 :: x7 :: z :: ws) 8 x)) (h : x = y) (kk : va_P D cl (x0 :: x1 :: x2 :: x3 :: x4 :: x5 :: x6 :: x7 :: y :: ws) H → va_D A0 (x0 :: x1 :: x2 :: x3 :: x4 :: x5 :: x6 :: x7 :: y :: ws) → P) : P := by
  subst h; exact kk hP hD
end ZP
section ZM
/-- a contract over a world: the world stands there once -/
def zm (l : Launch) (y : MethodName) (wsY : List Cond) (rm : Room) (av : List Value) (dC : Nat → ClassId) (dI : Nat → Nat → Nat) (sz : Nat) (ws : va_W) (tys : List (ClassId × FieldType)) (E : (Nat → Prop) → State → Prop) (Q : (Nat → Prop) → Array Value → State → Outcome → State → Prop) : Prop := Met l y wsY rm (va_Pc av (ax_C dC dI sz ws tys (E (va_A ws sz)))) (Q (va_A ws sz)) 0 0 (va_A ws sz)
theorem zh {l : Launch} {y : MethodName} {wsY ws' : List Cond} {rm : Room} {cc : ByteArray} {maxL : Nat} {ret : Option FieldType} {av : List Value} {dC : Nat → ClassId} {dI : Nat → Nat → Nat} {sz : Nat} {ws : va_W} {tys : List (ClassId × FieldType)} {E : (Nat → Prop) → State → Prop} {Q : (Nat → Prop) → Array Value → State → Outcome → State → Prop}
    (hy : plainName y.cls = true) (hw : wsY = Cond.code y cc maxL ret :: ws') (hn : (lg_sl av).length ≤ maxL)
    (k : ∀ (p : Program) (e : Env) (s : State) (m : MethodId) (below : List Frame) (meth : Method) (c : Code) (A : Nat → Prop) (ls : Array Slot), p.tables.exec = Jvm.exec → c.code = cc → c.maxLocals = maxL → meth.sig.returnType = ret → (∀ w ∈ wsY, w.before av.toArray s = true) → s.vm.findClass y.cls = some m.cls → meth.locks = false → (∀ q, s.heap.size ≤ q → A q) → va_S A s.heap s.heap [] → va_P (dC, dI) vwCl ws s.heap → va_K (dC, dI) vwCl tys s → va_D A ws → E A s → lv_has ls maxL (lv_args 0 av) → W p l e (headSpec wsY rm).room s m av.toArray below meth c s.heap [] 0 0 (MQ below (Q A) av.toArray s 0 0 A) (F0 m 0 ls [])) : zm l y wsY rm av dC dI sz ws tys E Q := by
  refine Met.ofW (cc := cc) (maxL := maxL) (ret := ret) hy hw ?_
  intro p e s m args below meth c s₁ B hml hv
  obtain ⟨rfl, hsz, hP, hK, hD0, hE⟩ := hv
  subst hsz
  have hl := lv_entry av hn
  rw [lg_entry_eq]
  exact k p e s m below meth c (va_A ws s.heap.size) _ B.exec B.bytes hml B.returns (atoms_spec (ws := wsY) B.pre) (findClass_of_methodNamed B.named) B.notSynchronized (fun q h => Or.inr h) va_S.rf hP hK (hD0.self (sz := s.heap.size)) hE hl
end ZM
theorem zn_RJ3 : plainName RJ3 = true := by decide
theorem zn_RJ6 : plainName RJ6 = true := by decide
theorem zn_RX0 : plainName RX0 = true := by decide
theorem zn_RX1 : plainName RX1 = true := by decide
theorem zn_RX2 : plainName RX2 = true := by decide
theorem zn_RX3 : plainName RX3 = true := by decide
theorem zn_RX4 : plainName RX4 = true := by decide
theorem zn_RX5 : plainName RX5 = true := by decide
theorem zn_RX6 : plainName RX6 = true := by decide
theorem zn_RX7 : plainName RX7 = true := by decide
theorem zn_RX8 : plainName RX8 = true := by decide
section ZG
theorem zg_0 {B C j : Int} {P : Prop} (hm : B - j ≤ ((0 : Nat) : Int)) (hu : j ≤ C) (h : C < B) : P := absurd hm (by omega)
theorem zg_s {B j x : Int} {n : Nat} (hm : B - j ≤ ((n + 1 : Nat) : Int)) (q : x = j + 1) : B - x ≤ (n : Int) := by omega
theorem zg_l {a c k x : Int} (h : a ≤ x) (g : x ≠ c) (e : c = a) (e2 : k = a + 1) : k ≤ x := by omega
theorem zg_u {a c k x : Int} (h : x ≤ a) (g : x ≠ c) (e : c = a) (e2 : k = a - 1) : x ≤ k := by omega
end ZG
end P081_zp
section P0920_ux
def ux {α : Type} (f : Nat → α) (l : List (Nat × α)) : Nat → α := fun i => (l.lookup i).getD (f i)
def sxc_by : List (List Int32) := [[103, 97, 108, 108, 101, 114, 121], [108, 97, 119], [102, 105, 103, 117, 114, 101], [119, 97, 116, 99, 104, 101, 114], [115, 101, 101, 110], [102, 105, 103, 117, 114, 101, 115], [115, 112, 97, 110], [115, 116, 97, 105, 114, 115], [115, 104, 117, 116], [116, 105, 109, 101, 115], [112, 108, 117, 115], [102, 105, 114, 115, 116], [105, 115], [119, 97, 108, 107, 115], [115, 112, 101, 97, 107, 115], [102, 114, 111, 109], [116, 111], [97, 116], [103, 97, 108, 108, 101, 114, 121], [108, 97, 119], [102, 105, 103, 117, 114, 101], [119, 97, 116, 99, 104, 101, 114], [115, 101, 101, 110], [102, 105, 103, 117, 114, 101, 115], [115, 112, 97, 110], [115, 116, 97, 105, 114, 115], [115, 104, 117, 116], [116, 105, 109, 101, 115], [112, 108, 117, 115], [102, 105, 114, 115, 116], [105, 115], [119, 97, 108, 107, 115], [115, 112, 101, 97, 107, 115], [102, 114, 111, 109], [116, 111], [97, 116]]
def sxc (i : Nat) : Nat → Int32 := fun j => (sxc_by.getD i []).getD j 0
end P0920_ux
section P09221_fl
section FL
def fl_A (f : Nat → Int32) : Nat → Int := fun k => (f k).toInt
def fl_L (f : Nat → Int64) : Nat → Int := fun k => (f k).toInt
def fl_up (f : Nat → Int) (i : Nat) (v : Int) : Nat → Int := fun k => if k = i then v else f k
theorem fl_up_eq {f g : Nat → Int32} {i x : Int32} (e : g = upd f i.toNatClampNeg x) : fl_A g = fl_up (fl_A f) i.toInt.toNat x.toInt := by
  subst e; funext k; unfold fl_A fl_up upd
  by_cases h : k = i.toNatClampNeg
  · have h2 : k = i.toInt.toNat := h
    rw [if_pos h, if_pos h2]
  · have h2 : ¬ k = i.toInt.toNat := h
    rw [if_neg h, if_neg h2]
theorem fl_upL_eq {f g : Nat → Int64} {i : Int32} {x : Int64} (e : g = vp_updL f i.toNatClampNeg x) : fl_L g = fl_up (fl_L f) i.toInt.toNat x.toInt := by
  subst e; funext k; unfold fl_L fl_up vp_updL
  by_cases h : k = i.toNatClampNeg
  · have h2 : k = i.toInt.toNat := h
    rw [if_pos h, if_pos h2]
  · have h2 : ¬ k = i.toInt.toNat := h
    rw [if_neg h, if_neg h2]
def fl_nar (x : Int) : Int := (vp_nar .byte (Int32.ofInt x)).toInt
def fl_upB (f : Nat → Int) (i : Nat) (v : Int) : Nat → Int := fl_up f i (fl_nar v)
theorem fl_upB_eq {f g : Nat → Int32} {i x : Int32} (e : g = upd f i.toNatClampNeg (vp_nar .byte x)) : fl_A g = fl_upB (fl_A f) i.toInt.toNat x.toInt := by
  have h := fl_up_eq e
  unfold fl_upB fl_nar
  rw [Int32.ofInt_toInt]; exact h
def fl_lt {α β : Type} (e : α) (f : α → β) : β := f e
theorem fl_lt_eq {α β : Type} {e x : α} {f : α → β} (h : x = e) : fl_lt e f = f x := by subst h; rfl
def fl_wh {S R : Type} (step : S → Sum S R) (d : R) : Nat → S → R
  | 0, _ => d
  | n + 1, s => match step s with
    | .inl s' => fl_wh step d n s'
    | .inr r => r
theorem fl_wh_l {S R : Type} {step : S → Sum S R} {d : R} {n : Nat} {s s' : S} (h : step s = .inl s') : fl_wh step d (n + 1) s = fl_wh step d n s' := by
  show (match step s with | .inl s' => fl_wh step d n s' | .inr r => r) = _
  rw [h]
theorem fl_wh_r {S R : Type} {step : S → Sum S R} {d : R} {n : Nat} {s : S} {r : R} (h : step s = .inr r) : fl_wh step d (n + 1) s = r := by
  show (match step s with | .inl s' => fl_wh step d n s' | .inr r => r) = _
  rw [h]
def fl_iadd (x y : Int) : Int := (Int32.ofInt x + Int32.ofInt y).toInt
theorem fl_iadd_eq {x y z : Int32} (e : z = x + y) : z.toInt = fl_iadd x.toInt y.toInt := by subst e; unfold fl_iadd; rw [Int32.ofInt_toInt, Int32.ofInt_toInt]
def fl_isub (x y : Int) : Int := (Int32.ofInt x - Int32.ofInt y).toInt
theorem fl_isub_eq {x y z : Int32} (e : z = x - y) : z.toInt = fl_isub x.toInt y.toInt := by subst e; unfold fl_isub; rw [Int32.ofInt_toInt, Int32.ofInt_toInt]
def fl_imul (x y : Int) : Int := (Int32.ofInt x * Int32.ofInt y).toInt
theorem fl_imul_eq {x y z : Int32} (e : z = x * y) : z.toInt = fl_imul x.toInt y.toInt := by subst e; unfold fl_imul; rw [Int32.ofInt_toInt, Int32.ofInt_toInt]
def fl_and (x y : Int) : Int := (Int32.ofInt x &&& Int32.ofInt y).toInt
theorem fl_and_eq {x y z : Int32} (e : z = x &&& y) : z.toInt = fl_and x.toInt y.toInt := by subst e; unfold fl_and; rw [Int32.ofInt_toInt, Int32.ofInt_toInt]
def fl_or (x y : Int) : Int := (Int32.ofInt x ||| Int32.ofInt y).toInt
theorem fl_or_eq {x y z : Int32} (e : z = x ||| y) : z.toInt = fl_or x.toInt y.toInt := by subst e; unfold fl_or; rw [Int32.ofInt_toInt, Int32.ofInt_toInt]
def fl_xor (x y : Int) : Int := (Int32.ofInt x ^^^ Int32.ofInt y).toInt
theorem fl_xor_eq {x y z : Int32} (e : z = x ^^^ y) : z.toInt = fl_xor x.toInt y.toInt := by subst e; unfold fl_xor; rw [Int32.ofInt_toInt, Int32.ofInt_toInt]
def fl_shl (x y : Int) : Int := (Int32.ofInt x <<< (Int32.ofInt y &&& 31)).toInt
theorem fl_shl_eq {x y z : Int32} (e : z = x <<< (y &&& 31)) : z.toInt = fl_shl x.toInt y.toInt := by subst e; unfold fl_shl; rw [Int32.ofInt_toInt, Int32.ofInt_toInt]
def fl_shr (x y : Int) : Int := (Int32.ofInt x >>> (Int32.ofInt y &&& 31)).toInt
theorem fl_shr_eq {x y z : Int32} (e : z = x >>> (y &&& 31)) : z.toInt = fl_shr x.toInt y.toInt := by subst e; unfold fl_shr; rw [Int32.ofInt_toInt, Int32.ofInt_toInt]
def fl_i2b (x : Int) : Int := ((Int32.ofInt x).toInt8.toInt32).toInt
theorem fl_i2b_eq {x z : Int32} (e : z = x.toInt8.toInt32) : z.toInt = fl_i2b x.toInt := by subst e; unfold fl_i2b; rw [Int32.ofInt_toInt]
theorem fl_i2l_eq {x : Int32} {z : Int64} (e : z = x.toInt64) : z.toInt = x.toInt := by subst e; exact Int32.toInt_toInt64 x
def fl_cmp (x y : Int) : Int := if y < x then 1 else if x = y then 0 else -1
theorem fl_cmp_eq {x y : Int64} {z : Int32} (e : z = lg_cmp x y) : z.toInt = fl_cmp x.toInt y.toInt := by
  subst e; unfold lg_cmp fl_cmp
  by_cases h : y < x
  · rw [if_pos h, if_pos (Int64.lt_iff_toInt_lt.mp h)]; rfl
  · rw [if_neg h, if_neg (fun q => h (Int64.lt_iff_toInt_lt.mpr q))]
    by_cases h2 : x = y
    · rw [if_pos h2, if_pos (congrArg Int64.toInt h2)]; rfl
    · rw [if_neg h2, if_neg (fun q => h2 (Int64.toInt_inj.mp q))]; rfl
def fl_lor (x y : Int) : Int := (Int64.ofInt x ||| Int64.ofInt y).toInt
theorem fl_lor_eq {x y z : Int64} (e : z = x ||| y) : z.toInt = fl_lor x.toInt y.toInt := by subst e; unfold fl_lor; rw [Int64.ofInt_toInt, Int64.ofInt_toInt]
def fl_lshl (x y : Int) : Int := (Int64.ofInt x <<< ((Int32.ofInt y).toInt64 &&& 63)).toInt
theorem fl_lshl_eq {x z : Int64} {y : Int32} (e : z = x <<< (y.toInt64 &&& 63)) : z.toInt = fl_lshl x.toInt y.toInt := by subst e; unfold fl_lshl; rw [Int64.ofInt_toInt, Int32.ofInt_toInt]
def fl_min (x y : Int) : Int := if y < x then y else x
theorem fl_min_eq {x y z : Int32} (e : z = if y < x then y else x) : z.toInt = fl_min x.toInt y.toInt := by
  unfold fl_min
  by_cases h : y < x
  · rw [if_pos h] at e; rw [if_pos (ai_lt h), e]
  · rw [if_neg h] at e; rw [if_neg (fun q => h (Int32.lt_iff_toInt_lt.mpr q)), e]
def fl_ushr (x y : Int) : Int := ((Int32.ofInt x).toUInt32 >>> ((Int32.ofInt y).toUInt32 &&& Int32.toUInt32 31)).toInt32.toInt
theorem fl_ushr_eq {x y z : Int32} (e : z = (x.toUInt32 >>> (y.toUInt32 &&& Int32.toUInt32 31)).toInt32) : z.toInt = fl_ushr x.toInt y.toInt := by subst e; unfold fl_ushr; rw [Int32.ofInt_toInt, Int32.ofInt_toInt]
theorem fl_cpy {f g h : Nat → Int32} {sp dp n : Nat} (e : h = va_cpy f g sp dp n) : fl_A h = va_cpy (fl_A f) (fl_A g) sp dp n := by
  subst e; funext k; unfold fl_A va_cpy; split <;> rfl
def fl_c2 {A0 A1 R : Type} (t : A0 × A1) (f : A0 → A1 → R) : R := f t.1 t.2
theorem fl_c2_eq {A0 A1 R : Type} {t : A0 × A1} {f : A0 → A1 → R} {a0 : A0} {a1 : A1} (h : t = (a0, a1)) : fl_c2 t f = f a0 a1 := by subst h; rfl
def fl_c3 {A0 A1 A2 R : Type} (t : A0 × A1 × A2) (f : A0 → A1 → A2 → R) : R := f t.1 t.2.1 t.2.2
theorem fl_c3_eq {A0 A1 A2 R : Type} {t : A0 × A1 × A2} {f : A0 → A1 → A2 → R} {a0 : A0} {a1 : A1} {a2 : A2} (h : t = (a0, a1, a2)) : fl_c3 t f = f a0 a1 a2 := by subst h; rfl
def fl_c4 {A0 A1 A2 A3 R : Type} (t : A0 × A1 × A2 × A3) (f : A0 → A1 → A2 → A3 → R) : R := f t.1 t.2.1 t.2.2.1 t.2.2.2
theorem fl_c4_eq {A0 A1 A2 A3 R : Type} {t : A0 × A1 × A2 × A3} {f : A0 → A1 → A2 → A3 → R} {a0 : A0} {a1 : A1} {a2 : A2} {a3 : A3} (h : t = (a0, a1, a2, a3)) : fl_c4 t f = f a0 a1 a2 a3 := by subst h; rfl
def fl_c5 {A0 A1 A2 A3 A4 R : Type} (t : A0 × A1 × A2 × A3 × A4) (f : A0 → A1 → A2 → A3 → A4 → R) : R := f t.1 t.2.1 t.2.2.1 t.2.2.2.1 t.2.2.2.2
theorem fl_c5_eq {A0 A1 A2 A3 A4 R : Type} {t : A0 × A1 × A2 × A3 × A4} {f : A0 → A1 → A2 → A3 → A4 → R} {a0 : A0} {a1 : A1} {a2 : A2} {a3 : A3} {a4 : A4} (h : t = (a0, a1, a2, a3, a4)) : fl_c5 t f = f a0 a1 a2 a3 a4 := by subst h; rfl
def fl_c6 {A0 A1 A2 A3 A4 A5 R : Type} (t : A0 × A1 × A2 × A3 × A4 × A5) (f : A0 → A1 → A2 → A3 → A4 → A5 → R) : R := f t.1 t.2.1 t.2.2.1 t.2.2.2.1 t.2.2.2.2.1 t.2.2.2.2.2
theorem fl_c6_eq {A0 A1 A2 A3 A4 A5 R : Type} {t : A0 × A1 × A2 × A3 × A4 × A5} {f : A0 → A1 → A2 → A3 → A4 → A5 → R} {a0 : A0} {a1 : A1} {a2 : A2} {a3 : A3} {a4 : A4} {a5 : A5} (h : t = (a0, a1, a2, a3, a4, a5)) : fl_c6 t f = f a0 a1 a2 a3 a4 a5 := by subst h; rfl
def fl_c7 {A0 A1 A2 A3 A4 A5 A6 R : Type} (t : A0 × A1 × A2 × A3 × A4 × A5 × A6) (f : A0 → A1 → A2 → A3 → A4 → A5 → A6 → R) : R := f t.1 t.2.1 t.2.2.1 t.2.2.2.1 t.2.2.2.2.1 t.2.2.2.2.2.1 t.2.2.2.2.2.2
theorem fl_c7_eq {A0 A1 A2 A3 A4 A5 A6 R : Type} {t : A0 × A1 × A2 × A3 × A4 × A5 × A6} {f : A0 → A1 → A2 → A3 → A4 → A5 → A6 → R} {a0 : A0} {a1 : A1} {a2 : A2} {a3 : A3} {a4 : A4} {a5 : A5} {a6 : A6} (h : t = (a0, a1, a2, a3, a4, a5, a6)) : fl_c7 t f = f a0 a1 a2 a3 a4 a5 a6 := by subst h; rfl
def fl_c8 {A0 A1 A2 A3 A4 A5 A6 A7 R : Type} (t : A0 × A1 × A2 × A3 × A4 × A5 × A6 × A7) (f : A0 → A1 → A2 → A3 → A4 → A5 → A6 → A7 → R) : R := f t.1 t.2.1 t.2.2.1 t.2.2.2.1 t.2.2.2.2.1 t.2.2.2.2.2.1 t.2.2.2.2.2.2.1 t.2.2.2.2.2.2.2
theorem fl_c8_eq {A0 A1 A2 A3 A4 A5 A6 A7 R : Type} {t : A0 × A1 × A2 × A3 × A4 × A5 × A6 × A7} {f : A0 → A1 → A2 → A3 → A4 → A5 → A6 → A7 → R} {a0 : A0} {a1 : A1} {a2 : A2} {a3 : A3} {a4 : A4} {a5 : A5} {a6 : A6} {a7 : A7} (h : t = (a0, a1, a2, a3, a4, a5, a6, a7)) : fl_c8 t f = f a0 a1 a2 a3 a4 a5 a6 a7 := by subst h; rfl
def fl_c9 {A0 A1 A2 A3 A4 A5 A6 A7 A8 R : Type} (t : A0 × A1 × A2 × A3 × A4 × A5 × A6 × A7 × A8) (f : A0 → A1 → A2 → A3 → A4 → A5 → A6 → A7 → A8 → R) : R := f t.1 t.2.1 t.2.2.1 t.2.2.2.1 t.2.2.2.2.1 t.2.2.2.2.2.1 t.2.2.2.2.2.2.1 t.2.2.2.2.2.2.2.1 t.2.2.2.2.2.2.2.2
theorem fl_c9_eq {A0 A1 A2 A3 A4 A5 A6 A7 A8 R : Type} {t : A0 × A1 × A2 × A3 × A4 × A5 × A6 × A7 × A8} {f : A0 → A1 → A2 → A3 → A4 → A5 → A6 → A7 → A8 → R} {a0 : A0} {a1 : A1} {a2 : A2} {a3 : A3} {a4 : A4} {a5 : A5} {a6 : A6} {a7 : A7} {a8 : A8} (h : t = (a0, a1, a2, a3, a4, a5, a6, a7, a8)) : fl_c9 t f = f a0 a1 a2 a3 a4 a5 a6 a7 a8 := by subst h; rfl
def fl_c10 {A0 A1 A2 A3 A4 A5 A6 A7 A8 A9 R : Type} (t : A0 × A1 × A2 × A3 × A4 × A5 × A6 × A7 × A8 × A9) (f : A0 → A1 → A2 → A3 → A4 → A5 → A6 → A7 → A8 → A9 → R) : R := f t.1 t.2.1 t.2.2.1 t.2.2.2.1 t.2.2.2.2.1 t.2.2.2.2.2.1 t.2.2.2.2.2.2.1 t.2.2.2.2.2.2.2.1 t.2.2.2.2.2.2.2.2.1 t.2.2.2.2.2.2.2.2.2
theorem fl_c10_eq {A0 A1 A2 A3 A4 A5 A6 A7 A8 A9 R : Type} {t : A0 × A1 × A2 × A3 × A4 × A5 × A6 × A7 × A8 × A9} {f : A0 → A1 → A2 → A3 → A4 → A5 → A6 → A7 → A8 → A9 → R} {a0 : A0} {a1 : A1} {a2 : A2} {a3 : A3} {a4 : A4} {a5 : A5} {a6 : A6} {a7 : A7} {a8 : A8} {a9 : A9} (h : t = (a0, a1, a2, a3, a4, a5, a6, a7, a8, a9)) : fl_c10 t f = f a0 a1 a2 a3 a4 a5 a6 a7 a8 a9 := by subst h; rfl
def fl_c12 {A0 A1 A2 A3 A4 A5 A6 A7 A8 A9 A10 A11 R : Type} (t : A0 × A1 × A2 × A3 × A4 × A5 × A6 × A7 × A8 × A9 × A10 × A11) (f : A0 → A1 → A2 → A3 → A4 → A5 → A6 → A7 → A8 → A9 → A10 → A11 → R) : R := f t.1 t.2.1 t.2.2.1 t.2.2.2.1 t.2.2.2.2.1 t.2.2.2.2.2.1 t.2.2.2.2.2.2.1 t.2.2.2.2.2.2.2.1 t.2.2.2.2.2.2.2.2.1 t.2.2.2.2.2.2.2.2.2.1 t.2.2.2.2.2.2.2.2.2.2.1 t.2.2.2.2.2.2.2.2.2.2.2
theorem fl_c12_eq {A0 A1 A2 A3 A4 A5 A6 A7 A8 A9 A10 A11 R : Type} {t : A0 × A1 × A2 × A3 × A4 × A5 × A6 × A7 × A8 × A9 × A10 × A11} {f : A0 → A1 → A2 → A3 → A4 → A5 → A6 → A7 → A8 → A9 → A10 → A11 → R} {a0 : A0} {a1 : A1} {a2 : A2} {a3 : A3} {a4 : A4} {a5 : A5} {a6 : A6} {a7 : A7} {a8 : A8} {a9 : A9} {a10 : A10} {a11 : A11} (h : t = (a0, a1, a2, a3, a4, a5, a6, a7, a8, a9, a10, a11)) : fl_c12 t f = f a0 a1 a2 a3 a4 a5 a6 a7 a8 a9 a10 a11 := by subst h; rfl
def fl_c13 {A0 A1 A2 A3 A4 A5 A6 A7 A8 A9 A10 A11 A12 R : Type} (t : A0 × A1 × A2 × A3 × A4 × A5 × A6 × A7 × A8 × A9 × A10 × A11 × A12) (f : A0 → A1 → A2 → A3 → A4 → A5 → A6 → A7 → A8 → A9 → A10 → A11 → A12 → R) : R := f t.1 t.2.1 t.2.2.1 t.2.2.2.1 t.2.2.2.2.1 t.2.2.2.2.2.1 t.2.2.2.2.2.2.1 t.2.2.2.2.2.2.2.1 t.2.2.2.2.2.2.2.2.1 t.2.2.2.2.2.2.2.2.2.1 t.2.2.2.2.2.2.2.2.2.2.1 t.2.2.2.2.2.2.2.2.2.2.2.1 t.2.2.2.2.2.2.2.2.2.2.2.2
theorem fl_c13_eq {A0 A1 A2 A3 A4 A5 A6 A7 A8 A9 A10 A11 A12 R : Type} {t : A0 × A1 × A2 × A3 × A4 × A5 × A6 × A7 × A8 × A9 × A10 × A11 × A12} {f : A0 → A1 → A2 → A3 → A4 → A5 → A6 → A7 → A8 → A9 → A10 → A11 → A12 → R} {a0 : A0} {a1 : A1} {a2 : A2} {a3 : A3} {a4 : A4} {a5 : A5} {a6 : A6} {a7 : A7} {a8 : A8} {a9 : A9} {a10 : A10} {a11 : A11} {a12 : A12} (h : t = (a0, a1, a2, a3, a4, a5, a6, a7, a8, a9, a10, a11, a12)) : fl_c13 t f = f a0 a1 a2 a3 a4 a5 a6 a7 a8 a9 a10 a11 a12 := by subst h; rfl
def fl_c14 {A0 A1 A2 A3 A4 A5 A6 A7 A8 A9 A10 A11 A12 A13 R : Type} (t : A0 × A1 × A2 × A3 × A4 × A5 × A6 × A7 × A8 × A9 × A10 × A11 × A12 × A13) (f : A0 → A1 → A2 → A3 → A4 → A5 → A6 → A7 → A8 → A9 → A10 → A11 → A12 → A13 → R) : R := f t.1 t.2.1 t.2.2.1 t.2.2.2.1 t.2.2.2.2.1 t.2.2.2.2.2.1 t.2.2.2.2.2.2.1 t.2.2.2.2.2.2.2.1 t.2.2.2.2.2.2.2.2.1 t.2.2.2.2.2.2.2.2.2.1 t.2.2.2.2.2.2.2.2.2.2.1 t.2.2.2.2.2.2.2.2.2.2.2.1 t.2.2.2.2.2.2.2.2.2.2.2.2.1 t.2.2.2.2.2.2.2.2.2.2.2.2.2
theorem fl_c14_eq {A0 A1 A2 A3 A4 A5 A6 A7 A8 A9 A10 A11 A12 A13 R : Type} {t : A0 × A1 × A2 × A3 × A4 × A5 × A6 × A7 × A8 × A9 × A10 × A11 × A12 × A13} {f : A0 → A1 → A2 → A3 → A4 → A5 → A6 → A7 → A8 → A9 → A10 → A11 → A12 → A13 → R} {a0 : A0} {a1 : A1} {a2 : A2} {a3 : A3} {a4 : A4} {a5 : A5} {a6 : A6} {a7 : A7} {a8 : A8} {a9 : A9} {a10 : A10} {a11 : A11} {a12 : A12} {a13 : A13} (h : t = (a0, a1, a2, a3, a4, a5, a6, a7, a8, a9, a10, a11, a12, a13)) : fl_c14 t f = f a0 a1 a2 a3 a4 a5 a6 a7 a8 a9 a10 a11 a12 a13 := by subst h; rfl
def fl_c28 {A0 A1 A2 A3 A4 A5 A6 A7 A8 A9 A10 A11 A12 A13 A14 A15 A16 A17 A18 A19 A20 A21 A22 A23 A24 A25 A26 A27 R : Type} (t : A0 × A1 × A2 × A3 × A4 × A5 × A6 × A7 × A8 × A9 × A10 × A11 × A12 × A13 × A14 × A15 × A16 × A17 × A18 × A19 × A20 × A21 × A22 × A23 × A24 × A25 × A26 × A27) (f : A0 → A1 → A2 → A3 → A4 → A5 → A6 → A7 → A8 → A9 → A10 → A11 → A12 → A13 → A14 → A15 → A16 → A17 → A18 → A19 → A20 → A21 → A22 → A23 → A24 → A25 → A26 → A27 → R) : R := f t.1 t.2.1 t.2.2.1 t.2.2.2.1 t.2.2.2.2.1 t.2.2.2.2.2.1 t.2.2.2.2.2.2.1 t.2.2.2.2.2.2.2.1 t.2.2.2.2.2.2.2.2.1 t.2.2.2.2.2.2.2.2.2.1 t.2.2.2.2.2.2.2.2.2.2.1 t.2.2.2.2.2.2.2.2.2.2.2.1 t.2.2.2.2.2.2.2.2.2.2.2.2.1 t.2.2.2.2.2.2.2.2.2.2.2.2.2.1 t.2.2.2.2.2.2.2.2.2.2.2.2.2.2.1 t.2.2.2.2.2.2.2.2.2.2.2.2.2.2.2.1 t.2.2.2.2.2.2.2.2.2.2.2.2.2.2.2.2.1 t.2.2.2.2.2.2.2.2.2.2.2.2.2.2.2.2.2.1 t.2.2.2.2.2.2.2.2.2.2.2.2.2.2.2.2.2.2.1 t.2.2.2.2.2.2.2.2.2.2.2.2.2.2.2.2.2.2.2.1 t.2.2.2.2.2.2.2.2.2.2.2.2.2.2.2.2.2.2.2.2.1 t.2.2.2.2.2.2.2.2.2.2.2.2.2.2.2.2.2.2.2.2.2.1 t.2.2.2.2.2.2.2.2.2.2.2.2.2.2.2.2.2.2.2.2.2.2.1 t.2.2.2.2.2.2.2.2.2.2.2.2.2.2.2.2.2.2.2.2.2.2.2.1 t.2.2.2.2.2.2.2.2.2.2.2.2.2.2.2.2.2.2.2.2.2.2.2.2.1 t.2.2.2.2.2.2.2.2.2.2.2.2.2.2.2.2.2.2.2.2.2.2.2.2.2.1 t.2.2.2.2.2.2.2.2.2.2.2.2.2.2.2.2.2.2.2.2.2.2.2.2.2.2.1 t.2.2.2.2.2.2.2.2.2.2.2.2.2.2.2.2.2.2.2.2.2.2.2.2.2.2.2
theorem fl_c28_eq {A0 A1 A2 A3 A4 A5 A6 A7 A8 A9 A10 A11 A12 A13 A14 A15 A16 A17 A18 A19 A20 A21 A22 A23 A24 A25 A26 A27 R : Type} {t : A0 × A1 × A2 × A3 × A4 × A5 × A6 × A7 × A8 × A9 × A10 × A11 × A12 × A13 × A14 × A15 × A16 × A17 × A18 × A19 × A20 × A21 × A22 × A23 × A24 × A25 × A26 × A27} {f : A0 → A1 → A2 → A3 → A4 → A5 → A6 → A7 → A8 → A9 → A10 → A11 → A12 → A13 → A14 → A15 → A16 → A17 → A18 → A19 → A20 → A21 → A22 → A23 → A24 → A25 → A26 → A27 → R} {a0 : A0} {a1 : A1} {a2 : A2} {a3 : A3} {a4 : A4} {a5 : A5} {a6 : A6} {a7 : A7} {a8 : A8} {a9 : A9} {a10 : A10} {a11 : A11} {a12 : A12} {a13 : A13} {a14 : A14} {a15 : A15} {a16 : A16} {a17 : A17} {a18 : A18} {a19 : A19} {a20 : A20} {a21 : A21} {a22 : A22} {a23 : A23} {a24 : A24} {a25 : A25} {a26 : A26} {a27 : A27} (h : t = (a0, a1, a2, a3, a4, a5, a6, a7, a8, a9, a10, a11, a12, a13, a14, a15, a16, a17, a18, a19, a20, a21, a22, a23, a24, a25, a26, a27)) : fl_c28 t f = f a0 a1 a2 a3 a4 a5 a6 a7 a8 a9 a10 a11 a12 a13 a14 a15 a16 a17 a18 a19 a20 a21 a22 a23 a24 a25 a26 a27 := by subst h; rfl
def fl_c29 {A0 A1 A2 A3 A4 A5 A6 A7 A8 A9 A10 A11 A12 A13 A14 A15 A16 A17 A18 A19 A20 A21 A22 A23 A24 A25 A26 A27 A28 R : Type} (t : A0 × A1 × A2 × A3 × A4 × A5 × A6 × A7 × A8 × A9 × A10 × A11 × A12 × A13 × A14 × A15 × A16 × A17 × A18 × A19 × A20 × A21 × A22 × A23 × A24 × A25 × A26 × A27 × A28) (f : A0 → A1 → A2 → A3 → A4 → A5 → A6 → A7 → A8 → A9 → A10 → A11 → A12 → A13 → A14 → A15 → A16 → A17 → A18 → A19 → A20 → A21 → A22 → A23 → A24 → A25 → A26 → A27 → A28 → R) : R := f t.1 t.2.1 t.2.2.1 t.2.2.2.1 t.2.2.2.2.1 t.2.2.2.2.2.1 t.2.2.2.2.2.2.1 t.2.2.2.2.2.2.2.1 t.2.2.2.2.2.2.2.2.1 t.2.2.2.2.2.2.2.2.2.1 t.2.2.2.2.2.2.2.2.2.2.1 t.2.2.2.2.2.2.2.2.2.2.2.1 t.2.2.2.2.2.2.2.2.2.2.2.2.1 t.2.2.2.2.2.2.2.2.2.2.2.2.2.1 t.2.2.2.2.2.2.2.2.2.2.2.2.2.2.1 t.2.2.2.2.2.2.2.2.2.2.2.2.2.2.2.1 t.2.2.2.2.2.2.2.2.2.2.2.2.2.2.2.2.1 t.2.2.2.2.2.2.2.2.2.2.2.2.2.2.2.2.2.1 t.2.2.2.2.2.2.2.2.2.2.2.2.2.2.2.2.2.2.1 t.2.2.2.2.2.2.2.2.2.2.2.2.2.2.2.2.2.2.2.1 t.2.2.2.2.2.2.2.2.2.2.2.2.2.2.2.2.2.2.2.2.1 t.2.2.2.2.2.2.2.2.2.2.2.2.2.2.2.2.2.2.2.2.2.1 t.2.2.2.2.2.2.2.2.2.2.2.2.2.2.2.2.2.2.2.2.2.2.1 t.2.2.2.2.2.2.2.2.2.2.2.2.2.2.2.2.2.2.2.2.2.2.2.1 t.2.2.2.2.2.2.2.2.2.2.2.2.2.2.2.2.2.2.2.2.2.2.2.2.1 t.2.2.2.2.2.2.2.2.2.2.2.2.2.2.2.2.2.2.2.2.2.2.2.2.2.1 t.2.2.2.2.2.2.2.2.2.2.2.2.2.2.2.2.2.2.2.2.2.2.2.2.2.2.1 t.2.2.2.2.2.2.2.2.2.2.2.2.2.2.2.2.2.2.2.2.2.2.2.2.2.2.2.1 t.2.2.2.2.2.2.2.2.2.2.2.2.2.2.2.2.2.2.2.2.2.2.2.2.2.2.2.2
theorem fl_c29_eq {A0 A1 A2 A3 A4 A5 A6 A7 A8 A9 A10 A11 A12 A13 A14 A15 A16 A17 A18 A19 A20 A21 A22 A23 A24 A25 A26 A27 A28 R : Type} {t : A0 × A1 × A2 × A3 × A4 × A5 × A6 × A7 × A8 × A9 × A10 × A11 × A12 × A13 × A14 × A15 × A16 × A17 × A18 × A19 × A20 × A21 × A22 × A23 × A24 × A25 × A26 × A27 × A28} {f : A0 → A1 → A2 → A3 → A4 → A5 → A6 → A7 → A8 → A9 → A10 → A11 → A12 → A13 → A14 → A15 → A16 → A17 → A18 → A19 → A20 → A21 → A22 → A23 → A24 → A25 → A26 → A27 → A28 → R} {a0 : A0} {a1 : A1} {a2 : A2} {a3 : A3} {a4 : A4} {a5 : A5} {a6 : A6} {a7 : A7} {a8 : A8} {a9 : A9} {a10 : A10} {a11 : A11} {a12 : A12} {a13 : A13} {a14 : A14} {a15 : A15} {a16 : A16} {a17 : A17} {a18 : A18} {a19 : A19} {a20 : A20} {a21 : A21} {a22 : A22} {a23 : A23} {a24 : A24} {a25 : A25} {a26 : A26} {a27 : A27} {a28 : A28} (h : t = (a0, a1, a2, a3, a4, a5, a6, a7, a8, a9, a10, a11, a12, a13, a14, a15, a16, a17, a18, a19, a20, a21, a22, a23, a24, a25, a26, a27, a28)) : fl_c29 t f = f a0 a1 a2 a3 a4 a5 a6 a7 a8 a9 a10 a11 a12 a13 a14 a15 a16 a17 a18 a19 a20 a21 a22 a23 a24 a25 a26 a27 a28 := by subst h; rfl
theorem em_r (e t : Int) : e ≤ e ∧ ((e = e ∧ t = t) ∨ t ≠ 59 ∨ e < e) := ⟨Int.le_refl _, Or.inl ⟨rfl, rfl⟩⟩
theorem em_n {e0 t0 e1 t1 : Int} (h : e0 ≤ e1 ∧ (t1 ≠ 59 ∨ e0 < e1)) : e0 ≤ e1 ∧ ((e1 = e0 ∧ t1 = t0) ∨ t1 ≠ 59 ∨ e0 < e1) := ⟨h.1, Or.inr h.2⟩
theorem em_t {e0 t0 e1 t1 e2 t2 : Int} (h : e0 ≤ e1 ∧ ((e1 = e0 ∧ t1 = t0) ∨ t1 ≠ 59 ∨ e0 < e1)) (g : e1 ≤ e2 ∧ ((e2 = e1 ∧ t2 = t1) ∨ t2 ≠ 59 ∨ e1 < e2)) : e0 ≤ e2 ∧ ((e2 = e0 ∧ t2 = t0) ∨ t2 ≠ 59 ∨ e0 < e2) := by omega
end FL
end P09221_fl
section P092231_defsC
def Ff_X7_within (a1 : Int) (a2 : Int) (a3 : Int) : Int :=
  if a1 < a2 then (0) else (if a3 < a1 then (0) else (1))

def Ff_X7_hasBit (a1 : Int) (a2 : Int) : Int :=
  fl_lt (fl_shr a1 a2) (fun x2 => fl_lt (fl_and x2 1) (fun x4 => if x4 = 1 then (1) else (0)))

def Ff_J6_bitCount_0f7a4 (a1 : Int) : Int :=
  fl_lt (fl_ushr a1 1) (fun x3 => fl_lt (fl_and x3 1431655765) (fun x7 => fl_lt (fl_isub a1 x7) (fun x8 => fl_lt (fl_and x8 858993459) (fun x14 => fl_lt (fl_ushr x8 2) (fun x17 => fl_lt (fl_and x17 858993459) (fun x21 => fl_lt (fl_iadd x14 x21) (fun x22 => fl_lt (fl_ushr x22 4) (fun x27 => fl_lt (fl_iadd x22 x27) (fun x28 => fl_lt (fl_and x28 252645135) (fun x32 => fl_lt (fl_ushr x32 8) (fun x38 => fl_lt (fl_iadd x32 x38) (fun x39 => fl_lt (fl_ushr x39 16) (fun x45 => fl_lt (fl_iadd x39 x45) (fun x46 => fl_lt (fl_and x46 63) (fun x51 => x51)))))))))))))))

def Ff_X6_add (a1 : Int) (a2 : Int) (a0_0 : Int) (fa0_2 : (Nat → Int)) (fa0_3 : (Nat → Int)) : Int × (Nat → Int) × (Nat → Int) :=
  if 3 ≤ a0_0 then ((a0_0, fa0_2, fa0_3)) else (fl_lt (fl_up fa0_2 (a0_0.toNat) a1) (fun f17 => fl_lt (fl_up fa0_3 (a0_0.toNat) a2) (fun f27 => fl_lt (a0_0 + 1) (fun x34 => (x34, f17, f27)))))

def Sf_X0_clear_30_1 (j30l1 : Int) (j30a0_10_a : (Nat → Int)) (j30a0_11_a : (Nat → Int)) : Sum (Int × (Nat → Int) × (Nat → Int)) (Int × Int × Int × Int × Int × (Nat → Int) × (Nat → Int)) :=
  if 9 ≤ j30l1 then (Sum.inr ((0, 0, 0, 0, 0, j30a0_10_a, j30a0_11_a))) else (fl_lt (fl_up j30a0_10_a (j30l1.toNat) 0) (fun f42 => fl_lt (fl_up j30a0_11_a (j30l1.toNat) 0) (fun f49 => fl_lt (j30l1 + 1) (fun x50 => Sum.inl (x50, f42, f49)))))
def Ff_X0_clear (fa0_10 : (Nat → Int)) (fa0_11 : (Nat → Int)) : Int × Int × Int × Int × Int × (Nat → Int) × (Nat → Int) :=
  fl_wh (fun t9 => Sf_X0_clear_30_1  t9.1 t9.2.1 t9.2.2) (0, 0, 0, 0, 0, (fun _ => 0), (fun _ => 0)) 10 (0, fa0_10, fa0_11)

def Ff_X0_addFigure (a1 : Int) (a2 : Int) (a3 : Int) (a0_8 : Int) (fa0_10 : (Nat → Int)) (fa0_11 : (Nat → Int)) : Int × (Nat → Int) × (Nat → Int) :=
  if a1 < 0 then ((a0_8, fa0_10, fa0_11)) else (if 9 ≤ a1 then ((a0_8, fa0_10, fa0_11)) else (fl_lt (fl_shl 1 a1) (fun x17 => fl_lt (fl_or a0_8 x17) (fun x18 => fl_lt (fl_up fa0_10 (a1.toNat) a2) (fun f28 => fl_lt (fl_up fa0_11 (a1.toNat) a3) (fun f35 => (x18, f28, f35)))))))

def Ff_X0_addSeen (a1 : Int) (a2 : Int) (a0_9 : Int) (fa0_12 : (Nat → Int)) (fa0_13 : (Nat → Int)) : Int × (Nat → Int) × (Nat → Int) :=
  if 6 ≤ a0_9 then ((a0_9, fa0_12, fa0_13)) else (fl_lt (fl_up fa0_12 (a0_9.toNat) a1) (fun f18 => fl_lt (fl_up fa0_13 (a0_9.toNat) a2) (fun f28 => fl_lt (a0_9 + 1) (fun x35 => (x35, f18, f28)))))

def Sf_X0_isSeenMinute_2_1 (a1 : Int) (a0_9 : Int) (fa0_13 : (Nat → Int)) (j2l2 : Int) : Sum (Int) (Int) :=
  if a0_9 ≤ j2l2 then (Sum.inr (0)) else (fl_lt (fa0_13 (j2l2.toNat)) (fun x15 => if x15 = a1 then (Sum.inr (1)) else (fl_lt (j2l2 + 1) (fun x22 => Sum.inl x22))))
def Ff_X0_isSeenMinute (a1 : Int) (a0_9 : Int) (fa0_13 : (Nat → Int)) : Int :=
  fl_wh (Sf_X0_isSeenMinute_2_1 a1 a0_9 fa0_13) 0 7 0

def Ff_X3_fails (a1 : Int) (a0_8 : Int) : Int × Int × Int :=
  (0, a1, a0_8)

def Gf_X3_scanWord_99_1 (j5a0_9 : Int) (j5a0_11 : Int) (j99s0 : Int) : Int × Int × Int :=
  (j5a0_9, j99s0, j5a0_11)
def Gf_X3_scanWord_79_1 (a0_8 : Int) (j5a0_9 : Int) (j5a0_11 : Int) : Int × Int × Int :=
  fl_lt (j5a0_9 - a0_8) (fun x88 => if 8 < x88 then (Gf_X3_scanWord_99_1 j5a0_9 j5a0_11 4) else (Gf_X3_scanWord_99_1 j5a0_9 j5a0_11 1))
def Sf_X3_scanWord_5_1 (a0_7 : Int) (a0_8 : Int) (fa0_3 : (Nat → Int)) (j5a0_9 : Int) (j5a0_11 : Int) : Sum (Int × Int) (Int × Int × Int) :=
  if a0_7 ≤ j5a0_9 then (Sum.inr (Gf_X3_scanWord_79_1 a0_8 j5a0_9 j5a0_11)) else (fl_lt (fa0_3 (j5a0_9.toNat)) (fun x24 => if x24 < 97 then (Sum.inr (Gf_X3_scanWord_79_1 a0_8 j5a0_9 j5a0_11)) else (if 122 < x24 then (Sum.inr (Gf_X3_scanWord_79_1 a0_8 j5a0_9 j5a0_11)) else (fl_lt (fl_lshl j5a0_11 8) (fun x51 => fl_lt (x24) (fun x61 => fl_lt (fl_lor x51 x61) (fun x62 => fl_lt (j5a0_9 + 1) (fun x72 => Sum.inl (x72, x62)))))))))
def Ff_X3_scanWord (a0_7 : Int) (a0_8 : Int) (a0_9 : Int) (fa0_3 : (Nat → Int)) : Int × Int × Int :=
  fl_wh (fun t9 => Sf_X3_scanWord_5_1 a0_7 a0_8 fa0_3 t9.1 t9.2) (0, 0, 0) 901 (a0_9, 0)

def Gf_X3_scanWhole_100_1 (j5a0_9 : Int) (j5a0_12 : Int) (j100s0 : Int) : Int × Int × Int :=
  (j5a0_9, j100s0, j5a0_12)
def Gf_X3_scanWhole_81_1 (a0_8 : Int) (j5a0_9 : Int) (j5a0_12 : Int) : Int × Int × Int :=
  fl_lt (j5a0_9 - a0_8) (fun x90 => if 3 < x90 then (Gf_X3_scanWhole_100_1 j5a0_9 j5a0_12 4) else (Gf_X3_scanWhole_100_1 j5a0_9 j5a0_12 2))
def Sf_X3_scanWhole_5_1 (a0_7 : Int) (a0_8 : Int) (fa0_3 : (Nat → Int)) (j5a0_9 : Int) (j5a0_12 : Int) : Sum (Int × Int) (Int × Int × Int) :=
  if a0_7 ≤ j5a0_9 then (Sum.inr (Gf_X3_scanWhole_81_1 a0_8 j5a0_9 j5a0_12)) else (fl_lt (fa0_3 (j5a0_9.toNat)) (fun x24 => if x24 < 48 then (Sum.inr (Gf_X3_scanWhole_81_1 a0_8 j5a0_9 j5a0_12)) else (if 57 < x24 then (Sum.inr (Gf_X3_scanWhole_81_1 a0_8 j5a0_9 j5a0_12)) else (fl_lt (fl_imul 10 j5a0_12) (fun x51 => fl_lt (fl_iadd x51 x24) (fun x61 => fl_lt (fl_isub x61 48) (fun x64 => fl_lt (j5a0_9 + 1) (fun x74 => Sum.inl (x74, x64)))))))))
def Ff_X3_scanWhole (a0_7 : Int) (a0_8 : Int) (a0_9 : Int) (fa0_3 : (Nat → Int)) : Int × Int × Int :=
  fl_wh (fun t9 => Sf_X3_scanWhole_5_1 a0_7 a0_8 fa0_3 t9.1 t9.2) (0, 0, 0) 901 (a0_9, 0)

def Gf_X3_advance_167_1 (a0_11 : Int) (a0_12 : Int) (j0a0_9 : Int) : Int × Int × Int × Int × Int :=
  (j0a0_9, j0a0_9, 4, a0_11, a0_12)
def Gf_X3_advance_132_1 (a0_7 : Int) (a0_11 : Int) (a0_12 : Int) (fa0_3 : (Nat → Int)) (j0a0_9 : Int) : Int × Int × Int × Int × Int :=
  fl_lt (fa0_3 (j0a0_9.toNat)) (fun x140 => if x140 < 48 then (Gf_X3_advance_167_1 a0_11 a0_12 j0a0_9) else (if 57 < x140 then (Gf_X3_advance_167_1 a0_11 a0_12 j0a0_9) else (fl_c3 (Ff_X3_scanWhole a0_7 j0a0_9 j0a0_9 fa0_3) (fun v161na0_9 v161na0_10 v161na0_12 => (j0a0_9, v161na0_9, v161na0_10, a0_11, v161na0_12)))))
def Gf_X3_advance_38_1 (a0_7 : Int) (a0_11 : Int) (a0_12 : Int) (fa0_3 : (Nat → Int)) (j0a0_9 : Int) : Int × Int × Int × Int × Int :=
  if j0a0_9 < a0_7 then (fl_lt (fa0_3 (j0a0_9.toNat)) (fun x73 => if x73 = 59 then (fl_lt (j0a0_9 + 1) (fun x90 => (j0a0_9, x90, 3, a0_11, a0_12))) else (if x73 < 97 then (Gf_X3_advance_132_1 a0_7 a0_11 a0_12 fa0_3 j0a0_9) else (if 122 < x73 then (Gf_X3_advance_132_1 a0_7 a0_11 a0_12 fa0_3 j0a0_9) else (fl_c3 (Ff_X3_scanWord a0_7 j0a0_9 j0a0_9 fa0_3) (fun v126na0_9 v126na0_10 v126na0_11 => (j0a0_9, v126na0_9, v126na0_10, v126na0_11, a0_12))))))) else ((j0a0_9, j0a0_9, 0, a0_11, a0_12))
def Sf_X3_advance_0_1 (a0_7 : Int) (a0_11 : Int) (a0_12 : Int) (fa0_3 : (Nat → Int)) (j0a0_9 : Int) : Sum (Int) (Int × Int × Int × Int × Int) :=
  if a0_7 ≤ j0a0_9 then (Sum.inr (Gf_X3_advance_38_1 a0_7 a0_11 a0_12 fa0_3 j0a0_9)) else (fl_lt (fa0_3 (j0a0_9.toNat)) (fun x19 => if x19 = 32 then (fl_lt (j0a0_9 + 1) (fun x31 => Sum.inl x31)) else (Sum.inr (Gf_X3_advance_38_1 a0_7 a0_11 a0_12 fa0_3 j0a0_9))))
def Ff_X3_advance (a0_7 : Int) (a0_9 : Int) (a0_11 : Int) (a0_12 : Int) (fa0_3 : (Nat → Int)) : Int × Int × Int × Int × Int :=
  fl_wh (Sf_X3_advance_0_1 a0_7 a0_11 a0_12 fa0_3) (0, 0, 0, 0, 0) 901 a0_9

def Sf_X3_isWord_15_1 (a0_11 : Int) (na1 : Int) (ca1 : (Nat → Int)) (j15l4 : Int) (j15l2 : Int) : Sum (Int × Int) (Int) :=
  fl_lt (na1) (fun r18 => if r18 ≤ j15l4 then (Sum.inr (fl_lt (fl_cmp a0_11 j15l2) (fun x48 => if x48 = 0 then (1) else (0)))) else (fl_lt (fl_lshl j15l2 8) (fun x27 => fl_lt (ca1 (j15l4.toNat)) (fun r31 => fl_lt (r31) (fun x34 => fl_lt (fl_lor x27 x34) (fun x35 => fl_lt (j15l4 + 1) (fun x37 => Sum.inl (x37, x35))))))))
def Ff_X3_isWord (a0_10 : Int) (a0_11 : Int) (na1 : Int) (ca1 : (Nat → Int)) : Int :=
  if a0_10 = 1 then (fl_wh (fun t9 => Sf_X3_isWord_15_1 a0_11 na1 ca1 t9.1 t9.2) 0 9 (0, 0)) else (0)

def Ff_X3_isWholeWithin (a1 : Int) (a2 : Int) (a0_1 : Int) (a0_2 : Int) (a0_8 : Int) (a0_10 : Int) (a0_12 : Int) : Int × Int × Int :=
  if a0_10 = 2 then (fl_lt (Ff_X7_within a0_12 a1 a2) (fun r20 => if r20 = 1 then ((1, a0_1, a0_2)) else (fl_c3 (Ff_X3_fails 4 a0_8) (fun r28 v28na0_1 v28na0_2 => (0, v28na0_1, v28na0_2))))) else (fl_c3 (Ff_X3_fails 1 a0_8) (fun r10 v10na0_1 v10na0_2 => (0, v10na0_1, v10na0_2)))

def Ff_X3_takeWord (a0_1 : Int) (a0_2 : Int) (a0_7 : Int) (a0_8 : Int) (a0_9 : Int) (a0_10 : Int) (a0_11 : Int) (a0_12 : Int) (fa0_3 : (Nat → Int)) (na1 : Int) (ca1 : (Nat → Int)) : Int × Int × Int × Int × Int × Int × Int × Int :=
  fl_lt (Ff_X3_isWord a0_10 a0_11 na1 ca1) (fun r2 => if r2 = 1 then (fl_c5 (Ff_X3_advance a0_7 a0_9 a0_11 a0_12 fa0_3) (fun v15na0_8 v15na0_9 v15na0_10 v15na0_11 v15na0_12 => (1, a0_1, a0_2, v15na0_8, v15na0_9, v15na0_10, v15na0_11, v15na0_12))) else (fl_c3 (Ff_X3_fails 1 a0_8) (fun r10 v10na0_1 v10na0_2 => (0, v10na0_1, v10na0_2, a0_8, a0_9, a0_10, a0_11, a0_12))))

def Ff_X3_takeWhole (a2 : Int) (a3 : Int) (a0_1 : Int) (a0_2 : Int) (a0_7 : Int) (a0_8 : Int) (a0_9 : Int) (a0_10 : Int) (a0_11 : Int) (a0_12 : Int) (a0_13 : Int) (fa0_3 : (Nat → Int)) (na1 : Int) (ca1 : (Nat → Int)) : Int × Int × Int × Int × Int × Int × Int × Int × Int :=
  fl_lt (Ff_X3_isWord a0_10 a0_11 na1 ca1) (fun r2 => if r2 = 1 then (fl_c5 (Ff_X3_advance a0_7 a0_9 a0_11 a0_12 fa0_3) (fun v15na0_8 v15na0_9 v15na0_10 v15na0_11 v15na0_12 => fl_c3 (Ff_X3_isWholeWithin a2 a3 a0_1 a0_2 v15na0_8 v15na0_10 v15na0_12) (fun r21 v21na0_1 v21na0_2 => if r21 = 1 then (fl_c5 (Ff_X3_advance a0_7 v15na0_9 v15na0_11 v15na0_12 fa0_3) (fun v38na0_8 v38na0_9 v38na0_10 v38na0_11 v38na0_12 => (1, v21na0_1, v21na0_2, v38na0_8, v38na0_9, v38na0_10, v38na0_11, v38na0_12, v15na0_12))) else ((0, v21na0_1, v21na0_2, v15na0_8, v15na0_9, v15na0_10, v15na0_11, v15na0_12, a0_13))))) else (fl_c3 (Ff_X3_fails 1 a0_8) (fun r10 v10na0_1 v10na0_2 => (0, v10na0_1, v10na0_2, a0_8, a0_9, a0_10, a0_11, a0_12, a0_13))))

def Gf_X3_takeName_53_1 (a0_6 : Int) (a0_8 : Int) (a0_9 : Int) (a0_10 : Int) (a0_11 : Int) (a0_12 : Int) (fa0_4 : (Nat → Int)) : Int × Int × Int × Int × Int × Int × Int × Int × Int × (Nat → Int) :=
  fl_c3 (Ff_X3_fails 1 a0_8) (fun r55 v55na0_1 v55na0_2 => (0, v55na0_1, v55na0_2, a0_6, a0_8, a0_9, a0_10, a0_11, a0_12, fa0_4))
def Gf_X3_takeName_127_1 (a0_1 : Int) (a0_2 : Int) (a0_7 : Int) (a0_9 : Int) (a0_11 : Int) (a0_12 : Int) (fa0_3 : (Nat → Int)) (j127a0_6 : Int) (j127a0_4_a : (Nat → Int)) : Int × Int × Int × Int × Int × Int × Int × Int × Int × (Nat → Int) :=
  fl_c5 (Ff_X3_advance a0_7 a0_9 a0_11 a0_12 fa0_3) (fun v128na0_8 v128na0_9 v128na0_10 v128na0_11 v128na0_12 => (1, a0_1, a0_2, j127a0_6, v128na0_8, v128na0_9, v128na0_10, v128na0_11, v128na0_12, j127a0_4_a))
def Sf_X3_takeName_61_1 (a0_1 : Int) (a0_2 : Int) (a0_6 : Int) (a0_7 : Int) (a0_8 : Int) (a0_9 : Int) (a0_10 : Int) (a0_11 : Int) (a0_12 : Int) (fa0_4 : (Nat → Int)) (fa0_3 : (Nat → Int)) (j61l1 : Int) : Sum (Int) (Int × Int × Int × Int × Int × Int × Int × Int × Int × (Nat → Int)) :=
  if a0_6 ≤ j61l1 then (Sum.inr (if 12 ≤ a0_6 then (Gf_X3_takeName_127_1 a0_1 a0_2 a0_7 a0_9 a0_11 a0_12 fa0_3 a0_6 fa0_4) else (fl_lt (fl_up fa0_4 (a0_6.toNat) a0_11) (fun f116 => fl_lt (a0_6 + 1) (fun x123 => Gf_X3_takeName_127_1 a0_1 a0_2 a0_7 a0_9 a0_11 a0_12 fa0_3 x123 f116))))) else (fl_lt (fa0_4 (j61l1.toNat)) (fun x74 => fl_lt (fl_cmp x74 a0_11) (fun x79 => if x79 = 0 then (Sum.inr (fl_c3 (Ff_X3_fails 3 a0_8) (fun r85 v85na0_1 v85na0_2 => (0, v85na0_1, v85na0_2, a0_6, a0_8, a0_9, a0_10, a0_11, a0_12, fa0_4)))) else (fl_lt (j61l1 + 1) (fun x89 => Sum.inl x89)))))
def Ff_X3_takeName (a0_1 : Int) (a0_2 : Int) (a0_6 : Int) (a0_7 : Int) (a0_8 : Int) (a0_9 : Int) (a0_10 : Int) (a0_11 : Int) (a0_12 : Int) (fa0_4 : (Nat → Int)) (fa0_3 : (Nat → Int)) : Int × Int × Int × Int × Int × Int × Int × Int × Int × (Nat → Int) :=
  if a0_10 = 1 then (fl_lt (Ff_X3_isWord a0_10 a0_11 7 (fl_A (sxc 0))) (fun r11 => if r11 = 1 then (Gf_X3_takeName_53_1 a0_6 a0_8 a0_9 a0_10 a0_11 a0_12 fa0_4) else (fl_lt (Ff_X3_isWord a0_10 a0_11 3 (fl_A (sxc 1))) (fun r20 => if r20 = 1 then (Gf_X3_takeName_53_1 a0_6 a0_8 a0_9 a0_10 a0_11 a0_12 fa0_4) else (fl_lt (Ff_X3_isWord a0_10 a0_11 6 (fl_A (sxc 2))) (fun r29 => if r29 = 1 then (Gf_X3_takeName_53_1 a0_6 a0_8 a0_9 a0_10 a0_11 a0_12 fa0_4) else (fl_lt (Ff_X3_isWord a0_10 a0_11 7 (fl_A (sxc 3))) (fun r38 => if r38 = 1 then (Gf_X3_takeName_53_1 a0_6 a0_8 a0_9 a0_10 a0_11 a0_12 fa0_4) else (fl_lt (Ff_X3_isWord a0_10 a0_11 4 (fl_A (sxc 4))) (fun r47 => if r47 = 1 then (Gf_X3_takeName_53_1 a0_6 a0_8 a0_9 a0_10 a0_11 a0_12 fa0_4) else (fl_wh (Sf_X3_takeName_61_1 a0_1 a0_2 a0_6 a0_7 a0_8 a0_9 a0_10 a0_11 a0_12 fa0_4 fa0_3) (0, 0, 0, 0, 0, 0, 0, 0, 0, (fun _ => 0)) 13 0))))))))))) else (Gf_X3_takeName_53_1 a0_6 a0_8 a0_9 a0_10 a0_11 a0_12 fa0_4)

def Ff_X3_readHall (a0_1 : Int) (a0_2 : Int) (a0_7 : Int) (a0_9 : Int) (a0_11 : Int) (a0_12 : Int) (a0_13 : Int) (fa0_3 : (Nat → Int)) (a0_5_0 : Int) (a0_5_1 : Int) (a0_5_2 : Int) (a0_5_3 : Int) : Int × Int × Int × Int × Int × Int × Int × Int × Int × Int × Int × Int × Int :=
  fl_c5 (Ff_X3_advance a0_7 a0_9 a0_11 a0_12 fa0_3) (fun v1na0_8 v1na0_9 v1na0_10 v1na0_11 v1na0_12 => fl_c9 (Ff_X3_takeWhole 2 9 a0_1 a0_2 a0_7 v1na0_8 v1na0_9 v1na0_10 v1na0_11 v1na0_12 a0_13 fa0_3 7 (fl_A (sxc 5))) (fun r10 v10na0_1 v10na0_2 v10na0_8 v10na0_9 v10na0_10 v10na0_11 v10na0_12 v10na0_13 => if r10 = 1 then (fl_c9 (Ff_X3_takeWhole 1 20 v10na0_1 v10na0_2 a0_7 v10na0_8 v10na0_9 v10na0_10 v10na0_11 v10na0_12 v10na0_13 fa0_3 4 (fl_A (sxc 6))) (fun r29 v29na0_1 v29na0_2 v29na0_8 v29na0_9 v29na0_10 v29na0_11 v29na0_12 v29na0_13 => if r29 = 1 then (fl_lt (v10na0_13 - 1) (fun x54 => fl_c9 (Ff_X3_takeWhole 0 x54 v29na0_1 v29na0_2 a0_7 v29na0_8 v29na0_9 v29na0_10 v29na0_11 v29na0_12 v29na0_13 fa0_3 6 (fl_A (sxc 7))) (fun r55 v55na0_1 v55na0_2 v55na0_8 v55na0_9 v55na0_10 v55na0_11 v55na0_12 v55na0_13 => if r55 = 1 then (fl_c9 (Ff_X3_takeWhole 0 100 v55na0_1 v55na0_2 a0_7 v55na0_8 v55na0_9 v55na0_10 v55na0_11 v55na0_12 v55na0_13 fa0_3 4 (fl_A (sxc 8))) (fun r80 v80na0_1 v80na0_2 v80na0_8 v80na0_9 v80na0_10 v80na0_11 v80na0_12 v80na0_13 => if r80 = 1 then ((1, v80na0_1, v80na0_2, v80na0_8, v80na0_9, v80na0_10, v80na0_11, v80na0_12, v80na0_13, v10na0_13, v29na0_13, v55na0_13, v80na0_13)) else ((0, v80na0_1, v80na0_2, v80na0_8, v80na0_9, v80na0_10, v80na0_11, v80na0_12, v80na0_13, a0_5_0, v29na0_13, v55na0_13, a0_5_3)))) else ((0, v55na0_1, v55na0_2, v55na0_8, v55na0_9, v55na0_10, v55na0_11, v55na0_12, v55na0_13, a0_5_0, v29na0_13, a0_5_2, a0_5_3))))) else ((0, v29na0_1, v29na0_2, v29na0_8, v29na0_9, v29na0_10, v29na0_11, v29na0_12, v29na0_13, a0_5_0, a0_5_1, a0_5_2, a0_5_3)))) else ((0, v10na0_1, v10na0_2, v10na0_8, v10na0_9, v10na0_10, v10na0_11, v10na0_12, v10na0_13, a0_5_0, a0_5_1, a0_5_2, a0_5_3))))

def Ff_X3_readLaw (a0_1 : Int) (a0_2 : Int) (a0_7 : Int) (a0_9 : Int) (a0_11 : Int) (a0_12 : Int) (a0_13 : Int) (fa0_3 : (Nat → Int)) (a0_5_0 : Int) (a0_5_4 : Int) (a0_5_5 : Int) (a0_5_6 : Int) (a0_5_7 : Int) : Int × Int × Int × Int × Int × Int × Int × Int × Int × Int × Int × Int × Int :=
  fl_c5 (Ff_X3_advance a0_7 a0_9 a0_11 a0_12 fa0_3) (fun v1na0_8 v1na0_9 v1na0_10 v1na0_11 v1na0_12 => fl_lt (a0_5_0 - 1) (fun x16 => fl_c9 (Ff_X3_takeWhole 0 x16 a0_1 a0_2 a0_7 v1na0_8 v1na0_9 v1na0_10 v1na0_11 v1na0_12 a0_13 fa0_3 5 (fl_A (sxc 9))) (fun r17 v17na0_1 v17na0_2 v17na0_8 v17na0_9 v17na0_10 v17na0_11 v17na0_12 v17na0_13 => if r17 = 1 then (fl_c9 (Ff_X3_takeWhole 0 x16 v17na0_1 v17na0_2 a0_7 v17na0_8 v17na0_9 v17na0_10 v17na0_11 v17na0_12 v17na0_13 fa0_3 4 (fl_A (sxc 10))) (fun r49 v49na0_1 v49na0_2 v49na0_8 v49na0_9 v49na0_10 v49na0_11 v49na0_12 v49na0_13 => if r49 = 1 then (fl_c9 (Ff_X3_takeWhole 0 x16 v49na0_1 v49na0_2 a0_7 v49na0_8 v49na0_9 v49na0_10 v49na0_11 v49na0_12 v49na0_13 fa0_3 5 (fl_A (sxc 11))) (fun r81 v81na0_1 v81na0_2 v81na0_8 v81na0_9 v81na0_10 v81na0_11 v81na0_12 v81na0_13 => if r81 = 1 then ((1, v81na0_1, v81na0_2, v81na0_8, v81na0_9, v81na0_10, v81na0_11, v81na0_12, v81na0_13, 1, v17na0_13, v49na0_13, v81na0_13)) else ((0, v81na0_1, v81na0_2, v81na0_8, v81na0_9, v81na0_10, v81na0_11, v81na0_12, v81na0_13, a0_5_4, v17na0_13, v49na0_13, a0_5_7)))) else ((0, v49na0_1, v49na0_2, v49na0_8, v49na0_9, v49na0_10, v49na0_11, v49na0_12, v49na0_13, a0_5_4, v17na0_13, a0_5_6, a0_5_7)))) else ((0, v17na0_1, v17na0_2, v17na0_8, v17na0_9, v17na0_10, v17na0_11, v17na0_12, v17na0_13, a0_5_4, a0_5_5, a0_5_6, a0_5_7)))))

def Ff_X3_readFigure (a0_1 : Int) (a0_2 : Int) (a0_6 : Int) (a0_7 : Int) (a0_9 : Int) (a0_11 : Int) (a0_12 : Int) (a0_13 : Int) (fa0_3 : (Nat → Int)) (fa0_4 : (Nat → Int)) (a0_5_0 : Int) (a0_5_8 : Int) (fa0_5_10 : (Nat → Int)) (fa0_5_11 : (Nat → Int)) : Int × Int × Int × Int × Int × Int × Int × Int × Int × Int × (Nat → Int) × Int × (Nat → Int) × (Nat → Int) :=
  fl_c5 (Ff_X3_advance a0_7 a0_9 a0_11 a0_12 fa0_3) (fun v1na0_8 v1na0_9 v1na0_10 v1na0_11 v1na0_12 => fl_c10 (Ff_X3_takeName a0_1 a0_2 a0_6 a0_7 v1na0_8 v1na0_9 v1na0_10 v1na0_11 v1na0_12 fa0_4 fa0_3) (fun r5 v5na0_1 v5na0_2 v5na0_6 v5na0_8 v5na0_9 v5na0_10 v5na0_11 v5na0_12 v5nfa0_4 => if r5 = 1 then (fl_c8 (Ff_X3_takeWord v5na0_1 v5na0_2 a0_7 v5na0_8 v5na0_9 v5na0_10 v5na0_11 v5na0_12 fa0_3 2 (fl_A (sxc 12))) (fun r14 v14na0_1 v14na0_2 v14na0_8 v14na0_9 v14na0_10 v14na0_11 v14na0_12 => if r14 = 1 then (fl_lt (a0_5_0 - 1) (fun x30 => fl_c3 (Ff_X3_isWholeWithin 0 x30 v14na0_1 v14na0_2 v14na0_8 v14na0_10 v14na0_12) (fun r31 v31na0_1 v31na0_2 => if r31 = 1 then (fl_lt (Ff_X7_hasBit a0_5_8 v14na0_12) (fun r52 => if r52 = 1 then (fl_c3 (Ff_X3_fails 3 v14na0_8) (fun r60 v60na0_1 v60na0_2 => (0, v60na0_1, v60na0_2, v5na0_6, v14na0_8, v14na0_9, v14na0_10, v14na0_11, v14na0_12, a0_13, v5nfa0_4, a0_5_8, fa0_5_10, fa0_5_11))) else (fl_c5 (Ff_X3_advance a0_7 v14na0_9 v14na0_11 v14na0_12 fa0_3) (fun v65na0_8 v65na0_9 v65na0_10 v65na0_11 v65na0_12 => fl_lt (Ff_X3_isWord v65na0_10 v65na0_11 5 (fl_A (sxc 13))) (fun r71 => if r71 = 1 then (fl_c9 (Ff_X3_takeWhole 1 20 v31na0_1 v31na0_2 a0_7 v65na0_8 v65na0_9 v65na0_10 v65na0_11 v65na0_12 a0_13 fa0_3 5 (fl_A (sxc 13))) (fun r99 v99na0_1 v99na0_2 v99na0_8 v99na0_9 v99na0_10 v99na0_11 v99na0_12 v99na0_13 => if r99 = 1 then (fl_c3 (Ff_X0_addFigure v14na0_12 1 v99na0_13 a0_5_8 fa0_5_10 fa0_5_11) (fun v117na0_8 v117nfa0_10 v117nfa0_11 => (1, v99na0_1, v99na0_2, v5na0_6, v99na0_8, v99na0_9, v99na0_10, v99na0_11, v99na0_12, v99na0_13, v5nfa0_4, v117na0_8, v117nfa0_10, v117nfa0_11))) else ((0, v99na0_1, v99na0_2, v5na0_6, v99na0_8, v99na0_9, v99na0_10, v99na0_11, v99na0_12, v99na0_13, v5nfa0_4, a0_5_8, fa0_5_10, fa0_5_11)))) else (fl_c9 (Ff_X3_takeWhole 1 20 v31na0_1 v31na0_2 a0_7 v65na0_8 v65na0_9 v65na0_10 v65na0_11 v65na0_12 a0_13 fa0_3 6 (fl_A (sxc 14))) (fun r99 v99na0_1 v99na0_2 v99na0_8 v99na0_9 v99na0_10 v99na0_11 v99na0_12 v99na0_13 => if r99 = 1 then (fl_c3 (Ff_X0_addFigure v14na0_12 2 v99na0_13 a0_5_8 fa0_5_10 fa0_5_11) (fun v117na0_8 v117nfa0_10 v117nfa0_11 => (1, v99na0_1, v99na0_2, v5na0_6, v99na0_8, v99na0_9, v99na0_10, v99na0_11, v99na0_12, v99na0_13, v5nfa0_4, v117na0_8, v117nfa0_10, v117nfa0_11))) else ((0, v99na0_1, v99na0_2, v5na0_6, v99na0_8, v99na0_9, v99na0_10, v99na0_11, v99na0_12, v99na0_13, v5nfa0_4, a0_5_8, fa0_5_10, fa0_5_11))))))))) else ((0, v31na0_1, v31na0_2, v5na0_6, v14na0_8, v14na0_9, v14na0_10, v14na0_11, v14na0_12, a0_13, v5nfa0_4, a0_5_8, fa0_5_10, fa0_5_11))))) else ((0, v14na0_1, v14na0_2, v5na0_6, v14na0_8, v14na0_9, v14na0_10, v14na0_11, v14na0_12, a0_13, v5nfa0_4, a0_5_8, fa0_5_10, fa0_5_11)))) else ((0, v5na0_1, v5na0_2, v5na0_6, v5na0_8, v5na0_9, v5na0_10, v5na0_11, v5na0_12, a0_13, v5nfa0_4, a0_5_8, fa0_5_10, fa0_5_11))))

def Ff_X3_readWatcher (a0_1 : Int) (a0_2 : Int) (a0_6 : Int) (a0_7 : Int) (a0_9 : Int) (a0_11 : Int) (a0_12 : Int) (a0_13 : Int) (fa0_3 : (Nat → Int)) (fa0_4 : (Nat → Int)) (a0_5_0 : Int) (a0_5_14_0 : Int) (fa0_5_14_2 : (Nat → Int)) (fa0_5_14_3 : (Nat → Int)) : Int × Int × Int × Int × Int × Int × Int × Int × Int × Int × (Nat → Int) × Int × (Nat → Int) × (Nat → Int) :=
  fl_c5 (Ff_X3_advance a0_7 a0_9 a0_11 a0_12 fa0_3) (fun v1na0_8 v1na0_9 v1na0_10 v1na0_11 v1na0_12 => fl_c10 (Ff_X3_takeName a0_1 a0_2 a0_6 a0_7 v1na0_8 v1na0_9 v1na0_10 v1na0_11 v1na0_12 fa0_4 fa0_3) (fun r5 v5na0_1 v5na0_2 v5na0_6 v5na0_8 v5na0_9 v5na0_10 v5na0_11 v5na0_12 v5nfa0_4 => if r5 = 1 then (fl_lt (a0_5_0 - 1) (fun x23 => fl_c9 (Ff_X3_takeWhole 0 x23 v5na0_1 v5na0_2 a0_7 v5na0_8 v5na0_9 v5na0_10 v5na0_11 v5na0_12 a0_13 fa0_3 4 (fl_A (sxc 15))) (fun r24 v24na0_1 v24na0_2 v24na0_8 v24na0_9 v24na0_10 v24na0_11 v24na0_12 v24na0_13 => if r24 = 1 then (fl_c9 (Ff_X3_takeWhole 0 x23 v24na0_1 v24na0_2 a0_7 v24na0_8 v24na0_9 v24na0_10 v24na0_11 v24na0_12 v24na0_13 fa0_3 2 (fl_A (sxc 16))) (fun r50 v50na0_1 v50na0_2 v50na0_8 v50na0_9 v50na0_10 v50na0_11 v50na0_12 v50na0_13 => if r50 = 1 then (fl_c3 (Ff_X6_add v24na0_13 v50na0_13 a0_5_14_0 fa0_5_14_2 fa0_5_14_3) (fun v70na0_0 v70nfa0_2 v70nfa0_3 => (1, v50na0_1, v50na0_2, v5na0_6, v50na0_8, v50na0_9, v50na0_10, v50na0_11, v50na0_12, v50na0_13, v5nfa0_4, v70na0_0, v70nfa0_2, v70nfa0_3))) else ((0, v50na0_1, v50na0_2, v5na0_6, v50na0_8, v50na0_9, v50na0_10, v50na0_11, v50na0_12, v50na0_13, v5nfa0_4, a0_5_14_0, fa0_5_14_2, fa0_5_14_3)))) else ((0, v24na0_1, v24na0_2, v5na0_6, v24na0_8, v24na0_9, v24na0_10, v24na0_11, v24na0_12, v24na0_13, v5nfa0_4, a0_5_14_0, fa0_5_14_2, fa0_5_14_3))))) else ((0, v5na0_1, v5na0_2, v5na0_6, v5na0_8, v5na0_9, v5na0_10, v5na0_11, v5na0_12, a0_13, v5nfa0_4, a0_5_14_0, fa0_5_14_2, fa0_5_14_3))))

def Ff_X3_readSeen (a0_1 : Int) (a0_2 : Int) (a0_7 : Int) (a0_8 : Int) (a0_9 : Int) (a0_10 : Int) (a0_11 : Int) (a0_12 : Int) (a0_13 : Int) (a0_5_0 : Int) (a0_5_9 : Int) (fa0_3 : (Nat → Int)) (fa0_5_13 : (Nat → Int)) (fa0_5_12 : (Nat → Int)) : Int × Int × Int × Int × Int × Int × Int × Int × Int × Int × (Nat → Int) × (Nat → Int) :=
  fl_lt (a0_5_0 - 1) (fun x12 => fl_c9 (Ff_X3_takeWhole 0 x12 a0_1 a0_2 a0_7 a0_8 a0_9 a0_10 a0_11 a0_12 a0_13 fa0_3 4 (fl_A (sxc 4))) (fun r13 v13na0_1 v13na0_2 v13na0_8 v13na0_9 v13na0_10 v13na0_11 v13na0_12 v13na0_13 => if r13 = 1 then (fl_c8 (Ff_X3_takeWord v13na0_1 v13na0_2 a0_7 v13na0_8 v13na0_9 v13na0_10 v13na0_11 v13na0_12 fa0_3 2 (fl_A (sxc 17))) (fun r29 v29na0_1 v29na0_2 v29na0_8 v29na0_9 v29na0_10 v29na0_11 v29na0_12 => if r29 = 1 then (fl_c3 (Ff_X3_isWholeWithin 0 999 v29na0_1 v29na0_2 v29na0_8 v29na0_10 v29na0_12) (fun r40 v40na0_1 v40na0_2 => if r40 = 1 then (fl_lt (Ff_X0_isSeenMinute v29na0_12 a0_5_9 fa0_5_13) (fun r56 => if r56 = 1 then (fl_c3 (Ff_X3_fails 3 v29na0_8) (fun r64 v64na0_1 v64na0_2 => (0, v64na0_1, v64na0_2, v29na0_8, v29na0_9, v29na0_10, v29na0_11, v29na0_12, v13na0_13, a0_5_9, fa0_5_13, fa0_5_12))) else (fl_c3 (Ff_X0_addSeen v13na0_13 v29na0_12 a0_5_9 fa0_5_12 fa0_5_13) (fun v77na0_9 v77nfa0_12 v77nfa0_13 => fl_c5 (Ff_X3_advance a0_7 v29na0_9 v29na0_11 v29na0_12 fa0_3) (fun v81na0_8 v81na0_9 v81na0_10 v81na0_11 v81na0_12 => (1, v40na0_1, v40na0_2, v81na0_8, v81na0_9, v81na0_10, v81na0_11, v81na0_12, v13na0_13, v77na0_9, v77nfa0_13, v77nfa0_12)))))) else ((0, v40na0_1, v40na0_2, v29na0_8, v29na0_9, v29na0_10, v29na0_11, v29na0_12, v13na0_13, a0_5_9, fa0_5_13, fa0_5_12)))) else ((0, v29na0_1, v29na0_2, v29na0_8, v29na0_9, v29na0_10, v29na0_11, v29na0_12, v13na0_13, a0_5_9, fa0_5_13, fa0_5_12)))) else ((0, v13na0_1, v13na0_2, v13na0_8, v13na0_9, v13na0_10, v13na0_11, v13na0_12, v13na0_13, a0_5_9, fa0_5_13, fa0_5_12))))

def Gf_X3_readLine_74_1 (a0_1 : Int) (a0_2 : Int) (a0_6 : Int) (a0_7 : Int) (a0_8 : Int) (a0_9 : Int) (a0_10 : Int) (a0_11 : Int) (a0_12 : Int) (a0_13 : Int) (a0_5_0 : Int) (a0_5_1 : Int) (a0_5_2 : Int) (a0_5_3 : Int) (a0_5_4 : Int) (a0_5_5 : Int) (a0_5_6 : Int) (a0_5_7 : Int) (a0_5_8 : Int) (a0_5_9 : Int) (fa0_3 : (Nat → Int)) (fa0_4 : (Nat → Int)) (fa0_5_10 : (Nat → Int)) (fa0_5_11 : (Nat → Int)) (a0_5_14_0 : Int) (fa0_5_14_2 : (Nat → Int)) (fa0_5_14_3 : (Nat → Int)) (fa0_5_13 : (Nat → Int)) (fa0_5_12 : (Nat → Int)) : Int × Int × Int × Int × Int × Int × Int × Int × Int × Int × Int × Int × Int × Int × Int × Int × Int × Int × Int × Int × (Nat → Int) × (Nat → Int) × (Nat → Int) × Int × (Nat → Int) × (Nat → Int) × (Nat → Int) × (Nat → Int) :=
  if a0_5_0 = 0 then (fl_c3 (Ff_X3_fails 6 a0_8) (fun r87 v87na0_1 v87na0_2 => (0, v87na0_1, v87na0_2, a0_6, a0_8, a0_9, a0_10, a0_11, a0_12, a0_13, a0_5_0, a0_5_1, a0_5_2, a0_5_3, a0_5_4, a0_5_5, a0_5_6, a0_5_7, a0_5_8, a0_5_9, fa0_4, fa0_5_10, fa0_5_11, a0_5_14_0, fa0_5_14_2, fa0_5_14_3, fa0_5_13, fa0_5_12))) else (fl_lt (Ff_X3_isWord a0_10 a0_11 3 (fl_A (sxc 1))) (fun r94 => if r94 = 1 then (if a0_5_4 = 0 then (fl_c13 (Ff_X3_readLaw a0_1 a0_2 a0_7 a0_9 a0_11 a0_12 a0_13 fa0_3 a0_5_0 a0_5_4 a0_5_5 a0_5_6 a0_5_7) (fun r119 v119na0_1 v119na0_2 v119na0_8 v119na0_9 v119na0_10 v119na0_11 v119na0_12 v119na0_13 v119na0_5_4 v119na0_5_5 v119na0_5_6 v119na0_5_7 => if r119 = 1 then ((1, v119na0_1, v119na0_2, a0_6, v119na0_8, v119na0_9, v119na0_10, v119na0_11, v119na0_12, v119na0_13, a0_5_0, a0_5_1, a0_5_2, a0_5_3, v119na0_5_4, v119na0_5_5, v119na0_5_6, v119na0_5_7, a0_5_8, a0_5_9, fa0_4, fa0_5_10, fa0_5_11, a0_5_14_0, fa0_5_14_2, fa0_5_14_3, fa0_5_13, fa0_5_12)) else ((0, v119na0_1, v119na0_2, a0_6, v119na0_8, v119na0_9, v119na0_10, v119na0_11, v119na0_12, v119na0_13, a0_5_0, a0_5_1, a0_5_2, a0_5_3, v119na0_5_4, v119na0_5_5, v119na0_5_6, v119na0_5_7, a0_5_8, a0_5_9, fa0_4, fa0_5_10, fa0_5_11, a0_5_14_0, fa0_5_14_2, fa0_5_14_3, fa0_5_13, fa0_5_12)))) else (fl_c3 (Ff_X3_fails 3 a0_8) (fun r112 v112na0_1 v112na0_2 => (0, v112na0_1, v112na0_2, a0_6, a0_8, a0_9, a0_10, a0_11, a0_12, a0_13, a0_5_0, a0_5_1, a0_5_2, a0_5_3, a0_5_4, a0_5_5, a0_5_6, a0_5_7, a0_5_8, a0_5_9, fa0_4, fa0_5_10, fa0_5_11, a0_5_14_0, fa0_5_14_2, fa0_5_14_3, fa0_5_13, fa0_5_12)))) else (fl_lt (Ff_X3_isWord a0_10 a0_11 6 (fl_A (sxc 2))) (fun r126 => if r126 = 1 then (fl_lt (Ff_J6_bitCount_0f7a4 a0_5_8) (fun r139 => if r139 < 9 then (fl_c14 (Ff_X3_readFigure a0_1 a0_2 a0_6 a0_7 a0_9 a0_11 a0_12 a0_13 fa0_3 fa0_4 a0_5_0 a0_5_8 fa0_5_10 fa0_5_11) (fun r156 v156na0_1 v156na0_2 v156na0_6 v156na0_8 v156na0_9 v156na0_10 v156na0_11 v156na0_12 v156na0_13 v156nfa0_4 v156na0_5_8 v156nfa0_5_10 v156nfa0_5_11 => if r156 = 1 then ((1, v156na0_1, v156na0_2, v156na0_6, v156na0_8, v156na0_9, v156na0_10, v156na0_11, v156na0_12, v156na0_13, a0_5_0, a0_5_1, a0_5_2, a0_5_3, a0_5_4, a0_5_5, a0_5_6, a0_5_7, v156na0_5_8, a0_5_9, v156nfa0_4, v156nfa0_5_10, v156nfa0_5_11, a0_5_14_0, fa0_5_14_2, fa0_5_14_3, fa0_5_13, fa0_5_12)) else ((0, v156na0_1, v156na0_2, v156na0_6, v156na0_8, v156na0_9, v156na0_10, v156na0_11, v156na0_12, v156na0_13, a0_5_0, a0_5_1, a0_5_2, a0_5_3, a0_5_4, a0_5_5, a0_5_6, a0_5_7, v156na0_5_8, a0_5_9, v156nfa0_4, v156nfa0_5_10, v156nfa0_5_11, a0_5_14_0, fa0_5_14_2, fa0_5_14_3, fa0_5_13, fa0_5_12)))) else (fl_c3 (Ff_X3_fails 5 a0_8) (fun r149 v149na0_1 v149na0_2 => (0, v149na0_1, v149na0_2, a0_6, a0_8, a0_9, a0_10, a0_11, a0_12, a0_13, a0_5_0, a0_5_1, a0_5_2, a0_5_3, a0_5_4, a0_5_5, a0_5_6, a0_5_7, a0_5_8, a0_5_9, fa0_4, fa0_5_10, fa0_5_11, a0_5_14_0, fa0_5_14_2, fa0_5_14_3, fa0_5_13, fa0_5_12))))) else (fl_lt (Ff_X3_isWord a0_10 a0_11 7 (fl_A (sxc 3))) (fun r163 => if r163 = 1 then (if a0_5_14_0 < 3 then (fl_c14 (Ff_X3_readWatcher a0_1 a0_2 a0_6 a0_7 a0_9 a0_11 a0_12 a0_13 fa0_3 fa0_4 a0_5_0 a0_5_14_0 fa0_5_14_2 fa0_5_14_3) (fun r192 v192na0_1 v192na0_2 v192na0_6 v192na0_8 v192na0_9 v192na0_10 v192na0_11 v192na0_12 v192na0_13 v192nfa0_4 v192na0_5_14_0 v192nfa0_5_14_2 v192nfa0_5_14_3 => if r192 = 1 then ((1, v192na0_1, v192na0_2, v192na0_6, v192na0_8, v192na0_9, v192na0_10, v192na0_11, v192na0_12, v192na0_13, a0_5_0, a0_5_1, a0_5_2, a0_5_3, a0_5_4, a0_5_5, a0_5_6, a0_5_7, a0_5_8, a0_5_9, v192nfa0_4, fa0_5_10, fa0_5_11, v192na0_5_14_0, v192nfa0_5_14_2, v192nfa0_5_14_3, fa0_5_13, fa0_5_12)) else ((0, v192na0_1, v192na0_2, v192na0_6, v192na0_8, v192na0_9, v192na0_10, v192na0_11, v192na0_12, v192na0_13, a0_5_0, a0_5_1, a0_5_2, a0_5_3, a0_5_4, a0_5_5, a0_5_6, a0_5_7, a0_5_8, a0_5_9, v192nfa0_4, fa0_5_10, fa0_5_11, v192na0_5_14_0, v192nfa0_5_14_2, v192nfa0_5_14_3, fa0_5_13, fa0_5_12)))) else (fl_c3 (Ff_X3_fails 5 a0_8) (fun r185 v185na0_1 v185na0_2 => (0, v185na0_1, v185na0_2, a0_6, a0_8, a0_9, a0_10, a0_11, a0_12, a0_13, a0_5_0, a0_5_1, a0_5_2, a0_5_3, a0_5_4, a0_5_5, a0_5_6, a0_5_7, a0_5_8, a0_5_9, fa0_4, fa0_5_10, fa0_5_11, a0_5_14_0, fa0_5_14_2, fa0_5_14_3, fa0_5_13, fa0_5_12)))) else (if a0_5_9 < 6 then (fl_c12 (Ff_X3_readSeen a0_1 a0_2 a0_7 a0_8 a0_9 a0_10 a0_11 a0_12 a0_13 a0_5_0 a0_5_9 fa0_3 fa0_5_13 fa0_5_12) (fun r217 v217na0_1 v217na0_2 v217na0_8 v217na0_9 v217na0_10 v217na0_11 v217na0_12 v217na0_13 v217na0_5_9 v217nfa0_5_13 v217nfa0_5_12 => if r217 = 1 then ((1, v217na0_1, v217na0_2, a0_6, v217na0_8, v217na0_9, v217na0_10, v217na0_11, v217na0_12, v217na0_13, a0_5_0, a0_5_1, a0_5_2, a0_5_3, a0_5_4, a0_5_5, a0_5_6, a0_5_7, a0_5_8, v217na0_5_9, fa0_4, fa0_5_10, fa0_5_11, a0_5_14_0, fa0_5_14_2, fa0_5_14_3, v217nfa0_5_13, v217nfa0_5_12)) else ((0, v217na0_1, v217na0_2, a0_6, v217na0_8, v217na0_9, v217na0_10, v217na0_11, v217na0_12, v217na0_13, a0_5_0, a0_5_1, a0_5_2, a0_5_3, a0_5_4, a0_5_5, a0_5_6, a0_5_7, a0_5_8, v217na0_5_9, fa0_4, fa0_5_10, fa0_5_11, a0_5_14_0, fa0_5_14_2, fa0_5_14_3, v217nfa0_5_13, v217nfa0_5_12)))) else (fl_c3 (Ff_X3_fails 5 a0_8) (fun r210 v210na0_1 v210na0_2 => (0, v210na0_1, v210na0_2, a0_6, a0_8, a0_9, a0_10, a0_11, a0_12, a0_13, a0_5_0, a0_5_1, a0_5_2, a0_5_3, a0_5_4, a0_5_5, a0_5_6, a0_5_7, a0_5_8, a0_5_9, fa0_4, fa0_5_10, fa0_5_11, a0_5_14_0, fa0_5_14_2, fa0_5_14_3, fa0_5_13, fa0_5_12))))))))))
def Gf_X3_readLine_74_2 (a0_1 : Int) (a0_2 : Int) (a0_6 : Int) (a0_7 : Int) (a0_8 : Int) (a0_9 : Int) (a0_10 : Int) (a0_11 : Int) (a0_12 : Int) (a0_13 : Int) (a0_5_0 : Int) (a0_5_1 : Int) (a0_5_2 : Int) (a0_5_3 : Int) (a0_5_4 : Int) (a0_5_5 : Int) (a0_5_6 : Int) (a0_5_7 : Int) (a0_5_8 : Int) (a0_5_9 : Int) (fa0_3 : (Nat → Int)) (fa0_4 : (Nat → Int)) (fa0_5_10 : (Nat → Int)) (fa0_5_11 : (Nat → Int)) (a0_5_14_0 : Int) (fa0_5_14_2 : (Nat → Int)) (fa0_5_14_3 : (Nat → Int)) (fa0_5_13 : (Nat → Int)) (fa0_5_12 : (Nat → Int)) : Int × Int × Int × Int × Int × Int × Int × Int × Int × Int × Int × Int × Int × Int × Int × Int × Int × Int × Int × Int × (Nat → Int) × (Nat → Int) × (Nat → Int) × Int × (Nat → Int) × (Nat → Int) × (Nat → Int) × (Nat → Int) :=
  if a0_5_0 = 0 then (fl_c3 (Ff_X3_fails 6 a0_8) (fun r87 v87na0_1 v87na0_2 => (0, v87na0_1, v87na0_2, a0_6, a0_8, a0_9, a0_10, a0_11, a0_12, a0_13, a0_5_0, a0_5_1, a0_5_2, a0_5_3, a0_5_4, a0_5_5, a0_5_6, a0_5_7, a0_5_8, a0_5_9, fa0_4, fa0_5_10, fa0_5_11, a0_5_14_0, fa0_5_14_2, fa0_5_14_3, fa0_5_13, fa0_5_12))) else (fl_lt (Ff_X3_isWord a0_10 a0_11 3 (fl_A (sxc 1))) (fun r94 => if r94 = 1 then (if a0_5_4 = 0 then (fl_c13 (Ff_X3_readLaw a0_1 a0_2 a0_7 a0_9 a0_11 a0_12 a0_13 fa0_3 a0_5_0 a0_5_4 a0_5_5 a0_5_6 a0_5_7) (fun r119 v119na0_1 v119na0_2 v119na0_8 v119na0_9 v119na0_10 v119na0_11 v119na0_12 v119na0_13 v119na0_5_4 v119na0_5_5 v119na0_5_6 v119na0_5_7 => if r119 = 1 then ((1, v119na0_1, v119na0_2, a0_6, v119na0_8, v119na0_9, v119na0_10, v119na0_11, v119na0_12, v119na0_13, a0_5_0, a0_5_1, a0_5_2, a0_5_3, v119na0_5_4, v119na0_5_5, v119na0_5_6, v119na0_5_7, a0_5_8, a0_5_9, fa0_4, fa0_5_10, fa0_5_11, a0_5_14_0, fa0_5_14_2, fa0_5_14_3, fa0_5_13, fa0_5_12)) else ((0, v119na0_1, v119na0_2, a0_6, v119na0_8, v119na0_9, v119na0_10, v119na0_11, v119na0_12, v119na0_13, a0_5_0, a0_5_1, a0_5_2, a0_5_3, v119na0_5_4, v119na0_5_5, v119na0_5_6, v119na0_5_7, a0_5_8, a0_5_9, fa0_4, fa0_5_10, fa0_5_11, a0_5_14_0, fa0_5_14_2, fa0_5_14_3, fa0_5_13, fa0_5_12)))) else (fl_c3 (Ff_X3_fails 3 a0_8) (fun r112 v112na0_1 v112na0_2 => (0, v112na0_1, v112na0_2, a0_6, a0_8, a0_9, a0_10, a0_11, a0_12, a0_13, a0_5_0, a0_5_1, a0_5_2, a0_5_3, a0_5_4, a0_5_5, a0_5_6, a0_5_7, a0_5_8, a0_5_9, fa0_4, fa0_5_10, fa0_5_11, a0_5_14_0, fa0_5_14_2, fa0_5_14_3, fa0_5_13, fa0_5_12)))) else (fl_lt (Ff_X3_isWord a0_10 a0_11 6 (fl_A (sxc 2))) (fun r126 => if r126 = 1 then (fl_lt (Ff_J6_bitCount_0f7a4 a0_5_8) (fun r139 => if r139 < 9 then (fl_c14 (Ff_X3_readFigure a0_1 a0_2 a0_6 a0_7 a0_9 a0_11 a0_12 a0_13 fa0_3 fa0_4 a0_5_0 a0_5_8 fa0_5_10 fa0_5_11) (fun r156 v156na0_1 v156na0_2 v156na0_6 v156na0_8 v156na0_9 v156na0_10 v156na0_11 v156na0_12 v156na0_13 v156nfa0_4 v156na0_5_8 v156nfa0_5_10 v156nfa0_5_11 => if r156 = 1 then ((1, v156na0_1, v156na0_2, v156na0_6, v156na0_8, v156na0_9, v156na0_10, v156na0_11, v156na0_12, v156na0_13, a0_5_0, a0_5_1, a0_5_2, a0_5_3, a0_5_4, a0_5_5, a0_5_6, a0_5_7, v156na0_5_8, a0_5_9, v156nfa0_4, v156nfa0_5_10, v156nfa0_5_11, a0_5_14_0, fa0_5_14_2, fa0_5_14_3, fa0_5_13, fa0_5_12)) else ((0, v156na0_1, v156na0_2, v156na0_6, v156na0_8, v156na0_9, v156na0_10, v156na0_11, v156na0_12, v156na0_13, a0_5_0, a0_5_1, a0_5_2, a0_5_3, a0_5_4, a0_5_5, a0_5_6, a0_5_7, v156na0_5_8, a0_5_9, v156nfa0_4, v156nfa0_5_10, v156nfa0_5_11, a0_5_14_0, fa0_5_14_2, fa0_5_14_3, fa0_5_13, fa0_5_12)))) else (fl_c3 (Ff_X3_fails 5 a0_8) (fun r149 v149na0_1 v149na0_2 => (0, v149na0_1, v149na0_2, a0_6, a0_8, a0_9, a0_10, a0_11, a0_12, a0_13, a0_5_0, a0_5_1, a0_5_2, a0_5_3, a0_5_4, a0_5_5, a0_5_6, a0_5_7, a0_5_8, a0_5_9, fa0_4, fa0_5_10, fa0_5_11, a0_5_14_0, fa0_5_14_2, fa0_5_14_3, fa0_5_13, fa0_5_12))))) else (fl_lt (Ff_X3_isWord a0_10 a0_11 7 (fl_A (sxc 3))) (fun r163 => if r163 = 1 then (if a0_5_14_0 < 3 then (fl_c14 (Ff_X3_readWatcher a0_1 a0_2 a0_6 a0_7 a0_9 a0_11 a0_12 a0_13 fa0_3 fa0_4 a0_5_0 a0_5_14_0 fa0_5_14_2 fa0_5_14_3) (fun r192 v192na0_1 v192na0_2 v192na0_6 v192na0_8 v192na0_9 v192na0_10 v192na0_11 v192na0_12 v192na0_13 v192nfa0_4 v192na0_5_14_0 v192nfa0_5_14_2 v192nfa0_5_14_3 => if r192 = 1 then ((1, v192na0_1, v192na0_2, v192na0_6, v192na0_8, v192na0_9, v192na0_10, v192na0_11, v192na0_12, v192na0_13, a0_5_0, a0_5_1, a0_5_2, a0_5_3, a0_5_4, a0_5_5, a0_5_6, a0_5_7, a0_5_8, a0_5_9, v192nfa0_4, fa0_5_10, fa0_5_11, v192na0_5_14_0, v192nfa0_5_14_2, v192nfa0_5_14_3, fa0_5_13, fa0_5_12)) else ((0, v192na0_1, v192na0_2, v192na0_6, v192na0_8, v192na0_9, v192na0_10, v192na0_11, v192na0_12, v192na0_13, a0_5_0, a0_5_1, a0_5_2, a0_5_3, a0_5_4, a0_5_5, a0_5_6, a0_5_7, a0_5_8, a0_5_9, v192nfa0_4, fa0_5_10, fa0_5_11, v192na0_5_14_0, v192nfa0_5_14_2, v192nfa0_5_14_3, fa0_5_13, fa0_5_12)))) else (fl_c3 (Ff_X3_fails 5 a0_8) (fun r185 v185na0_1 v185na0_2 => (0, v185na0_1, v185na0_2, a0_6, a0_8, a0_9, a0_10, a0_11, a0_12, a0_13, a0_5_0, a0_5_1, a0_5_2, a0_5_3, a0_5_4, a0_5_5, a0_5_6, a0_5_7, a0_5_8, a0_5_9, fa0_4, fa0_5_10, fa0_5_11, a0_5_14_0, fa0_5_14_2, fa0_5_14_3, fa0_5_13, fa0_5_12)))) else (if a0_5_9 < 6 then (fl_c12 (Ff_X3_readSeen a0_1 a0_2 a0_7 a0_8 a0_9 a0_10 a0_11 a0_12 a0_13 a0_5_0 a0_5_9 fa0_3 fa0_5_13 fa0_5_12) (fun r217 v217na0_1 v217na0_2 v217na0_8 v217na0_9 v217na0_10 v217na0_11 v217na0_12 v217na0_13 v217na0_5_9 v217nfa0_5_13 v217nfa0_5_12 => if r217 = 1 then ((1, v217na0_1, v217na0_2, a0_6, v217na0_8, v217na0_9, v217na0_10, v217na0_11, v217na0_12, v217na0_13, a0_5_0, a0_5_1, a0_5_2, a0_5_3, a0_5_4, a0_5_5, a0_5_6, a0_5_7, a0_5_8, v217na0_5_9, fa0_4, fa0_5_10, fa0_5_11, a0_5_14_0, fa0_5_14_2, fa0_5_14_3, v217nfa0_5_13, v217nfa0_5_12)) else ((0, v217na0_1, v217na0_2, a0_6, v217na0_8, v217na0_9, v217na0_10, v217na0_11, v217na0_12, v217na0_13, a0_5_0, a0_5_1, a0_5_2, a0_5_3, a0_5_4, a0_5_5, a0_5_6, a0_5_7, a0_5_8, v217na0_5_9, fa0_4, fa0_5_10, fa0_5_11, a0_5_14_0, fa0_5_14_2, fa0_5_14_3, v217nfa0_5_13, v217nfa0_5_12)))) else (fl_c3 (Ff_X3_fails 5 a0_8) (fun r210 v210na0_1 v210na0_2 => (0, v210na0_1, v210na0_2, a0_6, a0_8, a0_9, a0_10, a0_11, a0_12, a0_13, a0_5_0, a0_5_1, a0_5_2, a0_5_3, a0_5_4, a0_5_5, a0_5_6, a0_5_7, a0_5_8, a0_5_9, fa0_4, fa0_5_10, fa0_5_11, a0_5_14_0, fa0_5_14_2, fa0_5_14_3, fa0_5_13, fa0_5_12))))))))))
def Ff_X3_readLine (a0_1 : Int) (a0_2 : Int) (a0_6 : Int) (a0_7 : Int) (a0_8 : Int) (a0_9 : Int) (a0_10 : Int) (a0_11 : Int) (a0_12 : Int) (a0_13 : Int) (a0_5_0 : Int) (a0_5_1 : Int) (a0_5_2 : Int) (a0_5_3 : Int) (a0_5_4 : Int) (a0_5_5 : Int) (a0_5_6 : Int) (a0_5_7 : Int) (a0_5_8 : Int) (a0_5_9 : Int) (fa0_3 : (Nat → Int)) (fa0_4 : (Nat → Int)) (fa0_5_10 : (Nat → Int)) (fa0_5_11 : (Nat → Int)) (a0_5_14_0 : Int) (fa0_5_14_2 : (Nat → Int)) (fa0_5_14_3 : (Nat → Int)) (fa0_5_13 : (Nat → Int)) (fa0_5_12 : (Nat → Int)) : Int × Int × Int × Int × Int × Int × Int × Int × Int × Int × Int × Int × Int × Int × Int × Int × Int × Int × Int × Int × (Nat → Int) × (Nat → Int) × (Nat → Int) × Int × (Nat → Int) × (Nat → Int) × (Nat → Int) × (Nat → Int) :=
  fl_lt (Ff_X3_isWord a0_10 a0_11 7 (fl_A (sxc 0))) (fun r3 => if r3 = 1 then (if a0_5_0 ≤ 0 then (fl_c13 (Ff_X3_readHall a0_1 a0_2 a0_7 a0_9 a0_11 a0_12 a0_13 fa0_3 a0_5_0 a0_5_1 a0_5_2 a0_5_3) (fun r28 v28na0_1 v28na0_2 v28na0_8 v28na0_9 v28na0_10 v28na0_11 v28na0_12 v28na0_13 v28na0_5_0 v28na0_5_1 v28na0_5_2 v28na0_5_3 => if r28 = 1 then ((1, v28na0_1, v28na0_2, a0_6, v28na0_8, v28na0_9, v28na0_10, v28na0_11, v28na0_12, v28na0_13, v28na0_5_0, v28na0_5_1, v28na0_5_2, v28na0_5_3, a0_5_4, a0_5_5, a0_5_6, a0_5_7, a0_5_8, a0_5_9, fa0_4, fa0_5_10, fa0_5_11, a0_5_14_0, fa0_5_14_2, fa0_5_14_3, fa0_5_13, fa0_5_12)) else ((0, v28na0_1, v28na0_2, a0_6, v28na0_8, v28na0_9, v28na0_10, v28na0_11, v28na0_12, v28na0_13, v28na0_5_0, v28na0_5_1, v28na0_5_2, v28na0_5_3, a0_5_4, a0_5_5, a0_5_6, a0_5_7, a0_5_8, a0_5_9, fa0_4, fa0_5_10, fa0_5_11, a0_5_14_0, fa0_5_14_2, fa0_5_14_3, fa0_5_13, fa0_5_12)))) else (fl_c3 (Ff_X3_fails 3 a0_8) (fun r21 v21na0_1 v21na0_2 => (0, v21na0_1, v21na0_2, a0_6, a0_8, a0_9, a0_10, a0_11, a0_12, a0_13, a0_5_0, a0_5_1, a0_5_2, a0_5_3, a0_5_4, a0_5_5, a0_5_6, a0_5_7, a0_5_8, a0_5_9, fa0_4, fa0_5_10, fa0_5_11, a0_5_14_0, fa0_5_14_2, fa0_5_14_3, fa0_5_13, fa0_5_12)))) else (fl_lt (Ff_X3_isWord a0_10 a0_11 3 (fl_A (sxc 1))) (fun r35 => if r35 = 1 then (Gf_X3_readLine_74_1 a0_1 a0_2 a0_6 a0_7 a0_8 a0_9 a0_10 a0_11 a0_12 a0_13 a0_5_0 a0_5_1 a0_5_2 a0_5_3 a0_5_4 a0_5_5 a0_5_6 a0_5_7 a0_5_8 a0_5_9 fa0_3 fa0_4 fa0_5_10 fa0_5_11 a0_5_14_0 fa0_5_14_2 fa0_5_14_3 fa0_5_13 fa0_5_12) else (fl_lt (Ff_X3_isWord a0_10 a0_11 6 (fl_A (sxc 2))) (fun r44 => if r44 = 1 then (Gf_X3_readLine_74_2 a0_1 a0_2 a0_6 a0_7 a0_8 a0_9 a0_10 a0_11 a0_12 a0_13 a0_5_0 a0_5_1 a0_5_2 a0_5_3 a0_5_4 a0_5_5 a0_5_6 a0_5_7 a0_5_8 a0_5_9 fa0_3 fa0_4 fa0_5_10 fa0_5_11 a0_5_14_0 fa0_5_14_2 fa0_5_14_3 fa0_5_13 fa0_5_12) else (fl_lt (Ff_X3_isWord a0_10 a0_11 7 (fl_A (sxc 3))) (fun r53 => if r53 = 1 then (Gf_X3_readLine_74_2 a0_1 a0_2 a0_6 a0_7 a0_8 a0_9 a0_10 a0_11 a0_12 a0_13 a0_5_0 a0_5_1 a0_5_2 a0_5_3 a0_5_4 a0_5_5 a0_5_6 a0_5_7 a0_5_8 a0_5_9 fa0_3 fa0_4 fa0_5_10 fa0_5_11 a0_5_14_0 fa0_5_14_2 fa0_5_14_3 fa0_5_13 fa0_5_12) else (fl_lt (Ff_X3_isWord a0_10 a0_11 4 (fl_A (sxc 4))) (fun r62 => if r62 = 1 then (Gf_X3_readLine_74_2 a0_1 a0_2 a0_6 a0_7 a0_8 a0_9 a0_10 a0_11 a0_12 a0_13 a0_5_0 a0_5_1 a0_5_2 a0_5_3 a0_5_4 a0_5_5 a0_5_6 a0_5_7 a0_5_8 a0_5_9 fa0_3 fa0_4 fa0_5_10 fa0_5_11 a0_5_14_0 fa0_5_14_2 fa0_5_14_3 fa0_5_13 fa0_5_12) else (fl_c3 (Ff_X3_fails 1 a0_8) (fun r70 v70na0_1 v70na0_2 => (0, v70na0_1, v70na0_2, a0_6, a0_8, a0_9, a0_10, a0_11, a0_12, a0_13, a0_5_0, a0_5_1, a0_5_2, a0_5_3, a0_5_4, a0_5_5, a0_5_6, a0_5_7, a0_5_8, a0_5_9, fa0_4, fa0_5_10, fa0_5_11, a0_5_14_0, fa0_5_14_2, fa0_5_14_3, fa0_5_13, fa0_5_12))))))))))))

def Gf_X3_read_89_1 (x6 : Int) (j55l2 : Int) (j55a0_1 : Int) (j55a0_2 : Int) (j55a0_6 : Int) (j55a0_8 : Int) (j55a0_9 : Int) (j55a0_10 : Int) (j55a0_11 : Int) (j55a0_12 : Int) (j55a0_13 : Int) (j55a0_5_0 : Int) (j55a0_5_1 : Int) (j55a0_5_2 : Int) (j55a0_5_3 : Int) (j55a0_5_4 : Int) (j55a0_5_5 : Int) (j55a0_5_6 : Int) (j55a0_5_7 : Int) (j55a0_5_8 : Int) (j55a0_5_9 : Int) (j55a0_5_14_0 : Int) (j55a0_5_10_a : (Nat → Int)) (j55a0_5_11_a : (Nat → Int)) (j55a0_4_a : (Nat → Int)) (j55a0_5_14_2_a : (Nat → Int)) (j55a0_5_14_3_a : (Nat → Int)) (j55a0_5_13_a : (Nat → Int)) (j55a0_5_12_a : (Nat → Int)) : Int × Int × Int × Int × Int × Int × Int × Int × Int × Int × Int × Int × Int × Int × Int × Int × Int × Int × Int × Int × Int × Int × (Nat → Int) × (Nat → Int) × (Nat → Int) × (Nat → Int) × (Nat → Int) × (Nat → Int) × (Nat → Int) :=
  if j55l2 = 0 then ((0, j55a0_1, j55a0_2, j55a0_6, x6, j55a0_8, j55a0_9, j55a0_10, j55a0_11, j55a0_12, j55a0_13, j55a0_5_0, j55a0_5_1, j55a0_5_2, j55a0_5_3, j55a0_5_4, j55a0_5_5, j55a0_5_6, j55a0_5_7, j55a0_5_8, j55a0_5_9, j55a0_5_14_0, j55a0_5_10_a, j55a0_5_11_a, j55a0_4_a, j55a0_5_14_2_a, j55a0_5_14_3_a, j55a0_5_13_a, j55a0_5_12_a)) else (if j55a0_10 = 0 then (if j55a0_5_4 = 0 then (fl_c3 (Ff_X3_fails 6 j55a0_8) (fun r121 v121na0_1 v121na0_2 => (0, v121na0_1, v121na0_2, j55a0_6, x6, j55a0_8, j55a0_9, j55a0_10, j55a0_11, j55a0_12, j55a0_13, j55a0_5_0, j55a0_5_1, j55a0_5_2, j55a0_5_3, j55a0_5_4, j55a0_5_5, j55a0_5_6, j55a0_5_7, j55a0_5_8, j55a0_5_9, j55a0_5_14_0, j55a0_5_10_a, j55a0_5_11_a, j55a0_4_a, j55a0_5_14_2_a, j55a0_5_14_3_a, j55a0_5_13_a, j55a0_5_12_a))) else ((1, j55a0_1, j55a0_2, j55a0_6, x6, j55a0_8, j55a0_9, j55a0_10, j55a0_11, j55a0_12, j55a0_13, j55a0_5_0, j55a0_5_1, j55a0_5_2, j55a0_5_3, j55a0_5_4, j55a0_5_5, j55a0_5_6, j55a0_5_7, j55a0_5_8, j55a0_5_9, j55a0_5_14_0, j55a0_5_10_a, j55a0_5_11_a, j55a0_4_a, j55a0_5_14_2_a, j55a0_5_14_3_a, j55a0_5_13_a, j55a0_5_12_a))) else (fl_c3 (Ff_X3_fails 1 j55a0_8) (fun r104 v104na0_1 v104na0_2 => (0, v104na0_1, v104na0_2, j55a0_6, x6, j55a0_8, j55a0_9, j55a0_10, j55a0_11, j55a0_12, j55a0_13, j55a0_5_0, j55a0_5_1, j55a0_5_2, j55a0_5_3, j55a0_5_4, j55a0_5_5, j55a0_5_6, j55a0_5_7, j55a0_5_8, j55a0_5_9, j55a0_5_14_0, j55a0_5_10_a, j55a0_5_11_a, j55a0_4_a, j55a0_5_14_2_a, j55a0_5_14_3_a, j55a0_5_13_a, j55a0_5_12_a))))
def Sf_X3_read_55_1 (fa0_3 : (Nat → Int)) (x6 : Int) (j55l3 : Int) (j55l2 : Int) (j55a0_1 : Int) (j55a0_2 : Int) (j55a0_6 : Int) (j55a0_8 : Int) (j55a0_9 : Int) (j55a0_10 : Int) (j55a0_11 : Int) (j55a0_12 : Int) (j55a0_13 : Int) (j55a0_5_0 : Int) (j55a0_5_1 : Int) (j55a0_5_2 : Int) (j55a0_5_3 : Int) (j55a0_5_4 : Int) (j55a0_5_5 : Int) (j55a0_5_6 : Int) (j55a0_5_7 : Int) (j55a0_5_8 : Int) (j55a0_5_9 : Int) (j55a0_5_14_0 : Int) (j55a0_5_10_a : (Nat → Int)) (j55a0_5_11_a : (Nat → Int)) (j55a0_4_a : (Nat → Int)) (j55a0_5_14_2_a : (Nat → Int)) (j55a0_5_14_3_a : (Nat → Int)) (j55a0_5_13_a : (Nat → Int)) (j55a0_5_12_a : (Nat → Int)) : Sum (Int × Int × Int × Int × Int × Int × Int × Int × Int × Int × Int × Int × Int × Int × Int × Int × Int × Int × Int × Int × Int × Int × (Nat → Int) × (Nat → Int) × (Nat → Int) × (Nat → Int) × (Nat → Int) × (Nat → Int) × (Nat → Int)) (Int × Int × Int × Int × Int × Int × Int × Int × Int × Int × Int × Int × Int × Int × Int × Int × Int × Int × Int × Int × Int × Int × (Nat → Int) × (Nat → Int) × (Nat → Int) × (Nat → Int) × (Nat → Int) × (Nat → Int) × (Nat → Int)) :=
  if j55l2 = 0 then (Sum.inr (Gf_X3_read_89_1 x6 j55l2 j55a0_1 j55a0_2 j55a0_6 j55a0_8 j55a0_9 j55a0_10 j55a0_11 j55a0_12 j55a0_13 j55a0_5_0 j55a0_5_1 j55a0_5_2 j55a0_5_3 j55a0_5_4 j55a0_5_5 j55a0_5_6 j55a0_5_7 j55a0_5_8 j55a0_5_9 j55a0_5_14_0 j55a0_5_10_a j55a0_5_11_a j55a0_4_a j55a0_5_14_2_a j55a0_5_14_3_a j55a0_5_13_a j55a0_5_12_a)) else (if j55a0_10 = 3 then (if 900 ≤ j55l3 then (Sum.inr (Gf_X3_read_89_1 x6 j55l2 j55a0_1 j55a0_2 j55a0_6 j55a0_8 j55a0_9 j55a0_10 j55a0_11 j55a0_12 j55a0_13 j55a0_5_0 j55a0_5_1 j55a0_5_2 j55a0_5_3 j55a0_5_4 j55a0_5_5 j55a0_5_6 j55a0_5_7 j55a0_5_8 j55a0_5_9 j55a0_5_14_0 j55a0_5_10_a j55a0_5_11_a j55a0_4_a j55a0_5_14_2_a j55a0_5_14_3_a j55a0_5_13_a j55a0_5_12_a)) else (fl_c5 (Ff_X3_advance x6 j55a0_9 j55a0_11 j55a0_12 fa0_3) (fun v75na0_8 v75na0_9 v75na0_10 v75na0_11 v75na0_12 => fl_c28 (Ff_X3_readLine j55a0_1 j55a0_2 j55a0_6 x6 v75na0_8 v75na0_9 v75na0_10 v75na0_11 v75na0_12 j55a0_13 j55a0_5_0 j55a0_5_1 j55a0_5_2 j55a0_5_3 j55a0_5_4 j55a0_5_5 j55a0_5_6 j55a0_5_7 j55a0_5_8 j55a0_5_9 fa0_3 j55a0_4_a j55a0_5_10_a j55a0_5_11_a j55a0_5_14_0 j55a0_5_14_2_a j55a0_5_14_3_a j55a0_5_13_a j55a0_5_12_a) (fun r79 v79na0_1 v79na0_2 v79na0_6 v79na0_8 v79na0_9 v79na0_10 v79na0_11 v79na0_12 v79na0_13 v79na0_5_0 v79na0_5_1 v79na0_5_2 v79na0_5_3 v79na0_5_4 v79na0_5_5 v79na0_5_6 v79na0_5_7 v79na0_5_8 v79na0_5_9 v79nfa0_4 v79nfa0_5_10 v79nfa0_5_11 v79na0_5_14_0 v79nfa0_5_14_2 v79nfa0_5_14_3 v79nfa0_5_13 v79nfa0_5_12 => if r79 = 1 then (fl_lt (j55l3 + 1) (fun x83 => Sum.inl (x83, 1, v79na0_1, v79na0_2, v79na0_6, v79na0_8, v79na0_9, v79na0_10, v79na0_11, v79na0_12, v79na0_13, v79na0_5_0, v79na0_5_1, v79na0_5_2, v79na0_5_3, v79na0_5_4, v79na0_5_5, v79na0_5_6, v79na0_5_7, v79na0_5_8, v79na0_5_9, v79na0_5_14_0, v79nfa0_5_10, v79nfa0_5_11, v79nfa0_4, v79nfa0_5_14_2, v79nfa0_5_14_3, v79nfa0_5_13, v79nfa0_5_12))) else (fl_lt (j55l3 + 1) (fun x83 => Sum.inl (x83, 0, v79na0_1, v79na0_2, v79na0_6, v79na0_8, v79na0_9, v79na0_10, v79na0_11, v79na0_12, v79na0_13, v79na0_5_0, v79na0_5_1, v79na0_5_2, v79na0_5_3, v79na0_5_4, v79na0_5_5, v79na0_5_6, v79na0_5_7, v79na0_5_8, v79na0_5_9, v79na0_5_14_0, v79nfa0_5_10, v79nfa0_5_11, v79nfa0_4, v79nfa0_5_14_2, v79nfa0_5_14_3, v79nfa0_5_13, v79nfa0_5_12))))))) else (Sum.inr (Gf_X3_read_89_1 x6 j55l2 j55a0_1 j55a0_2 j55a0_6 j55a0_8 j55a0_9 j55a0_10 j55a0_11 j55a0_12 j55a0_13 j55a0_5_0 j55a0_5_1 j55a0_5_2 j55a0_5_3 j55a0_5_4 j55a0_5_5 j55a0_5_6 j55a0_5_7 j55a0_5_8 j55a0_5_9 j55a0_5_14_0 j55a0_5_10_a j55a0_5_11_a j55a0_4_a j55a0_5_14_2_a j55a0_5_14_3_a j55a0_5_13_a j55a0_5_12_a)))
def Gf_X3_read_89_2 (x6 : Int) (j55l2 : Int) (j55a0_1 : Int) (j55a0_2 : Int) (j55a0_6 : Int) (j55a0_8 : Int) (j55a0_9 : Int) (j55a0_10 : Int) (j55a0_11 : Int) (j55a0_12 : Int) (j55a0_13 : Int) (j55a0_5_0 : Int) (j55a0_5_1 : Int) (j55a0_5_2 : Int) (j55a0_5_3 : Int) (j55a0_5_4 : Int) (j55a0_5_5 : Int) (j55a0_5_6 : Int) (j55a0_5_7 : Int) (j55a0_5_8 : Int) (j55a0_5_9 : Int) (j55a0_5_14_0 : Int) (j55a0_5_10_a : (Nat → Int)) (j55a0_5_11_a : (Nat → Int)) (j55a0_4_a : (Nat → Int)) (j55a0_5_14_2_a : (Nat → Int)) (j55a0_5_14_3_a : (Nat → Int)) (j55a0_5_13_a : (Nat → Int)) (j55a0_5_12_a : (Nat → Int)) : Int × Int × Int × Int × Int × Int × Int × Int × Int × Int × Int × Int × Int × Int × Int × Int × Int × Int × Int × Int × Int × Int × (Nat → Int) × (Nat → Int) × (Nat → Int) × (Nat → Int) × (Nat → Int) × (Nat → Int) × (Nat → Int) :=
  if j55l2 = 0 then ((0, j55a0_1, j55a0_2, j55a0_6, x6, j55a0_8, j55a0_9, j55a0_10, j55a0_11, j55a0_12, j55a0_13, j55a0_5_0, j55a0_5_1, j55a0_5_2, j55a0_5_3, j55a0_5_4, j55a0_5_5, j55a0_5_6, j55a0_5_7, j55a0_5_8, j55a0_5_9, j55a0_5_14_0, j55a0_5_10_a, j55a0_5_11_a, j55a0_4_a, j55a0_5_14_2_a, j55a0_5_14_3_a, j55a0_5_13_a, j55a0_5_12_a)) else (if j55a0_10 = 0 then (if j55a0_5_4 = 0 then (fl_c3 (Ff_X3_fails 6 j55a0_8) (fun r121 v121na0_1 v121na0_2 => (0, v121na0_1, v121na0_2, j55a0_6, x6, j55a0_8, j55a0_9, j55a0_10, j55a0_11, j55a0_12, j55a0_13, j55a0_5_0, j55a0_5_1, j55a0_5_2, j55a0_5_3, j55a0_5_4, j55a0_5_5, j55a0_5_6, j55a0_5_7, j55a0_5_8, j55a0_5_9, j55a0_5_14_0, j55a0_5_10_a, j55a0_5_11_a, j55a0_4_a, j55a0_5_14_2_a, j55a0_5_14_3_a, j55a0_5_13_a, j55a0_5_12_a))) else ((1, j55a0_1, j55a0_2, j55a0_6, x6, j55a0_8, j55a0_9, j55a0_10, j55a0_11, j55a0_12, j55a0_13, j55a0_5_0, j55a0_5_1, j55a0_5_2, j55a0_5_3, j55a0_5_4, j55a0_5_5, j55a0_5_6, j55a0_5_7, j55a0_5_8, j55a0_5_9, j55a0_5_14_0, j55a0_5_10_a, j55a0_5_11_a, j55a0_4_a, j55a0_5_14_2_a, j55a0_5_14_3_a, j55a0_5_13_a, j55a0_5_12_a))) else (fl_c3 (Ff_X3_fails 1 j55a0_8) (fun r104 v104na0_1 v104na0_2 => (0, v104na0_1, v104na0_2, j55a0_6, x6, j55a0_8, j55a0_9, j55a0_10, j55a0_11, j55a0_12, j55a0_13, j55a0_5_0, j55a0_5_1, j55a0_5_2, j55a0_5_3, j55a0_5_4, j55a0_5_5, j55a0_5_6, j55a0_5_7, j55a0_5_8, j55a0_5_9, j55a0_5_14_0, j55a0_5_10_a, j55a0_5_11_a, j55a0_4_a, j55a0_5_14_2_a, j55a0_5_14_3_a, j55a0_5_13_a, j55a0_5_12_a))))
def Sf_X3_read_55_2 (fa0_3 : (Nat → Int)) (x6 : Int) (j55l3 : Int) (j55l2 : Int) (j55a0_1 : Int) (j55a0_2 : Int) (j55a0_6 : Int) (j55a0_8 : Int) (j55a0_9 : Int) (j55a0_10 : Int) (j55a0_11 : Int) (j55a0_12 : Int) (j55a0_13 : Int) (j55a0_5_0 : Int) (j55a0_5_1 : Int) (j55a0_5_2 : Int) (j55a0_5_3 : Int) (j55a0_5_4 : Int) (j55a0_5_5 : Int) (j55a0_5_6 : Int) (j55a0_5_7 : Int) (j55a0_5_8 : Int) (j55a0_5_9 : Int) (j55a0_5_14_0 : Int) (j55a0_5_10_a : (Nat → Int)) (j55a0_5_11_a : (Nat → Int)) (j55a0_4_a : (Nat → Int)) (j55a0_5_14_2_a : (Nat → Int)) (j55a0_5_14_3_a : (Nat → Int)) (j55a0_5_13_a : (Nat → Int)) (j55a0_5_12_a : (Nat → Int)) : Sum (Int × Int × Int × Int × Int × Int × Int × Int × Int × Int × Int × Int × Int × Int × Int × Int × Int × Int × Int × Int × Int × Int × (Nat → Int) × (Nat → Int) × (Nat → Int) × (Nat → Int) × (Nat → Int) × (Nat → Int) × (Nat → Int)) (Int × Int × Int × Int × Int × Int × Int × Int × Int × Int × Int × Int × Int × Int × Int × Int × Int × Int × Int × Int × Int × Int × (Nat → Int) × (Nat → Int) × (Nat → Int) × (Nat → Int) × (Nat → Int) × (Nat → Int) × (Nat → Int)) :=
  if j55l2 = 0 then (Sum.inr (Gf_X3_read_89_2 x6 j55l2 j55a0_1 j55a0_2 j55a0_6 j55a0_8 j55a0_9 j55a0_10 j55a0_11 j55a0_12 j55a0_13 j55a0_5_0 j55a0_5_1 j55a0_5_2 j55a0_5_3 j55a0_5_4 j55a0_5_5 j55a0_5_6 j55a0_5_7 j55a0_5_8 j55a0_5_9 j55a0_5_14_0 j55a0_5_10_a j55a0_5_11_a j55a0_4_a j55a0_5_14_2_a j55a0_5_14_3_a j55a0_5_13_a j55a0_5_12_a)) else (if j55a0_10 = 3 then (if 900 ≤ j55l3 then (Sum.inr (Gf_X3_read_89_2 x6 j55l2 j55a0_1 j55a0_2 j55a0_6 j55a0_8 j55a0_9 j55a0_10 j55a0_11 j55a0_12 j55a0_13 j55a0_5_0 j55a0_5_1 j55a0_5_2 j55a0_5_3 j55a0_5_4 j55a0_5_5 j55a0_5_6 j55a0_5_7 j55a0_5_8 j55a0_5_9 j55a0_5_14_0 j55a0_5_10_a j55a0_5_11_a j55a0_4_a j55a0_5_14_2_a j55a0_5_14_3_a j55a0_5_13_a j55a0_5_12_a)) else (fl_c5 (Ff_X3_advance x6 j55a0_9 j55a0_11 j55a0_12 fa0_3) (fun v75na0_8 v75na0_9 v75na0_10 v75na0_11 v75na0_12 => fl_c28 (Ff_X3_readLine j55a0_1 j55a0_2 j55a0_6 x6 v75na0_8 v75na0_9 v75na0_10 v75na0_11 v75na0_12 j55a0_13 j55a0_5_0 j55a0_5_1 j55a0_5_2 j55a0_5_3 j55a0_5_4 j55a0_5_5 j55a0_5_6 j55a0_5_7 j55a0_5_8 j55a0_5_9 fa0_3 j55a0_4_a j55a0_5_10_a j55a0_5_11_a j55a0_5_14_0 j55a0_5_14_2_a j55a0_5_14_3_a j55a0_5_13_a j55a0_5_12_a) (fun r79 v79na0_1 v79na0_2 v79na0_6 v79na0_8 v79na0_9 v79na0_10 v79na0_11 v79na0_12 v79na0_13 v79na0_5_0 v79na0_5_1 v79na0_5_2 v79na0_5_3 v79na0_5_4 v79na0_5_5 v79na0_5_6 v79na0_5_7 v79na0_5_8 v79na0_5_9 v79nfa0_4 v79nfa0_5_10 v79nfa0_5_11 v79na0_5_14_0 v79nfa0_5_14_2 v79nfa0_5_14_3 v79nfa0_5_13 v79nfa0_5_12 => if r79 = 1 then (fl_lt (j55l3 + 1) (fun x83 => Sum.inl (x83, 1, v79na0_1, v79na0_2, v79na0_6, v79na0_8, v79na0_9, v79na0_10, v79na0_11, v79na0_12, v79na0_13, v79na0_5_0, v79na0_5_1, v79na0_5_2, v79na0_5_3, v79na0_5_4, v79na0_5_5, v79na0_5_6, v79na0_5_7, v79na0_5_8, v79na0_5_9, v79na0_5_14_0, v79nfa0_5_10, v79nfa0_5_11, v79nfa0_4, v79nfa0_5_14_2, v79nfa0_5_14_3, v79nfa0_5_13, v79nfa0_5_12))) else (fl_lt (j55l3 + 1) (fun x83 => Sum.inl (x83, 0, v79na0_1, v79na0_2, v79na0_6, v79na0_8, v79na0_9, v79na0_10, v79na0_11, v79na0_12, v79na0_13, v79na0_5_0, v79na0_5_1, v79na0_5_2, v79na0_5_3, v79na0_5_4, v79na0_5_5, v79na0_5_6, v79na0_5_7, v79na0_5_8, v79na0_5_9, v79na0_5_14_0, v79nfa0_5_10, v79nfa0_5_11, v79nfa0_4, v79nfa0_5_14_2, v79nfa0_5_14_3, v79nfa0_5_13, v79nfa0_5_12))))))) else (Sum.inr (Gf_X3_read_89_2 x6 j55l2 j55a0_1 j55a0_2 j55a0_6 j55a0_8 j55a0_9 j55a0_10 j55a0_11 j55a0_12 j55a0_13 j55a0_5_0 j55a0_5_1 j55a0_5_2 j55a0_5_3 j55a0_5_4 j55a0_5_5 j55a0_5_6 j55a0_5_7 j55a0_5_8 j55a0_5_9 j55a0_5_14_0 j55a0_5_10_a j55a0_5_11_a j55a0_4_a j55a0_5_14_2_a j55a0_5_14_3_a j55a0_5_13_a j55a0_5_12_a)))
def Ff_X3_read (a1 : Int) (a0_0 : Int) (a0_11 : Int) (a0_12 : Int) (a0_13 : Int) (a0_5_1 : Int) (a0_5_2 : Int) (a0_5_3 : Int) (a0_5_5 : Int) (a0_5_6 : Int) (a0_5_7 : Int) (fa0_5_10 : (Nat → Int)) (fa0_5_11 : (Nat → Int)) (fa0_3 : (Nat → Int)) (fa0_4 : (Nat → Int)) (fa0_5_14_2 : (Nat → Int)) (fa0_5_14_3 : (Nat → Int)) (fa0_5_13 : (Nat → Int)) (fa0_5_12 : (Nat → Int)) : Int × Int × Int × Int × Int × Int × Int × Int × Int × Int × Int × Int × Int × Int × Int × Int × Int × Int × Int × Int × Int × Int × (Nat → Int) × (Nat → Int) × (Nat → Int) × (Nat → Int) × (Nat → Int) × (Nat → Int) × (Nat → Int) :=
  fl_lt (fl_min a1 a0_0) (fun x6 => fl_c7 (Ff_X0_clear fa0_5_10 fa0_5_11) (fun v21na0_0 v21na0_4 v21na0_8 v21na0_9 v21na0_14_0 v21nfa0_10 v21nfa0_11 => fl_c5 (Ff_X3_advance x6 0 a0_11 a0_12 fa0_3) (fun v45na0_8 v45na0_9 v45na0_10 v45na0_11 v45na0_12 => fl_c28 (Ff_X3_readLine 0 (-1) 0 x6 v45na0_8 v45na0_9 v45na0_10 v45na0_11 v45na0_12 a0_13 v21na0_0 a0_5_1 a0_5_2 a0_5_3 v21na0_4 a0_5_5 a0_5_6 a0_5_7 v21na0_8 v21na0_9 fa0_3 fa0_4 v21nfa0_10 v21nfa0_11 v21na0_14_0 fa0_5_14_2 fa0_5_14_3 fa0_5_13 fa0_5_12) (fun r49 v49na0_1 v49na0_2 v49na0_6 v49na0_8 v49na0_9 v49na0_10 v49na0_11 v49na0_12 v49na0_13 v49na0_5_0 v49na0_5_1 v49na0_5_2 v49na0_5_3 v49na0_5_4 v49na0_5_5 v49na0_5_6 v49na0_5_7 v49na0_5_8 v49na0_5_9 v49nfa0_4 v49nfa0_5_10 v49nfa0_5_11 v49na0_5_14_0 v49nfa0_5_14_2 v49nfa0_5_14_3 v49nfa0_5_13 v49nfa0_5_12 => if r49 = 1 then (fl_wh (fun t9 => Sf_X3_read_55_1 fa0_3 x6 t9.1 t9.2.1 t9.2.2.1 t9.2.2.2.1 t9.2.2.2.2.1 t9.2.2.2.2.2.1 t9.2.2.2.2.2.2.1 t9.2.2.2.2.2.2.2.1 t9.2.2.2.2.2.2.2.2.1 t9.2.2.2.2.2.2.2.2.2.1 t9.2.2.2.2.2.2.2.2.2.2.1 t9.2.2.2.2.2.2.2.2.2.2.2.1 t9.2.2.2.2.2.2.2.2.2.2.2.2.1 t9.2.2.2.2.2.2.2.2.2.2.2.2.2.1 t9.2.2.2.2.2.2.2.2.2.2.2.2.2.2.1 t9.2.2.2.2.2.2.2.2.2.2.2.2.2.2.2.1 t9.2.2.2.2.2.2.2.2.2.2.2.2.2.2.2.2.1 t9.2.2.2.2.2.2.2.2.2.2.2.2.2.2.2.2.2.1 t9.2.2.2.2.2.2.2.2.2.2.2.2.2.2.2.2.2.2.1 t9.2.2.2.2.2.2.2.2.2.2.2.2.2.2.2.2.2.2.2.1 t9.2.2.2.2.2.2.2.2.2.2.2.2.2.2.2.2.2.2.2.2.1 t9.2.2.2.2.2.2.2.2.2.2.2.2.2.2.2.2.2.2.2.2.2.1 t9.2.2.2.2.2.2.2.2.2.2.2.2.2.2.2.2.2.2.2.2.2.2.1 t9.2.2.2.2.2.2.2.2.2.2.2.2.2.2.2.2.2.2.2.2.2.2.2.1 t9.2.2.2.2.2.2.2.2.2.2.2.2.2.2.2.2.2.2.2.2.2.2.2.2.1 t9.2.2.2.2.2.2.2.2.2.2.2.2.2.2.2.2.2.2.2.2.2.2.2.2.2.1 t9.2.2.2.2.2.2.2.2.2.2.2.2.2.2.2.2.2.2.2.2.2.2.2.2.2.2.1 t9.2.2.2.2.2.2.2.2.2.2.2.2.2.2.2.2.2.2.2.2.2.2.2.2.2.2.2.1 t9.2.2.2.2.2.2.2.2.2.2.2.2.2.2.2.2.2.2.2.2.2.2.2.2.2.2.2.2) (0, 0, 0, 0, 0, 0, 0, 0, 0, 0, 0, 0, 0, 0, 0, 0, 0, 0, 0, 0, 0, 0, (fun _ => 0), (fun _ => 0), (fun _ => 0), (fun _ => 0), (fun _ => 0), (fun _ => 0), (fun _ => 0)) 900 (1, 1, v49na0_1, v49na0_2, v49na0_6, v49na0_8, v49na0_9, v49na0_10, v49na0_11, v49na0_12, v49na0_13, v49na0_5_0, v49na0_5_1, v49na0_5_2, v49na0_5_3, v49na0_5_4, v49na0_5_5, v49na0_5_6, v49na0_5_7, v49na0_5_8, v49na0_5_9, v49na0_5_14_0, v49nfa0_5_10, v49nfa0_5_11, v49nfa0_4, v49nfa0_5_14_2, v49nfa0_5_14_3, v49nfa0_5_13, v49nfa0_5_12)) else (fl_wh (fun t9 => Sf_X3_read_55_2 fa0_3 x6 t9.1 t9.2.1 t9.2.2.1 t9.2.2.2.1 t9.2.2.2.2.1 t9.2.2.2.2.2.1 t9.2.2.2.2.2.2.1 t9.2.2.2.2.2.2.2.1 t9.2.2.2.2.2.2.2.2.1 t9.2.2.2.2.2.2.2.2.2.1 t9.2.2.2.2.2.2.2.2.2.2.1 t9.2.2.2.2.2.2.2.2.2.2.2.1 t9.2.2.2.2.2.2.2.2.2.2.2.2.1 t9.2.2.2.2.2.2.2.2.2.2.2.2.2.1 t9.2.2.2.2.2.2.2.2.2.2.2.2.2.2.1 t9.2.2.2.2.2.2.2.2.2.2.2.2.2.2.2.1 t9.2.2.2.2.2.2.2.2.2.2.2.2.2.2.2.2.1 t9.2.2.2.2.2.2.2.2.2.2.2.2.2.2.2.2.2.1 t9.2.2.2.2.2.2.2.2.2.2.2.2.2.2.2.2.2.2.1 t9.2.2.2.2.2.2.2.2.2.2.2.2.2.2.2.2.2.2.2.1 t9.2.2.2.2.2.2.2.2.2.2.2.2.2.2.2.2.2.2.2.2.1 t9.2.2.2.2.2.2.2.2.2.2.2.2.2.2.2.2.2.2.2.2.2.1 t9.2.2.2.2.2.2.2.2.2.2.2.2.2.2.2.2.2.2.2.2.2.2.1 t9.2.2.2.2.2.2.2.2.2.2.2.2.2.2.2.2.2.2.2.2.2.2.2.1 t9.2.2.2.2.2.2.2.2.2.2.2.2.2.2.2.2.2.2.2.2.2.2.2.2.1 t9.2.2.2.2.2.2.2.2.2.2.2.2.2.2.2.2.2.2.2.2.2.2.2.2.2.1 t9.2.2.2.2.2.2.2.2.2.2.2.2.2.2.2.2.2.2.2.2.2.2.2.2.2.2.1 t9.2.2.2.2.2.2.2.2.2.2.2.2.2.2.2.2.2.2.2.2.2.2.2.2.2.2.2.1 t9.2.2.2.2.2.2.2.2.2.2.2.2.2.2.2.2.2.2.2.2.2.2.2.2.2.2.2.2) (0, 0, 0, 0, 0, 0, 0, 0, 0, 0, 0, 0, 0, 0, 0, 0, 0, 0, 0, 0, 0, 0, (fun _ => 0), (fun _ => 0), (fun _ => 0), (fun _ => 0), (fun _ => 0), (fun _ => 0), (fun _ => 0)) 900 (1, 0, v49na0_1, v49na0_2, v49na0_6, v49na0_8, v49na0_9, v49na0_10, v49na0_11, v49na0_12, v49na0_13, v49na0_5_0, v49na0_5_1, v49na0_5_2, v49na0_5_3, v49na0_5_4, v49na0_5_5, v49na0_5_6, v49na0_5_7, v49na0_5_8, v49na0_5_9, v49na0_5_14_0, v49nfa0_5_10, v49nfa0_5_11, v49nfa0_4, v49nfa0_5_14_2, v49nfa0_5_14_3, v49nfa0_5_13, v49nfa0_5_12))))))
end P092231_defsC
section P092232_defsM
def Ff_X8_good : Int × Int :=
  (0, 0)

def Ff_X8_no (a1 : Int) : Int × Int :=
  ((-1), a1)

def Ff_X8_isNot (a1 : Int) : Int × Int :=
  (0, a1)

def Ff_X8_in (a1 : Int) (a2 : Int) (a3 : Int) : Int :=
  if a1 < a2 then (0) else (if a3 < a1 then (0) else (1))

def Ff_X8_isSmall (a1 : Int) : Int :=
  if a1 < 97 then (0) else (if 122 < a1 then (0) else (1))

def Ff_X8_isDigit (a1 : Int) : Int :=
  if a1 < 48 then (0) else (if 57 < a1 then (0) else (1))

def Ff_X8_see (a1 : Int) (a0_3 : Int) (fa0_1 : (Nat → Int)) : Int :=
  if a0_3 ≤ a1 then ((-1)) else (fl_lt (fa0_1 (a1.toNat)) (fun x13 => x13))

def Gf_X8_next_101_1 (j67l1 : Int) (j67a0_8 : Int) (j101a0_12_a : (Nat → Int)) : Sum (Int × Int × (Nat → Int)) (Int × Int × Int × Int × Int × (Nat → Int)) :=
  fl_lt (j67a0_8 + 1) (fun x107 => fl_lt (j67l1 + 1) (fun x111 => Sum.inl (x111, x107, j101a0_12_a)))
def Sf_X8_next_67_1 (a0_3 : Int) (fa0_1 : (Nat → Int)) (j5l1 : Int) (j67l1 : Int) (j67a0_8 : Int) (j67a0_12_a : (Nat → Int)) : Sum (Int × Int × (Nat → Int)) (Int × Int × Int × Int × Int × (Nat → Int)) :=
  fl_lt (Ff_X8_see j67l1 a0_3 fa0_1) (fun r69 => if a0_3 ≤ j67l1 then (fl_lt (Ff_X8_isSmall (-1)) (fun r72 => if r72 = 1 then ((Sum.inr (0, 0, 0, 0, 0, (fun _ => 0)))) else (Sum.inr (if j67a0_8 ≤ 8 then ((j5l1, j67l1, 2, 0, j67a0_8, j67a0_12_a)) else ((j5l1, j67l1, 1, 0, j67a0_8, j67a0_12_a)))))) else (fl_lt (Ff_X8_isSmall r69) (fun r72 => if r72 = 1 then (if 8 ≤ j67a0_8 then (Gf_X8_next_101_1 j67l1 j67a0_8 j67a0_12_a) else (fl_lt (Ff_X8_see j67l1 a0_3 fa0_1) (fun r97 => if a0_3 ≤ j67l1 then (fl_lt (fl_up j67a0_12_a (j67a0_8.toNat) (-1)) (fun f100 => Gf_X8_next_101_1 j67l1 j67a0_8 f100)) else (fl_lt (fl_up j67a0_12_a (j67a0_8.toNat) r97) (fun f100 => Gf_X8_next_101_1 j67l1 j67a0_8 f100))))) else (Sum.inr (if j67a0_8 ≤ 8 then ((j5l1, j67l1, 2, 0, j67a0_8, j67a0_12_a)) else ((j5l1, j67l1, 1, 0, j67a0_8, j67a0_12_a)))))))
def Gf_X8_next_101_2 (j67l1 : Int) (j67a0_8 : Int) (j101a0_12_a : (Nat → Int)) : Sum (Int × Int × (Nat → Int)) (Int × Int × Int × Int × Int × (Nat → Int)) :=
  fl_lt (j67a0_8 + 1) (fun x107 => fl_lt (j67l1 + 1) (fun x111 => Sum.inl (x111, x107, j101a0_12_a)))
def Sf_X8_next_67_2 (a0_3 : Int) (fa0_1 : (Nat → Int)) (j5l1 : Int) (j67l1 : Int) (j67a0_8 : Int) (j67a0_12_a : (Nat → Int)) : Sum (Int × Int × (Nat → Int)) (Int × Int × Int × Int × Int × (Nat → Int)) :=
  fl_lt (Ff_X8_see j67l1 a0_3 fa0_1) (fun r69 => if a0_3 ≤ j67l1 then (fl_lt (Ff_X8_isSmall (-1)) (fun r72 => if r72 = 1 then ((Sum.inr (0, 0, 0, 0, 0, (fun _ => 0)))) else (Sum.inr (if j67a0_8 ≤ 8 then ((j5l1, j67l1, 2, 0, j67a0_8, j67a0_12_a)) else ((j5l1, j67l1, 1, 0, j67a0_8, j67a0_12_a)))))) else (fl_lt (Ff_X8_isSmall r69) (fun r72 => if r72 = 1 then (if 8 ≤ j67a0_8 then (Gf_X8_next_101_2 j67l1 j67a0_8 j67a0_12_a) else (fl_lt (Ff_X8_see j67l1 a0_3 fa0_1) (fun r97 => if a0_3 ≤ j67l1 then (fl_lt (fl_up j67a0_12_a (j67a0_8.toNat) (-1)) (fun f100 => Gf_X8_next_101_2 j67l1 j67a0_8 f100)) else (fl_lt (fl_up j67a0_12_a (j67a0_8.toNat) r97) (fun f100 => Gf_X8_next_101_2 j67l1 j67a0_8 f100))))) else (Sum.inr (if j67a0_8 ≤ 8 then ((j5l1, j67l1, 2, 0, j67a0_8, j67a0_12_a)) else ((j5l1, j67l1, 1, 0, j67a0_8, j67a0_12_a)))))))
def Gf_X8_next_188_1 (j152l3 : Int) (j152l1 : Int) (j188a0_7 : Int) : Sum (Int × Int × Int) (Int × Int × Int × Int × Int × (Nat → Int)) :=
  fl_lt (fl_iadd j152l3 1) (fun x188 => fl_lt (j152l1 + 1) (fun x191 => Sum.inl (x188, x191, j188a0_7)))
def Sf_X8_next_152_1 (a0_3 : Int) (fa0_1 : (Nat → Int)) (fa0_12 : (Nat → Int)) (j5l1 : Int) (j152l3 : Int) (j152l1 : Int) (j152a0_7 : Int) : Sum (Int × Int × Int) (Int × Int × Int × Int × Int × (Nat → Int)) :=
  fl_lt (Ff_X8_see j152l1 a0_3 fa0_1) (fun r154 => if a0_3 ≤ j152l1 then (fl_lt (Ff_X8_isDigit (-1)) (fun r157 => if r157 = 1 then ((Sum.inr (0, 0, 0, 0, 0, (fun _ => 0)))) else (Sum.inr (if j152l3 ≤ 3 then ((j5l1, j152l1, 3, j152a0_7, 0, fa0_12)) else ((j5l1, j152l1, 1, j152a0_7, 0, fa0_12)))))) else (fl_lt (Ff_X8_isDigit r154) (fun r157 => if r157 = 1 then (if 3 ≤ j152l3 then (Gf_X8_next_188_1 j152l3 j152l1 j152a0_7) else (fl_lt (fl_imul 10 j152a0_7) (fun x175 => fl_lt (Ff_X8_see j152l1 a0_3 fa0_1) (fun r178 => if a0_3 ≤ j152l1 then (fl_lt (fl_iadd x175 (-1)) (fun x181 => fl_lt (fl_isub x181 48) (fun x184 => Gf_X8_next_188_1 j152l3 j152l1 x184))) else (fl_lt (fl_iadd x175 r178) (fun x181 => fl_lt (fl_isub x181 48) (fun x184 => Gf_X8_next_188_1 j152l3 j152l1 x184))))))) else (Sum.inr (if j152l3 ≤ 3 then ((j5l1, j152l1, 3, j152a0_7, 0, fa0_12)) else ((j5l1, j152l1, 1, j152a0_7, 0, fa0_12)))))))
def Gf_X8_next_101_3 (j67l1 : Int) (j67a0_8 : Int) (j101a0_12_a : (Nat → Int)) : Sum (Int × Int × (Nat → Int)) (Int × Int × Int × Int × Int × (Nat → Int)) :=
  fl_lt (j67a0_8 + 1) (fun x107 => fl_lt (j67l1 + 1) (fun x111 => Sum.inl (x111, x107, j101a0_12_a)))
def Sf_X8_next_67_3 (a0_3 : Int) (fa0_1 : (Nat → Int)) (j5l1 : Int) (j67l1 : Int) (j67a0_8 : Int) (j67a0_12_a : (Nat → Int)) : Sum (Int × Int × (Nat → Int)) (Int × Int × Int × Int × Int × (Nat → Int)) :=
  fl_lt (Ff_X8_see j67l1 a0_3 fa0_1) (fun r69 => if a0_3 ≤ j67l1 then (fl_lt (Ff_X8_isSmall (-1)) (fun r72 => if r72 = 1 then ((Sum.inr (0, 0, 0, 0, 0, (fun _ => 0)))) else (Sum.inr (if j67a0_8 ≤ 8 then ((j5l1, j67l1, 2, 0, j67a0_8, j67a0_12_a)) else ((j5l1, j67l1, 1, 0, j67a0_8, j67a0_12_a)))))) else (fl_lt (Ff_X8_isSmall r69) (fun r72 => if r72 = 1 then (if 8 ≤ j67a0_8 then (Gf_X8_next_101_3 j67l1 j67a0_8 j67a0_12_a) else (fl_lt (Ff_X8_see j67l1 a0_3 fa0_1) (fun r97 => if a0_3 ≤ j67l1 then (fl_lt (fl_up j67a0_12_a (j67a0_8.toNat) (-1)) (fun f100 => Gf_X8_next_101_3 j67l1 j67a0_8 f100)) else (fl_lt (fl_up j67a0_12_a (j67a0_8.toNat) r97) (fun f100 => Gf_X8_next_101_3 j67l1 j67a0_8 f100))))) else (Sum.inr (if j67a0_8 ≤ 8 then ((j5l1, j67l1, 2, 0, j67a0_8, j67a0_12_a)) else ((j5l1, j67l1, 1, 0, j67a0_8, j67a0_12_a)))))))
def Gf_X8_next_101_4 (j67l1 : Int) (j67a0_8 : Int) (j101a0_12_a : (Nat → Int)) : Sum (Int × Int × (Nat → Int)) (Int × Int × Int × Int × Int × (Nat → Int)) :=
  fl_lt (j67a0_8 + 1) (fun x107 => fl_lt (j67l1 + 1) (fun x111 => Sum.inl (x111, x107, j101a0_12_a)))
def Sf_X8_next_67_4 (a0_3 : Int) (fa0_1 : (Nat → Int)) (j5l1 : Int) (j67l1 : Int) (j67a0_8 : Int) (j67a0_12_a : (Nat → Int)) : Sum (Int × Int × (Nat → Int)) (Int × Int × Int × Int × Int × (Nat → Int)) :=
  fl_lt (Ff_X8_see j67l1 a0_3 fa0_1) (fun r69 => if a0_3 ≤ j67l1 then (fl_lt (Ff_X8_isSmall (-1)) (fun r72 => if r72 = 1 then ((Sum.inr (0, 0, 0, 0, 0, (fun _ => 0)))) else (Sum.inr (if j67a0_8 ≤ 8 then ((j5l1, j67l1, 2, 0, j67a0_8, j67a0_12_a)) else ((j5l1, j67l1, 1, 0, j67a0_8, j67a0_12_a)))))) else (fl_lt (Ff_X8_isSmall r69) (fun r72 => if r72 = 1 then (if 8 ≤ j67a0_8 then (Gf_X8_next_101_4 j67l1 j67a0_8 j67a0_12_a) else (fl_lt (Ff_X8_see j67l1 a0_3 fa0_1) (fun r97 => if a0_3 ≤ j67l1 then (fl_lt (fl_up j67a0_12_a (j67a0_8.toNat) (-1)) (fun f100 => Gf_X8_next_101_4 j67l1 j67a0_8 f100)) else (fl_lt (fl_up j67a0_12_a (j67a0_8.toNat) r97) (fun f100 => Gf_X8_next_101_4 j67l1 j67a0_8 f100))))) else (Sum.inr (if j67a0_8 ≤ 8 then ((j5l1, j67l1, 2, 0, j67a0_8, j67a0_12_a)) else ((j5l1, j67l1, 1, 0, j67a0_8, j67a0_12_a)))))))
def Gf_X8_next_188_2 (j152l3 : Int) (j152l1 : Int) (j188a0_7 : Int) : Sum (Int × Int × Int) (Int × Int × Int × Int × Int × (Nat → Int)) :=
  fl_lt (fl_iadd j152l3 1) (fun x188 => fl_lt (j152l1 + 1) (fun x191 => Sum.inl (x188, x191, j188a0_7)))
def Sf_X8_next_152_2 (a0_3 : Int) (fa0_1 : (Nat → Int)) (fa0_12 : (Nat → Int)) (j5l1 : Int) (j152l3 : Int) (j152l1 : Int) (j152a0_7 : Int) : Sum (Int × Int × Int) (Int × Int × Int × Int × Int × (Nat → Int)) :=
  fl_lt (Ff_X8_see j152l1 a0_3 fa0_1) (fun r154 => if a0_3 ≤ j152l1 then (fl_lt (Ff_X8_isDigit (-1)) (fun r157 => if r157 = 1 then ((Sum.inr (0, 0, 0, 0, 0, (fun _ => 0)))) else (Sum.inr (if j152l3 ≤ 3 then ((j5l1, j152l1, 3, j152a0_7, 0, fa0_12)) else ((j5l1, j152l1, 1, j152a0_7, 0, fa0_12)))))) else (fl_lt (Ff_X8_isDigit r154) (fun r157 => if r157 = 1 then (if 3 ≤ j152l3 then (Gf_X8_next_188_2 j152l3 j152l1 j152a0_7) else (fl_lt (fl_imul 10 j152a0_7) (fun x175 => fl_lt (Ff_X8_see j152l1 a0_3 fa0_1) (fun r178 => if a0_3 ≤ j152l1 then (fl_lt (fl_iadd x175 (-1)) (fun x181 => fl_lt (fl_isub x181 48) (fun x184 => Gf_X8_next_188_2 j152l3 j152l1 x184))) else (fl_lt (fl_iadd x175 r178) (fun x181 => fl_lt (fl_isub x181 48) (fun x184 => Gf_X8_next_188_2 j152l3 j152l1 x184))))))) else (Sum.inr (if j152l3 ≤ 3 then ((j5l1, j152l1, 3, j152a0_7, 0, fa0_12)) else ((j5l1, j152l1, 1, j152a0_7, 0, fa0_12)))))))
def Sf_X8_next_5_1 (a0_3 : Int) (fa0_1 : (Nat → Int)) (fa0_12 : (Nat → Int)) (j5l1 : Int) : Sum (Int) (Int × Int × Int × Int × Int × (Nat → Int)) :=
  fl_lt (Ff_X8_see j5l1 a0_3 fa0_1) (fun r7 => if a0_3 ≤ j5l1 then (Sum.inr (fl_lt (Ff_X8_see j5l1 a0_3 fa0_1) (fun r28 => if a0_3 ≤ j5l1 then ((j5l1, j5l1, 0, 0, 0, fa0_12)) else (if r28 = (-1) then ((j5l1, j5l1, 0, 0, 0, fa0_12)) else (fl_lt (Ff_X8_isSmall r28) (fun r61 => if r61 = 1 then (fl_wh (fun t9 => Sf_X8_next_67_1 a0_3 fa0_1 j5l1 t9.1 t9.2.1 t9.2.2) (0, 0, 0, 0, 0, (fun _ => 0)) 901 (j5l1, 0, fa0_12)) else (fl_lt (Ff_X8_isDigit r28) (fun r144 => if r144 = 1 then (fl_wh (fun t9 => Sf_X8_next_152_1 a0_3 fa0_1 fa0_12 j5l1 t9.1 t9.2.1 t9.2.2) (0, 0, 0, 0, 0, (fun _ => 0)) 901 (0, j5l1, 0)) else (fl_lt (j5l1 + 1) (fun x222 => if r28 = 59 then ((j5l1, x222, r28, 0, 0, fa0_12)) else ((j5l1, x222, 1, 0, 0, fa0_12)))))))))))) else (if r7 = 32 then (fl_lt (j5l1 + 1) (fun x15 => Sum.inl x15)) else (Sum.inr (fl_lt (Ff_X8_see j5l1 a0_3 fa0_1) (fun r28 => if a0_3 ≤ j5l1 then ((j5l1, j5l1, 0, 0, 0, fa0_12)) else (if r28 = (-1) then ((j5l1, j5l1, 0, 0, 0, fa0_12)) else (fl_lt (Ff_X8_isSmall r28) (fun r61 => if r61 = 1 then (fl_wh (fun t9 => Sf_X8_next_67_3 a0_3 fa0_1 j5l1 t9.1 t9.2.1 t9.2.2) (0, 0, 0, 0, 0, (fun _ => 0)) 901 (j5l1, 0, fa0_12)) else (fl_lt (Ff_X8_isDigit r28) (fun r144 => if r144 = 1 then (fl_wh (fun t9 => Sf_X8_next_152_2 a0_3 fa0_1 fa0_12 j5l1 t9.1 t9.2.1 t9.2.2) (0, 0, 0, 0, 0, (fun _ => 0)) 901 (0, j5l1, 0)) else (fl_lt (j5l1 + 1) (fun x222 => if r28 = 59 then ((j5l1, x222, r28, 0, 0, fa0_12)) else ((j5l1, x222, 1, 0, 0, fa0_12))))))))))))))
def Ff_X8_next (a0_3 : Int) (a0_5 : Int) (fa0_1 : (Nat → Int)) (fa0_12 : (Nat → Int)) : Int × Int × Int × Int × Int × (Nat → Int) :=
  fl_wh (Sf_X8_next_5_1 a0_3 fa0_1 fa0_12) (0, 0, 0, 0, 0, (fun _ => 0)) 901 a0_5

def FfG_X8_wrong (a1 : Int) (a2 : Int) : Int × Int :=
  (a1, a2)


def FfF_X8_isWord : Int :=
  0

def GfG_X8_isWord_63_1 (j32l3 : Int) (j63s0 : Int) : Sum (Int × Int) (Int) :=
  fl_lt (j32l3 + 1) (fun x64 => Sum.inl (x64, j63s0))
def GfG_X8_isWord_62_1 (j32l3 : Int) : Sum (Int × Int) (Int) :=
  GfG_X8_isWord_63_1 j32l3 0
def SfG_X8_isWord_32_1 (a0_8 : Int) (fa0_12 : (Nat → Int)) (ca1 : (Nat → Int)) (j32l3 : Int) (j32l2 : Int) : Sum (Int × Int) (Int) :=
  if a0_8 ≤ j32l3 then (Sum.inr (j32l2)) else (if j32l2 = 0 then (GfG_X8_isWord_62_1 j32l3) else (fl_lt (fa0_12 (j32l3.toNat)) (fun x49 => fl_lt (ca1 (j32l3.toNat)) (fun r52 => if x49 = r52 then (GfG_X8_isWord_63_1 j32l3 1) else (GfG_X8_isWord_62_1 j32l3)))))
def FfG_X8_isWord (a0_6 : Int) (a0_8 : Int) (fa0_12 : (Nat → Int)) (na1 : Int) (ca1 : (Nat → Int)) : Int :=
  if a0_6 = 2 then (fl_lt (na1) (fun r20 => if a0_8 = r20 then (fl_wh (fun t9 => SfG_X8_isWord_32_1 a0_8 fa0_12 ca1 t9.1 t9.2) 0 9 (0, 1)) else (0))) else (0)

def FfG_X8_takesWord (a0_3 : Int) (a0_4 : Int) (a0_5 : Int) (a0_6 : Int) (a0_7 : Int) (a0_8 : Int) (fa0_12 : (Nat → Int)) (fa0_1 : (Nat → Int)) (na1 : Int) (ca1 : (Nat → Int)) : Int × Int × Int × Int × Int × Int × (Nat → Int) :=
  fl_lt (FfG_X8_isWord a0_6 a0_8 fa0_12 na1 ca1) (fun r2 => if r2 = 0 then ((0, a0_4, a0_5, a0_6, a0_7, a0_8, fa0_12)) else (fl_c6 (Ff_X8_next a0_3 a0_5 fa0_1 fa0_12) (fun v11na0_4 v11na0_5 v11na0_6 v11na0_7 v11na0_8 v11nfa0_12 => (1, v11na0_4, v11na0_5, v11na0_6, v11na0_7, v11na0_8, v11nfa0_12))))


def FfG_X8_must (a0_3 : Int) (a0_4 : Int) (a0_5 : Int) (a0_6 : Int) (a0_7 : Int) (a0_8 : Int) (a0_9 : Int) (a0_10 : Int) (fa0_12 : (Nat → Int)) (fa0_1 : (Nat → Int)) (na1 : Int) (ca1 : (Nat → Int)) : Int × Int × Int × Int × Int × Int × Int × Int × (Nat → Int) :=
  fl_c7 (FfG_X8_takesWord a0_3 a0_4 a0_5 a0_6 a0_7 a0_8 fa0_12 fa0_1 na1 ca1) (fun r9 v9na0_4 v9na0_5 v9na0_6 v9na0_7 v9na0_8 v9nfa0_12 => if r9 = 1 then ((v9na0_4, v9na0_5, v9na0_6, v9na0_7, v9na0_8, a0_9, a0_10, 0, v9nfa0_12)) else (fl_c2 (FfG_X8_wrong 1 v9na0_4) (fun v21na0_9 v21na0_10 => (v9na0_4, v9na0_5, v9na0_6, v9na0_7, v9na0_8, v21na0_9, v21na0_10, 1, v9nfa0_12))))


def FfG_X8_pass (a0_3 : Int) (a0_5 : Int) (fa0_1 : (Nat → Int)) (fa0_12 : (Nat → Int)) : Int × Int × Int × Int × Int × (Nat → Int) :=
  fl_c6 (Ff_X8_next a0_3 a0_5 fa0_1 fa0_12) (fun v8na0_4 v8na0_5 v8na0_6 v8na0_7 v8na0_8 v8nfa0_12 => (v8na0_4, v8na0_5, v8na0_6, v8na0_7, v8na0_8, v8nfa0_12))

def Gf_X8_isKnown_91_1 (j2l1 : Int) (j44l2 : Int) : Sum (Int) (Int) :=
  if j44l2 = 0 then (fl_lt (j2l1 + 1) (fun x97 => Sum.inl x97)) else (Sum.inr (1))
def Gf_X8_isKnown_84_1 (j44l3 : Int) (j84s0 : Int) : Sum (Int × Int) (Sum (Int) (Int)) :=
  fl_lt (j44l3 + 1) (fun x85 => Sum.inl (x85, j84s0))
def Sf_X8_isKnown_44_1 (a0_8 : Int) (fa0_16 : (Nat → Int)) (fa0_12 : (Nat → Int)) (j2l1 : Int) (j44l3 : Int) (j44l2 : Int) : Sum (Int × Int) (Sum (Int) (Int)) :=
  if a0_8 ≤ j44l3 then (Sum.inr (Gf_X8_isKnown_91_1 j2l1 j44l2)) else (if j44l2 = 0 then (Sum.inr (Gf_X8_isKnown_91_1 j2l1 j44l2)) else (fl_lt (8 * j2l1) (fun x65 => fl_lt (60 + x65) (fun x66 => fl_lt (x66 + j44l3) (fun x68 => fl_lt (fa0_16 (x68.toNat)) (fun x69 => fl_lt (fa0_12 (j44l3.toNat)) (fun x75 => if x69 = x75 then (Gf_X8_isKnown_84_1 j44l3 1) else (Gf_X8_isKnown_84_1 j44l3 0))))))))
def Gf_X8_isKnown_41_1 (a0_8 : Int) (fa0_16 : (Nat → Int)) (fa0_12 : (Nat → Int)) (j2l1 : Int) (j41s0 : Int) : Sum (Int) (Int) :=
  fl_wh (fun t9 => Sf_X8_isKnown_44_1 a0_8 fa0_16 fa0_12 j2l1 t9.1 t9.2) (Sum.inr 0) 9 (0, j41s0)
def Gf_X8_isKnown_40_1 (a0_8 : Int) (fa0_16 : (Nat → Int)) (fa0_12 : (Nat → Int)) (j2l1 : Int) : Sum (Int) (Int) :=
  Gf_X8_isKnown_41_1 a0_8 fa0_16 fa0_12 j2l1 0
def Sf_X8_isKnown_2_1 (a0_8 : Int) (fa0_16 : (Nat → Int)) (fa0_12 : (Nat → Int)) (j2l1 : Int) : Sum (Int) (Int) :=
  if 12 ≤ j2l1 then (Sum.inr (0)) else (fl_lt (48 + j2l1) (fun x15 => fl_lt (fa0_16 (x15.toNat)) (fun x16 => if x16 ≤ 0 then (Gf_X8_isKnown_40_1 a0_8 fa0_16 fa0_12 j2l1) else (if x16 = a0_8 then (Gf_X8_isKnown_41_1 a0_8 fa0_16 fa0_12 j2l1 1) else (Gf_X8_isKnown_40_1 a0_8 fa0_16 fa0_12 j2l1)))))
def Ff_X8_isKnown (a0_8 : Int) (fa0_16 : (Nat → Int)) (fa0_12 : (Nat → Int)) : Int :=
  fl_wh (Sf_X8_isKnown_2_1 a0_8 fa0_16 fa0_12) 0 13 0


def SfG_X8_newName_103_1 (a1 : Int) (a0_3 : Int) (a0_5 : Int) (a0_8 : Int) (a0_9 : Int) (a0_10 : Int) (fa0_12 : (Nat → Int)) (fa0_1 : (Nat → Int)) (j103l2 : Int) (j103a0_16_a : (Nat → Int)) : Sum (Int × (Nat → Int)) (Int × Int × Int × Int × Int × Int × Int × Int × (Nat → Int) × (Nat → Int)) :=
  if a0_8 ≤ j103l2 then (Sum.inr (fl_lt (48 + a1) (fun x144 => fl_lt (fl_up j103a0_16_a (x144.toNat) a0_8) (fun f149 => fl_c6 (Ff_X8_next a0_3 a0_5 fa0_1 fa0_12) (fun v151na0_4 v151na0_5 v151na0_6 v151na0_7 v151na0_8 v151nfa0_12 => (v151na0_4, v151na0_5, v151na0_6, v151na0_7, v151na0_8, a0_9, a0_10, 0, v151nfa0_12, f149)))))) else (fl_lt (8 * a1) (fun x120 => fl_lt (60 + x120) (fun x121 => fl_lt (x121 + j103l2) (fun x123 => fl_lt (fa0_12 (j103l2.toNat)) (fun x129 => fl_lt (fl_up j103a0_16_a (x123.toNat) x129) (fun f130 => fl_lt (j103l2 + 1) (fun x131 => Sum.inl (x131, f130))))))))
def FfG_X8_newName (a1 : Int) (a0_3 : Int) (a0_4 : Int) (a0_5 : Int) (a0_6 : Int) (a0_7 : Int) (a0_8 : Int) (a0_9 : Int) (a0_10 : Int) (fa0_12 : (Nat → Int)) (fa0_16 : (Nat → Int)) (fa0_1 : (Nat → Int)) : Int × Int × Int × Int × Int × Int × Int × Int × (Nat → Int) × (Nat → Int) :=
  if a0_6 = 2 then (fl_lt (FfG_X8_isWord a0_6 a0_8 fa0_12 7 (fl_A (sxc 18))) (fun r19 => if r19 = 0 then (fl_lt (FfG_X8_isWord a0_6 a0_8 fa0_12 3 (fl_A (sxc 19))) (fun r28 => if r28 = 0 then (fl_lt (FfG_X8_isWord a0_6 a0_8 fa0_12 6 (fl_A (sxc 20))) (fun r37 => if r37 = 0 then (fl_lt (FfG_X8_isWord a0_6 a0_8 fa0_12 7 (fl_A (sxc 21))) (fun r46 => if r46 = 0 then (fl_lt (FfG_X8_isWord a0_6 a0_8 fa0_12 4 (fl_A (sxc 22))) (fun r55 => if r55 = 0 then (fl_lt (Ff_X8_isKnown a0_8 fa0_16 fa0_12) (fun r78 => if r78 = 1 then (fl_c2 (FfG_X8_wrong 3 a0_4) (fun v90na0_9 v90na0_10 => (a0_4, a0_5, a0_6, a0_7, a0_8, v90na0_9, v90na0_10, 1, fa0_12, fa0_16))) else (fl_wh (fun t9 => SfG_X8_newName_103_1 a1 a0_3 a0_5 a0_8 a0_9 a0_10 fa0_12 fa0_1 t9.1 t9.2) (0, 0, 0, 0, 0, 0, 0, 0, (fun _ => 0), (fun _ => 0)) 9 (0, fa0_16)))) else (fl_c2 (FfG_X8_wrong 1 a0_4) (fun v67na0_9 v67na0_10 => (a0_4, a0_5, a0_6, a0_7, a0_8, v67na0_9, v67na0_10, 1, fa0_12, fa0_16))))) else (fl_c2 (FfG_X8_wrong 1 a0_4) (fun v67na0_9 v67na0_10 => (a0_4, a0_5, a0_6, a0_7, a0_8, v67na0_9, v67na0_10, 1, fa0_12, fa0_16))))) else (fl_c2 (FfG_X8_wrong 1 a0_4) (fun v67na0_9 v67na0_10 => (a0_4, a0_5, a0_6, a0_7, a0_8, v67na0_9, v67na0_10, 1, fa0_12, fa0_16))))) else (fl_c2 (FfG_X8_wrong 1 a0_4) (fun v67na0_9 v67na0_10 => (a0_4, a0_5, a0_6, a0_7, a0_8, v67na0_9, v67na0_10, 1, fa0_12, fa0_16))))) else (fl_c2 (FfG_X8_wrong 1 a0_4) (fun v67na0_9 v67na0_10 => (a0_4, a0_5, a0_6, a0_7, a0_8, v67na0_9, v67na0_10, 1, fa0_12, fa0_16))))) else (fl_c2 (FfG_X8_wrong 1 a0_4) (fun v67na0_9 v67na0_10 => (a0_4, a0_5, a0_6, a0_7, a0_8, v67na0_9, v67na0_10, 1, fa0_12, fa0_16)))

def FfF_X8_numberHere (a1 : Int) : Int :=
  a1

def FfG_X8_numberHere (a1 : Int) (a2 : Int) (a0_4 : Int) (a0_6 : Int) (a0_7 : Int) (a0_9 : Int) (a0_10 : Int) : Int × Int × Int × Int :=
  if a0_6 = 3 then (fl_lt (Ff_X8_in a0_7 a1 a2) (fun r35 => if r35 = 1 then ((a0_7, a0_9, a0_10, 0)) else (fl_c2 (FfG_X8_wrong 4 a0_4) (fun v47na0_9 v47na0_10 => (a1, v47na0_9, v47na0_10, 1))))) else (fl_c2 (FfG_X8_wrong 1 a0_4) (fun v23na0_9 v23na0_10 => (a1, v23na0_9, v23na0_10, 1)))

def FfF_X8_number (a1 : Int) : Int :=
  fl_lt (FfF_X8_numberHere a1) (fun r3 => a1)

def FfG_X8_number (a1 : Int) (a2 : Int) (a0_3 : Int) (a0_4 : Int) (a0_5 : Int) (a0_6 : Int) (a0_7 : Int) (a0_8 : Int) (a0_9 : Int) (a0_10 : Int) (fa0_1 : (Nat → Int)) (fa0_12 : (Nat → Int)) : Int × Int × Int × Int × Int × Int × Int × Int × Int × (Nat → Int) :=
  fl_c4 (FfG_X8_numberHere a1 a2 a0_4 a0_6 a0_7 a0_9 a0_10) (fun r3 v3na0_9 v3na0_10 v3na0_13 => if v3na0_13 = 1 then ((r3, a0_4, a0_5, a0_6, a0_7, a0_8, v3na0_9, v3na0_10, 1, fa0_12)) else (fl_c6 (FfG_X8_pass a0_3 a0_5 fa0_1 fa0_12) (fun v8na0_4 v8na0_5 v8na0_6 v8na0_7 v8na0_8 v8nfa0_12 => (r3, v8na0_4, v8na0_5, v8na0_6, v8na0_7, v8na0_8, v3na0_9, v3na0_10, 0, v8nfa0_12))))

def FfF_X8_after (a2 : Int) : Int :=
  fl_lt (FfF_X8_number a2) (fun r8 => a2)

def FfG_X8_after (a2 : Int) (a3 : Int) (a0_3 : Int) (a0_4 : Int) (a0_5 : Int) (a0_6 : Int) (a0_7 : Int) (a0_8 : Int) (a0_9 : Int) (a0_10 : Int) (fa0_12 : (Nat → Int)) (fa0_1 : (Nat → Int)) (na1 : Int) (ca1 : (Nat → Int)) : Int × Int × Int × Int × Int × Int × Int × Int × Int × (Nat → Int) :=
  fl_c9 (FfG_X8_must a0_3 a0_4 a0_5 a0_6 a0_7 a0_8 a0_9 a0_10 fa0_12 fa0_1 na1 ca1) (fun v2na0_4 v2na0_5 v2na0_6 v2na0_7 v2na0_8 v2na0_9 v2na0_10 v2na0_13 v2nfa0_12 => if v2na0_13 = 1 then (fl_lt (FfF_X8_number a2) (fun r8 => (a2, v2na0_4, v2na0_5, v2na0_6, v2na0_7, v2na0_8, v2na0_9, v2na0_10, 1, v2nfa0_12))) else (fl_c10 (FfG_X8_number a2 a3 a0_3 v2na0_4 v2na0_5 v2na0_6 v2na0_7 v2na0_8 v2na0_9 v2na0_10 fa0_1 v2nfa0_12) (fun r8 v8na0_4 v8na0_5 v8na0_6 v8na0_7 v8na0_8 v8na0_9 v8na0_10 v8na0_13 v8nfa0_12 => if v8na0_13 = 1 then ((r8, v8na0_4, v8na0_5, v8na0_6, v8na0_7, v8na0_8, v8na0_9, v8na0_10, 1, v8nfa0_12)) else ((r8, v8na0_4, v8na0_5, v8na0_6, v8na0_7, v8na0_8, v8na0_9, v8na0_10, 0, v8nfa0_12)))))

def FfG_X8_begins (a2 : Int) (a0_3 : Int) (a0_4 : Int) (a0_5 : Int) (a0_6 : Int) (a0_7 : Int) (a0_8 : Int) (a0_9 : Int) (a0_10 : Int) (fa0_12 : (Nat → Int)) (fa0_16 : (Nat → Int)) (fa0_1 : (Nat → Int)) (na1 : Int) (ca1 : (Nat → Int)) : Int × Int × Int × Int × Int × Int × Int × Int × Int × (Nat → Int) :=
  fl_lt (FfG_X8_isWord a0_6 a0_8 fa0_12 na1 ca1) (fun r2 => if r2 = 0 then ((0, a0_4, a0_5, a0_6, a0_7, a0_8, a0_9, a0_10, 0, fa0_12)) else (if a2 = 0 then (fl_c2 (FfG_X8_wrong 5 a0_4) (fun v20na0_9 v20na0_10 => fl_lt (fa0_16 (11)) (fun x29 => if x29 = 0 then ((1, a0_4, a0_5, a0_6, a0_7, a0_8, v20na0_9, v20na0_10, 1, fa0_12)) else ((1, a0_4, a0_5, a0_6, a0_7, a0_8, v20na0_9, v20na0_10, 1, fa0_12))))) else (fl_lt (fa0_16 (11)) (fun x29 => if x29 = 0 then (fl_c2 (FfG_X8_wrong 6 a0_4) (fun v40na0_9 v40na0_10 => (1, a0_4, a0_5, a0_6, a0_7, a0_8, v40na0_9, v40na0_10, 1, fa0_12))) else (fl_c6 (FfG_X8_pass a0_3 a0_5 fa0_1 fa0_12) (fun v44na0_4 v44na0_5 v44na0_6 v44na0_7 v44na0_8 v44nfa0_12 => (1, v44na0_4, v44na0_5, v44na0_6, v44na0_7, v44na0_8, a0_9, a0_10, 0, v44nfa0_12)))))))

def Ff_X8_last (fa0_16 : (Nat → Int)) : Int :=
  fl_lt (fa0_16 (0)) (fun x5 => fl_lt (x5 - 1) (fun x7 => x7))

def FfG_X8_galleryLine (a0_3 : Int) (a0_4 : Int) (a0_5 : Int) (a0_6 : Int) (a0_7 : Int) (a0_8 : Int) (a0_9 : Int) (a0_10 : Int) (fa0_16 : (Nat → Int)) (fa0_1 : (Nat → Int)) (fa0_12 : (Nat → Int)) : Int × Int × Int × Int × Int × Int × Int × Int × (Nat → Int) × (Nat → Int) :=
  fl_lt (fa0_16 (11)) (fun x6 => if x6 ≤ 0 then (fl_c6 (Ff_X8_next a0_3 a0_5 fa0_1 fa0_12) (fun v28na0_4 v28na0_5 v28na0_6 v28na0_7 v28na0_8 v28nfa0_12 => fl_c10 (FfG_X8_after 2 9 a0_3 v28na0_4 v28na0_5 v28na0_6 v28na0_7 v28na0_8 a0_9 a0_10 v28nfa0_12 fa0_1 7 (fl_A (sxc 23))) (fun r42 v42na0_4 v42na0_5 v42na0_6 v42na0_7 v42na0_8 v42na0_9 v42na0_10 v42na0_13 v42nfa0_12 => if v42na0_13 = 1 then (fl_lt (fl_up fa0_16 (0) r42) (fun f45 => fl_lt (FfF_X8_after 1) (fun r57 => fl_lt (fl_up f45 (1) 1) (fun f60 => fl_lt (r42 - 1) (fun x77 => fl_lt (FfF_X8_after 0) (fun r78 => fl_lt (fl_up f60 (2) 0) (fun f81 => fl_lt (FfF_X8_after 0) (fun r93 => fl_lt (fl_up f81 (3) 0) (fun f96 => (v42na0_4, v42na0_5, v42na0_6, v42na0_7, v42na0_8, v42na0_9, v42na0_10, 1, f96, v42nfa0_12)))))))))) else (fl_lt (fl_up fa0_16 (0) r42) (fun f45 => fl_c10 (FfG_X8_after 1 20 a0_3 v42na0_4 v42na0_5 v42na0_6 v42na0_7 v42na0_8 v42na0_9 v42na0_10 v42nfa0_12 fa0_1 4 (fl_A (sxc 24))) (fun r57 v57na0_4 v57na0_5 v57na0_6 v57na0_7 v57na0_8 v57na0_9 v57na0_10 v57na0_13 v57nfa0_12 => if v57na0_13 = 1 then (fl_lt (fl_up f45 (1) r57) (fun f60 => fl_lt (r42 - 1) (fun x77 => fl_lt (FfF_X8_after 0) (fun r78 => fl_lt (fl_up f60 (2) 0) (fun f81 => fl_lt (FfF_X8_after 0) (fun r93 => fl_lt (fl_up f81 (3) 0) (fun f96 => (v57na0_4, v57na0_5, v57na0_6, v57na0_7, v57na0_8, v57na0_9, v57na0_10, 1, f96, v57nfa0_12)))))))) else (fl_lt (fl_up f45 (1) r57) (fun f60 => fl_lt (r42 - 1) (fun x77 => fl_c10 (FfG_X8_after 0 x77 a0_3 v57na0_4 v57na0_5 v57na0_6 v57na0_7 v57na0_8 v57na0_9 v57na0_10 v57nfa0_12 fa0_1 6 (fl_A (sxc 25))) (fun r78 v78na0_4 v78na0_5 v78na0_6 v78na0_7 v78na0_8 v78na0_9 v78na0_10 v78na0_13 v78nfa0_12 => if v78na0_13 = 1 then (fl_lt (fl_up f60 (2) r78) (fun f81 => fl_lt (FfF_X8_after 0) (fun r93 => fl_lt (fl_up f81 (3) 0) (fun f96 => (v78na0_4, v78na0_5, v78na0_6, v78na0_7, v78na0_8, v78na0_9, v78na0_10, 1, f96, v78nfa0_12))))) else (fl_lt (fl_up f60 (2) r78) (fun f81 => fl_c10 (FfG_X8_after 0 100 a0_3 v78na0_4 v78na0_5 v78na0_6 v78na0_7 v78na0_8 v78na0_9 v78na0_10 v78nfa0_12 fa0_1 4 (fl_A (sxc 26))) (fun r93 v93na0_4 v93na0_5 v93na0_6 v93na0_7 v93na0_8 v93na0_9 v93na0_10 v93na0_13 v93nfa0_12 => if v93na0_13 = 1 then (fl_lt (fl_up f81 (3) r93) (fun f96 => (v93na0_4, v93na0_5, v93na0_6, v93na0_7, v93na0_8, v93na0_9, v93na0_10, 1, f96, v93nfa0_12))) else (fl_lt (fl_up f81 (3) r93) (fun f96 => fl_lt (fl_up f96 (11) 1) (fun f111 => (v93na0_4, v93na0_5, v93na0_6, v93na0_7, v93na0_8, v93na0_9, v93na0_10, 0, f111, v93nfa0_12))))))))))))))))) else (fl_c2 (FfG_X8_wrong 3 a0_4) (fun v16na0_9 v16na0_10 => (a0_4, a0_5, a0_6, a0_7, a0_8, v16na0_9, v16na0_10, 1, fa0_16, fa0_12))))

def FfG_X8_lawLine (a0_3 : Int) (a0_4 : Int) (a0_5 : Int) (a0_6 : Int) (a0_7 : Int) (a0_8 : Int) (a0_9 : Int) (a0_10 : Int) (fa0_16 : (Nat → Int)) (fa0_1 : (Nat → Int)) (fa0_12 : (Nat → Int)) : Int × Int × Int × Int × Int × Int × Int × Int × (Nat → Int) × (Nat → Int) :=
  fl_lt (fa0_16 (10)) (fun x6 => if x6 ≤ 0 then (fl_lt (fa0_16 (11)) (fun x25 => if x25 = 0 then (fl_c2 (FfG_X8_wrong 6 a0_4) (fun v36na0_9 v36na0_10 => (a0_4, a0_5, a0_6, a0_7, a0_8, v36na0_9, v36na0_10, 1, fa0_16, fa0_12))) else (fl_c6 (Ff_X8_next a0_3 a0_5 fa0_1 fa0_12) (fun v48na0_4 v48na0_5 v48na0_6 v48na0_7 v48na0_8 v48nfa0_12 => fl_lt (Ff_X8_last fa0_16) (fun r62 => fl_c10 (FfG_X8_after 0 r62 a0_3 v48na0_4 v48na0_5 v48na0_6 v48na0_7 v48na0_8 a0_9 a0_10 v48nfa0_12 fa0_1 5 (fl_A (sxc 27))) (fun r65 v65na0_4 v65na0_5 v65na0_6 v65na0_7 v65na0_8 v65na0_9 v65na0_10 v65na0_13 v65nfa0_12 => if v65na0_13 = 1 then (fl_lt (fl_up fa0_16 (7) r65) (fun f68 => fl_lt (Ff_X8_last f68) (fun r80 => fl_lt (FfF_X8_after 0) (fun r83 => fl_lt (fl_up f68 (8) 0) (fun f86 => fl_lt (Ff_X8_last f86) (fun r98 => fl_lt (FfF_X8_after 0) (fun r101 => fl_lt (fl_up f86 (9) 0) (fun f104 => (v65na0_4, v65na0_5, v65na0_6, v65na0_7, v65na0_8, v65na0_9, v65na0_10, 1, f104, v65nfa0_12))))))))) else (fl_lt (fl_up fa0_16 (7) r65) (fun f68 => fl_lt (Ff_X8_last f68) (fun r80 => fl_c10 (FfG_X8_after 0 r80 a0_3 v65na0_4 v65na0_5 v65na0_6 v65na0_7 v65na0_8 v65na0_9 v65na0_10 v65nfa0_12 fa0_1 4 (fl_A (sxc 28))) (fun r83 v83na0_4 v83na0_5 v83na0_6 v83na0_7 v83na0_8 v83na0_9 v83na0_10 v83na0_13 v83nfa0_12 => if v83na0_13 = 1 then (fl_lt (fl_up f68 (8) r83) (fun f86 => fl_lt (Ff_X8_last f86) (fun r98 => fl_lt (FfF_X8_after 0) (fun r101 => fl_lt (fl_up f86 (9) 0) (fun f104 => (v83na0_4, v83na0_5, v83na0_6, v83na0_7, v83na0_8, v83na0_9, v83na0_10, 1, f104, v83nfa0_12)))))) else (fl_lt (fl_up f68 (8) r83) (fun f86 => fl_lt (Ff_X8_last f86) (fun r98 => fl_c10 (FfG_X8_after 0 r98 a0_3 v83na0_4 v83na0_5 v83na0_6 v83na0_7 v83na0_8 v83na0_9 v83na0_10 v83nfa0_12 fa0_1 5 (fl_A (sxc 29))) (fun r101 v101na0_4 v101na0_5 v101na0_6 v101na0_7 v101na0_8 v101na0_9 v101na0_10 v101na0_13 v101nfa0_12 => if v101na0_13 = 1 then (fl_lt (fl_up f86 (9) r101) (fun f104 => (v101na0_4, v101na0_5, v101na0_6, v101na0_7, v101na0_8, v101na0_9, v101na0_10, 1, f104, v101nfa0_12))) else (fl_lt (fl_up f86 (9) r101) (fun f104 => fl_lt (fl_up f104 (10) 1) (fun f119 => (v101na0_4, v101na0_5, v101na0_6, v101na0_7, v101na0_8, v101na0_9, v101na0_10, 0, f119, v101nfa0_12)))))))))))))))))) else (fl_c2 (FfG_X8_wrong 3 a0_4) (fun v16na0_9 v16na0_10 => fl_lt (fa0_16 (11)) (fun x25 => if x25 = 0 then ((a0_4, a0_5, a0_6, a0_7, a0_8, v16na0_9, v16na0_10, 1, fa0_16, fa0_12)) else ((a0_4, a0_5, a0_6, a0_7, a0_8, v16na0_9, v16na0_10, 1, fa0_16, fa0_12))))))




def FfG_X8_figureLine (a0_3 : Int) (a0_4 : Int) (a0_5 : Int) (a0_6 : Int) (a0_7 : Int) (a0_8 : Int) (a0_9 : Int) (a0_10 : Int) (fa0_16 : (Nat → Int)) (fa0_12 : (Nat → Int)) (fa0_1 : (Nat → Int)) : Int × Int × Int × Int × Int × Int × Int × Int × (Nat → Int) × (Nat → Int) :=
  fl_lt (fa0_16 (4)) (fun x14 => fl_c10 (FfG_X8_newName x14 a0_3 a0_4 a0_5 a0_6 a0_7 a0_8 a0_9 a0_10 fa0_12 fa0_16 fa0_1) (fun v15na0_4 v15na0_5 v15na0_6 v15na0_7 v15na0_8 v15na0_9 v15na0_10 v15na0_13 v15nfa0_12 v15nfa0_16 => if v15na0_13 = 1 then (fl_lt (Ff_X8_last v15nfa0_16) (fun r27 => fl_lt (FfF_X8_numberHere 0) (fun r30 => fl_lt (FfF_X8_isWord) (fun r71 => fl_lt (FfF_X8_isWord) (fun r84 => fl_lt (FfF_X8_number 1) (fun r117 => (v15na0_4, v15na0_5, v15na0_6, v15na0_7, v15na0_8, v15na0_9, v15na0_10, 1, v15nfa0_16, v15nfa0_12))))))) else (fl_c9 (FfG_X8_must a0_3 v15na0_4 v15na0_5 v15na0_6 v15na0_7 v15na0_8 v15na0_9 v15na0_10 v15nfa0_12 fa0_1 2 (fl_A (sxc 30))) (fun v21na0_4 v21na0_5 v21na0_6 v21na0_7 v21na0_8 v21na0_9 v21na0_10 v21na0_13 v21nfa0_12 => if v21na0_13 = 1 then (fl_lt (Ff_X8_last v15nfa0_16) (fun r27 => fl_lt (FfF_X8_numberHere 0) (fun r30 => fl_lt (FfF_X8_isWord) (fun r71 => fl_lt (FfF_X8_isWord) (fun r84 => fl_lt (FfF_X8_number 1) (fun r117 => (v21na0_4, v21na0_5, v21na0_6, v21na0_7, v21na0_8, v21na0_9, v21na0_10, 1, v15nfa0_16, v21nfa0_12))))))) else (fl_lt (Ff_X8_last v15nfa0_16) (fun r27 => fl_c4 (FfG_X8_numberHere 0 r27 v21na0_4 v21na0_6 v21na0_7 v21na0_9 v21na0_10) (fun r30 v30na0_9 v30na0_10 v30na0_13 => if v30na0_13 = 1 then (fl_lt (FfF_X8_isWord) (fun r71 => fl_lt (FfF_X8_isWord) (fun r84 => fl_lt (FfF_X8_number 1) (fun r117 => (v21na0_4, v21na0_5, v21na0_6, v21na0_7, v21na0_8, v30na0_9, v30na0_10, 1, v15nfa0_16, v21nfa0_12))))) else (fl_lt (2 * r30) (fun x49 => fl_lt (12 + x49) (fun x50 => fl_lt (v15nfa0_16 (x50.toNat)) (fun x51 => if x51 ≤ 0 then (fl_c6 (FfG_X8_pass a0_3 v21na0_5 fa0_1 v21nfa0_12) (fun v65na0_4 v65na0_5 v65na0_6 v65na0_7 v65na0_8 v65nfa0_12 => fl_lt (FfG_X8_isWord v65na0_6 v65na0_8 v65nfa0_12 5 (fl_A (sxc 31))) (fun r71 => if r71 = 0 then (fl_lt (FfG_X8_isWord v65na0_6 v65na0_8 v65nfa0_12 6 (fl_A (sxc 32))) (fun r84 => if r84 = 0 then (fl_c2 (FfG_X8_wrong 1 v65na0_4) (fun v106na0_9 v106na0_10 => fl_lt (FfF_X8_number 1) (fun r117 => (v65na0_4, v65na0_5, v65na0_6, v65na0_7, v65na0_8, v106na0_9, v106na0_10, 1, v15nfa0_16, v65nfa0_12)))) else (fl_c6 (FfG_X8_pass a0_3 v65na0_5 fa0_1 v65nfa0_12) (fun v110na0_4 v110na0_5 v110na0_6 v110na0_7 v110na0_8 v110nfa0_12 => fl_c10 (FfG_X8_number 1 20 a0_3 v110na0_4 v110na0_5 v110na0_6 v110na0_7 v110na0_8 v30na0_9 v30na0_10 fa0_1 v110nfa0_12) (fun r117 v117na0_4 v117na0_5 v117na0_6 v117na0_7 v117na0_8 v117na0_9 v117na0_10 v117na0_13 v117nfa0_12 => if v117na0_13 = 1 then ((v117na0_4, v117na0_5, v117na0_6, v117na0_7, v117na0_8, v117na0_9, v117na0_10, 1, v15nfa0_16, v117nfa0_12)) else (fl_lt (fl_up v15nfa0_16 (x50.toNat) 2) (fun f140 => fl_lt (x50 + 1) (fun x152 => fl_lt (fl_up f140 (x152.toNat) r117) (fun f154 => fl_lt (f154 (4)) (fun x161 => fl_lt (x161 + 1) (fun x163 => fl_lt (fl_up f154 (4) x163) (fun f164 => (v117na0_4, v117na0_5, v117na0_6, v117na0_7, v117na0_8, v117na0_9, v117na0_10, 0, f164, v117nfa0_12))))))))))))) else (fl_c6 (FfG_X8_pass a0_3 v65na0_5 fa0_1 v65nfa0_12) (fun v110na0_4 v110na0_5 v110na0_6 v110na0_7 v110na0_8 v110nfa0_12 => fl_c10 (FfG_X8_number 1 20 a0_3 v110na0_4 v110na0_5 v110na0_6 v110na0_7 v110na0_8 v30na0_9 v30na0_10 fa0_1 v110nfa0_12) (fun r117 v117na0_4 v117na0_5 v117na0_6 v117na0_7 v117na0_8 v117na0_9 v117na0_10 v117na0_13 v117nfa0_12 => if v117na0_13 = 1 then ((v117na0_4, v117na0_5, v117na0_6, v117na0_7, v117na0_8, v117na0_9, v117na0_10, 1, v15nfa0_16, v117nfa0_12)) else (fl_lt (fl_up v15nfa0_16 (x50.toNat) 1) (fun f140 => fl_lt (x50 + 1) (fun x152 => fl_lt (fl_up f140 (x152.toNat) r117) (fun f154 => fl_lt (f154 (4)) (fun x161 => fl_lt (x161 + 1) (fun x163 => fl_lt (fl_up f154 (4) x163) (fun f164 => (v117na0_4, v117na0_5, v117na0_6, v117na0_7, v117na0_8, v117na0_9, v117na0_10, 0, f164, v117nfa0_12)))))))))))))) else (fl_c2 (FfG_X8_wrong 3 v21na0_4) (fun v61na0_9 v61na0_10 => fl_lt (FfF_X8_isWord) (fun r71 => fl_lt (FfF_X8_isWord) (fun r84 => fl_lt (FfF_X8_number 1) (fun r117 => (v21na0_4, v21na0_5, v21na0_6, v21na0_7, v21na0_8, v61na0_9, v61na0_10, 1, v15nfa0_16, v21nfa0_12)))))))))))))))))

def FfG_X8_watcherLine (a0_3 : Int) (a0_4 : Int) (a0_5 : Int) (a0_6 : Int) (a0_7 : Int) (a0_8 : Int) (a0_9 : Int) (a0_10 : Int) (fa0_16 : (Nat → Int)) (fa0_12 : (Nat → Int)) (fa0_1 : (Nat → Int)) : Int × Int × Int × Int × Int × Int × Int × Int × (Nat → Int) × (Nat → Int) :=
  fl_lt (fa0_16 (5)) (fun x16 => fl_lt (2 * x16) (fun x17 => fl_lt (30 + x17) (fun x18 => fl_lt (9 + x16) (fun x29 => fl_c10 (FfG_X8_newName x29 a0_3 a0_4 a0_5 a0_6 a0_7 a0_8 a0_9 a0_10 fa0_12 fa0_16 fa0_1) (fun v30na0_4 v30na0_5 v30na0_6 v30na0_7 v30na0_8 v30na0_9 v30na0_10 v30na0_13 v30nfa0_12 v30nfa0_16 => if v30na0_13 = 1 then (fl_lt (Ff_X8_last v30nfa0_16) (fun r43 => fl_lt (FfF_X8_after 0) (fun r46 => fl_lt (fl_up v30nfa0_16 (x18.toNat) 0) (fun f49 => fl_lt (x18 + 1) (fun x56 => fl_lt (Ff_X8_last f49) (fun r62 => fl_lt (FfF_X8_after 0) (fun r65 => fl_lt (fl_up f49 (x56.toNat) 0) (fun f68 => (v30na0_4, v30na0_5, v30na0_6, v30na0_7, v30na0_8, v30na0_9, v30na0_10, 1, f68, v30nfa0_12))))))))) else (fl_lt (Ff_X8_last v30nfa0_16) (fun r43 => fl_c10 (FfG_X8_after 0 r43 a0_3 v30na0_4 v30na0_5 v30na0_6 v30na0_7 v30na0_8 v30na0_9 v30na0_10 v30nfa0_12 fa0_1 4 (fl_A (sxc 33))) (fun r46 v46na0_4 v46na0_5 v46na0_6 v46na0_7 v46na0_8 v46na0_9 v46na0_10 v46na0_13 v46nfa0_12 => if v46na0_13 = 1 then (fl_lt (fl_up v30nfa0_16 (x18.toNat) r46) (fun f49 => fl_lt (x18 + 1) (fun x56 => fl_lt (Ff_X8_last f49) (fun r62 => fl_lt (FfF_X8_after 0) (fun r65 => fl_lt (fl_up f49 (x56.toNat) 0) (fun f68 => (v46na0_4, v46na0_5, v46na0_6, v46na0_7, v46na0_8, v46na0_9, v46na0_10, 1, f68, v46nfa0_12))))))) else (fl_lt (fl_up v30nfa0_16 (x18.toNat) r46) (fun f49 => fl_lt (x18 + 1) (fun x56 => fl_lt (Ff_X8_last f49) (fun r62 => fl_c10 (FfG_X8_after 0 r62 a0_3 v46na0_4 v46na0_5 v46na0_6 v46na0_7 v46na0_8 v46na0_9 v46na0_10 v46nfa0_12 fa0_1 2 (fl_A (sxc 34))) (fun r65 v65na0_4 v65na0_5 v65na0_6 v65na0_7 v65na0_8 v65na0_9 v65na0_10 v65na0_13 v65nfa0_12 => if v65na0_13 = 1 then (fl_lt (fl_up f49 (x56.toNat) r65) (fun f68 => (v65na0_4, v65na0_5, v65na0_6, v65na0_7, v65na0_8, v65na0_9, v65na0_10, 1, f68, v65nfa0_12))) else (fl_lt (fl_up f49 (x56.toNat) r65) (fun f68 => fl_lt (f68 (5)) (fun x82 => fl_lt (x82 + 1) (fun x84 => fl_lt (fl_up f68 (5) x84) (fun f85 => (v65na0_4, v65na0_5, v65na0_6, v65na0_7, v65na0_8, v65na0_9, v65na0_10, 0, f85, v65nfa0_12)))))))))))))))))))

def SfG_X8_seenLine_49_1 (a0_3 : Int) (fa0_16 : (Nat → Int)) (fa0_1 : (Nat → Int)) (x19 : Int) (r27 : Int) (j49l4 : Int) (j49l3 : Int) (j49a0_4 : Int) (j49a0_5 : Int) (j49a0_6 : Int) (j49a0_7 : Int) (j49a0_8 : Int) (j49a0_9 : Int) (j49a0_10 : Int) (j49a0_13 : Int) (j49a0_12_a : (Nat → Int)) : Sum (Int × Int × Int × Int × Int × Int × Int × Int × Int × Int × (Nat → Int)) (Int × Int × Int × Int × Int × Int × Int × Int × (Nat → Int) × (Nat → Int)) :=
  if j49a0_13 = 0 then (fl_lt (fa0_16 (6)) (fun x57 => if x57 ≤ j49l4 then (Sum.inr (fl_c6 (FfG_X8_pass a0_3 j49a0_5 fa0_1 j49a0_12_a) (fun v102na0_4 v102na0_5 v102na0_6 v102na0_7 v102na0_8 v102nfa0_12 => fl_lt (fl_up fa0_16 (x19.toNat) r27) (fun f119 => fl_lt (x19 + 1) (fun x126 => fl_lt (fl_up f119 (x126.toNat) j49l3) (fun f128 => fl_lt (f128 (6)) (fun x136 => fl_lt (x136 + 1) (fun x138 => fl_lt (fl_up f128 (6) x138) (fun f139 => (v102na0_4, v102na0_5, v102na0_6, v102na0_7, v102na0_8, j49a0_9, j49a0_10, 0, f139, v102nfa0_12)))))))))) else (fl_lt (2 * j49l4) (fun x77 => fl_lt (36 + x77) (fun x78 => fl_lt (x78 + 1) (fun x80 => fl_lt (fa0_16 (x80.toNat)) (fun x81 => if x81 = j49l3 then (fl_c2 (FfG_X8_wrong 3 j49a0_4) (fun v92na0_9 v92na0_10 => fl_lt (j49l4 + 1) (fun x95 => Sum.inl (x95, j49l3, j49a0_4, j49a0_5, j49a0_6, j49a0_7, j49a0_8, v92na0_9, v92na0_10, 1, j49a0_12_a)))) else (fl_lt (j49l4 + 1) (fun x95 => Sum.inl (x95, j49l3, j49a0_4, j49a0_5, j49a0_6, j49a0_7, j49a0_8, j49a0_9, j49a0_10, 0, j49a0_12_a)))))))))) else (fl_lt (fa0_16 (6)) (fun x57 => if x57 ≤ j49l4 then (Sum.inr ((j49a0_4, j49a0_5, j49a0_6, j49a0_7, j49a0_8, j49a0_9, j49a0_10, 1, fa0_16, j49a0_12_a))) else (fl_lt (j49l4 + 1) (fun x95 => Sum.inl (x95, j49l3, j49a0_4, j49a0_5, j49a0_6, j49a0_7, j49a0_8, j49a0_9, j49a0_10, 1, j49a0_12_a)))))
def SfG_X8_seenLine_49_2 (a0_3 : Int) (fa0_16 : (Nat → Int)) (fa0_1 : (Nat → Int)) (x19 : Int) (r27 : Int) (j49l4 : Int) (j49l3 : Int) (j49a0_4 : Int) (j49a0_5 : Int) (j49a0_6 : Int) (j49a0_7 : Int) (j49a0_8 : Int) (j49a0_9 : Int) (j49a0_10 : Int) (j49a0_13 : Int) (j49a0_12_a : (Nat → Int)) : Sum (Int × Int × Int × Int × Int × Int × Int × Int × Int × Int × (Nat → Int)) (Int × Int × Int × Int × Int × Int × Int × Int × (Nat → Int) × (Nat → Int)) :=
  if j49a0_13 = 0 then (fl_lt (fa0_16 (6)) (fun x57 => if x57 ≤ j49l4 then (Sum.inr (fl_c6 (FfG_X8_pass a0_3 j49a0_5 fa0_1 j49a0_12_a) (fun v102na0_4 v102na0_5 v102na0_6 v102na0_7 v102na0_8 v102nfa0_12 => fl_lt (fl_up fa0_16 (x19.toNat) r27) (fun f119 => fl_lt (x19 + 1) (fun x126 => fl_lt (fl_up f119 (x126.toNat) j49l3) (fun f128 => fl_lt (f128 (6)) (fun x136 => fl_lt (x136 + 1) (fun x138 => fl_lt (fl_up f128 (6) x138) (fun f139 => (v102na0_4, v102na0_5, v102na0_6, v102na0_7, v102na0_8, j49a0_9, j49a0_10, 0, f139, v102nfa0_12)))))))))) else (fl_lt (2 * j49l4) (fun x77 => fl_lt (36 + x77) (fun x78 => fl_lt (x78 + 1) (fun x80 => fl_lt (fa0_16 (x80.toNat)) (fun x81 => if x81 = j49l3 then (fl_c2 (FfG_X8_wrong 3 j49a0_4) (fun v92na0_9 v92na0_10 => fl_lt (j49l4 + 1) (fun x95 => Sum.inl (x95, j49l3, j49a0_4, j49a0_5, j49a0_6, j49a0_7, j49a0_8, v92na0_9, v92na0_10, 1, j49a0_12_a)))) else (fl_lt (j49l4 + 1) (fun x95 => Sum.inl (x95, j49l3, j49a0_4, j49a0_5, j49a0_6, j49a0_7, j49a0_8, j49a0_9, j49a0_10, 0, j49a0_12_a)))))))))) else (fl_lt (fa0_16 (6)) (fun x57 => if x57 ≤ j49l4 then (Sum.inr ((j49a0_4, j49a0_5, j49a0_6, j49a0_7, j49a0_8, j49a0_9, j49a0_10, 1, fa0_16, j49a0_12_a))) else (fl_lt (j49l4 + 1) (fun x95 => Sum.inl (x95, j49l3, j49a0_4, j49a0_5, j49a0_6, j49a0_7, j49a0_8, j49a0_9, j49a0_10, 1, j49a0_12_a)))))
def SfG_X8_seenLine_49_3 (a0_3 : Int) (fa0_16 : (Nat → Int)) (fa0_1 : (Nat → Int)) (x19 : Int) (r27 : Int) (j49l4 : Int) (j49l3 : Int) (j49a0_4 : Int) (j49a0_5 : Int) (j49a0_6 : Int) (j49a0_7 : Int) (j49a0_8 : Int) (j49a0_9 : Int) (j49a0_10 : Int) (j49a0_13 : Int) (j49a0_12_a : (Nat → Int)) : Sum (Int × Int × Int × Int × Int × Int × Int × Int × Int × Int × (Nat → Int)) (Int × Int × Int × Int × Int × Int × Int × Int × (Nat → Int) × (Nat → Int)) :=
  if j49a0_13 = 0 then (fl_lt (fa0_16 (6)) (fun x57 => if x57 ≤ j49l4 then (Sum.inr (fl_c6 (FfG_X8_pass a0_3 j49a0_5 fa0_1 j49a0_12_a) (fun v102na0_4 v102na0_5 v102na0_6 v102na0_7 v102na0_8 v102nfa0_12 => fl_lt (fl_up fa0_16 (x19.toNat) r27) (fun f119 => fl_lt (x19 + 1) (fun x126 => fl_lt (fl_up f119 (x126.toNat) j49l3) (fun f128 => fl_lt (f128 (6)) (fun x136 => fl_lt (x136 + 1) (fun x138 => fl_lt (fl_up f128 (6) x138) (fun f139 => (v102na0_4, v102na0_5, v102na0_6, v102na0_7, v102na0_8, j49a0_9, j49a0_10, 0, f139, v102nfa0_12)))))))))) else (fl_lt (2 * j49l4) (fun x77 => fl_lt (36 + x77) (fun x78 => fl_lt (x78 + 1) (fun x80 => fl_lt (fa0_16 (x80.toNat)) (fun x81 => if x81 = j49l3 then (fl_c2 (FfG_X8_wrong 3 j49a0_4) (fun v92na0_9 v92na0_10 => fl_lt (j49l4 + 1) (fun x95 => Sum.inl (x95, j49l3, j49a0_4, j49a0_5, j49a0_6, j49a0_7, j49a0_8, v92na0_9, v92na0_10, 1, j49a0_12_a)))) else (fl_lt (j49l4 + 1) (fun x95 => Sum.inl (x95, j49l3, j49a0_4, j49a0_5, j49a0_6, j49a0_7, j49a0_8, j49a0_9, j49a0_10, 0, j49a0_12_a)))))))))) else (fl_lt (fa0_16 (6)) (fun x57 => if x57 ≤ j49l4 then (Sum.inr ((j49a0_4, j49a0_5, j49a0_6, j49a0_7, j49a0_8, j49a0_9, j49a0_10, 1, fa0_16, j49a0_12_a))) else (fl_lt (j49l4 + 1) (fun x95 => Sum.inl (x95, j49l3, j49a0_4, j49a0_5, j49a0_6, j49a0_7, j49a0_8, j49a0_9, j49a0_10, 1, j49a0_12_a)))))
def SfG_X8_seenLine_49_4 (a0_3 : Int) (fa0_16 : (Nat → Int)) (fa0_1 : (Nat → Int)) (x19 : Int) (r27 : Int) (j49l4 : Int) (j49l3 : Int) (j49a0_4 : Int) (j49a0_5 : Int) (j49a0_6 : Int) (j49a0_7 : Int) (j49a0_8 : Int) (j49a0_9 : Int) (j49a0_10 : Int) (j49a0_13 : Int) (j49a0_12_a : (Nat → Int)) : Sum (Int × Int × Int × Int × Int × Int × Int × Int × Int × Int × (Nat → Int)) (Int × Int × Int × Int × Int × Int × Int × Int × (Nat → Int) × (Nat → Int)) :=
  if j49a0_13 = 0 then (fl_lt (fa0_16 (6)) (fun x57 => if x57 ≤ j49l4 then (Sum.inr (fl_c6 (FfG_X8_pass a0_3 j49a0_5 fa0_1 j49a0_12_a) (fun v102na0_4 v102na0_5 v102na0_6 v102na0_7 v102na0_8 v102nfa0_12 => fl_lt (fl_up fa0_16 (x19.toNat) r27) (fun f119 => fl_lt (x19 + 1) (fun x126 => fl_lt (fl_up f119 (x126.toNat) j49l3) (fun f128 => fl_lt (f128 (6)) (fun x136 => fl_lt (x136 + 1) (fun x138 => fl_lt (fl_up f128 (6) x138) (fun f139 => (v102na0_4, v102na0_5, v102na0_6, v102na0_7, v102na0_8, j49a0_9, j49a0_10, 0, f139, v102nfa0_12)))))))))) else (fl_lt (2 * j49l4) (fun x77 => fl_lt (36 + x77) (fun x78 => fl_lt (x78 + 1) (fun x80 => fl_lt (fa0_16 (x80.toNat)) (fun x81 => if x81 = j49l3 then (fl_c2 (FfG_X8_wrong 3 j49a0_4) (fun v92na0_9 v92na0_10 => fl_lt (j49l4 + 1) (fun x95 => Sum.inl (x95, j49l3, j49a0_4, j49a0_5, j49a0_6, j49a0_7, j49a0_8, v92na0_9, v92na0_10, 1, j49a0_12_a)))) else (fl_lt (j49l4 + 1) (fun x95 => Sum.inl (x95, j49l3, j49a0_4, j49a0_5, j49a0_6, j49a0_7, j49a0_8, j49a0_9, j49a0_10, 0, j49a0_12_a)))))))))) else (fl_lt (fa0_16 (6)) (fun x57 => if x57 ≤ j49l4 then (Sum.inr ((j49a0_4, j49a0_5, j49a0_6, j49a0_7, j49a0_8, j49a0_9, j49a0_10, 1, fa0_16, j49a0_12_a))) else (fl_lt (j49l4 + 1) (fun x95 => Sum.inl (x95, j49l3, j49a0_4, j49a0_5, j49a0_6, j49a0_7, j49a0_8, j49a0_9, j49a0_10, 1, j49a0_12_a)))))
def FfG_X8_seenLine (a0_3 : Int) (a0_4 : Int) (a0_5 : Int) (a0_6 : Int) (a0_7 : Int) (a0_8 : Int) (a0_9 : Int) (a0_10 : Int) (fa0_16 : (Nat → Int)) (fa0_1 : (Nat → Int)) (fa0_12 : (Nat → Int)) : Int × Int × Int × Int × Int × Int × Int × Int × (Nat → Int) × (Nat → Int) :=
  fl_lt (fa0_16 (6)) (fun x17 => fl_lt (2 * x17) (fun x18 => fl_lt (36 + x18) (fun x19 => fl_lt (Ff_X8_last fa0_16) (fun r24 => fl_c10 (FfG_X8_number 0 r24 a0_3 a0_4 a0_5 a0_6 a0_7 a0_8 a0_9 a0_10 fa0_1 fa0_12) (fun r27 v27na0_4 v27na0_5 v27na0_6 v27na0_7 v27na0_8 v27na0_9 v27na0_10 v27na0_13 v27nfa0_12 => if v27na0_13 = 1 then (fl_lt (FfF_X8_numberHere 0) (fun r42 => fl_wh (fun t9 => SfG_X8_seenLine_49_1 a0_3 fa0_16 fa0_1 x19 r27 t9.1 t9.2.1 t9.2.2.1 t9.2.2.2.1 t9.2.2.2.2.1 t9.2.2.2.2.2.1 t9.2.2.2.2.2.2.1 t9.2.2.2.2.2.2.2.1 t9.2.2.2.2.2.2.2.2.1 t9.2.2.2.2.2.2.2.2.2.1 t9.2.2.2.2.2.2.2.2.2.2) (0, 0, 0, 0, 0, 0, 0, 0, (fun _ => 0), (fun _ => 0)) 6 (0, 0, v27na0_4, v27na0_5, v27na0_6, v27na0_7, v27na0_8, v27na0_9, v27na0_10, 1, v27nfa0_12))) else (fl_c9 (FfG_X8_must a0_3 v27na0_4 v27na0_5 v27na0_6 v27na0_7 v27na0_8 v27na0_9 v27na0_10 v27nfa0_12 fa0_1 2 (fl_A (sxc 35))) (fun v34na0_4 v34na0_5 v34na0_6 v34na0_7 v34na0_8 v34na0_9 v34na0_10 v34na0_13 v34nfa0_12 => if v34na0_13 = 1 then (fl_lt (FfF_X8_numberHere 0) (fun r42 => fl_wh (fun t9 => SfG_X8_seenLine_49_2 a0_3 fa0_16 fa0_1 x19 r27 t9.1 t9.2.1 t9.2.2.1 t9.2.2.2.1 t9.2.2.2.2.1 t9.2.2.2.2.2.1 t9.2.2.2.2.2.2.1 t9.2.2.2.2.2.2.2.1 t9.2.2.2.2.2.2.2.2.1 t9.2.2.2.2.2.2.2.2.2.1 t9.2.2.2.2.2.2.2.2.2.2) (0, 0, 0, 0, 0, 0, 0, 0, (fun _ => 0), (fun _ => 0)) 6 (0, 0, v34na0_4, v34na0_5, v34na0_6, v34na0_7, v34na0_8, v34na0_9, v34na0_10, 1, v34nfa0_12))) else (fl_c4 (FfG_X8_numberHere 0 999 v34na0_4 v34na0_6 v34na0_7 v34na0_9 v34na0_10) (fun r42 v42na0_9 v42na0_10 v42na0_13 => if v42na0_13 = 1 then (fl_wh (fun t9 => SfG_X8_seenLine_49_3 a0_3 fa0_16 fa0_1 x19 r27 t9.1 t9.2.1 t9.2.2.1 t9.2.2.2.1 t9.2.2.2.2.1 t9.2.2.2.2.2.1 t9.2.2.2.2.2.2.1 t9.2.2.2.2.2.2.2.1 t9.2.2.2.2.2.2.2.2.1 t9.2.2.2.2.2.2.2.2.2.1 t9.2.2.2.2.2.2.2.2.2.2) (0, 0, 0, 0, 0, 0, 0, 0, (fun _ => 0), (fun _ => 0)) 6 (0, r42, v34na0_4, v34na0_5, v34na0_6, v34na0_7, v34na0_8, v42na0_9, v42na0_10, 1, v34nfa0_12)) else (fl_wh (fun t9 => SfG_X8_seenLine_49_4 a0_3 fa0_16 fa0_1 x19 r27 t9.1 t9.2.1 t9.2.2.1 t9.2.2.2.1 t9.2.2.2.2.1 t9.2.2.2.2.2.1 t9.2.2.2.2.2.2.1 t9.2.2.2.2.2.2.2.1 t9.2.2.2.2.2.2.2.2.1 t9.2.2.2.2.2.2.2.2.2.1 t9.2.2.2.2.2.2.2.2.2.2) (0, 0, 0, 0, 0, 0, 0, 0, (fun _ => 0), (fun _ => 0)) 6 (0, r42, v34na0_4, v34na0_5, v34na0_6, v34na0_7, v34na0_8, v42na0_9, v42na0_10, 0, v34nfa0_12)))))))))))

def FfG_X8_readLine (a0_3 : Int) (a0_4 : Int) (a0_5 : Int) (a0_6 : Int) (a0_7 : Int) (a0_8 : Int) (a0_9 : Int) (a0_10 : Int) (fa0_12 : (Nat → Int)) (fa0_16 : (Nat → Int)) (fa0_1 : (Nat → Int)) : Int × Int × Int × Int × Int × Int × Int × Int × (Nat → Int) × (Nat → Int) :=
  fl_lt (FfG_X8_isWord a0_6 a0_8 fa0_12 7 (fl_A (sxc 18))) (fun r3 => if r3 = 0 then (fl_lt (FfG_X8_isWord a0_6 a0_8 fa0_12 3 (fl_A (sxc 19))) (fun r19 => if r19 = 0 then (fl_lt (fa0_16 (4)) (fun x40 => if 9 ≤ x40 then (fl_c10 (FfG_X8_begins 0 a0_3 a0_4 a0_5 a0_6 a0_7 a0_8 a0_9 a0_10 fa0_12 fa0_16 fa0_1 6 (fl_A (sxc 20))) (fun r51 v51na0_4 v51na0_5 v51na0_6 v51na0_7 v51na0_8 v51na0_9 v51na0_10 v51na0_13 v51nfa0_12 => if r51 = 0 then (fl_lt (fa0_16 (5)) (fun x72 => if 3 ≤ x72 then (fl_c10 (FfG_X8_begins 0 a0_3 v51na0_4 v51na0_5 v51na0_6 v51na0_7 v51na0_8 v51na0_9 v51na0_10 v51nfa0_12 fa0_16 fa0_1 7 (fl_A (sxc 21))) (fun r82 v82na0_4 v82na0_5 v82na0_6 v82na0_7 v82na0_8 v82na0_9 v82na0_10 v82na0_13 v82nfa0_12 => if r82 = 0 then (fl_lt (fa0_16 (6)) (fun x104 => if 6 ≤ x104 then (fl_c10 (FfG_X8_begins 0 a0_3 v82na0_4 v82na0_5 v82na0_6 v82na0_7 v82na0_8 v82na0_9 v82na0_10 v82nfa0_12 fa0_16 fa0_1 4 (fl_A (sxc 22))) (fun r115 v115na0_4 v115na0_5 v115na0_6 v115na0_7 v115na0_8 v115na0_9 v115na0_10 v115na0_13 v115nfa0_12 => if r115 = 0 then (fl_c2 (FfG_X8_wrong 1 v115na0_4) (fun v134na0_9 v134na0_10 => (v115na0_4, v115na0_5, v115na0_6, v115na0_7, v115na0_8, v134na0_9, v134na0_10, 1, v115nfa0_12, fa0_16))) else (if v115na0_13 = 1 then ((v115na0_4, v115na0_5, v115na0_6, v115na0_7, v115na0_8, v115na0_9, v115na0_10, 1, v115nfa0_12, fa0_16)) else ((0, 0, 0, 0, 0, 0, 0, 0, (fun _ => 0), (fun _ => 0)))))) else (fl_c10 (FfG_X8_begins 1 a0_3 v82na0_4 v82na0_5 v82na0_6 v82na0_7 v82na0_8 v82na0_9 v82na0_10 v82nfa0_12 fa0_16 fa0_1 4 (fl_A (sxc 22))) (fun r115 v115na0_4 v115na0_5 v115na0_6 v115na0_7 v115na0_8 v115na0_9 v115na0_10 v115na0_13 v115nfa0_12 => if r115 = 0 then (fl_c2 (FfG_X8_wrong 1 v115na0_4) (fun v134na0_9 v134na0_10 => (v115na0_4, v115na0_5, v115na0_6, v115na0_7, v115na0_8, v134na0_9, v134na0_10, 1, v115nfa0_12, fa0_16))) else (if v115na0_13 = 1 then ((v115na0_4, v115na0_5, v115na0_6, v115na0_7, v115na0_8, v115na0_9, v115na0_10, 1, v115nfa0_12, fa0_16)) else (fl_c10 (FfG_X8_seenLine a0_3 v115na0_4 v115na0_5 v115na0_6 v115na0_7 v115na0_8 v115na0_9 v115na0_10 fa0_16 fa0_1 v115nfa0_12) (fun v122na0_4 v122na0_5 v122na0_6 v122na0_7 v122na0_8 v122na0_9 v122na0_10 v122na0_13 v122nfa0_16 v122nfa0_12 => if v122na0_13 = 1 then ((v122na0_4, v122na0_5, v122na0_6, v122na0_7, v122na0_8, v122na0_9, v122na0_10, 1, v122nfa0_12, v122nfa0_16)) else ((v122na0_4, v122na0_5, v122na0_6, v122na0_7, v122na0_8, v122na0_9, v122na0_10, 0, v122nfa0_12, v122nfa0_16))))))))) else (if v82na0_13 = 1 then ((v82na0_4, v82na0_5, v82na0_6, v82na0_7, v82na0_8, v82na0_9, v82na0_10, 1, v82nfa0_12, fa0_16)) else ((0, 0, 0, 0, 0, 0, 0, 0, (fun _ => 0), (fun _ => 0)))))) else (fl_c10 (FfG_X8_begins 1 a0_3 v51na0_4 v51na0_5 v51na0_6 v51na0_7 v51na0_8 v51na0_9 v51na0_10 v51nfa0_12 fa0_16 fa0_1 7 (fl_A (sxc 21))) (fun r82 v82na0_4 v82na0_5 v82na0_6 v82na0_7 v82na0_8 v82na0_9 v82na0_10 v82na0_13 v82nfa0_12 => if r82 = 0 then (fl_lt (fa0_16 (6)) (fun x104 => if 6 ≤ x104 then (fl_c10 (FfG_X8_begins 0 a0_3 v82na0_4 v82na0_5 v82na0_6 v82na0_7 v82na0_8 v82na0_9 v82na0_10 v82nfa0_12 fa0_16 fa0_1 4 (fl_A (sxc 22))) (fun r115 v115na0_4 v115na0_5 v115na0_6 v115na0_7 v115na0_8 v115na0_9 v115na0_10 v115na0_13 v115nfa0_12 => if r115 = 0 then (fl_c2 (FfG_X8_wrong 1 v115na0_4) (fun v134na0_9 v134na0_10 => (v115na0_4, v115na0_5, v115na0_6, v115na0_7, v115na0_8, v134na0_9, v134na0_10, 1, v115nfa0_12, fa0_16))) else (if v115na0_13 = 1 then ((v115na0_4, v115na0_5, v115na0_6, v115na0_7, v115na0_8, v115na0_9, v115na0_10, 1, v115nfa0_12, fa0_16)) else ((0, 0, 0, 0, 0, 0, 0, 0, (fun _ => 0), (fun _ => 0)))))) else (fl_c10 (FfG_X8_begins 1 a0_3 v82na0_4 v82na0_5 v82na0_6 v82na0_7 v82na0_8 v82na0_9 v82na0_10 v82nfa0_12 fa0_16 fa0_1 4 (fl_A (sxc 22))) (fun r115 v115na0_4 v115na0_5 v115na0_6 v115na0_7 v115na0_8 v115na0_9 v115na0_10 v115na0_13 v115nfa0_12 => if r115 = 0 then (fl_c2 (FfG_X8_wrong 1 v115na0_4) (fun v134na0_9 v134na0_10 => (v115na0_4, v115na0_5, v115na0_6, v115na0_7, v115na0_8, v134na0_9, v134na0_10, 1, v115nfa0_12, fa0_16))) else (if v115na0_13 = 1 then ((v115na0_4, v115na0_5, v115na0_6, v115na0_7, v115na0_8, v115na0_9, v115na0_10, 1, v115nfa0_12, fa0_16)) else (fl_c10 (FfG_X8_seenLine a0_3 v115na0_4 v115na0_5 v115na0_6 v115na0_7 v115na0_8 v115na0_9 v115na0_10 fa0_16 fa0_1 v115nfa0_12) (fun v122na0_4 v122na0_5 v122na0_6 v122na0_7 v122na0_8 v122na0_9 v122na0_10 v122na0_13 v122nfa0_16 v122nfa0_12 => if v122na0_13 = 1 then ((v122na0_4, v122na0_5, v122na0_6, v122na0_7, v122na0_8, v122na0_9, v122na0_10, 1, v122nfa0_12, v122nfa0_16)) else ((v122na0_4, v122na0_5, v122na0_6, v122na0_7, v122na0_8, v122na0_9, v122na0_10, 0, v122nfa0_12, v122nfa0_16))))))))) else (if v82na0_13 = 1 then ((v82na0_4, v82na0_5, v82na0_6, v82na0_7, v82na0_8, v82na0_9, v82na0_10, 1, v82nfa0_12, fa0_16)) else (fl_c10 (FfG_X8_watcherLine a0_3 v82na0_4 v82na0_5 v82na0_6 v82na0_7 v82na0_8 v82na0_9 v82na0_10 fa0_16 v82nfa0_12 fa0_1) (fun v89na0_4 v89na0_5 v89na0_6 v89na0_7 v89na0_8 v89na0_9 v89na0_10 v89na0_13 v89nfa0_16 v89nfa0_12 => if v89na0_13 = 1 then ((v89na0_4, v89na0_5, v89na0_6, v89na0_7, v89na0_8, v89na0_9, v89na0_10, 1, v89nfa0_12, v89nfa0_16)) else ((v89na0_4, v89na0_5, v89na0_6, v89na0_7, v89na0_8, v89na0_9, v89na0_10, 0, v89nfa0_12, v89nfa0_16))))))))) else (if v51na0_13 = 1 then ((v51na0_4, v51na0_5, v51na0_6, v51na0_7, v51na0_8, v51na0_9, v51na0_10, 1, v51nfa0_12, fa0_16)) else ((0, 0, 0, 0, 0, 0, 0, 0, (fun _ => 0), (fun _ => 0)))))) else (fl_c10 (FfG_X8_begins 1 a0_3 a0_4 a0_5 a0_6 a0_7 a0_8 a0_9 a0_10 fa0_12 fa0_16 fa0_1 6 (fl_A (sxc 20))) (fun r51 v51na0_4 v51na0_5 v51na0_6 v51na0_7 v51na0_8 v51na0_9 v51na0_10 v51na0_13 v51nfa0_12 => if r51 = 0 then (fl_lt (fa0_16 (5)) (fun x72 => if 3 ≤ x72 then (fl_c10 (FfG_X8_begins 0 a0_3 v51na0_4 v51na0_5 v51na0_6 v51na0_7 v51na0_8 v51na0_9 v51na0_10 v51nfa0_12 fa0_16 fa0_1 7 (fl_A (sxc 21))) (fun r82 v82na0_4 v82na0_5 v82na0_6 v82na0_7 v82na0_8 v82na0_9 v82na0_10 v82na0_13 v82nfa0_12 => if r82 = 0 then (fl_lt (fa0_16 (6)) (fun x104 => if 6 ≤ x104 then (fl_c10 (FfG_X8_begins 0 a0_3 v82na0_4 v82na0_5 v82na0_6 v82na0_7 v82na0_8 v82na0_9 v82na0_10 v82nfa0_12 fa0_16 fa0_1 4 (fl_A (sxc 22))) (fun r115 v115na0_4 v115na0_5 v115na0_6 v115na0_7 v115na0_8 v115na0_9 v115na0_10 v115na0_13 v115nfa0_12 => if r115 = 0 then (fl_c2 (FfG_X8_wrong 1 v115na0_4) (fun v134na0_9 v134na0_10 => (v115na0_4, v115na0_5, v115na0_6, v115na0_7, v115na0_8, v134na0_9, v134na0_10, 1, v115nfa0_12, fa0_16))) else (if v115na0_13 = 1 then ((v115na0_4, v115na0_5, v115na0_6, v115na0_7, v115na0_8, v115na0_9, v115na0_10, 1, v115nfa0_12, fa0_16)) else ((0, 0, 0, 0, 0, 0, 0, 0, (fun _ => 0), (fun _ => 0)))))) else (fl_c10 (FfG_X8_begins 1 a0_3 v82na0_4 v82na0_5 v82na0_6 v82na0_7 v82na0_8 v82na0_9 v82na0_10 v82nfa0_12 fa0_16 fa0_1 4 (fl_A (sxc 22))) (fun r115 v115na0_4 v115na0_5 v115na0_6 v115na0_7 v115na0_8 v115na0_9 v115na0_10 v115na0_13 v115nfa0_12 => if r115 = 0 then (fl_c2 (FfG_X8_wrong 1 v115na0_4) (fun v134na0_9 v134na0_10 => (v115na0_4, v115na0_5, v115na0_6, v115na0_7, v115na0_8, v134na0_9, v134na0_10, 1, v115nfa0_12, fa0_16))) else (if v115na0_13 = 1 then ((v115na0_4, v115na0_5, v115na0_6, v115na0_7, v115na0_8, v115na0_9, v115na0_10, 1, v115nfa0_12, fa0_16)) else (fl_c10 (FfG_X8_seenLine a0_3 v115na0_4 v115na0_5 v115na0_6 v115na0_7 v115na0_8 v115na0_9 v115na0_10 fa0_16 fa0_1 v115nfa0_12) (fun v122na0_4 v122na0_5 v122na0_6 v122na0_7 v122na0_8 v122na0_9 v122na0_10 v122na0_13 v122nfa0_16 v122nfa0_12 => if v122na0_13 = 1 then ((v122na0_4, v122na0_5, v122na0_6, v122na0_7, v122na0_8, v122na0_9, v122na0_10, 1, v122nfa0_12, v122nfa0_16)) else ((v122na0_4, v122na0_5, v122na0_6, v122na0_7, v122na0_8, v122na0_9, v122na0_10, 0, v122nfa0_12, v122nfa0_16))))))))) else (if v82na0_13 = 1 then ((v82na0_4, v82na0_5, v82na0_6, v82na0_7, v82na0_8, v82na0_9, v82na0_10, 1, v82nfa0_12, fa0_16)) else ((0, 0, 0, 0, 0, 0, 0, 0, (fun _ => 0), (fun _ => 0)))))) else (fl_c10 (FfG_X8_begins 1 a0_3 v51na0_4 v51na0_5 v51na0_6 v51na0_7 v51na0_8 v51na0_9 v51na0_10 v51nfa0_12 fa0_16 fa0_1 7 (fl_A (sxc 21))) (fun r82 v82na0_4 v82na0_5 v82na0_6 v82na0_7 v82na0_8 v82na0_9 v82na0_10 v82na0_13 v82nfa0_12 => if r82 = 0 then (fl_lt (fa0_16 (6)) (fun x104 => if 6 ≤ x104 then (fl_c10 (FfG_X8_begins 0 a0_3 v82na0_4 v82na0_5 v82na0_6 v82na0_7 v82na0_8 v82na0_9 v82na0_10 v82nfa0_12 fa0_16 fa0_1 4 (fl_A (sxc 22))) (fun r115 v115na0_4 v115na0_5 v115na0_6 v115na0_7 v115na0_8 v115na0_9 v115na0_10 v115na0_13 v115nfa0_12 => if r115 = 0 then (fl_c2 (FfG_X8_wrong 1 v115na0_4) (fun v134na0_9 v134na0_10 => (v115na0_4, v115na0_5, v115na0_6, v115na0_7, v115na0_8, v134na0_9, v134na0_10, 1, v115nfa0_12, fa0_16))) else (if v115na0_13 = 1 then ((v115na0_4, v115na0_5, v115na0_6, v115na0_7, v115na0_8, v115na0_9, v115na0_10, 1, v115nfa0_12, fa0_16)) else ((0, 0, 0, 0, 0, 0, 0, 0, (fun _ => 0), (fun _ => 0)))))) else (fl_c10 (FfG_X8_begins 1 a0_3 v82na0_4 v82na0_5 v82na0_6 v82na0_7 v82na0_8 v82na0_9 v82na0_10 v82nfa0_12 fa0_16 fa0_1 4 (fl_A (sxc 22))) (fun r115 v115na0_4 v115na0_5 v115na0_6 v115na0_7 v115na0_8 v115na0_9 v115na0_10 v115na0_13 v115nfa0_12 => if r115 = 0 then (fl_c2 (FfG_X8_wrong 1 v115na0_4) (fun v134na0_9 v134na0_10 => (v115na0_4, v115na0_5, v115na0_6, v115na0_7, v115na0_8, v134na0_9, v134na0_10, 1, v115nfa0_12, fa0_16))) else (if v115na0_13 = 1 then ((v115na0_4, v115na0_5, v115na0_6, v115na0_7, v115na0_8, v115na0_9, v115na0_10, 1, v115nfa0_12, fa0_16)) else (fl_c10 (FfG_X8_seenLine a0_3 v115na0_4 v115na0_5 v115na0_6 v115na0_7 v115na0_8 v115na0_9 v115na0_10 fa0_16 fa0_1 v115nfa0_12) (fun v122na0_4 v122na0_5 v122na0_6 v122na0_7 v122na0_8 v122na0_9 v122na0_10 v122na0_13 v122nfa0_16 v122nfa0_12 => if v122na0_13 = 1 then ((v122na0_4, v122na0_5, v122na0_6, v122na0_7, v122na0_8, v122na0_9, v122na0_10, 1, v122nfa0_12, v122nfa0_16)) else ((v122na0_4, v122na0_5, v122na0_6, v122na0_7, v122na0_8, v122na0_9, v122na0_10, 0, v122nfa0_12, v122nfa0_16))))))))) else (if v82na0_13 = 1 then ((v82na0_4, v82na0_5, v82na0_6, v82na0_7, v82na0_8, v82na0_9, v82na0_10, 1, v82nfa0_12, fa0_16)) else (fl_c10 (FfG_X8_watcherLine a0_3 v82na0_4 v82na0_5 v82na0_6 v82na0_7 v82na0_8 v82na0_9 v82na0_10 fa0_16 v82nfa0_12 fa0_1) (fun v89na0_4 v89na0_5 v89na0_6 v89na0_7 v89na0_8 v89na0_9 v89na0_10 v89na0_13 v89nfa0_16 v89nfa0_12 => if v89na0_13 = 1 then ((v89na0_4, v89na0_5, v89na0_6, v89na0_7, v89na0_8, v89na0_9, v89na0_10, 1, v89nfa0_12, v89nfa0_16)) else ((v89na0_4, v89na0_5, v89na0_6, v89na0_7, v89na0_8, v89na0_9, v89na0_10, 0, v89nfa0_12, v89nfa0_16))))))))) else (if v51na0_13 = 1 then ((v51na0_4, v51na0_5, v51na0_6, v51na0_7, v51na0_8, v51na0_9, v51na0_10, 1, v51nfa0_12, fa0_16)) else (fl_c10 (FfG_X8_figureLine a0_3 v51na0_4 v51na0_5 v51na0_6 v51na0_7 v51na0_8 v51na0_9 v51na0_10 fa0_16 v51nfa0_12 fa0_1) (fun v58na0_4 v58na0_5 v58na0_6 v58na0_7 v58na0_8 v58na0_9 v58na0_10 v58na0_13 v58nfa0_16 v58nfa0_12 => if v58na0_13 = 1 then ((v58na0_4, v58na0_5, v58na0_6, v58na0_7, v58na0_8, v58na0_9, v58na0_10, 1, v58nfa0_12, v58nfa0_16)) else ((v58na0_4, v58na0_5, v58na0_6, v58na0_7, v58na0_8, v58na0_9, v58na0_10, 0, v58nfa0_12, v58nfa0_16))))))))) else (fl_c10 (FfG_X8_lawLine a0_3 a0_4 a0_5 a0_6 a0_7 a0_8 a0_9 a0_10 fa0_16 fa0_1 fa0_12) (fun v26na0_4 v26na0_5 v26na0_6 v26na0_7 v26na0_8 v26na0_9 v26na0_10 v26na0_13 v26nfa0_16 v26nfa0_12 => if v26na0_13 = 1 then ((v26na0_4, v26na0_5, v26na0_6, v26na0_7, v26na0_8, v26na0_9, v26na0_10, 1, v26nfa0_12, v26nfa0_16)) else ((v26na0_4, v26na0_5, v26na0_6, v26na0_7, v26na0_8, v26na0_9, v26na0_10, 0, v26nfa0_12, v26nfa0_16)))))) else (fl_c10 (FfG_X8_galleryLine a0_3 a0_4 a0_5 a0_6 a0_7 a0_8 a0_9 a0_10 fa0_16 fa0_1 fa0_12) (fun v10na0_4 v10na0_5 v10na0_6 v10na0_7 v10na0_8 v10na0_9 v10na0_10 v10na0_13 v10nfa0_16 v10nfa0_12 => if v10na0_13 = 1 then ((v10na0_4, v10na0_5, v10na0_6, v10na0_7, v10na0_8, v10na0_9, v10na0_10, 1, v10nfa0_12, v10nfa0_16)) else ((v10na0_4, v10na0_5, v10na0_6, v10na0_7, v10na0_8, v10na0_9, v10na0_10, 0, v10nfa0_12, v10nfa0_16)))))

def Gf_X8_gallery_154_1 (a1 : Int) (a0_14 : Int) (a0_21 : Int) (a0_22 : Int) (fa0_15 : (Nat → Int)) (fa0_17 : (Nat → Int)) (v1na0_0 : Int) (j77a0_4 : Int) (j77a0_5 : Int) (j77a0_6 : Int) (j77a0_7 : Int) (j77a0_8 : Int) (j77a0_16_a : (Nat → Int)) (j77a0_12_a : (Nat → Int)) : Int × Int × Int × Int × Int × Int × Int × Int × Int × Int × Int × Int × Int × Int × Int × Int × (Nat → Int) × (Nat → Int) × (Nat → Int) × (Nat → Int) :=
  fl_c2 (FfG_X8_wrong 6 j77a0_4) (fun v161na0_9 v161na0_10 => fl_c2 (Ff_X8_no 4) (fun r173 v173na0_11 => ((-1), v1na0_0, 0, a1, j77a0_4, j77a0_5, j77a0_6, j77a0_7, j77a0_8, v161na0_9, v161na0_10, v173na0_11, 1, a0_14, a0_21, a0_22, j77a0_16_a, j77a0_12_a, fa0_15, fa0_17)))
def Sf_X8_gallery_235_1 (a1 : Int) (v1na0_0 : Int) (v1na0_11 : Int) (j77a0_4 : Int) (j77a0_5 : Int) (j77a0_6 : Int) (j77a0_7 : Int) (j77a0_8 : Int) (j77a0_9 : Int) (j77a0_10 : Int) (j77a0_16_a : (Nat → Int)) (j77a0_12_a : (Nat → Int)) (v190nfa3 : (Nat → Int)) (j235l2 : Int) (j235a0_17_a : (Nat → Int)) : Sum (Int × (Nat → Int)) (Int × Int × Int × Int × Int × Int × Int × Int × Int × Int × Int × Int × Int × Int × Int × Int × (Nat → Int) × (Nat → Int) × (Nat → Int) × (Nat → Int)) :=
  if 23 ≤ j235l2 then (Sum.inr (fl_lt (v190nfa3 (9)) (fun x266 => fl_lt (fl_up j235a0_17_a (19) x266) (fun f267 => fl_lt (v190nfa3 (0)) (fun x288 => (x288, v1na0_0, 0, a1, j77a0_4, j77a0_5, j77a0_6, j77a0_7, j77a0_8, j77a0_9, j77a0_10, v1na0_11, 0, 1, 0, 0, j77a0_16_a, j77a0_12_a, v190nfa3, f267)))))) else (fl_lt (fl_up j235a0_17_a (j235l2.toNat) 0) (fun f247 => fl_lt (j235l2 + 1) (fun x248 => Sum.inl (x248, f247))))
def Gf_X8_gallery_221_1 (j195l2 : Int) (j195a0_17_a : (Nat → Int)) (j221s0 : Int) : Sum (Int × (Nat → Int)) (Int × Int × Int × Int × Int × Int × Int × Int × Int × Int × Int × Int × Int × Int × Int × Int × (Nat → Int) × (Nat → Int) × (Nat → Int) × (Nat → Int)) :=
  fl_lt (fl_up j195a0_17_a (j195l2.toNat) j221s0) (fun f221 => fl_lt (j195l2 + 1) (fun x222 => Sum.inl (x222, f221)))
def Sf_X8_gallery_195_1 (a1 : Int) (v1na0_0 : Int) (v1na0_11 : Int) (j77a0_4 : Int) (j77a0_5 : Int) (j77a0_6 : Int) (j77a0_7 : Int) (j77a0_8 : Int) (j77a0_9 : Int) (j77a0_10 : Int) (j77a0_16_a : (Nat → Int)) (j77a0_12_a : (Nat → Int)) (v190nfa3 : (Nat → Int)) (j195l2 : Int) (j195a0_17_a : (Nat → Int)) : Sum (Int × (Nat → Int)) (Int × Int × Int × Int × Int × Int × Int × Int × Int × Int × Int × Int × Int × Int × Int × Int × (Nat → Int) × (Nat → Int) × (Nat → Int) × (Nat → Int)) :=
  if 23 ≤ j195l2 then (Sum.inr (fl_lt (v190nfa3 (0)) (fun x233 => fl_wh (fun t9 => Sf_X8_gallery_235_1 a1 v1na0_0 v1na0_11 j77a0_4 j77a0_5 j77a0_6 j77a0_7 j77a0_8 j77a0_9 j77a0_10 j77a0_16_a j77a0_12_a v190nfa3 t9.1 t9.2) (0, 0, 0, 0, 0, 0, 0, 0, 0, 0, 0, 0, 0, 0, 0, 0, (fun _ => 0), (fun _ => 0), (fun _ => 0), (fun _ => 0)) 22 (x233, j195a0_17_a)))) else (fl_lt (v190nfa3 (0)) (fun x212 => if x212 ≤ j195l2 then (Gf_X8_gallery_221_1 j195l2 j195a0_17_a 0) else (Gf_X8_gallery_221_1 j195l2 j195a0_17_a j195l2)))
def Sf_X8_gallery_77_1 (a1 : Int) (a0_14 : Int) (a0_21 : Int) (a0_22 : Int) (fa0_1 : (Nat → Int)) (fa0_15 : (Nat → Int)) (fa0_17 : (Nat → Int)) (v1na0_0 : Int) (v1na0_11 : Int) (j77a0_4 : Int) (j77a0_5 : Int) (j77a0_6 : Int) (j77a0_7 : Int) (j77a0_8 : Int) (j77a0_9 : Int) (j77a0_10 : Int) (j77a0_16_a : (Nat → Int)) (j77a0_12_a : (Nat → Int)) : Sum (Int × Int × Int × Int × Int × Int × Int × (Nat → Int) × (Nat → Int)) (Int × Int × Int × Int × Int × Int × Int × Int × Int × Int × Int × Int × Int × Int × Int × Int × (Nat → Int) × (Nat → Int) × (Nat → Int) × (Nat → Int)) :=
  if j77a0_6 = 59 then (fl_c6 (Ff_X8_next a1 j77a0_5 fa0_1 j77a0_12_a) (fun v94na0_4 v94na0_5 v94na0_6 v94na0_7 v94na0_8 v94nfa0_12 => fl_c10 (FfG_X8_readLine a1 v94na0_4 v94na0_5 v94na0_6 v94na0_7 v94na0_8 j77a0_9 j77a0_10 v94nfa0_12 j77a0_16_a fa0_1) (fun v98na0_4 v98na0_5 v98na0_6 v98na0_7 v98na0_8 v98na0_9 v98na0_10 v98na0_13 v98nfa0_12 v98nfa0_16 => if v98na0_13 = 1 then (Sum.inr (fl_c2 (Ff_X8_no 4) (fun r173 v173na0_11 => ((-1), v1na0_0, 0, a1, v98na0_4, v98na0_5, v98na0_6, v98na0_7, v98na0_8, v98na0_9, v98na0_10, v173na0_11, 1, a0_14, a0_21, a0_22, v98nfa0_16, v98nfa0_12, fa0_15, fa0_17)))) else (Sum.inl (v98na0_4, v98na0_5, v98na0_6, v98na0_7, v98na0_8, v98na0_9, v98na0_10, v98nfa0_16, v98nfa0_12))))) else (Sum.inr (if j77a0_6 = 0 then (fl_lt (j77a0_16_a (11)) (fun x140 => if x140 = 0 then (Gf_X8_gallery_154_1 a1 a0_14 a0_21 a0_22 fa0_15 fa0_17 v1na0_0 j77a0_4 j77a0_5 j77a0_6 j77a0_7 j77a0_8 j77a0_16_a j77a0_12_a) else (fl_lt (j77a0_16_a (10)) (fun x150 => if x150 = 0 then (Gf_X8_gallery_154_1 a1 a0_14 a0_21 a0_22 fa0_15 fa0_17 v1na0_0 j77a0_4 j77a0_5 j77a0_6 j77a0_7 j77a0_8 j77a0_16_a j77a0_12_a) else (fl_lt (va_cpy j77a0_16_a fa0_15 (0) (0) 156) (fun v190nfa3 => fl_wh (fun t9 => Sf_X8_gallery_195_1 a1 v1na0_0 v1na0_11 j77a0_4 j77a0_5 j77a0_6 j77a0_7 j77a0_8 j77a0_9 j77a0_10 j77a0_16_a j77a0_12_a v190nfa3 t9.1 t9.2) (0, 0, 0, 0, 0, 0, 0, 0, 0, 0, 0, 0, 0, 0, 0, 0, (fun _ => 0), (fun _ => 0), (fun _ => 0), (fun _ => 0)) 24 (0, fa0_17))))))) else (fl_c2 (FfG_X8_wrong 1 j77a0_4) (fun v124na0_9 v124na0_10 => fl_c2 (Ff_X8_no 4) (fun r173 v173na0_11 => ((-1), v1na0_0, 0, a1, j77a0_4, j77a0_5, j77a0_6, j77a0_7, j77a0_8, v124na0_9, v124na0_10, v173na0_11, 1, a0_14, a0_21, a0_22, j77a0_16_a, j77a0_12_a, fa0_15, fa0_17))))))
def Sf_X8_gallery_39_1 (a1 : Int) (a0_10 : Int) (a0_14 : Int) (a0_21 : Int) (a0_22 : Int) (fa0_1 : (Nat → Int)) (fa0_12 : (Nat → Int)) (fa0_15 : (Nat → Int)) (fa0_17 : (Nat → Int)) (v1na0_0 : Int) (v1na0_11 : Int) (j39l2 : Int) (j39a0_16_a : (Nat → Int)) : Sum (Int × (Nat → Int)) (Int × Int × Int × Int × Int × Int × Int × Int × Int × Int × Int × Int × Int × Int × Int × Int × (Nat → Int) × (Nat → Int) × (Nat → Int) × (Nat → Int)) :=
  if 156 ≤ j39l2 then (Sum.inr (fl_c6 (Ff_X8_next a1 0 fa0_1 fa0_12) (fun v70na0_4 v70na0_5 v70na0_6 v70na0_7 v70na0_8 v70nfa0_12 => fl_c10 (FfG_X8_readLine a1 v70na0_4 v70na0_5 v70na0_6 v70na0_7 v70na0_8 0 a0_10 v70nfa0_12 j39a0_16_a fa0_1) (fun v74na0_4 v74na0_5 v74na0_6 v74na0_7 v74na0_8 v74na0_9 v74na0_10 v74na0_13 v74nfa0_12 v74nfa0_16 => if v74na0_13 = 1 then (fl_c2 (Ff_X8_no 4) (fun r173 v173na0_11 => ((-1), v1na0_0, 0, a1, v74na0_4, v74na0_5, v74na0_6, v74na0_7, v74na0_8, v74na0_9, v74na0_10, v173na0_11, 1, a0_14, a0_21, a0_22, v74nfa0_16, v74nfa0_12, fa0_15, fa0_17))) else (fl_wh (fun t9 => Sf_X8_gallery_77_1 a1 a0_14 a0_21 a0_22 fa0_1 fa0_15 fa0_17 v1na0_0 v1na0_11 t9.1 t9.2.1 t9.2.2.1 t9.2.2.2.1 t9.2.2.2.2.1 t9.2.2.2.2.2.1 t9.2.2.2.2.2.2.1 t9.2.2.2.2.2.2.2.1 t9.2.2.2.2.2.2.2.2) (0, 0, 0, 0, 0, 0, 0, 0, 0, 0, 0, 0, 0, 0, 0, 0, (fun _ => 0), (fun _ => 0), (fun _ => 0), (fun _ => 0)) 1804 (v74na0_4, v74na0_5, v74na0_6, v74na0_7, v74na0_8, v74na0_9, v74na0_10, v74nfa0_16, v74nfa0_12)))))) else (fl_lt (fl_up j39a0_16_a (j39l2.toNat) 0) (fun f52 => fl_lt (j39l2 + 1) (fun x53 => Sum.inl (x53, f52))))
def Ff_X8_gallery (a1 : Int) (a0_2 : Int) (a0_3 : Int) (a0_4 : Int) (a0_5 : Int) (a0_6 : Int) (a0_7 : Int) (a0_8 : Int) (a0_9 : Int) (a0_10 : Int) (a0_13 : Int) (a0_14 : Int) (a0_21 : Int) (a0_22 : Int) (fa0_16 : (Nat → Int)) (fa0_1 : (Nat → Int)) (fa0_12 : (Nat → Int)) (fa0_15 : (Nat → Int)) (fa0_17 : (Nat → Int)) : Int × Int × Int × Int × Int × Int × Int × Int × Int × Int × Int × Int × Int × Int × Int × Int × (Nat → Int) × (Nat → Int) × (Nat → Int) × (Nat → Int) :=
  fl_c2 (Ff_X8_good) (fun v1na0_0 v1na0_11 => fl_lt (Ff_X8_in a1 0 a0_2) (fun r10 => if r10 = 1 then (fl_wh (fun t9 => Sf_X8_gallery_39_1 a1 a0_10 a0_14 a0_21 a0_22 fa0_1 fa0_12 fa0_15 fa0_17 v1na0_0 v1na0_11 t9.1 t9.2) (0, 0, 0, 0, 0, 0, 0, 0, 0, 0, 0, 0, 0, 0, 0, 0, (fun _ => 0), (fun _ => 0), (fun _ => 0), (fun _ => 0)) 157 (0, fa0_16)) else (fl_c2 (Ff_X8_no 2) (fun r18 v18na0_11 => ((-1), v1na0_0, a0_2, a0_3, a0_4, a0_5, a0_6, a0_7, a0_8, a0_9, a0_10, v18na0_11, a0_13, a0_14, a0_21, a0_22, fa0_16, fa0_12, fa0_15, fa0_17)))))
end P092232_defsM
section P092233_defsG
def Ff_X7_answered (a1 : Int) : Int × Int :=
  (a1, 0)

def Ff_X7_refused (a1 : Int) : Int × Int :=
  ((-1), a1)

def Ff_X5_startTurn (a1 : Int) : Int × Int :=
  (a1, 0)

def Sf_X5_begin_17_1 (a1 : Int) (j17l2 : Int) (j17a0_5_a : (Nat → Int)) (j17a0_6_a : (Nat → Int)) : Sum (Int × (Nat → Int) × (Nat → Int)) (Int × Int × Int × Int × Int × (Nat → Int) × (Nat → Int)) :=
  if 9 ≤ j17l2 then (Sum.inr (fl_c2 (Ff_X5_startTurn a1) (fun v45na0_1 v45na0_2 => (0, v45na0_1, v45na0_2, 0, 0, j17a0_5_a, j17a0_6_a)))) else (fl_lt (fl_up j17a0_5_a (j17l2.toNat) j17l2) (fun f29 => fl_lt (fl_up j17a0_6_a (j17l2.toNat) 0) (fun f36 => fl_lt (j17l2 + 1) (fun x37 => Sum.inl (x37, f29, f36)))))
def Ff_X5_begin (a1 : Int) (fa0_5 : (Nat → Int)) (fa0_6 : (Nat → Int)) : Int × Int × Int × Int × Int × (Nat → Int) × (Nat → Int) :=
  fl_wh (fun t9 => Sf_X5_begin_17_1 a1 t9.1 t9.2.1 t9.2.2) (0, 0, 0, 0, 0, (fun _ => 0), (fun _ => 0)) 10 (0, fa0_5, fa0_6)

def Ff_X1_clear : Int × Int :=
  (0, 0)

def Ff_X2_forget : Int × Int :=
  (0, 0)


def Ff_X7_gallery (a1 : Int) (a0_9 : Int) (a0_10 : Int) (a0_0_0 : Int) (a0_0_1 : Int) (a0_0_2 : Int) (a0_0_6 : Int) (a0_0_7 : Int) (a0_0_8 : Int) (a0_0_9 : Int) (a0_0_10 : Int) (a0_0_11 : Int) (a0_0_12 : Int) (a0_0_13 : Int) (a0_0_5_0 : Int) (a0_0_5_1 : Int) (a0_0_5_2 : Int) (a0_0_5_3 : Int) (a0_0_5_4 : Int) (a0_0_5_5 : Int) (a0_0_5_6 : Int) (a0_0_5_7 : Int) (a0_0_5_8 : Int) (a0_0_5_9 : Int) (a0_0_5_14_0 : Int) (fa0_0_5_10 : (Nat → Int)) (fa0_0_5_11 : (Nat → Int)) (fa0_0_3 : (Nat → Int)) (fa0_0_4 : (Nat → Int)) (fa0_0_5_14_2 : (Nat → Int)) (fa0_0_5_14_3 : (Nat → Int)) (fa0_0_5_13 : (Nat → Int)) (fa0_0_5_12 : (Nat → Int)) (a0_1_0 : Int) (a0_1_1 : Int) (a0_1_2 : Int) (a0_1_3 : Int) (a0_1_4 : Int) (fa0_1_5 : (Nat → Int)) (fa0_1_6 : (Nat → Int)) (a0_4_0 : Int) (a0_4_1 : Int) (a0_5_5 : Int) (a0_5_6 : Int) : Int × Int × Int × Int × Int × Int × Int × Int × Int × Int × Int × Int × Int × Int × Int × Int × Int × Int × Int × Int × Int × Int × Int × Int × Int × Int × (Nat → Int) × (Nat → Int) × (Nat → Int) × (Nat → Int) × (Nat → Int) × (Nat → Int) × (Nat → Int) × Int × Int × Int × Int × Int × (Nat → Int) × (Nat → Int) × Int × Int × Int × Int × Int :=
  fl_lt (Ff_X7_within a1 0 a0_0_0) (fun r9 => if r9 = 1 then (fl_c29 (Ff_X3_read a1 a0_0_0 a0_0_11 a0_0_12 a0_0_13 a0_0_5_1 a0_0_5_2 a0_0_5_3 a0_0_5_5 a0_0_5_6 a0_0_5_7 fa0_0_5_10 fa0_0_5_11 fa0_0_3 fa0_0_4 fa0_0_5_14_2 fa0_0_5_14_3 fa0_0_5_13 fa0_0_5_12) (fun r26 v26na0_1 v26na0_2 v26na0_6 v26na0_7 v26na0_8 v26na0_9 v26na0_10 v26na0_11 v26na0_12 v26na0_13 v26na0_5_0 v26na0_5_1 v26na0_5_2 v26na0_5_3 v26na0_5_4 v26na0_5_5 v26na0_5_6 v26na0_5_7 v26na0_5_8 v26na0_5_9 v26na0_5_14_0 v26nfa0_5_10 v26nfa0_5_11 v26nfa0_4 v26nfa0_5_14_2 v26nfa0_5_14_3 v26nfa0_5_13 v26nfa0_5_12 => if r26 = 1 then (fl_c7 (Ff_X5_begin v26na0_5_7 fa0_1_5 fa0_1_6) (fun v88na0_0 v88na0_1 v88na0_2 v88na0_3 v88na0_4 v88nfa0_5 v88nfa0_6 => fl_c2 (Ff_X1_clear) (fun v95na0_0 v95na0_1 => fl_c2 (Ff_X2_forget) (fun v102na0_5 v102na0_6 => fl_c2 (Ff_X7_answered v26na0_5_0) (fun r113 v113na0_8 => (v26na0_5_0, v113na0_8, v26na0_1, v26na0_2, 0, v26na0_1, v26na0_2, v26na0_6, v26na0_7, v26na0_8, v26na0_9, v26na0_10, v26na0_11, v26na0_12, v26na0_13, v26na0_5_0, v26na0_5_1, v26na0_5_2, v26na0_5_3, v26na0_5_4, v26na0_5_5, v26na0_5_6, v26na0_5_7, v26na0_5_8, v26na0_5_9, v26na0_5_14_0, v26nfa0_5_10, v26nfa0_5_11, v26nfa0_4, v26nfa0_5_14_2, v26nfa0_5_14_3, v26nfa0_5_13, v26nfa0_5_12, v88na0_0, v88na0_1, v88na0_2, v88na0_3, v88na0_4, v88nfa0_5, v88nfa0_6, v95na0_0, v95na0_1, v102na0_5, v102na0_6, 0)))))) else (fl_c2 (Ff_X7_refused 4) (fun r58 v58na0_8 => ((-1), v58na0_8, v26na0_1, v26na0_2, 0, v26na0_1, v26na0_2, v26na0_6, v26na0_7, v26na0_8, v26na0_9, v26na0_10, v26na0_11, v26na0_12, v26na0_13, v26na0_5_0, v26na0_5_1, v26na0_5_2, v26na0_5_3, v26na0_5_4, v26na0_5_5, v26na0_5_6, v26na0_5_7, v26na0_5_8, v26na0_5_9, v26na0_5_14_0, v26nfa0_5_10, v26nfa0_5_11, v26nfa0_4, v26nfa0_5_14_2, v26nfa0_5_14_3, v26nfa0_5_13, v26nfa0_5_12, a0_1_0, a0_1_1, a0_1_2, a0_1_3, a0_1_4, fa0_1_5, fa0_1_6, a0_4_0, a0_4_1, a0_5_5, a0_5_6, 1))))) else (fl_c2 (Ff_X7_refused 2) (fun r17 v17na0_8 => ((-1), v17na0_8, a0_9, a0_10, a0_0_0, a0_0_1, a0_0_2, a0_0_6, a0_0_7, a0_0_8, a0_0_9, a0_0_10, a0_0_11, a0_0_12, a0_0_13, a0_0_5_0, a0_0_5_1, a0_0_5_2, a0_0_5_3, a0_0_5_4, a0_0_5_5, a0_0_5_6, a0_0_5_7, a0_0_5_8, a0_0_5_9, a0_0_5_14_0, fa0_0_5_10, fa0_0_5_11, fa0_0_4, fa0_0_5_14_2, fa0_0_5_14_3, fa0_0_5_13, fa0_0_5_12, a0_1_0, a0_1_1, a0_1_2, a0_1_3, a0_1_4, fa0_1_5, fa0_1_6, a0_4_0, a0_4_1, a0_5_5, a0_5_6, 1))))

def Ff_X3_appendX (a1 : Int) (a0_0 : Int) (fa0_3 : (Nat → Int)) : Int × (Nat → Int) :=
  if 900 ≤ a0_0 then ((0, (fun _ => 0))) else (fl_lt (fl_shr a1 24) (fun x27 => fl_lt (fl_i2b x27) (fun x28 => fl_lt (fl_upB fa0_3 (a0_0.toNat) x28) (fun f29 => fl_lt (a0_0 + 1) (fun x36 => if 900 ≤ x36 then ((0, (fun _ => 0))) else (fl_lt (fl_shr a1 16) (fun x27v2 => fl_lt (fl_i2b x27v2) (fun x28v2 => fl_lt (fl_upB f29 (x36.toNat) x28v2) (fun f29v2 => fl_lt (x36 + 1) (fun x36v2 => if 900 ≤ x36v2 then ((0, (fun _ => 0))) else (fl_lt (fl_shr a1 8) (fun x27v3 => fl_lt (fl_i2b x27v3) (fun x28v3 => fl_lt (fl_upB f29v2 (x36v2.toNat) x28v3) (fun f29v3 => fl_lt (x36v2 + 1) (fun x36v3 => if 900 ≤ x36v3 then ((0, (fun _ => 0))) else (fl_lt (fl_shr a1 0) (fun x27v4 => fl_lt (fl_i2b x27v4) (fun x28v4 => fl_lt (fl_upB f29v3 (x36v3.toNat) x28v4) (fun f29v4 => fl_lt (x36v3 + 1) (fun x36v4 => (x36v4, f29v4)))))))))))))))))))))

def Ff_X7_feed (a1 : Int) (a2 : Int) (a3 : Int) (a4 : Int) (a5 : Int) (a0_0_0 : Int) (fa0_0_3 : (Nat → Int)) : Int × Int × (Nat → Int) :=
  fl_lt (a0_0_0 + 20) (fun x9 => if x9 ≤ 900 then (fl_c2 (Ff_X3_appendX a1 a0_0_0 fa0_0_3) (fun v23na0_0 v23nfa0_3 => fl_c2 (Ff_X3_appendX a2 v23na0_0 v23nfa0_3) (fun v31na0_0 v31nfa0_3 => fl_c2 (Ff_X3_appendX a3 v31na0_0 v31nfa0_3) (fun v39na0_0 v39nfa0_3 => fl_c2 (Ff_X3_appendX a4 v39na0_0 v39nfa0_3) (fun v48na0_0 v48nfa0_3 => fl_c2 (Ff_X3_appendX a5 v48na0_0 v48nfa0_3) (fun v57na0_0 v57nfa0_3 => (v57na0_0, v57na0_0, v57nfa0_3))))))) else (((-1), a0_0_0, fa0_0_3)))

def Sf_X8_feed_23_1 (a1 : Int) (a2 : Int) (a3 : Int) (a4 : Int) (a5 : Int) (j23l6 : Int) (j23a0_2 : Int) (j23a0_1_a : (Nat → Int)) : Sum (Int × Int × (Nat → Int)) (Int × Int × Int × (Nat → Int)) :=
  if 20 ≤ j23l6 then (Sum.inr ((j23a0_2, 0, j23a0_2, j23a0_1_a))) else (if 4 ≤ j23l6 then (if 8 ≤ j23l6 then (if 12 ≤ j23l6 then (if 16 ≤ j23l6 then (fl_lt (j23l6 % 4) (fun x95 => fl_lt (8 * x95) (fun x96 => fl_lt (24 - x96) (fun x97 => fl_lt (fl_shr a5 x97) (fun x98 => fl_lt (fl_and x98 255) (fun x102 => fl_lt (fl_up j23a0_1_a (j23a0_2.toNat) x102) (fun f103 => fl_lt (j23a0_2 + 1) (fun x110 => fl_lt (j23l6 + 1) (fun x114 => Sum.inl (x114, x110, f103)))))))))) else (fl_lt (j23l6 % 4) (fun x95 => fl_lt (8 * x95) (fun x96 => fl_lt (24 - x96) (fun x97 => fl_lt (fl_shr a4 x97) (fun x98 => fl_lt (fl_and x98 255) (fun x102 => fl_lt (fl_up j23a0_1_a (j23a0_2.toNat) x102) (fun f103 => fl_lt (j23a0_2 + 1) (fun x110 => fl_lt (j23l6 + 1) (fun x114 => Sum.inl (x114, x110, f103))))))))))) else (fl_lt (j23l6 % 4) (fun x95 => fl_lt (8 * x95) (fun x96 => fl_lt (24 - x96) (fun x97 => fl_lt (fl_shr a3 x97) (fun x98 => fl_lt (fl_and x98 255) (fun x102 => fl_lt (fl_up j23a0_1_a (j23a0_2.toNat) x102) (fun f103 => fl_lt (j23a0_2 + 1) (fun x110 => fl_lt (j23l6 + 1) (fun x114 => Sum.inl (x114, x110, f103))))))))))) else (fl_lt (j23l6 % 4) (fun x95 => fl_lt (8 * x95) (fun x96 => fl_lt (24 - x96) (fun x97 => fl_lt (fl_shr a2 x97) (fun x98 => fl_lt (fl_and x98 255) (fun x102 => fl_lt (fl_up j23a0_1_a (j23a0_2.toNat) x102) (fun f103 => fl_lt (j23a0_2 + 1) (fun x110 => fl_lt (j23l6 + 1) (fun x114 => Sum.inl (x114, x110, f103))))))))))) else (fl_lt (j23l6 % 4) (fun x95 => fl_lt (8 * x95) (fun x96 => fl_lt (24 - x96) (fun x97 => fl_lt (fl_shr a1 x97) (fun x98 => fl_lt (fl_and x98 255) (fun x102 => fl_lt (fl_up j23a0_1_a (j23a0_2.toNat) x102) (fun f103 => fl_lt (j23a0_2 + 1) (fun x110 => fl_lt (j23l6 + 1) (fun x114 => Sum.inl (x114, x110, f103)))))))))))
def Ff_X8_feed (a1 : Int) (a2 : Int) (a3 : Int) (a4 : Int) (a5 : Int) (a0_2 : Int) (fa0_1 : (Nat → Int)) : Int × Int × Int × (Nat → Int) :=
  fl_lt (a0_2 + 20) (fun x11 => if x11 ≤ 900 then (fl_wh (fun t9 => Sf_X8_feed_23_1 a1 a2 a3 a4 a5 t9.1 t9.2.1 t9.2.2) (0, 0, 0, (fun _ => 0)) 21 (0, a0_2, fa0_1)) else (((-1), 0, a0_2, fa0_1)))
end P092233_defsG
section P092241_pure1
section PUA
/-- letters packed as a number of base 256 -/
def rp_pk (f : Nat → Int) : Nat → Int
  | 0 => 0
  | n + 1 => rp_pk f n * 256 + f n
def rp_dg (f : Nat → Int) (n : Nat) : Prop := ∀ k : Nat, k < n → 97 ≤ f k ∧ f k ≤ 122
theorem rp_dg_le {f : Nat → Int} {n m : Nat} (h : rp_dg f n) (hm : m ≤ n) : rp_dg f m := fun k hk => h k (by omega)
theorem rp_pk_lo {f : Nat → Int} {n : Nat} (h : rp_dg f n) : 0 ≤ rp_pk f n := by
  induction n with
  | zero => exact Int.le_refl _
  | succ n ih =>
    have h1 := ih (rp_dg_le h (by omega))
    have h2 := h n (by omega)
    show 0 ≤ rp_pk f n * 256 + f n
    omega
theorem rp_pk_hi {f : Nat → Int} {n : Nat} (h : rp_dg f (n + 1)) : rp_pk f (n + 1) < 123 * 256 ^ n := by
  induction n with
  | zero =>
    have h2 := h 0 (by omega)
    show 0 * 256 + f 0 < 123 * 256 ^ 0
    have e : (256 : Int) ^ 0 = 1 := rfl
    rw [e]; omega
  | succ n ih =>
    have h1 := ih (rp_dg_le h (by omega))
    have h2 := h (n + 1) (by omega)
    show rp_pk f (n + 1) * 256 + f (n + 1) < 123 * 256 ^ (n + 1)
    rw [Int.pow_succ]
    generalize (256 : Int) ^ n = q at h1 ⊢
    omega
theorem rp_pk_7 {f : Nat → Int} {n : Nat} (h : rp_dg f n) (hn : n ≤ 7) : rp_pk f n * 256 + 122 < 9223372036854775808 := by
  rcases (show n = 0 ∨ n = 1 ∨ n = 2 ∨ n = 3 ∨ n = 4 ∨ n = 5 ∨ n = 6 ∨ n = 7 by omega) with rfl | rfl | rfl | rfl | rfl | rfl | rfl | rfl
  · show (0 : Int) * 256 + 122 < 9223372036854775808
    decide
  all_goals
    have h1 := rp_pk_hi h
    simp only [Nat.reduceAdd, Int.reducePow, Int.reduceMul] at h1
    omega
theorem rp_pk_cg {f g : Nat → Int} {n : Nat} (h : ∀ k : Nat, k < n → f k = g k) : rp_pk f n = rp_pk g n := by
  induction n with
  | zero => rfl
  | succ n ih =>
    show rp_pk f n * 256 + f n = rp_pk g n * 256 + g n
    rw [ih (fun k hk => h k (by omega)), h n (by omega)]
theorem rp_pk_inj {f g : Nat → Int} : ∀ {n m : Nat}, rp_dg f n → rp_dg g m → rp_pk f n = rp_pk g m → n = m ∧ ∀ k : Nat, k < n → f k = g k := by
  intro n
  induction n with
  | zero =>
    intro m h1 h2 he
    cases m with
    | zero => exact ⟨rfl, fun k hk => by omega⟩
    | succ m =>
      have h3 := rp_pk_lo (rp_dg_le h2 (m := m) (by omega))
      have h4 := h2 m (by omega)
      have h5 : (0 : Int) = rp_pk g m * 256 + g m := he
      omega
  | succ n ih =>
    intro m h1 h2 he
    have h3 := rp_pk_lo (rp_dg_le h1 (m := n) (by omega))
    have h4 := h1 n (by omega)
    cases m with
    | zero =>
      have h5 : rp_pk f n * 256 + f n = (0 : Int) := he
      omega
    | succ m =>
      have h5 := h2 m (by omega)
      have h6 : rp_pk f n * 256 + f n = rp_pk g m * 256 + g m := he
      have h7 : rp_pk f n = rp_pk g m := by omega
      have h8 : f n = g m := by omega
      obtain ⟨e1, e2⟩ := ih (rp_dg_le h1 (by omega)) (rp_dg_le h2 (m := m) (by omega)) h7
      subst e1
      refine ⟨rfl, fun k hk => ?_⟩
      by_cases hk2 : k = n
      · subst hk2; exact h8
      · exact e2 k (by omega)
theorem rp_push {w c : Int} (hw : 0 ≤ w) (hc : 0 ≤ c) (hc2 : c < 256) (h : w * 256 + c < 9223372036854775808) : fl_lor (fl_lshl w 8) c = w * 256 + c := by
  unfold fl_lor fl_lshl
  rw [Int64.ofInt_toInt]
  have e0 : ((Int32.ofInt 8).toInt64 &&& 63 : Int64) = 8 := by decide
  rw [e0]
  have e1 : (Int64.ofInt w <<< (8 : Int64)).toBitVec = (Int64.ofInt w).toBitVec <<< (8 : Nat) := by
    rw [Int64.toBitVec_shiftLeft]; rfl
  have e2 : (Int64.ofInt w).toBitVec.toNat = w.toNat := by
    show (BitVec.ofInt 64 w).toNat = w.toNat
    rw [BitVec.toNat_ofInt]; omega
  have e3 : (Int64.ofInt c).toBitVec.toNat = c.toNat := by
    show (BitVec.ofInt 64 c).toNat = c.toNat
    rw [BitVec.toNat_ofInt]; omega
  have e4 : ((Int64.ofInt w <<< (8 : Int64)) ||| Int64.ofInt c).toBitVec.toNat = w.toNat * 256 + c.toNat := by
    rw [Int64.toBitVec_or, BitVec.toNat_or, e1, BitVec.toNat_shiftLeft, e2, e3]
    have h1 : w.toNat <<< 8 = w.toNat * 256 := by rw [Nat.shiftLeft_eq]
    have h2 : w.toNat <<< 8 % 2 ^ 64 = w.toNat <<< 8 := by
      apply Nat.mod_eq_of_lt; rw [h1]; omega
    rw [h2, ← Nat.shiftLeft_add_eq_or_of_lt (by omega : c.toNat < 2 ^ 8), h1]
  show (((Int64.ofInt w <<< (8 : Int64)) ||| Int64.ofInt c).toBitVec).toInt = _
  rw [BitVec.toInt_eq_toNat_of_lt (by rw [e4]; omega), e4]
  omega
/-- THE TAPE here and there: bytes as signed numbers, and as numbers 0 .. 255 -/
def rp_T (tp tm : Nat → Int) (e : Int) : Prop := ∀ i : Nat, (i : Int) < e → (tm i = tp i ∧ 0 ≤ tp i) ∨ (tp i < 0 ∧ 128 ≤ tm i)
theorem rp_see {tm : Nat → Int} {e p : Int} (hp : ¬ e ≤ p) : Ff_X8_see p e tm = tm p.toNat := by
  unfold Ff_X8_see; rw [if_neg hp]; rfl
theorem rp_word {tp tm : Nat → Int} {e s0 : Int} (hT : rp_T tp tm e) (h0 : 0 ≤ s0) : ∀ (n : Nat) (p w ns : Int) (lt : Nat → Int), e + 1 - p ≤ (n : Int) → s0 ≤ p → p ≤ e → ns = p - s0 → (ns ≤ 8 → rp_dg lt ns.toNat ∧ w = rp_pk lt ns.toNat) →
    ∃ be tk wd tk2 ns2 lt2, fl_wh (fun t9 => Sf_X3_scanWord_5_1 e s0 tp t9.1 t9.2) (0, 0, 0) n (p, w) = (be, tk, wd) ∧ fl_wh (fun t9 => Sf_X8_next_67_1 e tm s0 t9.1 t9.2.1 t9.2.2) (0, 0, 0, 0, 0, (fun _ => 0)) n (p, ns, lt) = (s0, be, tk2, 0, ns2, lt2) ∧ p ≤ be ∧ be ≤ e ∧ (p < e → 97 ≤ tp p.toNat → tp p.toNat ≤ 122 → p < be) ∧
      ((tk = 1 ∧ tk2 = 2 ∧ ns2 = be - s0 ∧ ns2 ≤ 8 ∧ rp_dg lt2 ns2.toNat ∧ wd = rp_pk lt2 ns2.toNat) ∨ (tk = 4 ∧ tk2 = 1)) := by
  intro n
  induction n with
  | zero => intro p w ns lt hn h1 h2 h3 h4; omega
  | succ n ih =>
    intro p w ns lt hn h1 h2 h3 h4
    have hend : ∀ (hx : ¬ (p < e ∧ 97 ≤ tp p.toNat ∧ tp p.toNat ≤ 122)) (hc : Sf_X3_scanWord_5_1 e s0 tp p w = .inr (Gf_X3_scanWord_79_1 s0 p w)) (hm : Sf_X8_next_67_1 e tm s0 p ns lt = .inr (if ns ≤ 8 then (s0, p, 2, 0, ns, lt) else (s0, p, 1, 0, ns, lt))),
        ∃ be tk wd tk2 ns2 lt2, fl_wh (fun t9 => Sf_X3_scanWord_5_1 e s0 tp t9.1 t9.2) (0, 0, 0) (n + 1) (p, w) = (be, tk, wd) ∧ fl_wh (fun t9 => Sf_X8_next_67_1 e tm s0 t9.1 t9.2.1 t9.2.2) (0, 0, 0, 0, 0, (fun _ => 0)) (n + 1) (p, ns, lt) = (s0, be, tk2, 0, ns2, lt2) ∧ p ≤ be ∧ be ≤ e ∧ (p < e → 97 ≤ tp p.toNat → tp p.toNat ≤ 122 → p < be) ∧
          ((tk = 1 ∧ tk2 = 2 ∧ ns2 = be - s0 ∧ ns2 ≤ 8 ∧ rp_dg lt2 ns2.toNat ∧ wd = rp_pk lt2 ns2.toNat) ∨ (tk = 4 ∧ tk2 = 1)) := by
      intro hx hc hm
      rw [fl_wh_r (step := fun t9 : Int × Int => Sf_X3_scanWord_5_1 e s0 tp t9.1 t9.2) (s := (p, w)) hc, fl_wh_r (step := fun t9 : Int × Int × (Nat → Int) => Sf_X8_next_67_1 e tm s0 t9.1 t9.2.1 t9.2.2) (s := (p, ns, lt)) hm]
      by_cases h8 : ns ≤ 8
      · obtain ⟨a, b⟩ := h4 h8
        refine ⟨p, 1, w, 2, ns, lt, ?_, ?_, Int.le_refl _, h2, fun x1 x2 x3 => absurd ⟨x1, x2, x3⟩ hx, Or.inl ⟨rfl, rfl, h3, h8, a, b⟩⟩
        · show (if 8 < p - s0 then (p, 4, w) else (p, 1, w)) = _
          rw [if_neg (by omega)]
        · rw [if_pos h8]
      · refine ⟨p, 4, w, 1, ns, lt, ?_, ?_, Int.le_refl _, h2, fun x1 x2 x3 => absurd ⟨x1, x2, x3⟩ hx, Or.inr ⟨rfl, rfl⟩⟩
        · show (if 8 < p - s0 then (p, 4, w) else (p, 1, w)) = _
          rw [if_pos (by omega)]
        · rw [if_neg h8]
    by_cases hp : e ≤ p
    · exact hend (fun q => by omega) (by unfold Sf_X3_scanWord_5_1; rw [if_pos hp]) (by simp [Sf_X8_next_67_1, fl_lt, Ff_X8_isSmall, hp])
    · have hlt : p < e := Int.not_le.mp hp
      have hTp := hT p.toNat (by omega)
      obtain ⟨cp, hcp⟩ : ∃ c9, tp p.toNat = c9 := ⟨_, rfl⟩
      obtain ⟨mp, hmp⟩ : ∃ c9, tm p.toNat = c9 := ⟨_, rfl⟩
      rw [hcp, hmp] at hTp
      by_cases hsm : 97 ≤ cp ∧ cp ≤ 122
      · have hme : mp = cp := by omega
        have n1 : ¬ cp < 97 := by omega
        have n2 : ¬ 122 < cp := by omega
        have hc : Sf_X3_scanWord_5_1 e s0 tp p w = .inl (p + 1, fl_lor (fl_lshl w 8) cp) := by
          simp only [Sf_X3_scanWord_5_1, fl_lt]
          rw [if_neg hp, hcp, if_neg n1, if_neg n2]
        have hm : ∃ lt', Sf_X8_next_67_1 e tm s0 p ns lt = .inl (p + 1, ns + 1, lt') ∧ (ns ≤ 7 → lt' = fl_up lt ns.toNat cp) := by
          have hs : Ff_X8_isSmall mp = 1 := by unfold Ff_X8_isSmall; rw [hme, if_neg n1, if_neg n2]
          simp only [Sf_X8_next_67_1, fl_lt]
          rw [if_neg hp, rp_see hp, hmp, hs, if_pos rfl, hme]
          by_cases h8 : 8 ≤ ns
          · rw [if_pos h8]; exact ⟨_, rfl, fun h => by omega⟩
          · rw [if_neg h8, if_neg hp]; exact ⟨_, rfl, fun _ => rfl⟩
        obtain ⟨lt', hm, hl'⟩ := hm
        rw [fl_wh_l (step := fun t9 : Int × Int => Sf_X3_scanWord_5_1 e s0 tp t9.1 t9.2) (s := (p, w)) hc, fl_wh_l (step := fun t9 : Int × Int × (Nat → Int) => Sf_X8_next_67_1 e tm s0 t9.1 t9.2.1 t9.2.2) (s := (p, ns, lt)) hm]
        obtain ⟨be, tk, wd, tk2, ns2, lt2, a1, a2, a3, a4, -, a5⟩ := ih (p + 1) (fl_lor (fl_lshl w 8) cp) (ns + 1) lt' (by omega) (by omega) (by omega) (by omega) (by
          intro h8
          obtain ⟨b1, b2⟩ := h4 (by omega)
          have b3 := hl' (by omega)
          have b4 : (ns + 1).toNat = ns.toNat + 1 := by omega
          have b5 : ∀ k : Nat, k < ns.toNat → lt' k = lt k := fun k hk => by rw [b3]; unfold fl_up; rw [if_neg (by omega)]
          have b6 : lt' ns.toNat = cp := by rw [b3]; unfold fl_up; rw [if_pos rfl]
          rw [b4]
          constructor
          · intro k hk
            by_cases hk2 : k = ns.toNat
            · rw [hk2, b6]; exact hsm
            · rw [b5 k (by omega)]; exact b1 k (by omega)
          · show _ = rp_pk lt' ns.toNat * 256 + lt' ns.toNat
            rw [b6, rp_pk_cg b5, ← b2]
            have q1 := rp_pk_lo b1
            have q2 := rp_pk_7 b1 (by omega)
            exact rp_push (by omega) (by omega) (by omega) (by omega))
        exact ⟨be, tk, wd, tk2, ns2, lt2, a1, a2, by omega, a4, fun _ _ _ => by omega, a5⟩
      · refine hend (fun q => hsm (by rw [hcp] at q; exact q.2)) ?_ ?_
        · simp only [Sf_X3_scanWord_5_1, fl_lt]
          rw [if_neg hp, hcp]
          by_cases n1 : cp < 97
          · rw [if_pos n1]
          · rw [if_neg n1, if_pos (by omega)]
        · have hs : ¬ Ff_X8_isSmall mp = 1 := by
            unfold Ff_X8_isSmall
            by_cases n1 : mp < 97
            · rw [if_pos n1]; decide
            · rw [if_neg n1, if_pos (show 122 < mp by omega)]; decide
          simp only [Sf_X8_next_67_1, fl_lt]
          rw [if_neg hp, rp_see hp, hmp, if_neg hs]
end PUA
end P092241_pure1
section P092242_pure2
section PUB
theorem rp_ofi {x : Int} (h1 : -2147483648 ≤ x) (h2 : x ≤ 2147483647) : (Int32.ofInt x).toInt = x := by
  rw [Int32.toInt_ofInt]; exact Int.bmod_eq_of_le (by have e : (Int32.size : Nat) = 4294967296 := rfl; omega) (by have e : (Int32.size : Nat) = 4294967296 := rfl; omega)
theorem rp_iadd {x y : Int} (h1 : -2147483648 ≤ x) (h2 : x ≤ 2147483647) (h3 : -2147483648 ≤ y) (h4 : y ≤ 2147483647) (h5 : -2147483648 ≤ x + y) (h6 : x + y ≤ 2147483647) : fl_iadd x y = x + y := by
  unfold fl_iadd
  rw [Int32.toInt_add, rp_ofi h1 h2, rp_ofi h3 h4]; exact Int.bmod_eq_of_le (by omega) (by omega)
theorem rp_isub {x y : Int} (h1 : -2147483648 ≤ x) (h2 : x ≤ 2147483647) (h3 : -2147483648 ≤ y) (h4 : y ≤ 2147483647) (h5 : -2147483648 ≤ x - y) (h6 : x - y ≤ 2147483647) : fl_isub x y = x - y := by
  unfold fl_isub
  rw [Int32.toInt_sub, rp_ofi h1 h2, rp_ofi h3 h4]; exact Int.bmod_eq_of_le (by omega) (by omega)
theorem rp_imul10 {y : Int} (h3 : 0 ≤ y) (h4 : y ≤ 9999) : fl_imul 10 y = 10 * y := by
  unfold fl_imul
  rw [Int32.toInt_mul, rp_ofi (by omega) (by omega), rp_ofi (by omega) (by omega)]; exact Int.bmod_eq_of_le (by omega) (by omega)
theorem rp_whole {tp tm : Nat → Int} {lt : Nat → Int} {e s0 : Int} (hT : rp_T tp tm e) (h0 : 0 ≤ s0) (he : e ≤ 900) : ∀ (n : Nat) (p w q wm : Int), e + 1 - p ≤ (n : Int) → s0 ≤ p → p ≤ e → q = p - s0 → (q ≤ 3 → w = wm ∧ 0 ≤ wm ∧ wm ≤ 999 ∧ (q ≤ 2 → wm ≤ 99) ∧ (q ≤ 1 → wm ≤ 9) ∧ (q ≤ 0 → wm = 0)) →
    ∃ be tk wd tk2 wm2, fl_wh (fun t9 => Sf_X3_scanWhole_5_1 e s0 tp t9.1 t9.2) (0, 0, 0) n (p, w) = (be, tk, wd) ∧ fl_wh (fun t9 => Sf_X8_next_152_1 e tm lt s0 t9.1 t9.2.1 t9.2.2) (0, 0, 0, 0, 0, (fun _ => 0)) n (q, p, wm) = (s0, be, tk2, wm2, 0, lt) ∧ p ≤ be ∧ be ≤ e ∧ (p < e → 48 ≤ tp p.toNat → tp p.toNat ≤ 57 → p < be) ∧
      ((tk = 2 ∧ tk2 = 3 ∧ wd = wm2 ∧ 0 ≤ wm2 ∧ wm2 ≤ 999) ∨ (tk = 4 ∧ tk2 = 1)) := by
  intro n
  induction n with
  | zero => intro p w q wm hn h1 h2 h3 h4; omega
  | succ n ih =>
    intro p w q wm hn h1 h2 h3 h4
    have hend : ∀ (hx : ¬ (p < e ∧ 48 ≤ tp p.toNat ∧ tp p.toNat ≤ 57)) (hc : Sf_X3_scanWhole_5_1 e s0 tp p w = .inr (Gf_X3_scanWhole_81_1 s0 p w)) (hm : Sf_X8_next_152_1 e tm lt s0 q p wm = .inr (if q ≤ 3 then (s0, p, 3, wm, 0, lt) else (s0, p, 1, wm, 0, lt))),
        ∃ be tk wd tk2 wm2, fl_wh (fun t9 => Sf_X3_scanWhole_5_1 e s0 tp t9.1 t9.2) (0, 0, 0) (n + 1) (p, w) = (be, tk, wd) ∧ fl_wh (fun t9 => Sf_X8_next_152_1 e tm lt s0 t9.1 t9.2.1 t9.2.2) (0, 0, 0, 0, 0, (fun _ => 0)) (n + 1) (q, p, wm) = (s0, be, tk2, wm2, 0, lt) ∧ p ≤ be ∧ be ≤ e ∧ (p < e → 48 ≤ tp p.toNat → tp p.toNat ≤ 57 → p < be) ∧
          ((tk = 2 ∧ tk2 = 3 ∧ wd = wm2 ∧ 0 ≤ wm2 ∧ wm2 ≤ 999) ∨ (tk = 4 ∧ tk2 = 1)) := by
      intro hx hc hm
      rw [fl_wh_r (step := fun t9 : Int × Int => Sf_X3_scanWhole_5_1 e s0 tp t9.1 t9.2) (s := (p, w)) hc, fl_wh_r (step := fun t9 : Int × Int × Int => Sf_X8_next_152_1 e tm lt s0 t9.1 t9.2.1 t9.2.2) (s := (q, p, wm)) hm]
      by_cases h8 : q ≤ 3
      · obtain ⟨a, b, c, -⟩ := h4 h8
        refine ⟨p, 2, w, 3, wm, ?_, ?_, Int.le_refl _, h2, fun x1 x2 x3 => absurd ⟨x1, x2, x3⟩ hx, Or.inl ⟨rfl, rfl, a, b, c⟩⟩
        · show (if 3 < p - s0 then (p, 4, w) else (p, 2, w)) = _
          rw [if_neg (by omega)]
        · rw [if_pos h8]
      · refine ⟨p, 4, w, 1, wm, ?_, ?_, Int.le_refl _, h2, fun x1 x2 x3 => absurd ⟨x1, x2, x3⟩ hx, Or.inr ⟨rfl, rfl⟩⟩
        · show (if 3 < p - s0 then (p, 4, w) else (p, 2, w)) = _
          rw [if_pos (by omega)]
        · rw [if_neg h8]
    by_cases hp : e ≤ p
    · exact hend (fun q => by omega) (by unfold Sf_X3_scanWhole_5_1; rw [if_pos hp]) (by simp [Sf_X8_next_152_1, fl_lt, Ff_X8_isDigit, hp])
    · have hlt : p < e := Int.not_le.mp hp
      have hTp := hT p.toNat (by omega)
      obtain ⟨cp, hcp⟩ : ∃ c9, tp p.toNat = c9 := ⟨_, rfl⟩
      obtain ⟨mp, hmp⟩ : ∃ c9, tm p.toNat = c9 := ⟨_, rfl⟩
      rw [hcp, hmp] at hTp
      by_cases hsm : 48 ≤ cp ∧ cp ≤ 57
      · have hme : mp = cp := by omega
        have n1 : ¬ cp < 48 := by omega
        have n2 : ¬ 57 < cp := by omega
        have hc : Sf_X3_scanWhole_5_1 e s0 tp p w = .inl (p + 1, fl_isub (fl_iadd (fl_imul 10 w) cp) 48) := by
          simp only [Sf_X3_scanWhole_5_1, fl_lt]
          rw [if_neg hp, hcp, if_neg n1, if_neg n2]
        have hq1 : fl_iadd q 1 = q + 1 := rp_iadd (by omega) (by omega) (by omega) (by omega) (by omega) (by omega)
        have hm : ∃ wm', Sf_X8_next_152_1 e tm lt s0 q p wm = .inl (q + 1, p + 1, wm') ∧ (q ≤ 2 → wm' = fl_isub (fl_iadd (fl_imul 10 wm) cp) 48) := by
          have hs : Ff_X8_isDigit mp = 1 := by unfold Ff_X8_isDigit; rw [hme, if_neg n1, if_neg n2]
          simp only [Sf_X8_next_152_1, Gf_X8_next_188_1, fl_lt]
          rw [if_neg hp, rp_see hp, hmp, hs, if_pos rfl, hme, hq1]
          by_cases h8 : 3 ≤ q
          · rw [if_pos h8]; exact ⟨_, rfl, fun h => by omega⟩
          · rw [if_neg h8, if_neg hp]; exact ⟨_, rfl, fun _ => rfl⟩
        obtain ⟨wm', hm, hl'⟩ := hm
        rw [fl_wh_l (step := fun t9 : Int × Int => Sf_X3_scanWhole_5_1 e s0 tp t9.1 t9.2) (s := (p, w)) hc, fl_wh_l (step := fun t9 : Int × Int × Int => Sf_X8_next_152_1 e tm lt s0 t9.1 t9.2.1 t9.2.2) (s := (q, p, wm)) hm]
        obtain ⟨be, tk, wd, tk2, wm2, a1, a2, a3, a4, -, a5⟩ := ih (p + 1) (fl_isub (fl_iadd (fl_imul 10 w) cp) 48) (q + 1) wm' (by omega) (by omega) (by omega) (by omega) (by
          intro h8
          obtain ⟨b1, b2, b3, b4, b5, b6⟩ := h4 (by omega)
          have b7 := hl' (by omega)
          have b8 := b4 (by omega)
          rw [b1, b7, rp_imul10 b2 (by omega), rp_iadd (by omega) (by omega) (by omega) (by omega) (by omega) (by omega), rp_isub (by omega) (by omega) (by omega) (by omega) (by omega) (by omega)]
          refine ⟨rfl, by omega, by omega, fun h => ?_, fun h => ?_, fun h => by omega⟩
          · have := b5 (by omega); omega
          · have := b6 (by omega); omega)
        exact ⟨be, tk, wd, tk2, wm2, a1, a2, by omega, a4, fun _ _ _ => by omega, a5⟩
      · refine hend (fun q => hsm (by rw [hcp] at q; exact q.2)) ?_ ?_
        · simp only [Sf_X3_scanWhole_5_1, fl_lt]
          rw [if_neg hp, hcp]
          by_cases n1 : cp < 48
          · rw [if_pos n1]
          · rw [if_neg n1, if_pos (by omega)]
        · have hs : ¬ Ff_X8_isDigit mp = 1 := by
            unfold Ff_X8_isDigit
            by_cases n1 : mp < 48
            · rw [if_pos n1]; decide
            · rw [if_neg n1, if_pos (show 57 < mp by omega)]; decide
          simp only [Sf_X8_next_152_1, fl_lt]
          rw [if_neg hp, rp_see hp, hmp, if_neg hs]
/-- a token here and there -/
def rp_K (e st be tk wd wh at_ en tk2 wm ns : Int) (lt : Nat → Int) : Prop :=
  st = at_ ∧ 0 ≤ st ∧ st ≤ e ∧ 0 ≤ be ∧ be ≤ e ∧
  ((tk = 0 ∧ tk2 = 0) ∨ (tk = 4 ∧ tk2 = 1) ∨ (tk = 3 ∧ tk2 = 59 ∧ be = en ∧ st < be) ∨
   (tk = 1 ∧ tk2 = 2 ∧ be = en ∧ st < be ∧ 1 ≤ ns ∧ ns ≤ 8 ∧ rp_dg lt ns.toNat ∧ wd = rp_pk lt ns.toNat) ∨
   (tk = 2 ∧ tk2 = 3 ∧ be = en ∧ st < be ∧ wh = wm ∧ 0 ≤ wm ∧ wm ≤ 999))
/-- the next token: advance and next -/
theorem rp_adv {tp tm : Nat → Int} {e : Int} (hT : rp_T tp tm e) (he : e ≤ 900) (b wd wh : Int) (lt : Nat → Int) (hb0 : 0 ≤ b) (hb1 : b ≤ e) :
    ∃ st be tk wd2 wh2 at_ en tk2 wm ns lt2, Ff_X3_advance e b wd wh tp = (st, be, tk, wd2, wh2) ∧ Ff_X8_next e b tm lt = (at_, en, tk2, wm, ns, lt2) ∧ rp_K e st be tk wd2 wh2 at_ en tk2 wm ns lt2 ∧ b ≤ st := by
  unfold Ff_X3_advance Ff_X8_next
  have main : ∀ (n : Nat) (p : Int), e + 1 - p ≤ (n : Int) → 0 ≤ p → p ≤ e → ∃ st be tk wd2 wh2 at_ en tk2 wm ns lt2, fl_wh (Sf_X3_advance_0_1 e wd wh tp) (0, 0, 0, 0, 0) n p = (st, be, tk, wd2, wh2) ∧ fl_wh (Sf_X8_next_5_1 e tm lt) (0, 0, 0, 0, 0, (fun _ => 0)) n p = (at_, en, tk2, wm, ns, lt2) ∧ rp_K e st be tk wd2 wh2 at_ en tk2 wm ns lt2 ∧ p ≤ st := by
    intro n
    induction n with
    | zero => intro p h1 h2 h3; omega
    | succ n ih =>
      intro p h1 h2 h3
      by_cases hp : e ≤ p
      · have hc : Sf_X3_advance_0_1 e wd wh tp p = .inr (p, p, 0, wd, wh) := by
          unfold Sf_X3_advance_0_1 Gf_X3_advance_38_1
          rw [if_pos hp, if_neg (by omega)]
        have hm : Sf_X8_next_5_1 e tm lt p = .inr (p, p, 0, 0, 0, lt) := by
          simp only [Sf_X8_next_5_1, fl_lt]
          rw [if_pos hp, if_pos hp]
        rw [fl_wh_r hc, fl_wh_r hm]
        exact ⟨p, p, 0, wd, wh, p, p, 0, 0, 0, lt, rfl, rfl, ⟨rfl, h2, h3, h2, h3, Or.inl ⟨rfl, rfl⟩⟩, Int.le_refl _⟩
      · have hTp := hT p.toNat (by omega)
        have hlt : p < e := Int.not_le.mp hp
        obtain ⟨cp, hcp⟩ : ∃ c9, tp p.toNat = c9 := ⟨_, rfl⟩
        obtain ⟨mp, hmp⟩ : ∃ c9, tm p.toNat = c9 := ⟨_, rfl⟩
        rw [hcp, hmp] at hTp
        by_cases h32 : cp = 32
        · have hc : Sf_X3_advance_0_1 e wd wh tp p = .inl (p + 1) := by
            simp only [Sf_X3_advance_0_1, fl_lt]
            rw [if_neg hp, hcp, if_pos h32]
          have hm : Sf_X8_next_5_1 e tm lt p = .inl (p + 1) := by
            simp only [Sf_X8_next_5_1, fl_lt]
            rw [if_neg hp, rp_see hp, hmp, if_pos (by omega)]
          rw [fl_wh_l hc, fl_wh_l hm]
          obtain ⟨st, be, tk, wd2, wh2, at_, en, tk2, wm, ns, lt2, a1, a2, a3, a4⟩ := ih (p + 1) (by omega) (by omega) (by omega)
          exact ⟨st, be, tk, wd2, wh2, at_, en, tk2, wm, ns, lt2, a1, a2, a3, by omega⟩
        · have hc : Sf_X3_advance_0_1 e wd wh tp p = .inr (Gf_X3_advance_38_1 e wd wh tp p) := by
            simp only [Sf_X3_advance_0_1, fl_lt]
            rw [if_neg hp, hcp, if_neg h32]
          have hm : Sf_X8_next_5_1 e tm lt p = .inr (if Ff_X8_isSmall mp = 1 then fl_wh (fun t9 => Sf_X8_next_67_1 e tm p t9.1 t9.2.1 t9.2.2) (0, 0, 0, 0, 0, (fun _ => 0)) 901 (p, 0, lt) else if Ff_X8_isDigit mp = 1 then fl_wh (fun t9 => Sf_X8_next_152_1 e tm lt p t9.1 t9.2.1 t9.2.2) (0, 0, 0, 0, 0, (fun _ => 0)) 901 (0, p, 0) else if mp = 59 then (p, p + 1, mp, 0, 0, lt) else (p, p + 1, 1, 0, 0, lt)) := by
            simp only [Sf_X8_next_5_1, fl_lt]
            rw [if_neg hp, rp_see hp, hmp, if_neg (show ¬ mp = 32 by omega), if_neg hp, if_neg (show ¬ mp = -1 by omega)]
            rfl
          rw [fl_wh_r hc, fl_wh_r hm]
          simp only [Gf_X3_advance_38_1, fl_lt]
          rw [if_pos hlt, hcp]
          by_cases h59 : cp = 59
          · have hs : ¬ Ff_X8_isSmall mp = 1 := by
              unfold Ff_X8_isSmall; rw [if_pos (show mp < 97 by omega)]; decide
            have hd : ¬ Ff_X8_isDigit mp = 1 := by
              unfold Ff_X8_isDigit; rw [if_neg (show ¬ mp < 48 by omega), if_pos (show 57 < mp by omega)]; decide
            rw [if_pos h59, if_neg hs, if_neg hd, if_pos (by omega)]
            exact ⟨_, _, _, _, _, _, _, _, _, _, _, rfl, rfl, ⟨rfl, h2, h3, by omega, by omega, Or.inr (Or.inr (Or.inl ⟨rfl, by omega, rfl, by omega⟩))⟩, Int.le_refl _⟩
          · rw [if_neg h59]
            by_cases hsm : 97 ≤ cp ∧ cp ≤ 122
            · have hs : Ff_X8_isSmall mp = 1 := by
                unfold Ff_X8_isSmall; rw [if_neg (show ¬ mp < 97 by omega), if_neg (show ¬ 122 < mp by omega)]
              rw [if_neg (by omega), if_neg (by omega), if_pos hs]
              obtain ⟨be, tk, wd', tk2, ns2, lt2, a1, a2, a3, a4, a6, a5⟩ := rp_word hT h2 901 p 0 0 lt (by omega) (Int.le_refl _) h3 (by omega) (fun _ => ⟨fun k hk => by omega, rfl⟩)
              unfold Ff_X3_scanWord
              rw [a1, a2]
              refine ⟨p, be, tk, wd', wh, p, be, tk2, 0, ns2, lt2, rfl, rfl, ⟨rfl, h2, h3, by omega, a4, ?_⟩, Int.le_refl _⟩
              rcases a5 with ⟨b1, b2, b3, b4, b5, b6⟩ | ⟨b1, b2⟩
              · have hpb := a6 hlt (by rw [hcp]; exact hsm.1) (by rw [hcp]; exact hsm.2)
                exact Or.inr (Or.inr (Or.inr (Or.inl ⟨b1, b2, rfl, hpb, by omega, b4, b5, b6⟩)))
              · exact Or.inr (Or.inl ⟨b1, b2⟩)
            · have hs : ¬ Ff_X8_isSmall mp = 1 := by
                unfold Ff_X8_isSmall
                by_cases n1 : mp < 97
                · rw [if_pos n1]; decide
                · rw [if_neg n1, if_pos (show 122 < mp by omega)]; decide
              have hg : (if cp < 97 then Gf_X3_advance_132_1 e wd wh tp p else if 122 < cp then Gf_X3_advance_132_1 e wd wh tp p else fl_c3 (Ff_X3_scanWord e p p tp) (fun v126na0_9 v126na0_10 v126na0_11 => (p, v126na0_9, v126na0_10, v126na0_11, wh))) = Gf_X3_advance_132_1 e wd wh tp p := by
                by_cases n1 : cp < 97
                · rw [if_pos n1]
                · rw [if_neg n1, if_pos (show 122 < cp by omega)]
              rw [hg, if_neg hs]
              simp only [Gf_X3_advance_132_1, fl_lt]
              rw [hcp]
              by_cases hdg : 48 ≤ cp ∧ cp ≤ 57
              · have hd : Ff_X8_isDigit mp = 1 := by
                  unfold Ff_X8_isDigit; rw [if_neg (show ¬ mp < 48 by omega), if_neg (show ¬ 57 < mp by omega)]
                rw [if_neg (by omega), if_neg (by omega), if_pos hd]
                obtain ⟨be, tk, wd', tk2, wm2, a1, a2, a3, a4, a6, a5⟩ := rp_whole (lt := lt) hT h2 he 901 p 0 0 0 (by omega) (Int.le_refl _) h3 (by omega) (fun _ => ⟨rfl, by omega, by omega, fun _ => by omega, fun _ => by omega, fun _ => rfl⟩)
                unfold Ff_X3_scanWhole
                rw [a1, a2]
                refine ⟨p, be, tk, wd, wd', p, be, tk2, wm2, 0, lt, rfl, rfl, ⟨rfl, h2, h3, by omega, a4, ?_⟩, Int.le_refl _⟩
                rcases a5 with ⟨b1, b2, b3, b4, b5⟩ | ⟨b1, b2⟩
                · refine Or.inr (Or.inr (Or.inr (Or.inr ⟨b1, b2, rfl, ?_, b3, b4, b5⟩)))
                  exact a6 hlt (by rw [hcp]; exact hdg.1) (by rw [hcp]; exact hdg.2)
                · exact Or.inr (Or.inl ⟨b1, b2⟩)
              · have hd : ¬ Ff_X8_isDigit mp = 1 := by
                  unfold Ff_X8_isDigit
                  by_cases n1 : mp < 48
                  · rw [if_pos n1]; decide
                  · rw [if_neg n1, if_pos (show 57 < mp by omega)]; decide
                have hg2 : (if cp < 48 then Gf_X3_advance_167_1 wd wh p else if 57 < cp then Gf_X3_advance_167_1 wd wh p else fl_c3 (Ff_X3_scanWhole e p p tp) (fun v161na0_9 v161na0_10 v161na0_12 => (p, v161na0_9, v161na0_10, wd, v161na0_12))) = (p, p, 4, wd, wh) := by
                  by_cases n1 : cp < 48
                  · rw [if_pos n1]; rfl
                  · rw [if_neg n1, if_pos (show 57 < cp by omega)]; rfl
                rw [hg2, if_neg hd, if_neg (show ¬ mp = 59 by omega)]
                exact ⟨_, _, _, _, _, _, _, _, _, _, _, rfl, rfl, ⟨rfl, h2, h3, h2, h3, Or.inr (Or.inl ⟨rfl, rfl⟩)⟩, Int.le_refl _⟩
  exact main 901 b (by omega) hb0 hb1
end PUB
end P092242_pure2
section P092243_pure3
section PUC
theorem rp_cmp0 {x y : Int} : fl_cmp x y = 0 ↔ x = y := by
  unfold fl_cmp
  by_cases h : y < x
  · rw [if_pos h]; constructor
    · intro q; exact absurd q (by decide)
    · intro q; omega
  · rw [if_neg h]
    by_cases h2 : x = y
    · rw [if_pos h2]; exact ⟨fun _ => h2, fun _ => rfl⟩
    · rw [if_neg h2]; constructor
      · intro q; exact absurd q (by decide)
      · intro q; exact absurd q h2
/-- is it a word, there -/
theorem rp_isc {wd nn : Int} {cs : Nat → Int} (hn0 : 0 ≤ nn) (hn : nn ≤ 8) (hd : rp_dg cs nn.toNat) : Ff_X3_isWord 1 wd nn cs = if wd = rp_pk cs nn.toNat then 1 else 0 := by
  have main : ∀ (m : Nat) (j : Int), nn + 1 - j ≤ (m : Int) → 0 ≤ j → j ≤ nn → fl_wh (fun t9 => Sf_X3_isWord_15_1 wd nn cs t9.1 t9.2) 0 m (j, rp_pk cs j.toNat) = if wd = rp_pk cs nn.toNat then 1 else 0 := by
    intro m
    induction m with
    | zero => intro j h1 h2 h3; omega
    | succ m ih =>
      intro j h1 h2 h3
      by_cases hj : nn ≤ j
      · have ej : j = nn := by omega
        subst ej
        have hc : Sf_X3_isWord_15_1 wd j cs j (rp_pk cs j.toNat) = .inr (if fl_cmp wd (rp_pk cs j.toNat) = 0 then 1 else 0) := by
          simp only [Sf_X3_isWord_15_1, fl_lt]
          rw [if_pos hj]
        rw [fl_wh_r (step := fun t9 : Int × Int => Sf_X3_isWord_15_1 wd j cs t9.1 t9.2) (s := (j, rp_pk cs j.toNat)) hc]
        by_cases q : wd = rp_pk cs j.toNat
        · rw [if_pos (rp_cmp0.mpr q), if_pos q]
        · rw [if_neg (fun h => q (rp_cmp0.mp h)), if_neg q]
      · have hd1 := rp_dg_le hd (m := j.toNat) (by omega)
        have hdj := hd j.toNat (by omega)
        have q1 := rp_pk_lo hd1
        have q2 := rp_pk_7 hd1 (by omega)
        have ep : fl_lor (fl_lshl (rp_pk cs j.toNat) 8) (cs j.toNat) = rp_pk cs (j + 1).toNat := by
          rw [rp_push (by omega) (by omega) (by omega) (by omega), show (j + 1).toNat = j.toNat + 1 by omega]; rfl
        have hc : Sf_X3_isWord_15_1 wd nn cs j (rp_pk cs j.toNat) = .inl (j + 1, rp_pk cs (j + 1).toNat) := by
          simp only [Sf_X3_isWord_15_1, fl_lt]
          rw [if_neg hj, ep]
        rw [fl_wh_l (step := fun t9 : Int × Int => Sf_X3_isWord_15_1 wd nn cs t9.1 t9.2) (s := (j, rp_pk cs j.toNat)) hc]
        exact ih (j + 1) (by omega) (by omega) (by omega)
  unfold Ff_X3_isWord
  rw [if_pos rfl]
  exact main 9 0 (by omega) (by omega) hn0
theorem rp_ism0 {ns : Int} {lt cs : Nat → Int} : ∀ (m : Nat) (j : Int), ns + 1 - j ≤ (m : Int) → j ≤ ns → fl_wh (fun t9 => SfG_X8_isWord_32_1 ns lt cs t9.1 t9.2) 0 m (j, 0) = 0 := by
  intro m
  induction m with
  | zero => intro j h1 h2; omega
  | succ m ih =>
    intro j h1 h2
    by_cases hj : ns ≤ j
    · have hc : SfG_X8_isWord_32_1 ns lt cs j 0 = .inr 0 := by
        unfold SfG_X8_isWord_32_1; rw [if_pos hj]
      rw [fl_wh_r (step := fun t9 : Int × Int => SfG_X8_isWord_32_1 ns lt cs t9.1 t9.2) (s := (j, 0)) hc]
    · have hc : SfG_X8_isWord_32_1 ns lt cs j 0 = .inl (j + 1, 0) := by
        unfold SfG_X8_isWord_32_1; rw [if_neg hj, if_pos rfl]; rfl
      rw [fl_wh_l (step := fun t9 : Int × Int => SfG_X8_isWord_32_1 ns lt cs t9.1 t9.2) (s := (j, 0)) hc]
      exact ih (j + 1) (by omega) (by omega)
theorem rp_ism1 {ns : Int} {lt cs : Nat → Int} : ∀ (m : Nat) (j : Int), ns + 1 - j ≤ (m : Int) → 0 ≤ j → j ≤ ns → (∀ k : Nat, k < j.toNat → lt k = cs k) →
    (fl_wh (fun t9 => SfG_X8_isWord_32_1 ns lt cs t9.1 t9.2) 0 m (j, 1) = 1 ∧ ∀ k : Nat, k < ns.toNat → lt k = cs k) ∨ (fl_wh (fun t9 => SfG_X8_isWord_32_1 ns lt cs t9.1 t9.2) 0 m (j, 1) = 0 ∧ ¬ ∀ k : Nat, k < ns.toNat → lt k = cs k) := by
  intro m
  induction m with
  | zero => intro j h1 h2 h3; omega
  | succ m ih =>
    intro j h1 h2 h3 h4
    by_cases hj : ns ≤ j
    · have hc : SfG_X8_isWord_32_1 ns lt cs j 1 = .inr 1 := by
        unfold SfG_X8_isWord_32_1; rw [if_pos hj]
      rw [fl_wh_r (step := fun t9 : Int × Int => SfG_X8_isWord_32_1 ns lt cs t9.1 t9.2) (s := (j, 1)) hc]
      exact Or.inl ⟨rfl, fun k hk => h4 k (by omega)⟩
    · by_cases q : lt j.toNat = cs j.toNat
      · have hc : SfG_X8_isWord_32_1 ns lt cs j 1 = .inl (j + 1, 1) := by
          simp only [SfG_X8_isWord_32_1, fl_lt]; rw [if_neg hj, if_neg (by decide), if_pos q]; rfl
        rw [fl_wh_l (step := fun t9 : Int × Int => SfG_X8_isWord_32_1 ns lt cs t9.1 t9.2) (s := (j, 1)) hc]
        refine ih (j + 1) (by omega) (by omega) (by omega) (fun k hk => ?_)
        by_cases hk2 : k = j.toNat
        · rw [hk2]; exact q
        · exact h4 k (by omega)
      · have hc : SfG_X8_isWord_32_1 ns lt cs j 1 = .inl (j + 1, 0) := by
          simp only [SfG_X8_isWord_32_1, fl_lt]; rw [if_neg hj, if_neg (by decide), if_neg q]; rfl
        rw [fl_wh_l (step := fun t9 : Int × Int => SfG_X8_isWord_32_1 ns lt cs t9.1 t9.2) (s := (j, 1)) hc]
        exact Or.inr ⟨rp_ism0 m (j + 1) (by omega) (by omega), fun h => q (h j.toNat (by omega))⟩
/-- is it that word: here as there -/
theorem rp_isw {e st be tk wd wh at_ en tk2 wm ns nn : Int} {lt cs cs' : Nat → Int} (hK : rp_K e st be tk wd wh at_ en tk2 wm ns lt) (hn0 : 0 ≤ nn) (hn : nn ≤ 8) (hd : ∀ k : Nat, k < 8 → (k : Int) < nn → 97 ≤ cs k ∧ cs k ≤ 122 ∧ cs' k = cs k) :
    (Ff_X3_isWord tk wd nn cs = 0 ∧ FfG_X8_isWord tk2 ns lt nn cs' = 0) ∨ (Ff_X3_isWord tk wd nn cs = 1 ∧ FfG_X8_isWord tk2 ns lt nn cs' = 1 ∧ tk = 1 ∧ tk2 = 2 ∧ be = en ∧ st < be) := by
  have hd1 : rp_dg cs nn.toNat := fun k hk => ⟨(hd k (by omega) (by omega)).1, (hd k (by omega) (by omega)).2.1⟩
  have z : ∀ t : Int, t ≠ 1 → Ff_X3_isWord t wd nn cs = 0 := fun t h => by unfold Ff_X3_isWord; rw [if_neg h]
  have z2 : ∀ t : Int, t ≠ 2 → FfG_X8_isWord t ns lt nn cs' = 0 := fun t h => by unfold FfG_X8_isWord; rw [if_neg h]
  obtain ⟨h1, h2, h3, h4, h5, h6⟩ := hK
  rcases h6 with ⟨a, b⟩ | ⟨a, b⟩ | ⟨a, b, -⟩ | ⟨a, b, c, d, f0, f, g, hw⟩ | ⟨a, b, -⟩
  · subst a; subst b; exact Or.inl ⟨z _ (by decide), z2 _ (by decide)⟩
  · subst a; subst b; exact Or.inl ⟨z _ (by decide), z2 _ (by decide)⟩
  · subst a; subst b; exact Or.inl ⟨z _ (by decide), z2 _ (by decide)⟩
  · subst a; subst b
    rw [rp_isc hn0 hn hd1]
    have hu : FfG_X8_isWord 2 ns lt nn cs' = if ns = nn then fl_wh (fun t9 => SfG_X8_isWord_32_1 ns lt cs' t9.1 t9.2) 0 9 (0, 1) else 0 := by unfold FfG_X8_isWord; rw [if_pos rfl]; rfl
    rw [hu]
    by_cases hl : ns = nn
    · rw [if_pos hl]
      rcases rp_ism1 (ns := ns) (lt := lt) (cs := cs') 9 0 (by omega) (by omega) (by omega) (fun k hk => by omega) with ⟨q1, q2⟩ | ⟨q1, q2⟩
      · refine Or.inr ⟨if_pos ?_, q1, rfl, rfl, c, d⟩
        rw [hw, hl]
        exact rp_pk_cg (fun k hk => by rw [q2 k (by omega)]; exact (hd k (by omega) (by omega)).2.2)
      · refine Or.inl ⟨if_neg ?_, q1⟩
        intro he
        rw [hw] at he
        obtain ⟨-, e2⟩ := rp_pk_inj g hd1 he
        exact q2 (fun k hk => by rw [e2 k hk]; exact ((hd k (by omega) (by omega)).2.2).symm)
    · rw [if_neg hl]
      refine Or.inl ⟨if_neg ?_, rfl⟩
      intro he
      rw [hw] at he
      obtain ⟨e1, -⟩ := rp_pk_inj g hd1 he
      omega
  · subst a; subst b; exact Or.inl ⟨z _ (by decide), z2 _ (by decide)⟩
theorem rp_in (x lo hi : Int) : Ff_X7_within x lo hi = Ff_X8_in x lo hi := rfl
theorem rp_in1 {x lo hi : Int} (h1 : lo ≤ x) (h2 : x ≤ hi) : Ff_X8_in x lo hi = 1 := by
  unfold Ff_X8_in; rw [if_neg (by omega), if_neg (by omega)]
theorem rp_in0 {x lo hi : Int} (h : ¬ (lo ≤ x ∧ x ≤ hi)) : Ff_X8_in x lo hi = 0 := by
  unfold Ff_X8_in
  by_cases h1 : x < lo
  · rw [if_pos h1]
  · rw [if_neg h1, if_pos (by omega)]
/-- a WHOLE within bounds: isWholeWithin and numberHere -/
theorem rp_iww {e st be tk wd wh at_ en tk2 wm ns : Int} {lt : Nat → Int} (hK : rp_K e st be tk wd wh at_ en tk2 wm ns lt) (lo hi fn fp fa pl : Int) :
    (Ff_X3_isWholeWithin lo hi fn fp st tk wh = (1, fn, fp) ∧ FfG_X8_numberHere lo hi at_ tk2 wm fa pl = (wh, fa, pl, 0) ∧ tk = 2 ∧ wh = wm ∧ lo ≤ wh ∧ wh ≤ hi ∧ be = en ∧ st < be ∧ 0 ≤ wh ∧ wh ≤ 999) ∨
    (∃ q, Ff_X3_isWholeWithin lo hi fn fp st tk wh = (0, q, st) ∧ FfG_X8_numberHere lo hi at_ tk2 wm fa pl = (lo, q, st, 1)) := by
  obtain ⟨h1, h2, h3, h4, h5, h6⟩ := hK
  subst h1
  have z : ∀ t t2 : Int, t ≠ 2 → t2 ≠ 3 → (∃ q, Ff_X3_isWholeWithin lo hi fn fp st t wh = (0, q, st) ∧ FfG_X8_numberHere lo hi st t2 wm fa pl = (lo, q, st, 1)) := by
    intro t t2 a b
    refine ⟨1, ?_, ?_⟩
    · unfold Ff_X3_isWholeWithin; rw [if_neg a]; rfl
    · unfold FfG_X8_numberHere; rw [if_neg b]; rfl
  rcases h6 with ⟨a, b⟩ | ⟨a, b⟩ | ⟨a, b, -⟩ | ⟨a, b, -⟩ | ⟨a, b, c, d, f, g, k⟩
  · subst a; subst b; exact Or.inr (z _ _ (by decide) (by decide))
  · subst a; subst b; exact Or.inr (z _ _ (by decide) (by decide))
  · subst a; subst b; exact Or.inr (z _ _ (by decide) (by decide))
  · subst a; subst b; exact Or.inr (z _ _ (by decide) (by decide))
  · subst a; subst b; subst f
    by_cases hb : lo ≤ wh ∧ wh ≤ hi
    · refine Or.inl ⟨?_, ?_, rfl, rfl, hb.1, hb.2, c, d, g, k⟩
      · simp only [Ff_X3_isWholeWithin, fl_lt, rp_in, rp_in1 hb.1 hb.2, reduceIte]
      · simp only [FfG_X8_numberHere, fl_lt, rp_in1 hb.1 hb.2, reduceIte]
    · refine Or.inr ⟨4, ?_, ?_⟩
      · simp only [Ff_X3_isWholeWithin, fl_lt, rp_in, rp_in0 hb, reduceIte, Int.reduceEq]; rfl
      · simp only [FfG_X8_numberHere, fl_lt, rp_in0 hb, reduceIte, Int.reduceEq]; rfl
end PUC
end P092243_pure3
