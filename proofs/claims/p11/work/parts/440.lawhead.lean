/-! THE CLAIM OUT OF ONE WALK OF THE LAW'S BODY. Your part is whole_start (and what it stands on); all else here is the same for every law, but numbers. -/
def R_law : String := "WaxTurnsLaw"
def lw_P (b : Addr) (xs : List Int32) (args : Array Value) (s : State) : Prop := args = #[.ref b] ∧ s.IntsAt b xs ∧ xs.length ≤ 3072 ∧ (Jvm.Cond.and given_1 narrow_1).before args s = true
def lw_Q (_ : Array Value) (s : State) (o : Outcome) (t : State) : Prop := o = .returned (some (.int 1)) ∧ Framed s o t [] 601024 7293034
def lw_Z (below : List Frame) (a : Array Value) (s : State) : State → Prop := fun t => ∃ o, t.status = .running ∧ Ended t below o ∧ lw_Q a s o t
/-- the law's own end, with 1 on the stack, nothing written that was there before, its room as the claim has it -/
theorem lw_ret {p : Program} {l : Launch} {e : Env} {s : State} {m : MethodId} {below : List Frame} {meth : Method} {c : Code} {b : Nat} (hx : p.tables.exec = Jvm.exec) (hb : c.code = code) (hr : meth.sig.returnType = ret) (hlocks : meth.locks = false) {pc : Nat} {H : Heap} {ls : Array Slot} (hdg : decode code pc = .ok (.ireturn, 1)) : W p l e room_1 s m #[Value.ref b] below meth c H [] 601024 7293034 (lw_Z below #[Value.ref b] s) (F0 m pc ls [.int 1]) := by
  intro T hT X
  obtain ⟨fs, hret, hrun, hended, hW, hframe⟩ := X.leave (v := some (.int 1)) (hlocks := hlocks) (fun h => by rw [hr] at h; cases h)
  have hmeth' : T.vm.method? m = some meth := X.method'
  refine ⟨T.setFrames fs, ?_, .returned (some (.int 1)), hrun, hended, rfl, ⟨_, rfl⟩, hW, hframe⟩
  jvm_step X.here [X.here.top, hx, hb, hdg, hmeth', hr, ret, narrow_b1]
  (try refine ⟨rfl, ?_⟩); (try refine ⟨rfl, ?_⟩)
  first | (intro acts; rw [hret _ acts rfl rfl rfl]) | rw [hret _ _ rfl rfl rfl]
  exact Steps.refl _
/-- what holds at the law's entry: the machine, the code, the tables' words (any of lw_tbl by 'hts w (by decide +kernel)'), the script of L ints xs at the cell b, what the Statement gives of the start (any of its parts by flat_of_before) -/
def lw_At (p : Program) (s : State) (m : MethodId) (meth : Method) (c : Code) (b L : Nat) (xs : Nat → Int32) : Prop :=
  p.tables.exec = Jvm.exec ∧ c.code = code ∧ meth.sig.returnType = ret ∧ c.maxLocals = 7 ∧ s.vm.findClass R_law = some m.cls ∧ (∀ w ∈ lw_tbl, w.before #[Value.ref b] s = true) ∧ va_X b L xs s s.heap ∧ b < s.heap.size ∧ meth.locks = false ∧ (Jvm.Cond.and given_1 narrow_1).before #[Value.ref b] s = true
section LG
def dj (wa wb : va_W) : Prop := ∀ (i j : Nat) (p q : Nat × va_E), wa[i]? = some p → wb[j]? = some q → p.1 ≠ q.1
theorem dj_symm {wa wb : va_W} (h : dj wa wb) : dj wb wa := fun i j p q a b z => h j i q p b a z.symm
theorem lg_step {D : va_G} {cl : List vw_C} {wa wa' wb : va_W} {H H1 : Heap} (hPb : va_P D cl wb H) (hj : dj wa wb) (hk : ∀ q : Nat, q < H.size → ¬ va_A wa H.size q → H1[q]? = H[q]?) (hD1 : va_D (va_A wa H.size) wa') : va_P D cl wb H1 ∧ dj wa' wb := by
  have out : ∀ (k : Nat) (q : Nat × va_E), wb[k]? = some q → q.1 < H.size ∧ ¬ va_A wa H.size q.1 := by
    intro k q h
    have hl := (hPb k q h).lt
    refine ⟨hl, fun z => ?_⟩
    rcases z with ⟨j, e, z⟩ | z
    · exact hj j k (q.1, e) q z h rfl
    · omega
  exact ⟨fun k q h => (hPb k q h).kept (hk q.1 (out k q h).1 (out k q h).2), fun i k p q a b z => (out k q b).2 (by rw [← z]; exact hD1.2 i p a)⟩
theorem lg_free {A : Nat → Prop} {w : va_W} {H0 H : Heap} {locs : List Loc} (hD : va_D A w) (hS : va_S A H0 H locs) (hA : ∀ q, H0.size ≤ q → A q) : ∀ q, va_A w H.size q → A q := by
  intro q h
  rcases h with ⟨k, e, h⟩ | h
  · exact hD.2 k _ h
  · exact hA q (Nat.le_trans hS.1 h)
theorem ix_recv {x : Nat} {tp : Int32} {vi : Nat → Int32} {vf : Nat → Nat → Int32} {w : va_W} {ts : List (ClassId × FieldType)} (h : IXv x tp vi vf w ts) : ∃ fs, w[0]? = some (x, .inr (7, fs)) := by
  obtain ⟨ad, kc, vl, fl, rfl, rfl, -⟩ := h
  exact ⟨_, rfl⟩
theorem im_recv {x : Nat} {tp : Int32} {vi : Nat → Int32} {vf : Nat → Nat → Int32} {w : va_W} {ts : List (ClassId × FieldType)} (h : IMv x tp vi vf w ts) : ∃ fs, w[0]? = some (x, .inr (8, fs)) := by
  obtain ⟨ad, kc, rfl, rfl, -⟩ := h
  exact ⟨_, rfl⟩
/-- the law's world between two calls: the two objects with tapes alike, and its row of one long -/
def lg_S (dC : Nat → ClassId) (dI : Nat → Nat → Nat) (A : Nat → Prop) (s : State) (x mo oa : Nat) (ko : ClassId) (H : Heap) : Prop := ∃ (tp : Int32) (wx wm : va_W) (tx tm : List (ClassId × FieldType)) (fo : Nat → Int64) (vi : Nat → Int32) (vf : Nat → Nat → Int32) (vm : Nat → Int32) (vn : Nat → Nat → Int32),
  IXv x tp vi vf wx tx ∧ IMv mo tp vm vn wm tm ∧ lr_R tp vi vf vm vn ∧ va_K (dC, dI) vwCl tx s ∧ va_K (dC, dI) vwCl tm s ∧ va_P (dC, dI) vwCl wx H ∧ va_P (dC, dI) vwCl wm H ∧ va_P (dC, dI) vwCl [(oa, .inl (ko, 1, .inr (.inl fo)))] H ∧ va_D A wx ∧ va_D A wm ∧ va_D A [(oa, .inl (ko, 1, .inr (.inl fo)))] ∧ dj wx wm ∧ dj wx [(oa, .inl (ko, 1, .inr (.inl fo)))] ∧ dj wm [(oa, .inl (ko, 1, .inr (.inl fo)))]
/-- what the calls rest on beside the tables -/
def lg_E (A : Nat → Prop) (sd : Nat → Nat) (sa : Nat) (s : State) : Prop := sxc_T sd A s ∧ ax_EL A sa s ∧ va_Nw (.methodLinkNest RX5 38 yX7_hasBit RX7) s ∧ va_Nw (.methodLinkNest RX0 118 yX7_within RX7) s ∧ va_Nw (.methodLinkNest RX0 129 yX7_hasBit RX7) s ∧ va_Nw (.methodLinkNest RX4 18 yX7_within RX7) s ∧ va_Nw (.methodLinkNest RX0 72 yX7_laterTurn RX7) s ∧ va_Nw (.methodLinkNest RX1 41 yX7_within RX7) s ∧ va_Nw (.methodLinkNest RX3 223 yX7_within RX7) s ∧ va_Nw (.methodLinkNest RX3 196 yX7_hasBit RX7) s
theorem dj_o {w : va_W} {oa : Nat} {ko : ClassId} {fo fp : Nat → Int64} (h : dj w [(oa, .inl (ko, 1, .inr (.inl fo)))]) : dj w [(oa, .inl (ko, 1, .inr (.inl fp)))] := by
  intro i j p q a b
  cases j with
  | zero =>
    have e := Option.some.inj b
    rw [← e]; exact h i 0 p (oa, .inl (ko, 1, .inr (.inl fo))) a rfl
  | succ j => exact absurd b (by simp)
theorem va_D_o {A : Nat → Prop} {oa : Nat} {ko : ClassId} {fo fp : Nat → Int64} (h : va_D A [(oa, .inl (ko, 1, .inr (.inl fo)))]) : va_D A [(oa, .inl (ko, 1, .inr (.inl fp)))] := by
  refine ⟨fun i j p q a b z => ?_, fun k q a => ?_⟩
  · cases i with
    | zero => cases j with
      | zero => rfl
      | succ j => exact absurd b (by simp)
    | succ i => exact absurd a (by simp)
  · cases k with
    | zero =>
      have e := Option.some.inj a
      rw [← e]; exact h.2 0 (oa, .inl (ko, 1, .inr (.inl fo))) rfl
    | succ k => exact absurd a (by simp)
theorem ix_tp {x : Nat} {tp : Int32} {vi : Nat → Int32} {vf : Nat → Nat → Int32} {w : va_W} {ts : List (ClassId × FieldType)} (h : IXv x tp vi vf w ts) : (0 : Int) ≤ tp.toInt ∧ tp.toInt ≤ 900 := by
  obtain ⟨ad, kc, vl, fl, -, -, F0, F1, F2, F3, F4, F5, F6, F7, F8, F9, F10, F11, F12, F13, F14, F15, F16, F17, F18, F19, F20, F21, F22, F23, F24, F25, F26, F27, F28, F29, F30, F31, F32, F33, F34, F35, F36, F37, F38, F39, F40, F41, F42, F43, F44, F45, F46, F47, F48, F49, F50, F51, F52, F53, F54, F55, F56, F57⟩ := h
  exact F0
theorem ix_L {x : Nat} {tp : Int32} {vi : Nat → Int32} {vf : Nat → Nat → Int32} {w : va_W} {ts : List (ClassId × FieldType)} (h : IXv x tp vi vf w ts) : (0 : Int) ≤ (vi 26).toInt ∧ (vi 26).toInt ≤ 15 := by
  obtain ⟨ad, kc, vl, fl, -, -, F0, F1, F2, F3, F4, F5, F6, F7, F8, F9, F10, F11, F12, F13, F14, F15, F16, F17, F18, F19, F20, F21, F22, F23, F24, F25, F26, F27, F28, F29, F30, F31, F32, F33, F34, F35, F36, F37, F38, F39, F40, F41, F42, F43, F44, F45, F46, F47, F48, F49, F50, F51, F52, F53, F54, F55, F56, F57⟩ := h
  exact F11
theorem im_mo {x : Nat} {tp : Int32} {vi : Nat → Int32} {vf : Nat → Nat → Int32} {w : va_W} {ts : List (ClassId × FieldType)} (h : IMv x tp vi vf w ts) : vi 11 = 0 ∨ (vi 11 = 1 ∧ ((∀ k : Nat, 0 ≤ k → k ≤ 0 → (2 : Int) ≤ ((vf 2) k).toInt ∧ ((vf 2) k).toInt ≤ 9) ∧ (∀ k : Nat, 1 ≤ k → k ≤ 1 → (1 : Int) ≤ ((vf 2) k).toInt ∧ ((vf 2) k).toInt ≤ 20) ∧ (∀ k : Nat, 2 ≤ k → k ≤ 2 → (0 : Int) ≤ ((vf 2) k).toInt ∧ ((vf 2) k).toInt ≤ 8) ∧ (∀ k : Nat, 3 ≤ k → k ≤ 3 → (0 : Int) ≤ ((vf 2) k).toInt ∧ ((vf 2) k).toInt ≤ 100) ∧ (∀ k : Nat, 4 ≤ k → k ≤ 4 → (0 : Int) ≤ ((vf 2) k).toInt ∧ ((vf 2) k).toInt ≤ 9) ∧ (∀ k : Nat, 5 ≤ k → k ≤ 5 → (0 : Int) ≤ ((vf 2) k).toInt ∧ ((vf 2) k).toInt ≤ 3) ∧ (∀ k : Nat, 6 ≤ k → k ≤ 6 → (0 : Int) ≤ ((vf 2) k).toInt ∧ ((vf 2) k).toInt ≤ 6) ∧ (∀ k : Nat, 7 ≤ k → k ≤ 9 → (0 : Int) ≤ ((vf 2) k).toInt ∧ ((vf 2) k).toInt ≤ 8) ∧ (∀ k : Nat, 12 ≤ k → k ≤ 29 → (0 : Int) ≤ ((vf 2) k).toInt ∧ ((vf 2) k).toInt ≤ 20) ∧ (∀ k : Nat, 30 ≤ k → k ≤ 35 → (0 : Int) ≤ ((vf 2) k).toInt ∧ ((vf 2) k).toInt ≤ 8) ∧ (∀ k : Nat, 36 ≤ k → k ≤ 47 → (0 : Int) ≤ ((vf 2) k).toInt ∧ ((vf 2) k).toInt ≤ 999)) ∧ (∀ (j i0 i : Int32), (0 : Int) ≤ j.toInt → j.toInt ≤ 8 → i0.toInt = 12 + 2 * j.toInt → i.toInt = 13 + 2 * j.toInt → ((vf 2) i0.toNatClampNeg).toInt = (1 : Int32).toInt → (1 : Int) ≤ ((vf 2) i.toNatClampNeg).toInt)) := by
  obtain ⟨ad, kc, -, -, F0, F1, F2, F3, F4, F5, F6, F7, F8, F9, F10, F11, F12, F13, hMo⟩ := h
  exact hMo
end LG
theorem dj_sub {wa wc wb : va_W} {is : List Nat} (hC : is.map (fun i => wa[i]?) = wc.map some) (h : dj wa wb) : dj wc wb := by
  intro i j p q a b
  have hj : ∃ z, is[i]? = some z := by
    have hlt : i < wc.length := (List.getElem?_eq_some_iff.mp a).1
    rw [← fr_len hC] at hlt
    exact ⟨is[i], List.getElem?_eq_getElem hlt⟩
  obtain ⟨z, hz⟩ := hj
  obtain ⟨p2, g1, g2⟩ := fr_at hC hz
  rw [a] at g1
  have e1 := Option.some.inj g1
  subst e1
  exact h z j p q g2 b
theorem dj_app {wa wb wc : va_W} (h1 : dj wa wc) (h2 : dj wb wc) : dj (wa ++ wb) wc := by
  intro i j p q a b
  by_cases hi : i < wa.length
  · rw [List.getElem?_append_left hi] at a; exact h1 i j p q a b
  · rw [List.getElem?_append_right (by omega)] at a; exact h2 _ j p q a b
/-- behind led: the cells stand as they stood -/
theorem lg_led {D : va_G} {cl : List vw_C} {A : Nat → Prop} {w wc wo : va_W} {H H1 : Heap} (is : List Nat) (hC : is.map (fun i => w[i]?) = wc.map some) (hP : va_P D cl w H) (hD : va_D A w) (hj : dj w wo) (hk : ∀ q : Nat, q < H.size → ¬ va_A (wc ++ wo) H.size q → H1[q]? = H[q]?) (hP1 : va_P D cl wc H1) : va_P D cl w H1 := by
  intro k q h
  have hq := hP k q h
  by_cases hin : va_A wc H.size q.1
  · rcases hin with ⟨j, e, hj2⟩ | h9
    · have hx : ∃ z, is[j]? = some z := by
        have hlt : j < wc.length := (List.getElem?_eq_some_iff.mp hj2).1
        rw [← fr_len hC] at hlt
        exact ⟨is[j], List.getElem?_eq_getElem hlt⟩
      obtain ⟨z, hz⟩ := hx
      obtain ⟨p2, g1, g2⟩ := fr_at hC hz
      rw [hj2] at g1
      have e1 := Option.some.inj g1
      have e2 := hD.1 k z q p2 h g2 (by rw [← e1])
      subst e2
      rw [h] at g2
      have e3 := Option.some.inj g2
      rw [e3, ← e1]
      exact hP1 j _ hj2
    · have := hq.lt; omega
  · refine hq.kept (hk q.1 hq.lt (fun h9 => ?_))
    rcases h9 with ⟨j, e, h9⟩ | h9
    · by_cases hlt : j < wc.length
      · rw [List.getElem?_append_left hlt] at h9; exact hin (Or.inl ⟨j, e, h9⟩)
      · rw [List.getElem?_append_right (by omega)] at h9; exact hj k _ q _ h h9 rfl
    · have := hq.lt; omega
theorem lc_tb {w : Cond} {i : Nat} (h : tables_1[i]? = some w) : w ∈ lw_tbl := List.mem_append_right _ (List.mem_of_getElem? h)
theorem va_P_l {D : va_G} {cl : List vw_C} {wa wb : va_W} {H : Heap} (h : va_P D cl (wa ++ wb) H) : va_P D cl wa H := fun k q a => h k q (by rw [List.getElem?_append_left (List.getElem?_eq_some_iff.mp a).1]; exact a)
theorem va_P_r {D : va_G} {cl : List vw_C} {wa wb : va_W} {H : Heap} (h : va_P D cl (wa ++ wb) H) : va_P D cl wb H := fun k q a => h (wa.length + k) q (by rw [List.getElem?_append_right (by omega)]; rw [Nat.add_sub_cancel_left]; exact a)
theorem va_D_l {A : Nat → Prop} {wa wb : va_W} (h : va_D A (wa ++ wb)) : va_D A wa := ⟨fun i j p q a b => h.1 i j p q (by rw [List.getElem?_append_left (List.getElem?_eq_some_iff.mp a).1]; exact a) (by rw [List.getElem?_append_left (List.getElem?_eq_some_iff.mp b).1]; exact b), fun k q a => h.2 k q (by rw [List.getElem?_append_left (List.getElem?_eq_some_iff.mp a).1]; exact a)⟩
theorem va_D_r {A : Nat → Prop} {wa wb : va_W} (h : va_D A (wa ++ wb)) : va_D A wb := ⟨fun i j p q a b z => by
    have := h.1 (wa.length + i) (wa.length + j) p q (by rw [List.getElem?_append_right (by omega), Nat.add_sub_cancel_left]; exact a) (by rw [List.getElem?_append_right (by omega), Nat.add_sub_cancel_left]; exact b) z
    omega, fun k q a => h.2 (wa.length + k) q (by rw [List.getElem?_append_right (by omega), Nat.add_sub_cancel_left]; exact a)⟩
theorem va_D_j {A : Nat → Prop} {wa wb : va_W} (h : va_D A (wa ++ wb)) : dj wa wb := fun i j p q a b z => by
  have hl := (List.getElem?_eq_some_iff.mp a).1
  have := h.1 i (wa.length + j) p q (by rw [List.getElem?_append_left hl]; exact a) (by rw [List.getElem?_append_right (by omega), Nat.add_sub_cancel_left]; exact b) z
  omega
