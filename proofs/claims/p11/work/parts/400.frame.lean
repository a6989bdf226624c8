section FRAME
theorem met_mono {l : Launch} {y : MethodName} {ws : List Cond} {rm : Room} {Pc Pc' : Array Value → State → Prop} {Qc Qc' : Array Value → State → Outcome → State → Prop} {mc ms : Nat} {free free' : Addr → Prop}
    (h : Met l y ws rm Pc Qc mc ms free) (hP : ∀ a U, Pc' a U → Pc a U) (hQ : ∀ a U o t L, Pc' a U → FrameEnd U o t L mc ms → Qc a U o t → Qc' a U o t) (hf : ∀ q, free q → free' q) : Met l y ws rm Pc' Qc' mc ms free' := by
  intro p e h1 h2 h3 s m args below h4 h5 h6 h7
  obtain ⟨n, o, a1, a2, a3, a4, L, a5, a6⟩ := h p e h1 h2 h3 s m args below h4 h5 (hP _ _ h6) h7
  exact ⟨n, o, a1, a2, a3, hQ _ _ _ _ _ h6 a5 a4, L, a5, fun q hq => hf _ (a6 q hq)⟩
theorem fr_at {w wc : va_W} {is : List Nat} (hC : is.map (fun i => w[i]?) = wc.map some) {j k : Nat} (hj : is[j]? = some k) : ∃ q, wc[j]? = some q ∧ w[k]? = some q := by
  have h1 : (is.map (fun i => w[i]?))[j]? = some (w[k]?) := by rw [List.getElem?_map, hj]; rfl
  rw [hC, List.getElem?_map] at h1
  cases hq : wc[j]? with
  | none => rw [hq] at h1; cases h1
  | some q => rw [hq] at h1; exact ⟨q, rfl, (Option.some.inj h1).symm⟩
theorem fr_len {w wc : va_W} {is : List Nat} (hC : is.map (fun i => w[i]?) = wc.map some) : is.length = wc.length := by
  have h := congrArg List.length hC
  simpa using h
theorem fr_lt {w wc : va_W} {is : List Nat} (hC : is.map (fun i => w[i]?) = wc.map some) : ∀ i ∈ is, i < w.length := by
  intro i hi
  obtain ⟨j, hj⟩ := List.mem_iff_getElem?.mp hi
  obtain ⟨q, -, h⟩ := fr_at hC hj
  exact (List.getElem?_eq_some_iff.mp h).1
theorem fr_w2 {A0 : Nat → Prop} {D : va_G} {cl : List vw_C} {w wc wr w1 w2 : va_W} {H H1 : Heap} {n : Nat} (is rs : List Nat) (hP : va_P D cl w H) (hD : va_D A0 w) (hC : is.map (fun i => w[i]?) = wc.map some) (hR : rs.map (fun i => w[i]?) = wr.map some) (ha : w1.map (fun q => q.1) = wc.map (fun q => q.1)) (h1 : is.map (fun i => w2[i]?) = w1.map some) (h2 : rs.map (fun i => w2[i]?) = wr.map some)
    (hl : w2.length = n) (hcov : (List.range n).all (fun k => is.contains k || rs.contains k) = true) (hk : ∀ q : Nat, q < H.size → ¬ va_A wc H.size q → H1[q]? = H[q]?) (hP1 : va_P D cl w1 H1) : va_P D cl w2 H1 ∧ va_D A0 w2 := by
  have cov : ∀ (k : Nat) (q : Nat × va_E), w2[k]? = some q → (∃ j : Nat, is[j]? = some k ∧ w1[j]? = some q) ∨ (k ∉ is ∧ w[k]? = some q) := by
    intro k q h
    have hlt : k < n := by rw [← hl]; exact (List.getElem?_eq_some_iff.mp h).1
    have hb := List.all_eq_true.mp hcov k (List.mem_range.mpr hlt)
    by_cases hi : k ∈ is
    · obtain ⟨j, hj⟩ := List.mem_iff_getElem?.mp hi
      obtain ⟨p, g1, g2⟩ := fr_at h1 hj
      rw [h] at g2
      exact Or.inl ⟨j, hj, by rw [g1, ← Option.some.inj g2]⟩
    · have hr : k ∈ rs := by
        rcases Bool.or_eq_true _ _ |>.mp hb with z | z
        · exact absurd (List.contains_iff_mem.mp z) hi
        · exact List.contains_iff_mem.mp z
      obtain ⟨j, hj⟩ := List.mem_iff_getElem?.mp hr
      obtain ⟨p, g1, g2⟩ := fr_at h2 hj
      obtain ⟨p', g3, g4⟩ := fr_at hR hj
      rw [g1] at g3
      have e := Option.some.inj g3
      subst e
      rw [h] at g2
      exact Or.inr ⟨hi, by rw [g4, ← Option.some.inj g2]⟩
  have adr : ∀ (k : Nat) (q : Nat × va_E), w2[k]? = some q → ∃ p, w[k]? = some p ∧ p.1 = q.1 := by
    intro k q h
    rcases cov k q h with ⟨j, a, b⟩ | ⟨a, b⟩
    · obtain ⟨p, g1, g2⟩ := fr_at hC a
      refine ⟨p, g2, ?_⟩
      have h3 : (w1.map (fun q => q.1))[j]? = some q.1 := by rw [List.getElem?_map, b]; rfl
      rw [ha, List.getElem?_map, g1] at h3
      exact Option.some.inj h3
    · exact ⟨q, b, rfl⟩
  refine ⟨fun k q h => ?_, ⟨fun i j p q a1 a2 a3 => ?_, fun k q h => ?_⟩⟩
  · rcases cov k q h with ⟨j, a, b⟩ | ⟨a, b⟩
    · exact hP1 j q b
    · have hq := hP k q b
      refine hq.kept (hk q.1 hq.lt (fun h9 => ?_))
      rcases h9 with ⟨j, e, h9⟩ | h9
      · have hj : ∃ m, is[j]? = some m := by
          have hlt : j < wc.length := (List.getElem?_eq_some_iff.mp h9).1
          rw [← fr_len hC] at hlt
          exact ⟨is[j], List.getElem?_eq_getElem hlt⟩
        obtain ⟨m, hm⟩ := hj
        obtain ⟨p, g1, g2⟩ := fr_at hC hm
        rw [g1] at h9
        have e2 := hD.1 k m q p b g2 (by rw [Option.some.inj h9])
        subst e2
        exact a (List.mem_of_getElem? hm)
      · have := hq.lt; omega
  · obtain ⟨p1, b1, c1⟩ := adr i p a1
    obtain ⟨p2, b2, c2⟩ := adr j q a2
    exact hD.1 i j p1 p2 b1 b2 (by rw [c1, c2]; exact a3)
  · obtain ⟨p1, b1, c1⟩ := adr k q h
    rw [← c1]; exact hD.2 k p1 b1
theorem fr_sub {w wc : va_W} {is : List Nat} (hC : is.map (fun i => w[i]?) = wc.map some) {sz : Nat} : ∀ q, va_A wc sz q → va_A w sz q := by
  intro q h
  rcases h with ⟨j, e, h⟩ | h
  · have hj : ∃ m, is[j]? = some m := by
      have hlt : j < wc.length := (List.getElem?_eq_some_iff.mp h).1
      rw [← fr_len hC] at hlt
      exact ⟨is[j], List.getElem?_eq_getElem hlt⟩
    obtain ⟨m, hm⟩ := hj
    obtain ⟨p, g1, g2⟩ := fr_at hC hm
    rw [h] at g1
    have e1 := Option.some.inj g1
    exact Or.inl ⟨m, e, by rw [g2, ← e1]⟩
  · exact Or.inr h
theorem fr_P {D : va_G} {cl : List vw_C} {w wc : va_W} {is : List Nat} {H : Heap} (hC : is.map (fun i => w[i]?) = wc.map some) (hP : va_P D cl w H) : va_P D cl wc H := by
  intro j q h
  have hj : ∃ m, is[j]? = some m := by
    have hlt : j < wc.length := (List.getElem?_eq_some_iff.mp h).1
    rw [← fr_len hC] at hlt
    exact ⟨is[j], List.getElem?_eq_getElem hlt⟩
  obtain ⟨m, hm⟩ := hj
  obtain ⟨p, g1, g2⟩ := fr_at hC hm
  rw [h] at g1
  have e1 := Option.some.inj g1
  subst e1
  exact hP m _ g2
/-- the frame rule for contracts that answer an int: the callee's cells among more -/
theorem fr_i {l : Launch} {y : MethodName} {ws : List Cond} {rm : Room} {av : List Value} {dC : Nat → ClassId} {dI : Nat → Nat → Nat} {sz : Nat} {w wc wr : va_W} {tys tysc : List (ClassId × FieldType)} {E E' : State → Prop} {S : Type} {post : Int32 → S → Prop} {post' : Int32 → Prop} {B : S → State → Prop} {J : va_W → List (ClassId × FieldType) → Prop}
    (hM : Met l y ws rm (va_Pc av (ax_C dC dI sz wc tysc E)) (va_Qi post B (va_A wc sz)) 0 0 (va_A wc sz)) (is rs it : List Nat) (n : Nat) (hcov : (List.range n).all (fun k => is.contains k || rs.contains k) = true) (hR : rs.map (fun i => w[i]?) = wr.map some) (hC : is.map (fun i => w[i]?) = wc.map some) (hn : va_nd is = true) (hT : it.filterMap (fun i => tys[i]?) = tysc)
    (hE : ∀ U, E' U → E U) 
    (hB : ∀ r u t, post r u → B u t → post' r ∧ ∃ w1, ax_B dC dI (va_A wc sz) w1 tysc t ∧ w1.map (fun q => q.1) = wc.map (fun q => q.1) ∧ ∃ w2 : va_W, is.map (fun i => w2[i]?) = w1.map some ∧ rs.map (fun i => w2[i]?) = wr.map some ∧ w2.length = n ∧ J w2 tys) :
    Met l y ws rm (va_Pc av (ax_C dC dI sz w tys E')) (va_Qi (fun r (_ : Unit) => post' r) (fun _ t => ∃ wx ty, J wx ty ∧ ax_B dC dI (va_A w sz) wx ty t) (va_A w sz)) 0 0 (va_A w sz) := by
  refine met_mono hM ?_ ?_ (fr_sub hC)
  · intro a U h
    obtain ⟨rfl, hsz, hP, hK, hD, hE'⟩ := h
    exact ⟨rfl, hsz, fr_P hC hP, hK.sub it hT, hD.sub is hn hC, hE U hE'⟩
  · intro a U o t L hpre hfe hq
    obtain ⟨rfl, hsz, hP, hK, hD, hE'⟩ := hpre
    obtain ⟨⟨r, u, ho, hp, hb⟩, hF⟩ := hq
    obtain ⟨hp', w1, ⟨hP1, hK1, hD1⟩, ha, w2, q1, q2, q3, hJ⟩ := hB r u t hp hb
    subst hsz
    obtain ⟨g1, g2⟩ := fr_w2 (A0 := va_A w U.heap.size) is rs hP hD.self hC hR ha q1 q2 q3 hcov hF.2 hP1
    exact ⟨⟨r, (), ho, hp', _, _, hJ, g1, va_K.moved hfe.2.1.alike hK, g2⟩, hF.1, fun q h1 h2 => hF.2 q h1 (fun z => h2 (fr_sub hC q z))⟩
theorem fr_l {l : Launch} {y : MethodName} {ws : List Cond} {rm : Room} {av : List Value} {dC : Nat → ClassId} {dI : Nat → Nat → Nat} {sz : Nat} {w wc wr : va_W} {tys tysc : List (ClassId × FieldType)} {E E' : State → Prop} {S : Type} {post : Int64 → S → Prop} {B : S → State → Prop} {J : va_W → List (ClassId × FieldType) → Prop}
    (hM : Met l y ws rm (va_Pc av (ax_C dC dI sz wc tysc E)) (va_Ql post B (va_A wc sz)) 0 0 (va_A wc sz)) (is rs it : List Nat) (n : Nat) (hcov : (List.range n).all (fun k => is.contains k || rs.contains k) = true) (hR : rs.map (fun i => w[i]?) = wr.map some) (hC : is.map (fun i => w[i]?) = wc.map some) (hn : va_nd is = true) (hT : it.filterMap (fun i => tys[i]?) = tysc)
    (hE : ∀ U, E' U → E U)
    (hB : ∀ r u t, post r u → B u t → ∃ w1, ax_B dC dI (va_A wc sz) w1 tysc t ∧ w1.map (fun q => q.1) = wc.map (fun q => q.1) ∧ ∃ w2 : va_W, is.map (fun i => w2[i]?) = w1.map some ∧ rs.map (fun i => w2[i]?) = wr.map some ∧ w2.length = n ∧ J w2 tys) :
    Met l y ws rm (va_Pc av (ax_C dC dI sz w tys E')) (va_Ql (fun _ (_ : Unit) => True) (fun _ t => ∃ wx ty, J wx ty ∧ ax_B dC dI (va_A w sz) wx ty t) (va_A w sz)) 0 0 (va_A w sz) := by
  refine met_mono hM ?_ ?_ (fr_sub hC)
  · intro a U h
    obtain ⟨rfl, hsz, hP, hK, hD, hE'⟩ := h
    exact ⟨rfl, hsz, fr_P hC hP, hK.sub it hT, hD.sub is hn hC, hE U hE'⟩
  · intro a U o t L hpre hfe hq
    obtain ⟨rfl, hsz, hP, hK, hD, hE'⟩ := hpre
    obtain ⟨⟨r, u, ho, hp, hb⟩, hF⟩ := hq
    obtain ⟨w1, ⟨hP1, hK1, hD1⟩, ha, w2, q1, q2, q3, hJ⟩ := hB r u t hp hb
    subst hsz
    obtain ⟨g1, g2⟩ := fr_w2 (A0 := va_A w U.heap.size) is rs hP hD.self hC hR ha q1 q2 q3 hcov hF.2 hP1
    exact ⟨⟨r, (), ho, trivial, _, _, hJ, g1, va_K.moved hfe.2.1.alike hK, g2⟩, hF.1, fun q h1 h2 => hF.2 q h1 (fun z => h2 (fr_sub hC q z))⟩
/-- the same, the cells and types in another order behind it -/
theorem fr_ip {l : Launch} {y : MethodName} {ws : List Cond} {rm : Room} {av : List Value} {dC : Nat → ClassId} {dI : Nat → Nat → Nat} {sz : Nat} {w wc wr : va_W} {tys tysc : List (ClassId × FieldType)} {E E' : State → Prop} {S : Type} {post : Int32 → S → Prop} {post' : Int32 → Prop} {B : S → State → Prop} {J : va_W → List (ClassId × FieldType) → Prop}
    (hM : Met l y ws rm (va_Pc av (ax_C dC dI sz wc tysc E)) (va_Qi post B (va_A wc sz)) 0 0 (va_A wc sz)) (is rs it : List Nat) (n : Nat) (hcov : (List.range n).all (fun k => is.contains k || rs.contains k) = true) (hR : rs.map (fun i => w[i]?) = wr.map some) (hC : is.map (fun i => w[i]?) = wc.map some) (hn : va_nd is = true) (hT : it.filterMap (fun i => tys[i]?) = tysc)
    (hE : ∀ U, E' U → E U)
    (hB : ∀ r u t, post r u → B u t → post' r ∧ ∃ w1, ax_B dC dI (va_A wc sz) w1 tysc t ∧ w1.map (fun q => q.1) = wc.map (fun q => q.1) ∧ ∃ (ord ot : List Nat) (w2 w3 : va_W) (ty : List (ClassId × FieldType)), is.map (fun i => w3[i]?) = w1.map some ∧ rs.map (fun i => w3[i]?) = wr.map some ∧ w3.length = n ∧ ord.map (fun i => w3[i]?) = w2.map some ∧ va_nd ord = true ∧ ot.filterMap (fun i => tys[i]?) = ty ∧ J w2 ty) :
    Met l y ws rm (va_Pc av (ax_C dC dI sz w tys E')) (va_Qi (fun r (_ : Unit) => post' r) (fun _ t => ∃ wx ty, J wx ty ∧ ax_B dC dI (va_A w sz) wx ty t) (va_A w sz)) 0 0 (va_A w sz) := by
  refine met_mono hM ?_ ?_ (fr_sub hC)
  · intro a U h
    obtain ⟨rfl, hsz, hP, hK, hD, hE'⟩ := h
    exact ⟨rfl, hsz, fr_P hC hP, hK.sub it hT, hD.sub is hn hC, hE U hE'⟩
  · intro a U o t L hpre hfe hq
    obtain ⟨rfl, hsz, hP, hK, hD, hE'⟩ := hpre
    obtain ⟨⟨r, u, ho, hp, hb⟩, hF⟩ := hq
    obtain ⟨hp', w1, ⟨hP1, hK1, hD1⟩, ha, ord, ot, w2, w3, ty, q1, q2, q3, h1, h2, h3, hJ⟩ := hB r u t hp hb
    subst hsz
    obtain ⟨g1, g2⟩ := fr_w2 (A0 := va_A w U.heap.size) is rs hP hD.self hC hR ha q1 q2 q3 hcov hF.2 hP1
    exact ⟨⟨r, (), ho, hp', _, _, hJ, fr_P h1 g1, (va_K.moved hfe.2.1.alike hK).sub ot h3, g2.sub ord h2 h1⟩, hF.1, fun q h1 h2 => hF.2 q h1 (fun z => h2 (fr_sub hC q z))⟩
theorem room_mono {s : State} {pl : Platform} {q q' : Room} (h1 : q.frames ≤ q'.frames) (h2 : q.locals ≤ q'.locals) (h3 : q.cells ≤ q'.cells) (h4 : q.slots ≤ q'.slots) (h : s.hasRoom pl q' = true) : s.hasRoom pl q = true := by
  unfold State.hasRoom at h ⊢
  simp only [Bool.and_eq_true, decide_eq_true_eq] at h ⊢
  obtain ⟨⟨⟨⟨a, b1, b2, b3, b4, b5⟩, c⟩, d⟩, e⟩ := h
  exact ⟨⟨⟨⟨by omega, by omega, by omega, by omega, by omega, b5⟩, by omega⟩, by omega⟩, e⟩
theorem met_room {l : Launch} {y : MethodName} {ws : List Cond} {f f' k sl lo lo' : Nat} {Pc : Array Value → State → Prop} {Qc : Array Value → State → Outcome → State → Prop} {mc ms : Nat} {free : Addr → Prop} (h : Met l y ws ({ frames := f, cells := k, slots := sl, locals := lo }) Pc Qc mc ms free) (h1 : f ≤ f') (h2 : lo ≤ lo') : Met l y ws ({ frames := f', cells := k, slots := sl, locals := lo' }) Pc Qc mc ms free := by
  intro p e h3 h4 h5 s m args below h6 h7 h8 h9
  have q := (Spec.appliesLoose_iff h6).mp h7
  exact h p e h3 h4 h5 s m args below h6 ((Spec.appliesLoose_iff h6).mpr ⟨q.1, q.2.1, q.2.2.1, q.2.2.2.1, q.2.2.2.2.1, q.2.2.2.2.2.1, room_mono (q := ({ frames := f, cells := k, slots := sl, locals := lo } : Room)) (q' := ({ frames := f', cells := k, slots := sl, locals := lo' } : Room)) h1 h2 (Nat.le_refl _) (Nat.le_refl _) q.2.2.2.2.2.2.1, q.2.2.2.2.2.2.2⟩) h8 h9
end FRAME
theorem sx_Z_sub {A B : Nat → Prop} {U : State} (h : sx_Z A U) (hAB : ∀ q, B q → A q) : sx_Z B U := ⟨h.1.narrow hAB, h.2.narrow hAB⟩
theorem sx_W_sub {w n : Nat} {A B : Nat → Prop} {U : State} (h : sx_W w n A U) (hAB : ∀ q, B q → A q) : sx_W w n B U := by
  obtain ⟨h1, h2, h3, h4, v, f, h5, h6⟩ := h
  exact ⟨sx_Z_sub h1 hAB, h2, h3.narrow hAB, h4.narrow hAB, v, f, h5.narrow hAB, h6.narrow hAB⟩
theorem sx_T_sub {ad : Nat → Nat} {A B : Nat → Prop} {U : State} (h : sx_T ad A U) (hAB : ∀ q, B q → A q) : sx_T ad B U := ⟨fun i hi => sx_W_sub (h.1 i hi) hAB, h.2⟩
