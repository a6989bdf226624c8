set_option maxHeartbeats 4000000 in
set_option maxRecDepth 100000 in
/-- gallery's loop over fresh: all stays 0 -/
theorem lp_X8_gallery {p : Program} {l : Launch} {e : Env} {R : Room} {s : State} {m : MethodId} {args : Array Value} {below : List Frame} {meth : Method} {c : Code} {Q : State → Prop} {dC : Nat → ClassId} {dI : Nat → Nat → Nat} {A : Nat → Prop} {H0 : Heap} {cells slots : Nat} (hx : p.tables.exec = Jvm.exec) (hb : c.code = cX8_gallery) (hts : ∀ w ∈ wsX8_gallery, w.before args s = true) (hown : s.vm.findClass RX8 = some m.cls) (mm fr : Nat) (g : Nat → Value) (kf : ClassId) (n0 : Int32) (hK : va_K (dC, dI) vwCl [(kf, .int)] s)
    (kk : ∀ (H : Heap) (locs : List Loc) (ls : Array Slot), va_P (dC, dI) vwCl [(mm, .inr (8, [g 0, g 1, g 2, g 3, g 4, g 5, g 6, g 7, g 8, g 9, g 10, g 11, g 12, g 13, g 14, g 15, Value.ref fr, g 17, g 18, g 19, g 20, g 21, g 22, g 23, g 24, g 25, g 26, g 27, g 28, g 29, g 30, g 31, g 32, g 33, g 34, g 35, g 36, g 37, g 38, g 39])), (fr, .inl (kf, 156, .inl (fun _ => 0)))] H → va_D A [(mm, .inr (8, [g 0, g 1, g 2, g 3, g 4, g 5, g 6, g 7, g 8, g 9, g 10, g 11, g 12, g 13, g 14, g 15, Value.ref fr, g 17, g 18, g 19, g 20, g 21, g 22, g 23, g 24, g 25, g 26, g 27, g 28, g 29, g 30, g 31, g 32, g 33, g 34, g 35, g 36, g 37, g 38, g 39])), (fr, .inl (kf, 156, .inl (fun _ => 0)))] → va_S A H0 H locs → lv_has ls 3 [(0, .ref mm), (1, .int n0), (2, .int 156)] → W p l e R s m args below meth c H locs cells slots Q (F0 m 59 ls [])) :
    ∀ (n k : Nat), k + n = 156 → ∀ (H : Heap) (locs : List Loc) (ls : Array Slot), va_P (dC, dI) vwCl [(mm, .inr (8, [g 0, g 1, g 2, g 3, g 4, g 5, g 6, g 7, g 8, g 9, g 10, g 11, g 12, g 13, g 14, g 15, Value.ref fr, g 17, g 18, g 19, g 20, g 21, g 22, g 23, g 24, g 25, g 26, g 27, g 28, g 29, g 30, g 31, g 32, g 33, g 34, g 35, g 36, g 37, g 38, g 39])), (fr, .inl (kf, 156, .inl (fun _ => 0)))] H → va_D A [(mm, .inr (8, [g 0, g 1, g 2, g 3, g 4, g 5, g 6, g 7, g 8, g 9, g 10, g 11, g 12, g 13, g 14, g 15, Value.ref fr, g 17, g 18, g 19, g 20, g 21, g 22, g 23, g 24, g 25, g 26, g 27, g 28, g 29, g 30, g 31, g 32, g 33, g 34, g 35, g 36, g 37, g 38, g 39])), (fr, .inl (kf, 156, .inl (fun _ => 0)))] → va_S A H0 H locs → lv_has ls 3 [(0, .ref mm), (1, .int n0), (2, .int (nI k))] → W p l e R s m args below meth c H locs cells slots Q (F0 m 39 ls []) := by
  intro n
  induction n with
  | zero =>
    intro k hk H locs ls hP hD hS hl
    have e9 : nI k = 156 := by rw [show k = 156 by omega]; rfl
    rw [e9] at hl
    refine lv_iload_n hx hb dX8_gallery_39 rfl (lv_at hl 2 rfl) ?_
    refine lv_sipush (v := 156) hx hb dX8_gallery_40 (by decide) ?_
    refine lv_icmp_ge (tgt := 59) hx hb dX8_gallery_43 (by decide) (fun _ => ?_) (fun c_1 => absurd (by decide +kernel) c_1)
    exact kk H locs ls hP hD hS hl
  | succ n ih =>
    intro k hk H locs ls hP hD hS hl
    have hk9 : k < 156 := by omega
    refine lv_iload_n hx hb dX8_gallery_39 rfl (lv_at hl 2 rfl) ?_
    refine lv_sipush (v := 156) hx hb dX8_gallery_40 (by decide) ?_
    refine lv_icmp_ge (tgt := 59) hx hb dX8_gallery_43 (by decide) (fun c_1 => absurd c_1 (show ¬ nI 156 ≤ nI k from nI_ge hk9 (by omega))) (fun _ => ?_)
    refine lv_aload_n hx hb dX8_gallery_46 rfl (lv_at hl 0 rfl) ?_
    refine va_get (D := (dC, dI)) (ci := 8) (v := .ref fr) (C := RX8) (T := TX8) (N := 40) hx hb hts (by decide +kernel) hown hK hP 0 rfl rfl 16 (by decide) (hts (.fieldLink RX8 23 "WaxTurnsModel" "fresh" "[I") (by decide +kernel)) (fun _ h9 => h9) rfl dX8_gallery_47 ?_
    refine lv_iload_n hx hb dX8_gallery_50 rfl (lv_at hl 2 rfl) ?_
    refine lv_iconst (v := 0) hx hb dX8_gallery_51 (by decide) ?_
    refine va_iast hx hb hK hP hD hS 1 0 rfl rfl (vp_in_nI hk9 (by omega)) dX8_gallery_52 (fun H locs hP hD hS => ?_)
    rw [ax_u0] at hP hD
    have hP : va_P (dC, dI) vwCl [(mm, .inr (8, [g 0, g 1, g 2, g 3, g 4, g 5, g 6, g 7, g 8, g 9, g 10, g 11, g 12, g 13, g 14, g 15, Value.ref fr, g 17, g 18, g 19, g 20, g 21, g 22, g 23, g 24, g 25, g 26, g 27, g 28, g 29, g 30, g 31, g 32, g 33, g 34, g 35, g 36, g 37, g 38, g 39])), (fr, .inl (kf, 156, .inl (fun _ => 0)))] H := hP
    have hD : va_D A [(mm, .inr (8, [g 0, g 1, g 2, g 3, g 4, g 5, g 6, g 7, g 8, g 9, g 10, g 11, g 12, g 13, g 14, g 15, Value.ref fr, g 17, g 18, g 19, g 20, g 21, g 22, g 23, g 24, g 25, g 26, g 27, g 28, g 29, g 30, g 31, g 32, g 33, g 34, g 35, g 36, g 37, g 38, g 39])), (fr, .inl (kf, 156, .inl (fun _ => 0)))] := hD
    obtain ⟨x_3, ex_3⟩ : ∃ y : Int32, y = (nI k) + Int32.ofInt 1 := ⟨_, rfl⟩
    refine lv_iinc (v := x_3) (lv' := [(2, .int x_3), (0, .ref mm), (1, .int n0)]) hx hb dX8_gallery_53 hl (k := 2) rfl ex_3.symm (by decide) rfl (fun ls hl => ?_)
    refine lv_goto (tgt := 39) hx hb dX8_gallery_56 (by decide) ?_
    have e8 : x_3 = nI (k + 1) := by rw [ex_3]; exact nI_1 k
    rw [e8] at hl
    exact ih (k + 1) (by omega) _ _ _ hP hD hS (lv_sub hl [1, 2, 0] rfl)

set_option maxHeartbeats 4000000 in
set_option maxRecDepth 100000 in
theorem c_X8_gallery (l : Launch) (dC : Nat → ClassId) (dI : Nat → Nat → Nat) (sz : Nat) (mo : Nat) (a0 : Int32) (g : Nat → Value) (fr : Nat) (kf : ClassId) (s128 : Nat) (s130 : Nat) (s132 : Nat) (s134 : Nat) (s136 : Nat) : Met l yX8_gallery wsX8_gallery ({ frames := 3, cells := 0, slots := 0, locals := 65 }) (va_Pc [.ref mo, .int a0] (ax_C dC dI sz [(mo, .inr (8, [g 0, g 1, Value.int 0, g 3, g 4, g 5, g 6, g 7, g 8, g 9, g 10, g 11, g 12, g 13, g 14, g 15, Value.ref fr, g 17, g 18, g 19, g 20, g 21, g 22, g 23, g 24, g 25, g 26, g 27, g 28, g 29, g 30, g 31, g 32, g 33, g 34, g 35, g 36, g 37, g 38, g 39])), (fr, .inl (kf, 156, .inl (fun _ => 0)))] [(kf, .int)] (fun U => vk_R RX8 128 "gallery" s128 U ∧ vk_R RX8 130 "law" s130 U ∧ vk_R RX8 132 "figure" s132 U ∧ vk_R RX8 134 "watche\x72" s134 U ∧ vk_R RX8 136 "seen" s136 U))) (va_Qi (fun (r : Int32) (_ : Unit) => r = -1) (fun (_ : Unit) (t : State) => ax_B dC dI (va_A [(mo, .inr (8, [g 0, g 1, Value.int 0, g 3, g 4, g 5, g 6, g 7, g 8, g 9, g 10, g 11, g 12, g 13, g 14, g 15, Value.ref fr, g 17, g 18, g 19, g 20, g 21, g 22, g 23, g 24, g 25, g 26, g 27, g 28, g 29, g 30, g 31, g 32, g 33, g 34, g 35, g 36, g 37, g 38, g 39])), (fr, .inl (kf, 156, .inl (fun _ => 0)))] sz) [] [] t) (va_A [(mo, .inr (8, [g 0, g 1, Value.int 0, g 3, g 4, g 5, g 6, g 7, g 8, g 9, g 10, g 11, g 12, g 13, g 14, g 15, Value.ref fr, g 17, g 18, g 19, g 20, g 21, g 22, g 23, g 24, g 25, g 26, g 27, g 28, g 29, g 30, g 31, g 32, g 33, g 34, g 35, g 36, g 37, g 38, g 39])), (fr, .inl (kf, 156, .inl (fun _ => 0)))] sz)) 0 0 (va_A [(mo, .inr (8, [g 0, g 1, Value.int 0, g 3, g 4, g 5, g 6, g 7, g 8, g 9, g 10, g 11, g 12, g 13, g 14, g 15, Value.ref fr, g 17, g 18, g 19, g 20, g 21, g 22, g 23, g 24, g 25, g 26, g 27, g 28, g 29, g 30, g 31, g 32, g 33, g 34, g 35, g 36, g 37, g 38, g 39])), (fr, .inl (kf, 156, .inl (fun _ => 0)))] sz) := by
  refine Met.ofW (cc := cX8_gallery) (maxL := 3) (ret := (some .int)) (by decide) rfl ?_
  intro p e s m args below meth c s₁ B hml hv
  obtain ⟨rfl, hsz, hP, hK, hD0, hE⟩ := hv
  have hx := B.exec
  have hb := B.bytes
  have hr := B.returns
  have hts := atoms_spec (ws := wsX8_gallery) B.pre
  have hown : s.vm.findClass RX8 = some m.cls := findClass_of_methodNamed B.named
  have hlocks := B.notSynchronized
  subst hsz
  have hD := hD0.self (sz := s.heap.size)
  generalize hAe : va_A [(mo, .inr (8, [g 0, g 1, Value.int 0, g 3, g 4, g 5, g 6, g 7, g 8, g 9, g 10, g 11, g 12, g 13, g 14, g 15, Value.ref fr, g 17, g 18, g 19, g 20, g 21, g 22, g 23, g 24, g 25, g 26, g 27, g 28, g 29, g 30, g 31, g 32, g 33, g 34, g 35, g 36, g 37, g 38, g 39])), (fr, .inl (kf, 156, .inl (fun _ => 0)))] s.heap.size = A at hD ⊢
  have hA : ∀ q : Nat, s.heap.size ≤ q → A q := fun q h => by rw [← hAe]; exact Or.inr h
  have hS : va_S A s.heap s.heap [] := va_S.rf
  have hP : va_P (dC, dI) vwCl [(mo, .inr (8, [g 0, g 1, Value.int 0, g 3, g 4, g 5, g 6, g 7, g 8, g 9, g 10, g 11, g 12, g 13, g 14, g 15, Value.ref fr, g 17, g 18, g 19, g 20, g 21, g 22, g 23, g 24, g 25, g 26, g 27, g 28, g 29, g 30, g 31, g 32, g 33, g 34, g 35, g 36, g 37, g 38, g 39])), (fr, .inl (kf, 156, .inl (fun _ => 0)))] s.heap := hP
  obtain ⟨hE0, hE1, hE2, hE3, hE4⟩ := hE
  have hl := lv_entry ([.ref mo, .int a0]) (n := 3) (Nat.le_of_ble_eq_true rfl)
  rw [lg_entry_eq]
  generalize (lg_sl ([.ref mo, .int a0]) ++ List.replicate (3 - (lg_sl ([.ref mo, .int a0])).length) Slot.unset).toArray = ls at hl ⊢
  have hl : lv_has ls 3 [(0, .ref mo), (1, .int a0)] := hl
  refine lv_aload_n hx hb dX8_gallery_0 rfl (lv_at hl 0 rfl) ?_
  have hPc := hP.sub (ws' := [(mo, .inr (8, [g 0, g 1, Value.int 0, g 3, g 4, g 5, g 6, g 7, g 8, g 9, g 10, g 11, g 12, g 13, g 14, g 15, Value.ref fr, g 17, g 18, g 19, g 20, g 21, g 22, g 23, g 24, g 25, g 26, g 27, g 28, g 29, g 30, g 31, g 32, g 33, g 34, g 35, g 36, g 37, g 38, g 39]))]) [0] rfl
  have hDc := hD.sub (ws' := [(mo, .inr (8, [g 0, g 1, Value.int 0, g 3, g 4, g 5, g 6, g 7, g 8, g 9, g 10, g 11, g 12, g 13, g 14, g 15, Value.ref fr, g 17, g 18, g 19, g 20, g 21, g 22, g 23, g 24, g 25, g 26, g 27, g 28, g 29, g 30, g 31, g 32, g 33, g 34, g 35, g 36, g 37, g 38, g 39]))]) [0] (by decide) rfl
  have hKc := hK.sub (tys' := []) [] rfl
  have hFc := va_free (wc := [(mo, .inr (8, [g 0, g 1, Value.int 0, g 3, g 4, g 5, g 6, g 7, g 8, g 9, g 10, g 11, g 12, g 13, g 14, g 15, Value.ref fr, g 17, g 18, g 19, g 20, g 21, g 22, g 23, g 24, g 25, g 26, g 27, g 28, g 29, g 30, g 31, g 32, g 33, g 34, g 35, g 36, g 37, g 38, g 39]))]) hD hS hA [0] rfl
  refine va_callv (va_runV (As := []) (rest := []) ⟨hx, hb, hml, hown, hts⟩ (c_X8_good l dC dI s.heap.size mo (fun i9 => ([g 0, g 1, Value.int 0, g 3, g 4, g 5, g 6, g 7, g 8, g 9, g 10, g 11, g 12, g 13, g 14, g 15, Value.ref fr, g 17, g 18, g 19, g 20, g 21, g 22, g 23, g 24, g 25, g 26, g 27, g 28, g 29, g 30, g 31, g 32, g 33, g 34, g 35, g 36, g 37, g 38, g 39] : List Value).getD i9 .null) ) (cwV 0 hts gX8_gallery_X8_good rfl rfl rfl (by decide +kernel) ⟨Nat.le_of_ble_eq_true rfl, Nat.le_of_ble_eq_true rfl⟩) ⟨ax_blind (fun _ _ _ _ _ => trivial), va_recv hKc hPc (ci := 8) (q0 := 0) rfl rfl, ax_pre hPc hKc hDc (fun _ _ => trivial)⟩ rfl rfl hl.1 rfl (lv_room (Nat.le_of_ble_eq_true rfl)) dX8_gallery_1 ⟨Nat.le_of_ble_eq_true rfl, Nat.le_of_ble_eq_true rfl⟩) hS (fun q _ h => hFc q h) hFc (fun u t H1 locs ht hvm hw hB hz1 hk1 hS => ?_)
  obtain ⟨hP1, hK1, hD1⟩ := hB
  rw [ht] at hP1
  have hK1 := va_K.moved hvm.symm hK1
  obtain ⟨hP, hD⟩ := va_join (wr := [(fr, .inl (kf, 156, .inl (fun _ => 0)))]) (w1 := [(mo, .inr (8, [Value.int 0, g 1, Value.int 0, g 3, g 4, g 5, g 6, g 7, g 8, g 9, g 10, Value.int 0, g 12, g 13, g 14, g 15, Value.ref fr, g 17, g 18, g 19, g 20, g 21, g 22, g 23, g 24, g 25, g 26, g 27, g 28, g 29, g 30, g 31, g 32, g 33, g 34, g 35, g 36, g 37, g 38, g 39]))]) hP hD [0] [1] rfl rfl (by decide) (by decide) hk1 hFc hP1 hD1
  have hK := (hK.sub (tys' := [(kf, .int)]) [0] rfl).app hK1
  generalize H1 = H at hP hS ⊢
  have hP : va_P (dC, dI) vwCl [(fr, .inl (kf, 156, .inl (fun _ => 0))), (mo, .inr (8, [Value.int 0, g 1, Value.int 0, g 3, g 4, g 5, g 6, g 7, g 8, g 9, g 10, Value.int 0, g 12, g 13, g 14, g 15, Value.ref fr, g 17, g 18, g 19, g 20, g 21, g 22, g 23, g 24, g 25, g 26, g 27, g 28, g 29, g 30, g 31, g 32, g 33, g 34, g 35, g 36, g 37, g 38, g 39]))] H := hP
  have hD : va_D A [(fr, .inl (kf, 156, .inl (fun _ => 0))), (mo, .inr (8, [Value.int 0, g 1, Value.int 0, g 3, g 4, g 5, g 6, g 7, g 8, g 9, g 10, Value.int 0, g 12, g 13, g 14, g 15, Value.ref fr, g 17, g 18, g 19, g 20, g 21, g 22, g 23, g 24, g 25, g 26, g 27, g 28, g 29, g 30, g 31, g 32, g 33, g 34, g 35, g 36, g 37, g 38, g 39]))] := hD
  have hK : va_K (dC, dI) vwCl [(kf, .int)] s := hK
  refine lv_iload_n hx hb dX8_gallery_4 rfl (lv_at hl 1 rfl) ?_
  refine lv_iconst (v := 0) hx hb dX8_gallery_5 (by decide) ?_
  refine lv_aload_n hx hb dX8_gallery_6 rfl (lv_at hl 0 rfl) ?_
  refine va_get (D := (dC, dI)) (ci := 8) (v := .int 0) (C := RX8) (T := TX8) (N := 40) hx hb hts (by decide +kernel) hown hK hP 1 rfl rfl 2 (by decide) (hts (.fieldLink RX8 65 "WaxTurnsModel" "taped" "I") (by decide +kernel)) (fun _ h9 => h9) rfl dX8_gallery_7 ?_
  have hPc := hP.sub (ws' := []) [] rfl
  have hDc := hD.sub (ws' := []) [] (by decide) rfl
  have hKc := hK.sub (tys' := []) [] rfl
  have hFc := va_free (wc := []) hD hS hA [] rfl
  refine va_calli (va_runS (As := [.int a0, .int 0, .int 0]) (rest := []) ⟨hx, hb, hml, hown, hts⟩ (c_X8_inP l dC dI H.size a0 0 0 ) (va_cwS 3 hts gX8_gallery_X8_in rfl rfl rfl (by decide +kernel) ⟨Nat.le_of_ble_eq_true rfl, Nat.le_of_ble_eq_true rfl⟩) ⟨ax_blind (fun _ _ _ _ _ => trivial), ax_pre hPc hKc hDc (fun _ _ => trivial)⟩ rfl rfl hl.1 rfl (lv_room (Nat.le_of_ble_eq_true rfl)) dX8_gallery_10 ⟨Nat.le_of_ble_eq_true rfl, Nat.le_of_ble_eq_true rfl⟩) hS (fun q _ h => hFc q h) hFc (fun r_2 u t H1 locs ht hvm hw hB hz1 hk1 hS => ?_)
  obtain ⟨hP1, hK1, hD1⟩ := hB
  rw [ht] at hP1
  have hK1 := va_K.moved hvm.symm hK1
  obtain ⟨hP, hD⟩ := va_join (wr := [(fr, .inl (kf, 156, .inl (fun _ => 0))), (mo, .inr (8, [Value.int 0, g 1, Value.int 0, g 3, g 4, g 5, g 6, g 7, g 8, g 9, g 10, Value.int 0, g 12, g 13, g 14, g 15, Value.ref fr, g 17, g 18, g 19, g 20, g 21, g 22, g 23, g 24, g 25, g 26, g 27, g 28, g 29, g 30, g 31, g 32, g 33, g 34, g 35, g 36, g 37, g 38, g 39]))]) (w1 := []) hP hD [] [0, 1] rfl rfl (by decide) (by decide) hk1 hFc hP1 hD1
  have hK := (hK.sub (tys' := [(kf, .int)]) [0] rfl).app hK1
  generalize H1 = H at hP hS ⊢
  have hP : va_P (dC, dI) vwCl [(fr, .inl (kf, 156, .inl (fun _ => 0))), (mo, .inr (8, [Value.int 0, g 1, Value.int 0, g 3, g 4, g 5, g 6, g 7, g 8, g 9, g 10, Value.int 0, g 12, g 13, g 14, g 15, Value.ref fr, g 17, g 18, g 19, g 20, g 21, g 22, g 23, g 24, g 25, g 26, g 27, g 28, g 29, g 30, g 31, g 32, g 33, g 34, g 35, g 36, g 37, g 38, g 39]))] H := hP
  have hD : va_D A [(fr, .inl (kf, 156, .inl (fun _ => 0))), (mo, .inr (8, [Value.int 0, g 1, Value.int 0, g 3, g 4, g 5, g 6, g 7, g 8, g 9, g 10, Value.int 0, g 12, g 13, g 14, g 15, Value.ref fr, g 17, g 18, g 19, g 20, g 21, g 22, g 23, g 24, g 25, g 26, g 27, g 28, g 29, g 30, g 31, g 32, g 33, g 34, g 35, g 36, g 37, g 38, g 39]))] := hD
  have hK : va_K (dC, dI) vwCl [(kf, .int)] s := hK
  rcases hw with ⟨hw, h_3⟩ | ⟨hw, h_3⟩
  · have h0 : a0 = 0 := ax_z0 h_3.1 h_3.2
    subst h0
    subst hw
    refine lv_if_ne (tgt := 22) hx hb dX8_gallery_13 (by decide) (fun _ => ?_) (fun c_4 => absurd c_4 (by decide +kernel))
    refine lv_aload_n hx hb dX8_gallery_22 rfl (lv_at hl 0 rfl) ?_
    refine lv_iconst (v := 0) hx hb dX8_gallery_23 (by decide) ?_
    refine va_put (D := (dC, dI)) (ci := 8) (v := .int 0) (ty := .int) (C := RX8) (T := TX8) (N := 40) hx hb hts (by decide +kernel) tyX8 tyX8_ok nmX8 hown hK hP hD hS 1 rfl rfl 2 (by decide) (hts (.fieldLink RX8 65 "WaxTurnsModel" "taped" "I") (by decide +kernel)) (fun _ h9 => h9) rfl (by decide +kernel) rfl rfl (Nat.le_of_ble_eq_true rfl) dX8_gallery_24 (fun H locs hP hD hS => ?_)
    have hP : va_P (dC, dI) vwCl [(fr, .inl (kf, 156, .inl (fun _ => 0))), (mo, .inr (8, [Value.int 0, g 1, Value.int 0, g 3, g 4, g 5, g 6, g 7, g 8, g 9, g 10, Value.int 0, g 12, g 13, g 14, g 15, Value.ref fr, g 17, g 18, g 19, g 20, g 21, g 22, g 23, g 24, g 25, g 26, g 27, g 28, g 29, g 30, g 31, g 32, g 33, g 34, g 35, g 36, g 37, g 38, g 39]))] H := hP
    have hD : va_D A [(fr, .inl (kf, 156, .inl (fun _ => 0))), (mo, .inr (8, [Value.int 0, g 1, Value.int 0, g 3, g 4, g 5, g 6, g 7, g 8, g 9, g 10, Value.int 0, g 12, g 13, g 14, g 15, Value.ref fr, g 17, g 18, g 19, g 20, g 21, g 22, g 23, g 24, g 25, g 26, g 27, g 28, g 29, g 30, g 31, g 32, g 33, g 34, g 35, g 36, g 37, g 38, g 39]))] := hD
    refine lv_aload_n hx hb dX8_gallery_27 rfl (lv_at hl 0 rfl) ?_
    refine lv_iconst (v := 0) hx hb dX8_gallery_28 (by decide) ?_
    refine va_put (D := (dC, dI)) (ci := 8) (v := .int 0) (ty := .int) (C := RX8) (T := TX8) (N := 40) hx hb hts (by decide +kernel) tyX8 tyX8_ok nmX8 hown hK hP hD hS 1 rfl rfl 9 (by decide) (hts (.fieldLink RX8 101 "WaxTurnsModel" "fault" "I") (by decide +kernel)) (fun _ h9 => h9) rfl (by decide +kernel) rfl rfl (Nat.le_of_ble_eq_true rfl) dX8_gallery_29 (fun H locs hP hD hS => ?_)
    have hP : va_P (dC, dI) vwCl [(fr, .inl (kf, 156, .inl (fun _ => 0))), (mo, .inr (8, [Value.int 0, g 1, Value.int 0, g 3, g 4, g 5, g 6, g 7, g 8, Value.int 0, g 10, Value.int 0, g 12, g 13, g 14, g 15, Value.ref fr, g 17, g 18, g 19, g 20, g 21, g 22, g 23, g 24, g 25, g 26, g 27, g 28, g 29, g 30, g 31, g 32, g 33, g 34, g 35, g 36, g 37, g 38, g 39]))] H := hP
    have hD : va_D A [(fr, .inl (kf, 156, .inl (fun _ => 0))), (mo, .inr (8, [Value.int 0, g 1, Value.int 0, g 3, g 4, g 5, g 6, g 7, g 8, Value.int 0, g 10, Value.int 0, g 12, g 13, g 14, g 15, Value.ref fr, g 17, g 18, g 19, g 20, g 21, g 22, g 23, g 24, g 25, g 26, g 27, g 28, g 29, g 30, g 31, g 32, g 33, g 34, g 35, g 36, g 37, g 38, g 39]))] := hD
    refine lv_aload_n hx hb dX8_gallery_32 rfl (lv_at hl 0 rfl) ?_
    refine lv_iconst (v := 0) hx hb dX8_gallery_33 (by decide) ?_
    refine va_put (D := (dC, dI)) (ci := 8) (v := .int 0) (ty := .boolean) (C := RX8) (T := TX8) (N := 40) hx hb hts (by decide +kernel) tyX8 tyX8_ok nmX8 hown hK hP hD hS 1 rfl rfl 13 (by decide) (hts (.fieldLink RX8 97 "WaxTurnsModel" "failed" "Z") (by decide +kernel)) (fun _ h9 => h9) rfl (by decide +kernel) rfl rfl (Nat.le_of_ble_eq_true rfl) dX8_gallery_34 (fun H locs hP hD hS => ?_)
    have hP : va_P (dC, dI) vwCl [(fr, .inl (kf, 156, .inl (fun _ => 0))), (mo, .inr (8, [Value.int 0, g 1, Value.int 0, g 3, g 4, g 5, g 6, g 7, g 8, Value.int 0, g 10, Value.int 0, g 12, Value.int 0, g 14, g 15, Value.ref fr, g 17, g 18, g 19, g 20, g 21, g 22, g 23, g 24, g 25, g 26, g 27, g 28, g 29, g 30, g 31, g 32, g 33, g 34, g 35, g 36, g 37, g 38, g 39]))] H := hP
    have hD : va_D A [(fr, .inl (kf, 156, .inl (fun _ => 0))), (mo, .inr (8, [Value.int 0, g 1, Value.int 0, g 3, g 4, g 5, g 6, g 7, g 8, Value.int 0, g 10, Value.int 0, g 12, Value.int 0, g 14, g 15, Value.ref fr, g 17, g 18, g 19, g 20, g 21, g 22, g 23, g 24, g 25, g 26, g 27, g 28, g 29, g 30, g 31, g 32, g 33, g 34, g 35, g 36, g 37, g 38, g 39]))] := hD
    refine lv_iconst (v := 0) hx hb dX8_gallery_37 (by decide) ?_
    refine lv_istore_n (lv' := [(2, .int 0), (0, .ref mo), (1, .int 0)]) hx hb dX8_gallery_38 rfl hl (by decide) rfl (fun ls hl => ?_)
    have hP := hP.sub (ws' := [(mo, .inr (8, [Value.int 0, g 1, Value.int 0, g 3, g 4, g 5, g 6, g 7, g 8, Value.int 0, g 10, Value.int 0, g 12, Value.int 0, g 14, g 15, Value.ref fr, g 17, g 18, g 19, g 20, g 21, g 22, g 23, g 24, g 25, g 26, g 27, g 28, g 29, g 30, g 31, g 32, g 33, g 34, g 35, g 36, g 37, g 38, g 39])), (fr, .inl (kf, 156, .inl (fun _ => 0)))]) [1, 0] rfl
    have hD := hD.sub (ws' := [(mo, .inr (8, [Value.int 0, g 1, Value.int 0, g 3, g 4, g 5, g 6, g 7, g 8, Value.int 0, g 10, Value.int 0, g 12, Value.int 0, g 14, g 15, Value.ref fr, g 17, g 18, g 19, g 20, g 21, g 22, g 23, g 24, g 25, g 26, g 27, g 28, g 29, g 30, g 31, g 32, g 33, g 34, g 35, g 36, g 37, g 38, g 39])), (fr, .inl (kf, 156, .inl (fun _ => 0)))]) [1, 0] (by decide) rfl
    refine lp_X8_gallery (dC := dC) (dI := dI) (A := A) hx hb hts hown mo fr (fun i9 => ([Value.int 0, g 1, Value.int 0, g 3, g 4, g 5, g 6, g 7, g 8, Value.int 0, g 10, Value.int 0, g 12, Value.int 0, g 14, g 15, Value.ref fr, g 17, g 18, g 19, g 20, g 21, g 22, g 23, g 24, g 25, g 26, g 27, g 28, g 29, g 30, g 31, g 32, g 33, g 34, g 35, g 36, g 37, g 38, g 39] : List Value).getD i9 .null) kf 0 hK ?_ 156 0 rfl _ _ _ hP hD hS (lv_sub hl [1, 2, 0] rfl)
    intro H locs ls hP hD hS hl
    have hP : va_P (dC, dI) vwCl [(mo, .inr (8, [Value.int 0, g 1, Value.int 0, g 3, g 4, g 5, g 6, g 7, g 8, Value.int 0, g 10, Value.int 0, g 12, Value.int 0, g 14, g 15, Value.ref fr, g 17, g 18, g 19, g 20, g 21, g 22, g 23, g 24, g 25, g 26, g 27, g 28, g 29, g 30, g 31, g 32, g 33, g 34, g 35, g 36, g 37, g 38, g 39])), (fr, .inl (kf, 156, .inl (fun _ => 0)))] H := hP
    have hD : va_D A [(mo, .inr (8, [Value.int 0, g 1, Value.int 0, g 3, g 4, g 5, g 6, g 7, g 8, Value.int 0, g 10, Value.int 0, g 12, Value.int 0, g 14, g 15, Value.ref fr, g 17, g 18, g 19, g 20, g 21, g 22, g 23, g 24, g 25, g 26, g 27, g 28, g 29, g 30, g 31, g 32, g 33, g 34, g 35, g 36, g 37, g 38, g 39])), (fr, .inl (kf, 156, .inl (fun _ => 0)))] := hD
    have hl : lv_has ls 3 [(0, .ref mo), (1, .int 0), (2, .int 156)] := hl
    refine lv_aload_n hx hb dX8_gallery_59 rfl (lv_at hl 0 rfl) ?_
    refine lv_iload_n hx hb dX8_gallery_60 rfl (lv_at hl 1 rfl) ?_
    refine va_put (D := (dC, dI)) (ci := 8) (v := .int 0) (ty := .int) (C := RX8) (T := TX8) (N := 40) hx hb hts (by decide +kernel) tyX8 tyX8_ok nmX8 hown hK hP hD hS 0 rfl rfl 3 (by decide) (hts (.fieldLink RX8 68 "WaxTurnsModel" "size" "I") (by decide +kernel)) (fun _ h9 => h9) rfl (by decide +kernel) rfl rfl (Nat.le_of_ble_eq_true rfl) dX8_gallery_61 (fun H locs hP hD hS => ?_)
    have hP : va_P (dC, dI) vwCl [(mo, .inr (8, [Value.int 0, g 1, Value.int 0, Value.int 0, g 4, g 5, g 6, g 7, g 8, Value.int 0, g 10, Value.int 0, g 12, Value.int 0, g 14, g 15, Value.ref fr, g 17, g 18, g 19, g 20, g 21, g 22, g 23, g 24, g 25, g 26, g 27, g 28, g 29, g 30, g 31, g 32, g 33, g 34, g 35, g 36, g 37, g 38, g 39])), (fr, .inl (kf, 156, .inl (fun _ => 0)))] H := hP
    have hD : va_D A [(mo, .inr (8, [Value.int 0, g 1, Value.int 0, Value.int 0, g 4, g 5, g 6, g 7, g 8, Value.int 0, g 10, Value.int 0, g 12, Value.int 0, g 14, g 15, Value.ref fr, g 17, g 18, g 19, g 20, g 21, g 22, g 23, g 24, g 25, g 26, g 27, g 28, g 29, g 30, g 31, g 32, g 33, g 34, g 35, g 36, g 37, g 38, g 39])), (fr, .inl (kf, 156, .inl (fun _ => 0)))] := hD
    refine lv_aload_n hx hb dX8_gallery_64 rfl (lv_at hl 0 rfl) ?_
    refine lv_iconst (v := 0) hx hb dX8_gallery_65 (by decide) ?_
    refine va_put (D := (dC, dI)) (ci := 8) (v := .int 0) (ty := .int) (C := RX8) (T := TX8) (N := 40) hx hb hts (by decide +kernel) tyX8 tyX8_ok nmX8 hown hK hP hD hS 0 rfl rfl 5 (by decide) (hts (.fieldLink RX8 71 "WaxTurnsModel" "end" "I") (by decide +kernel)) (fun _ h9 => h9) rfl (by decide +kernel) rfl rfl (Nat.le_of_ble_eq_true rfl) dX8_gallery_66 (fun H locs hP hD hS => ?_)
    have hP : va_P (dC, dI) vwCl [(mo, .inr (8, [Value.int 0, g 1, Value.int 0, Value.int 0, g 4, Value.int 0, g 6, g 7, g 8, Value.int 0, g 10, Value.int 0, g 12, Value.int 0, g 14, g 15, Value.ref fr, g 17, g 18, g 19, g 20, g 21, g 22, g 23, g 24, g 25, g 26, g 27, g 28, g 29, g 30, g 31, g 32, g 33, g 34, g 35, g 36, g 37, g 38, g 39])), (fr, .inl (kf, 156, .inl (fun _ => 0)))] H := hP
    have hD : va_D A [(mo, .inr (8, [Value.int 0, g 1, Value.int 0, Value.int 0, g 4, Value.int 0, g 6, g 7, g 8, Value.int 0, g 10, Value.int 0, g 12, Value.int 0, g 14, g 15, Value.ref fr, g 17, g 18, g 19, g 20, g 21, g 22, g 23, g 24, g 25, g 26, g 27, g 28, g 29, g 30, g 31, g 32, g 33, g 34, g 35, g 36, g 37, g 38, g 39])), (fr, .inl (kf, 156, .inl (fun _ => 0)))] := hD
    refine lv_aload_n hx hb dX8_gallery_69 rfl (lv_at hl 0 rfl) ?_
    have hPc := hP.sub (ws' := [(mo, .inr (8, [Value.int 0, g 1, Value.int 0, Value.int 0, g 4, Value.int 0, g 6, g 7, g 8, Value.int 0, g 10, Value.int 0, g 12, Value.int 0, g 14, g 15, Value.ref fr, g 17, g 18, g 19, g 20, g 21, g 22, g 23, g 24, g 25, g 26, g 27, g 28, g 29, g 30, g 31, g 32, g 33, g 34, g 35, g 36, g 37, g 38, g 39]))]) [0] rfl
    have hDc := hD.sub (ws' := [(mo, .inr (8, [Value.int 0, g 1, Value.int 0, Value.int 0, g 4, Value.int 0, g 6, g 7, g 8, Value.int 0, g 10, Value.int 0, g 12, Value.int 0, g 14, g 15, Value.ref fr, g 17, g 18, g 19, g 20, g 21, g 22, g 23, g 24, g 25, g 26, g 27, g 28, g 29, g 30, g 31, g 32, g 33, g 34, g 35, g 36, g 37, g 38, g 39]))]) [0] (by decide) rfl
    have hKc := hK.sub (tys' := []) [] rfl
    have hFc := va_free (wc := [(mo, .inr (8, [Value.int 0, g 1, Value.int 0, Value.int 0, g 4, Value.int 0, g 6, g 7, g 8, Value.int 0, g 10, Value.int 0, g 12, Value.int 0, g 14, g 15, Value.ref fr, g 17, g 18, g 19, g 20, g 21, g 22, g 23, g 24, g 25, g 26, g 27, g 28, g 29, g 30, g 31, g 32, g 33, g 34, g 35, g 36, g 37, g 38, g 39]))]) hD hS hA [0] rfl
    refine va_callv (va_runV (As := []) (rest := []) ⟨hx, hb, hml, hown, hts⟩ (c_X8_next l dC dI H.size mo (fun i9 => ([Value.int 0, g 1, Value.int 0, Value.null, g 4, Value.null, g 6, g 7, g 8, Value.int 0, g 10, Value.int 0, g 12, Value.int 0, g 14, g 15, Value.ref fr, g 17, g 18, g 19, g 20, g 21, g 22, g 23, g 24, g 25, g 26, g 27, g 28, g 29, g 30, g 31, g 32, g 33, g 34, g 35, g 36, g 37, g 38, g 39] : List Value).getD i9 .null) ) (cwV 0 hts gX8_gallery_X8_next rfl rfl rfl (by decide +kernel) ⟨Nat.le_of_ble_eq_true rfl, Nat.le_of_ble_eq_true rfl⟩) ⟨ax_blind (fun _ _ _ _ _ => trivial), va_recv hKc hPc (ci := 8) (q0 := 0) rfl rfl, ax_pre hPc hKc hDc (fun _ _ => trivial)⟩ rfl rfl hl.1 rfl (lv_room (Nat.le_of_ble_eq_true rfl)) dX8_gallery_70 ⟨Nat.le_of_ble_eq_true rfl, Nat.le_of_ble_eq_true rfl⟩) hS (fun q _ h => hFc q h) hFc (fun u t H1 locs ht hvm hw hB hz1 hk1 hS => ?_)
    obtain ⟨hP1, hK1, hD1⟩ := hB
    rw [ht] at hP1
    have hK1 := va_K.moved hvm.symm hK1
    obtain ⟨hP, hD⟩ := va_join (wr := [(fr, .inl (kf, 156, .inl (fun _ => 0)))]) (w1 := [(mo, .inr (8, [Value.int 0, g 1, Value.int 0, Value.int 0, Value.int 0, Value.int 0, Value.int 0, Value.int 0, Value.int 0, Value.int 0, g 10, Value.int 0, g 12, Value.int 0, g 14, g 15, Value.ref fr, g 17, g 18, g 19, g 20, g 21, g 22, g 23, g 24, g 25, g 26, g 27, g 28, g 29, g 30, g 31, g 32, g 33, g 34, g 35, g 36, g 37, g 38, g 39]))]) hP hD [0] [1] rfl rfl (by decide) (by decide) hk1 hFc hP1 hD1
    have hK := (hK.sub (tys' := [(kf, .int)]) [0] rfl).app hK1
    generalize H1 = H at hP hS ⊢
    have hP : va_P (dC, dI) vwCl [(fr, .inl (kf, 156, .inl (fun _ => 0))), (mo, .inr (8, [Value.int 0, g 1, Value.int 0, Value.int 0, Value.int 0, Value.int 0, Value.int 0, Value.int 0, Value.int 0, Value.int 0, g 10, Value.int 0, g 12, Value.int 0, g 14, g 15, Value.ref fr, g 17, g 18, g 19, g 20, g 21, g 22, g 23, g 24, g 25, g 26, g 27, g 28, g 29, g 30, g 31, g 32, g 33, g 34, g 35, g 36, g 37, g 38, g 39]))] H := hP
    have hD : va_D A [(fr, .inl (kf, 156, .inl (fun _ => 0))), (mo, .inr (8, [Value.int 0, g 1, Value.int 0, Value.int 0, Value.int 0, Value.int 0, Value.int 0, Value.int 0, Value.int 0, Value.int 0, g 10, Value.int 0, g 12, Value.int 0, g 14, g 15, Value.ref fr, g 17, g 18, g 19, g 20, g 21, g 22, g 23, g 24, g 25, g 26, g 27, g 28, g 29, g 30, g 31, g 32, g 33, g 34, g 35, g 36, g 37, g 38, g 39]))] := hD
    have hK : va_K (dC, dI) vwCl [(kf, .int)] s := hK
    refine lv_aload_n hx hb dX8_gallery_73 rfl (lv_at hl 0 rfl) ?_
    have hPc := hP.sub (ws' := [(mo, .inr (8, [Value.int 0, g 1, Value.int 0, Value.int 0, Value.int 0, Value.int 0, Value.int 0, Value.int 0, Value.int 0, Value.int 0, g 10, Value.int 0, g 12, Value.int 0, g 14, g 15, Value.ref fr, g 17, g 18, g 19, g 20, g 21, g 22, g 23, g 24, g 25, g 26, g 27, g 28, g 29, g 30, g 31, g 32, g 33, g 34, g 35, g 36, g 37, g 38, g 39])), (fr, .inl (kf, 156, .inl (fun _ => 0)))]) [1, 0] rfl
    have hDc := hD.sub (ws' := [(mo, .inr (8, [Value.int 0, g 1, Value.int 0, Value.int 0, Value.int 0, Value.int 0, Value.int 0, Value.int 0, Value.int 0, Value.int 0, g 10, Value.int 0, g 12, Value.int 0, g 14, g 15, Value.ref fr, g 17, g 18, g 19, g 20, g 21, g 22, g 23, g 24, g 25, g 26, g 27, g 28, g 29, g 30, g 31, g 32, g 33, g 34, g 35, g 36, g 37, g 38, g 39])), (fr, .inl (kf, 156, .inl (fun _ => 0)))]) [1, 0] (by decide) rfl
    have hKc := hK.sub (tys' := [(kf, .int)]) [0] rfl
    have hFc := va_free (wc := [(mo, .inr (8, [Value.int 0, g 1, Value.int 0, Value.int 0, Value.int 0, Value.int 0, Value.int 0, Value.int 0, Value.int 0, Value.int 0, g 10, Value.int 0, g 12, Value.int 0, g 14, g 15, Value.ref fr, g 17, g 18, g 19, g 20, g 21, g 22, g 23, g 24, g 25, g 26, g 27, g 28, g 29, g 30, g 31, g 32, g 33, g 34, g 35, g 36, g 37, g 38, g 39])), (fr, .inl (kf, 156, .inl (fun _ => 0)))]) hD hS hA [1, 0] rfl
    refine va_callv (va_runV (As := []) (rest := []) ⟨hx, hb, hml, hown, hts⟩ (c_X8_readLine l dC dI H.size mo (fun i9 => ([Value.int 0, g 1, Value.int 0, Value.int 0, Value.null, Value.int 0, Value.null, Value.int 0, Value.int 0, Value.int 0, g 10, Value.int 0, g 12, Value.null, g 14, g 15, Value.null, g 17, g 18, g 19, g 20, g 21, g 22, g 23, g 24, g 25, g 26, g 27, g 28, g 29, g 30, g 31, g 32, g 33, g 34, g 35, g 36, g 37, g 38, g 39] : List Value).getD i9 .null) 0 fr kf s128 s130 s132 s134 s136 ) (cwV 0 hts gX8_gallery_X8_readLine rfl rfl rfl (by decide +kernel) ⟨Nat.le_of_ble_eq_true rfl, Nat.le_of_ble_eq_true rfl⟩) ⟨ax_blind (fun _ _ _ _ hq => ⟨vk_R.same rfl (hq.1), vk_R.same rfl (hq.2.1), vk_R.same rfl (hq.2.2.1), vk_R.same rfl (hq.2.2.2.1), vk_R.same rfl (hq.2.2.2.2)⟩), va_recv hKc hPc (ci := 8) (q0 := 0) rfl rfl, ax_pre hPc hKc hDc (fun _ hW => ⟨vk_R.warm hW hE0, vk_R.warm hW hE1, vk_R.warm hW hE2, vk_R.warm hW hE3, vk_R.warm hW hE4⟩)⟩ rfl rfl hl.1 rfl (lv_room (Nat.le_of_ble_eq_true rfl)) dX8_gallery_74 ⟨Nat.le_of_ble_eq_true rfl, Nat.le_of_ble_eq_true rfl⟩) hS (fun q _ h => hFc q h) hFc (fun u t H1 locs ht hvm hw hB hz1 hk1 hS => ?_)
    obtain ⟨hP1, hK1, hD1⟩ := hB
    rw [ht] at hP1
    have hK1 := va_K.moved hvm.symm hK1
    obtain ⟨hP, hD⟩ := va_join (wr := []) (w1 := [(mo, .inr (8, [Value.int 0, g 1, Value.int 0, Value.int 0, Value.int 0, Value.int 0, Value.int 0, Value.int 0, Value.int 0, Value.int 1, Value.int 0, Value.int 0, g 12, Value.int 1, g 14, g 15, Value.ref fr, g 17, g 18, g 19, g 20, g 21, g 22, g 23, g 24, g 25, g 26, g 27, g 28, g 29, g 30, g 31, g 32, g 33, g 34, g 35, g 36, g 37, g 38, g 39])), (fr, .inl (kf, 156, .inl (fun _ => 0)))]) hP hD [1, 0] [] rfl rfl (by decide) (by decide) hk1 hFc hP1 hD1
    have hK := (hK.sub (tys' := []) [] rfl).app hK1
    generalize H1 = H at hP hS ⊢
    have hP : va_P (dC, dI) vwCl [(mo, .inr (8, [Value.int 0, g 1, Value.int 0, Value.int 0, Value.int 0, Value.int 0, Value.int 0, Value.int 0, Value.int 0, Value.int 1, Value.int 0, Value.int 0, g 12, Value.int 1, g 14, g 15, Value.ref fr, g 17, g 18, g 19, g 20, g 21, g 22, g 23, g 24, g 25, g 26, g 27, g 28, g 29, g 30, g 31, g 32, g 33, g 34, g 35, g 36, g 37, g 38, g 39])), (fr, .inl (kf, 156, .inl (fun _ => 0)))] H := hP
    have hD : va_D A [(mo, .inr (8, [Value.int 0, g 1, Value.int 0, Value.int 0, Value.int 0, Value.int 0, Value.int 0, Value.int 0, Value.int 0, Value.int 1, Value.int 0, Value.int 0, g 12, Value.int 1, g 14, g 15, Value.ref fr, g 17, g 18, g 19, g 20, g 21, g 22, g 23, g 24, g 25, g 26, g 27, g 28, g 29, g 30, g 31, g 32, g 33, g 34, g 35, g 36, g 37, g 38, g 39])), (fr, .inl (kf, 156, .inl (fun _ => 0)))] := hD
    have hK : va_K (dC, dI) vwCl [(kf, .int)] s := hK
    refine lv_aload_n hx hb dX8_gallery_77 rfl (lv_at hl 0 rfl) ?_
    refine va_get (D := (dC, dI)) (ci := 8) (v := .int 1) (C := RX8) (T := TX8) (N := 40) hx hb hts (by decide +kernel) hown hK hP 0 rfl rfl 13 (by decide) (hts (.fieldLink RX8 97 "WaxTurnsModel" "failed" "Z") (by decide +kernel)) (fun _ h9 => h9) rfl dX8_gallery_78 ?_
    refine lv_if_ne (tgt := 104) hx hb dX8_gallery_81 (by decide) (fun _ => ?_) (fun c_7 => absurd c_7 (by decide +kernel))
    refine lv_aload_n hx hb dX8_gallery_104 rfl (lv_at hl 0 rfl) ?_
    refine va_get (D := (dC, dI)) (ci := 8) (v := .int 1) (C := RX8) (T := TX8) (N := 40) hx hb hts (by decide +kernel) hown hK hP 0 rfl rfl 13 (by decide) (hts (.fieldLink RX8 97 "WaxTurnsModel" "failed" "Z") (by decide +kernel)) (fun _ h9 => h9) rfl dX8_gallery_105 ?_
    refine lv_if_ne (tgt := 127) hx hb dX8_gallery_108 (by decide) (fun _ => ?_) (fun c_8 => absurd c_8 (by decide +kernel))
    refine lv_aload_n hx hb dX8_gallery_127 rfl (lv_at hl 0 rfl) ?_
    refine va_get (D := (dC, dI)) (ci := 8) (v := .int 1) (C := RX8) (T := TX8) (N := 40) hx hb hts (by decide +kernel) hown hK hP 0 rfl rfl 13 (by decide) (hts (.fieldLink RX8 97 "WaxTurnsModel" "failed" "Z") (by decide +kernel)) (fun _ h9 => h9) rfl dX8_gallery_128 ?_
    refine lv_if_ne (tgt := 164) hx hb dX8_gallery_131 (by decide) (fun _ => ?_) (fun c_9 => absurd c_9 (by decide +kernel))
    refine lv_aload_n hx hb dX8_gallery_164 rfl (lv_at hl 0 rfl) ?_
    refine va_get (D := (dC, dI)) (ci := 8) (v := .int 1) (C := RX8) (T := TX8) (N := 40) hx hb hts (by decide +kernel) hown hK hP 0 rfl rfl 13 (by decide) (hts (.fieldLink RX8 97 "WaxTurnsModel" "failed" "Z") (by decide +kernel)) (fun _ h9 => h9) rfl dX8_gallery_165 ?_
    refine lv_if_eq (tgt := 177) hx hb dX8_gallery_168 (by decide) (fun c_10 => absurd c_10 (by decide +kernel)) (fun _ => ?_)
    refine lv_aload_n hx hb dX8_gallery_171 rfl (lv_at hl 0 rfl) ?_
    refine lv_iconst (v := 4) hx hb dX8_gallery_172 (by decide) ?_
    have hPc := hP.sub (ws' := [(mo, .inr (8, [Value.int 0, g 1, Value.int 0, Value.int 0, Value.int 0, Value.int 0, Value.int 0, Value.int 0, Value.int 0, Value.int 1, Value.int 0, Value.int 0, g 12, Value.int 1, g 14, g 15, Value.ref fr, g 17, g 18, g 19, g 20, g 21, g 22, g 23, g 24, g 25, g 26, g 27, g 28, g 29, g 30, g 31, g 32, g 33, g 34, g 35, g 36, g 37, g 38, g 39]))]) [0] rfl
    have hDc := hD.sub (ws' := [(mo, .inr (8, [Value.int 0, g 1, Value.int 0, Value.int 0, Value.int 0, Value.int 0, Value.int 0, Value.int 0, Value.int 0, Value.int 1, Value.int 0, Value.int 0, g 12, Value.int 1, g 14, g 15, Value.ref fr, g 17, g 18, g 19, g 20, g 21, g 22, g 23, g 24, g 25, g 26, g 27, g 28, g 29, g 30, g 31, g 32, g 33, g 34, g 35, g 36, g 37, g 38, g 39]))]) [0] (by decide) rfl
    have hKc := hK.sub (tys' := []) [] rfl
    have hFc := va_free (wc := [(mo, .inr (8, [Value.int 0, g 1, Value.int 0, Value.int 0, Value.int 0, Value.int 0, Value.int 0, Value.int 0, Value.int 0, Value.int 1, Value.int 0, Value.int 0, g 12, Value.int 1, g 14, g 15, Value.ref fr, g 17, g 18, g 19, g 20, g 21, g 22, g 23, g 24, g 25, g 26, g 27, g 28, g 29, g 30, g 31, g 32, g 33, g 34, g 35, g 36, g 37, g 38, g 39]))]) hD hS hA [0] rfl
    refine va_calli (va_runV (As := [.int 4]) (rest := []) ⟨hx, hb, hml, hown, hts⟩ (c_X8_no l dC dI H.size mo 4 (fun i9 => ([Value.int 0, g 1, Value.int 0, Value.int 0, Value.int 0, Value.int 0, Value.int 0, Value.int 0, Value.int 0, Value.int 1, Value.int 0, Value.int 0, g 12, Value.int 1, g 14, g 15, Value.ref fr, g 17, g 18, g 19, g 20, g 21, g 22, g 23, g 24, g 25, g 26, g 27, g 28, g 29, g 30, g 31, g 32, g 33, g 34, g 35, g 36, g 37, g 38, g 39] : List Value).getD i9 .null) ) (cwV 1 hts gX8_gallery_X8_no rfl rfl rfl (by decide +kernel) ⟨Nat.le_of_ble_eq_true rfl, Nat.le_of_ble_eq_true rfl⟩) ⟨ax_blind (fun _ _ _ _ _ => trivial), va_recv hKc hPc (ci := 8) (q0 := 0) rfl rfl, ax_pre hPc hKc hDc (fun _ _ => trivial)⟩ rfl rfl hl.1 rfl (lv_room (Nat.le_of_ble_eq_true rfl)) dX8_gallery_173 ⟨Nat.le_of_ble_eq_true rfl, Nat.le_of_ble_eq_true rfl⟩) hS (fun q _ h => hFc q h) hFc (fun r_11 u t H1 locs ht hvm hw hB hz1 hk1 hS => ?_)
    obtain ⟨hP1, hK1, hD1⟩ := hB
    rw [ht] at hP1
    have hK1 := va_K.moved hvm.symm hK1
    obtain ⟨hP, hD⟩ := va_join (wr := [(fr, .inl (kf, 156, .inl (fun _ => 0)))]) (w1 := []) hP hD [0] [1] rfl rfl (by decide) (by decide) hk1 hFc hP1 hD1
    have hK := (hK.sub (tys' := [(kf, .int)]) [0] rfl).app hK1
    generalize H1 = H at hP hS ⊢
    have hP : va_P (dC, dI) vwCl [(fr, .inl (kf, 156, .inl (fun _ => 0)))] H := hP
    have hD : va_D A [(fr, .inl (kf, 156, .inl (fun _ => 0)))] := hD
    have hK : va_K (dC, dI) vwCl [(kf, .int)] s := hK
    have hw : r_11 = (-1) := hw
    subst hw
    have hP9 := hP.sub (ws' := []) [] rfl
    have hD9 := hD.sub (ws' := []) [] (by decide) rfl
    have hK9 := hK.sub (tys' := []) [] rfl
    exact W.iret (v := (-1)) hx hb hr (fun t ht hW => ⟨⟨(-1), (), rfl, rfl, by rw [ht]; exact hP9, va_K.moved hW.alike hK9, hD9⟩, hS.F ht⟩) hS.2.2 dX8_gallery_176
  · subst hw
    refine lv_if_ne (tgt := 22) hx hb dX8_gallery_13 (by decide) (fun c_12 => absurd (by decide +kernel) c_12) (fun _ => ?_)
    refine lv_aload_n hx hb dX8_gallery_16 rfl (lv_at hl 0 rfl) ?_
    refine lv_iconst (v := 2) hx hb dX8_gallery_17 (by decide) ?_
    have hPc := hP.sub (ws' := [(mo, .inr (8, [Value.int 0, g 1, Value.int 0, g 3, g 4, g 5, g 6, g 7, g 8, g 9, g 10, Value.int 0, g 12, g 13, g 14, g 15, Value.ref fr, g 17, g 18, g 19, g 20, g 21, g 22, g 23, g 24, g 25, g 26, g 27, g 28, g 29, g 30, g 31, g 32, g 33, g 34, g 35, g 36, g 37, g 38, g 39]))]) [1] rfl
    have hDc := hD.sub (ws' := [(mo, .inr (8, [Value.int 0, g 1, Value.int 0, g 3, g 4, g 5, g 6, g 7, g 8, g 9, g 10, Value.int 0, g 12, g 13, g 14, g 15, Value.ref fr, g 17, g 18, g 19, g 20, g 21, g 22, g 23, g 24, g 25, g 26, g 27, g 28, g 29, g 30, g 31, g 32, g 33, g 34, g 35, g 36, g 37, g 38, g 39]))]) [1] (by decide) rfl
    have hKc := hK.sub (tys' := []) [] rfl
    have hFc := va_free (wc := [(mo, .inr (8, [Value.int 0, g 1, Value.int 0, g 3, g 4, g 5, g 6, g 7, g 8, g 9, g 10, Value.int 0, g 12, g 13, g 14, g 15, Value.ref fr, g 17, g 18, g 19, g 20, g 21, g 22, g 23, g 24, g 25, g 26, g 27, g 28, g 29, g 30, g 31, g 32, g 33, g 34, g 35, g 36, g 37, g 38, g 39]))]) hD hS hA [1] rfl
    refine va_calli (va_runV (As := [.int 2]) (rest := []) ⟨hx, hb, hml, hown, hts⟩ (c_X8_no l dC dI H.size mo 2 (fun i9 => ([Value.int 0, g 1, Value.int 0, g 3, g 4, g 5, g 6, g 7, g 8, g 9, g 10, Value.int 0, g 12, g 13, g 14, g 15, Value.ref fr, g 17, g 18, g 19, g 20, g 21, g 22, g 23, g 24, g 25, g 26, g 27, g 28, g 29, g 30, g 31, g 32, g 33, g 34, g 35, g 36, g 37, g 38, g 39] : List Value).getD i9 .null) ) (cwV 1 hts gX8_gallery_X8_no rfl rfl rfl (by decide +kernel) ⟨Nat.le_of_ble_eq_true rfl, Nat.le_of_ble_eq_true rfl⟩) ⟨ax_blind (fun _ _ _ _ _ => trivial), va_recv hKc hPc (ci := 8) (q0 := 0) rfl rfl, ax_pre hPc hKc hDc (fun _ _ => trivial)⟩ rfl rfl hl.1 rfl (lv_room (Nat.le_of_ble_eq_true rfl)) dX8_gallery_18 ⟨Nat.le_of_ble_eq_true rfl, Nat.le_of_ble_eq_true rfl⟩) hS (fun q _ h => hFc q h) hFc (fun r_13 u t H1 locs ht hvm hw hB hz1 hk1 hS => ?_)
    obtain ⟨hP1, hK1, hD1⟩ := hB
    rw [ht] at hP1
    have hK1 := va_K.moved hvm.symm hK1
    obtain ⟨hP, hD⟩ := va_join (wr := [(fr, .inl (kf, 156, .inl (fun _ => 0)))]) (w1 := []) hP hD [1] [0] rfl rfl (by decide) (by decide) hk1 hFc hP1 hD1
    have hK := (hK.sub (tys' := [(kf, .int)]) [0] rfl).app hK1
    generalize H1 = H at hP hS ⊢
    have hP : va_P (dC, dI) vwCl [(fr, .inl (kf, 156, .inl (fun _ => 0)))] H := hP
    have hD : va_D A [(fr, .inl (kf, 156, .inl (fun _ => 0)))] := hD
    have hK : va_K (dC, dI) vwCl [(kf, .int)] s := hK
    have hw : r_13 = (-1) := hw
    subst hw
    have hP9 := hP.sub (ws' := []) [] rfl
    have hD9 := hD.sub (ws' := []) [] (by decide) rfl
    have hK9 := hK.sub (tys' := []) [] rfl
    exact W.iret (v := (-1)) hx hb hr (fun t ht hW => ⟨⟨(-1), (), rfl, rfl, by rw [ht]; exact hP9, va_K.moved hW.alike hK9, hD9⟩, hS.F ht⟩) hS.2.2 dX8_gallery_21
