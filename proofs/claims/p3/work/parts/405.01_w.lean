set_option maxHeartbeats 4000000 in
set_option maxRecDepth 100000 in
theorem k_X7_lookLeaves (l : Launch) (dC : Nat → ClassId) (dI : Nat → Nat → Nat) (sz : Nat) (x : Nat) (tp : Int32) (vi : Nat → Int32) (vf : Nat → Nat → Int32) (wx : va_W) (tx : List (ClassId × FieldType)) (h : IXv x tp vi vf wx tx) : Met l yX7_lookLeaves wsX7_lookLeaves ({ frames := 5, cells := 0, slots := 0, locals := 122 }) (va_Pc [.ref x] (ax_C dC dI sz wx tx (fun U => va_Nw (.methodLinkNest RX0 72 yX7_laterTurn RX7) U))) (va_Qi (fun (_ : Int32) (_ : Unit) => True) (fun _ t => ∃ wx9 ty9, (∃ vi1 vf1, (∀ k9 : Nat, k9 ∉ ([0, 27, 28, 29, 30, 31] : List Nat) → vi1 k9 = vi k9) ∧ (∀ k9 : Nat, k9 ∉ ([7, 8] : List Nat) → vf1 k9 = vf k9) ∧ IXv x tp vi1 vf1 wx9 ty9) ∧ ax_B dC dI (va_A wx sz) wx9 ty9 t) (va_A wx sz)) 0 0 (va_A wx sz) := by
  sorry

set_option maxHeartbeats 4000000 in
set_option maxRecDepth 100000 in
theorem k_X8_lookLeaves (l : Launch) (dC : Nat → ClassId) (dI : Nat → Nat → Nat) (sz : Nat) (x : Nat) (tp : Int32) (vi : Nat → Int32) (vf : Nat → Nat → Int32) (wx : va_W) (tx : List (ClassId × FieldType)) (h : IMv x tp vi vf wx tx) : Met l yX8_lookLeaves wsX8_lookLeaves ({ frames := 5, cells := 0, slots := 0, locals := 118 }) (va_Pc [.ref x] (ax_C dC dI sz wx tx (fun _ => True))) (va_Qi (fun (_ : Int32) (_ : Unit) => True) (fun _ t => ∃ wx9 ty9, (∃ vi1 vf1, (∀ k9 : Nat, k9 ∉ ([0, 9, 20] : List Nat) → vi1 k9 = vi k9) ∧ (∀ k9 : Nat, k9 ∉ ([13, 14] : List Nat) → vf1 k9 = vf k9) ∧ IMv x tp vi1 vf1 wx9 ty9) ∧ ax_B dC dI (va_A wx sz) wx9 ty9 t) (va_A wx sz)) 0 0 (va_A wx sz) := by
  sorry

set_option maxHeartbeats 4000000 in
set_option maxRecDepth 100000 in
theorem k_X7_lawsLike (l : Launch) (dC : Nat → ClassId) (dI : Nat → Nat → Nat) (sz : Nat) (x : Nat) (tp : Int32) (vi : Nat → Int32) (vf : Nat → Nat → Int32) (wx : va_W) (tx : List (ClassId × FieldType)) (h : IXv x tp vi vf wx tx) : Met l yX7_lawsLike wsX7_lawsLike ({ frames := 2, cells := 0, slots := 0, locals := 46 }) (va_Pc [.ref x] (ax_C dC dI sz wx tx (fun _ => True))) (va_Qi (fun (_ : Int32) (_ : Unit) => True) (fun _ t => ∃ wx9 ty9, (∃ vi1 vf1, (∀ k9 : Nat, k9 ∉ ([0] : List Nat) → vi1 k9 = vi k9) ∧ (∀ k9 : Nat, k9 ∉ ([] : List Nat) → vf1 k9 = vf k9) ∧ IXv x tp vi1 vf1 wx9 ty9) ∧ ax_B dC dI (va_A wx sz) wx9 ty9 t) (va_A wx sz)) 0 0 (va_A wx sz) := by
  sorry

set_option maxHeartbeats 4000000 in
set_option maxRecDepth 100000 in
theorem k_X8_lawsLike (l : Launch) (dC : Nat → ClassId) (dI : Nat → Nat → Nat) (sz : Nat) (x : Nat) (tp : Int32) (vi : Nat → Int32) (vf : Nat → Nat → Int32) (wx : va_W) (tx : List (ClassId × FieldType)) (h : IMv x tp vi vf wx tx) : Met l yX8_lawsLike wsX8_lawsLike ({ frames := 2, cells := 0, slots := 0, locals := 50 }) (va_Pc [.ref x] (ax_C dC dI sz wx tx (fun _ => True))) (va_Qi (fun (_ : Int32) (_ : Unit) => True) (fun _ t => ∃ wx9 ty9, (∃ vi1 vf1, (∀ k9 : Nat, k9 ∉ ([0, 9] : List Nat) → vi1 k9 = vi k9) ∧ (∀ k9 : Nat, k9 ∉ ([13] : List Nat) → vf1 k9 = vf k9) ∧ IMv x tp vi1 vf1 wx9 ty9) ∧ ax_B dC dI (va_A wx sz) wx9 ty9 t) (va_A wx sz)) 0 0 (va_A wx sz) := by
  sorry

set_option maxHeartbeats 4000000 in
set_option maxRecDepth 100000 in
theorem k_X7_lawFor (l : Launch) (dC : Nat → ClassId) (dI : Nat → Nat → Nat) (sz : Nat) (x : Nat) (tp : Int32) (vi : Nat → Int32) (vf : Nat → Nat → Int32) (wx : va_W) (tx : List (ClassId × FieldType)) (h : IXv x tp vi vf wx tx) (a1 : Int32) (a2 : Int32) : Met l yX7_lawFor wsX7_lawFor ({ frames := 3, cells := 0, slots := 0, locals := 66 }) (va_Pc [.ref x, .int a1, .int a2] (ax_C dC dI sz wx tx (fun _ => True))) (va_Qi (fun (_ : Int32) (_ : Unit) => True) (fun _ t => ∃ wx9 ty9, (∃ vi1 vf1, (∀ k9 : Nat, k9 ∉ ([0] : List Nat) → vi1 k9 = vi k9) ∧ (∀ k9 : Nat, k9 ∉ ([] : List Nat) → vf1 k9 = vf k9) ∧ IXv x tp vi1 vf1 wx9 ty9) ∧ ax_B dC dI (va_A wx sz) wx9 ty9 t) (va_A wx sz)) 0 0 (va_A wx sz) := by
  sorry

set_option maxHeartbeats 4000000 in
set_option maxRecDepth 100000 in
theorem k_X8_lawFor (l : Launch) (dC : Nat → ClassId) (dI : Nat → Nat → Nat) (sz : Nat) (x : Nat) (tp : Int32) (vi : Nat → Int32) (vf : Nat → Nat → Int32) (wx : va_W) (tx : List (ClassId × FieldType)) (h : IMv x tp vi vf wx tx) (a1 : Int32) (a2 : Int32) : Met l yX8_lawFor wsX8_lawFor ({ frames := 2, cells := 0, slots := 0, locals := 50 }) (va_Pc [.ref x, .int a1, .int a2] (ax_C dC dI sz wx tx (fun _ => True))) (va_Qi (fun (_ : Int32) (_ : Unit) => True) (fun _ t => ∃ wx9 ty9, (∃ vi1 vf1, (∀ k9 : Nat, k9 ∉ ([0, 9] : List Nat) → vi1 k9 = vi k9) ∧ (∀ k9 : Nat, k9 ∉ ([13] : List Nat) → vf1 k9 = vf k9) ∧ IMv x tp vi1 vf1 wx9 ty9) ∧ ax_B dC dI (va_A wx sz) wx9 ty9 t) (va_A wx sz)) 0 0 (va_A wx sz) := by
  sorry

set_option maxHeartbeats 4000000 in
set_option maxRecDepth 100000 in
theorem k_X7_judge (l : Launch) (dC : Nat → ClassId) (dI : Nat → Nat → Nat) (sz : Nat) (x : Nat) (tp : Int32) (vi : Nat → Int32) (vf : Nat → Nat → Int32) (wx : va_W) (tx : List (ClassId × FieldType)) (h : IXv x tp vi vf wx tx) : Met l yX7_judge wsX7_judge ({ frames := 2, cells := 0, slots := 0, locals := 51 }) (va_Pc [.ref x] (ax_C dC dI sz wx tx (fun U => va_Nw (.methodLinkNest RX0 72 yX7_laterTurn RX7) U))) (va_Qi (fun (_ : Int32) (_ : Unit) => True) (fun _ t => ∃ wx9 ty9, (∃ vi1 vf1, (∀ k9 : Nat, k9 ∉ ([0] : List Nat) → vi1 k9 = vi k9) ∧ (∀ k9 : Nat, k9 ∉ ([] : List Nat) → vf1 k9 = vf k9) ∧ IXv x tp vi1 vf1 wx9 ty9) ∧ ax_B dC dI (va_A wx sz) wx9 ty9 t) (va_A wx sz)) 0 0 (va_A wx sz) := by
  sorry

set_option maxHeartbeats 4000000 in
set_option maxRecDepth 100000 in
theorem k_X8_judge (l : Launch) (dC : Nat → ClassId) (dI : Nat → Nat → Nat) (sz : Nat) (x : Nat) (tp : Int32) (vi : Nat → Int32) (vf : Nat → Nat → Int32) (wx : va_W) (tx : List (ClassId × FieldType)) (h : IMv x tp vi vf wx tx) : Met l yX8_judge wsX8_judge ({ frames := 1, cells := 0, slots := 0, locals := 28 }) (va_Pc [.ref x] (ax_C dC dI sz wx tx (fun _ => True))) (va_Qi (fun (_ : Int32) (_ : Unit) => True) (fun _ t => ∃ wx9 ty9, (∃ vi1 vf1, (∀ k9 : Nat, k9 ∉ ([0, 9] : List Nat) → vi1 k9 = vi k9) ∧ (∀ k9 : Nat, k9 ∉ ([13] : List Nat) → vf1 k9 = vf k9) ∧ IMv x tp vi1 vf1 wx9 ty9) ∧ ax_B dC dI (va_A wx sz) wx9 ty9 t) (va_A wx sz)) 0 0 (va_A wx sz) := by
  sorry

set_option maxHeartbeats 4000000 in
set_option maxRecDepth 100000 in
theorem k_X7_dares (l : Launch) (dC : Nat → ClassId) (dI : Nat → Nat → Nat) (sz : Nat) (x : Nat) (tp : Int32) (vi : Nat → Int32) (vf : Nat → Nat → Int32) (wx : va_W) (tx : List (ClassId × FieldType)) (h : IXv x tp vi vf wx tx) (a1 : Int32) (a2 : Int32) (a3 : Int32) (a4 : Int32) : Met l yX7_dares wsX7_dares ({ frames := 2, cells := 0, slots := 0, locals := 45 }) (va_Pc [.ref x, .int a1, .int a2, .int a3, .int a4] (ax_C dC dI sz wx tx (fun _ => True))) (va_Qi (fun (_ : Int32) (_ : Unit) => True) (fun _ t => ∃ wx9 ty9, (∃ vi1 vf1, (∀ k9 : Nat, k9 ∉ ([0] : List Nat) → vi1 k9 = vi k9) ∧ (∀ k9 : Nat, k9 ∉ ([] : List Nat) → vf1 k9 = vf k9) ∧ IXv x tp vi1 vf1 wx9 ty9) ∧ ax_B dC dI (va_A wx sz) wx9 ty9 t) (va_A wx sz)) 0 0 (va_A wx sz) := by
  sorry

set_option maxHeartbeats 4000000 in
set_option maxRecDepth 100000 in
theorem k_X8_dares (l : Launch) (dC : Nat → ClassId) (dI : Nat → Nat → Nat) (sz : Nat) (x : Nat) (tp : Int32) (vi : Nat → Int32) (vf : Nat → Nat → Int32) (wx : va_W) (tx : List (ClassId × FieldType)) (h : IMv x tp vi vf wx tx) (a1 : Int32) (a2 : Int32) (a3 : Int32) (a4 : Int32) : Met l yX8_dares wsX8_dares ({ frames := 1, cells := 0, slots := 0, locals := 22 }) (va_Pc [.ref x, .int a1, .int a2, .int a3, .int a4] (ax_C dC dI sz wx tx (fun _ => True))) (va_Qi (fun (_ : Int32) (_ : Unit) => True) (fun _ t => ∃ wx9 ty9, (∃ vi1 vf1, (∀ k9 : Nat, k9 ∉ ([0, 9] : List Nat) → vi1 k9 = vi k9) ∧ (∀ k9 : Nat, k9 ∉ ([] : List Nat) → vf1 k9 = vf k9) ∧ IMv x tp vi1 vf1 wx9 ty9) ∧ ax_B dC dI (va_A wx sz) wx9 ty9 t) (va_A wx sz)) 0 0 (va_A wx sz) := by
  sorry

set_option maxHeartbeats 4000000 in
set_option maxRecDepth 100000 in
theorem k_X7_rests (l : Launch) (dC : Nat → ClassId) (dI : Nat → Nat → Nat) (sz : Nat) (x : Nat) (tp : Int32) (vi : Nat → Int32) (vf : Nat → Nat → Int32) (wx : va_W) (tx : List (ClassId × FieldType)) (h : IXv x tp vi vf wx tx) (a1 : Int32) : Met l yX7_rests wsX7_rests ({ frames := 2, cells := 0, slots := 0, locals := 45 }) (va_Pc [.ref x, .int a1] (ax_C dC dI sz wx tx (fun _ => True))) (va_Qi (fun (_ : Int32) (_ : Unit) => True) (fun _ t => ∃ wx9 ty9, (∃ vi1 vf1, (∀ k9 : Nat, k9 ∉ ([0] : List Nat) → vi1 k9 = vi k9) ∧ (∀ k9 : Nat, k9 ∉ ([] : List Nat) → vf1 k9 = vf k9) ∧ IXv x tp vi1 vf1 wx9 ty9) ∧ ax_B dC dI (va_A wx sz) wx9 ty9 t) (va_A wx sz)) 0 0 (va_A wx sz) := by
  sorry

set_option maxHeartbeats 4000000 in
set_option maxRecDepth 100000 in
theorem k_X8_rests (l : Launch) (dC : Nat → ClassId) (dI : Nat → Nat → Nat) (sz : Nat) (x : Nat) (tp : Int32) (vi : Nat → Int32) (vf : Nat → Nat → Int32) (wx : va_W) (tx : List (ClassId × FieldType)) (h : IMv x tp vi vf wx tx) (a1 : Int32) : Met l yX8_rests wsX8_rests ({ frames := 2, cells := 0, slots := 0, locals := 47 }) (va_Pc [.ref x, .int a1] (ax_C dC dI sz wx tx (fun _ => True))) (va_Qi (fun (_ : Int32) (_ : Unit) => True) (fun _ t => ∃ wx9 ty9, (∃ vi1 vf1, (∀ k9 : Nat, k9 ∉ ([0, 9, 21] : List Nat) → vi1 k9 = vi k9) ∧ (∀ k9 : Nat, k9 ∉ ([] : List Nat) → vf1 k9 = vf k9) ∧ IMv x tp vi1 vf1 wx9 ty9) ∧ ax_B dC dI (va_A wx sz) wx9 ty9 t) (va_A wx sz)) 0 0 (va_A wx sz) := by
  sorry

set_option maxHeartbeats 4000000 in
set_option maxRecDepth 100000 in
theorem k_X7_rest (l : Launch) (dC : Nat → ClassId) (dI : Nat → Nat → Nat) (sz : Nat) (x : Nat) (tp : Int32) (vi : Nat → Int32) (vf : Nat → Nat → Int32) (wx : va_W) (tx : List (ClassId × FieldType)) (h : IXv x tp vi vf wx tx) (a1 : Int32) : Met l yX7_rest wsX7_rest ({ frames := 2, cells := 0, slots := 0, locals := 45 }) (va_Pc [.ref x, .int a1] (ax_C dC dI sz wx tx (fun _ => True))) (va_Qi (fun (_ : Int32) (_ : Unit) => True) (fun _ t => ∃ wx9 ty9, (∃ vi1 vf1, (∀ k9 : Nat, k9 ∉ ([0] : List Nat) → vi1 k9 = vi k9) ∧ (∀ k9 : Nat, k9 ∉ ([] : List Nat) → vf1 k9 = vf k9) ∧ IXv x tp vi1 vf1 wx9 ty9) ∧ ax_B dC dI (va_A wx sz) wx9 ty9 t) (va_A wx sz)) 0 0 (va_A wx sz) := by
  sorry

set_option maxHeartbeats 4000000 in
set_option maxRecDepth 100000 in
theorem k_X8_rest (l : Launch) (dC : Nat → ClassId) (dI : Nat → Nat → Nat) (sz : Nat) (x : Nat) (tp : Int32) (vi : Nat → Int32) (vf : Nat → Nat → Int32) (wx : va_W) (tx : List (ClassId × FieldType)) (h : IMv x tp vi vf wx tx) (a1 : Int32) : Met l yX8_rest wsX8_rest ({ frames := 2, cells := 0, slots := 0, locals := 47 }) (va_Pc [.ref x, .int a1] (ax_C dC dI sz wx tx (fun _ => True))) (va_Qi (fun (_ : Int32) (_ : Unit) => True) (fun _ t => ∃ wx9 ty9, (∃ vi1 vf1, (∀ k9 : Nat, k9 ∉ ([0, 9, 21] : List Nat) → vi1 k9 = vi k9) ∧ (∀ k9 : Nat, k9 ∉ ([] : List Nat) → vf1 k9 = vf k9) ∧ IMv x tp vi1 vf1 wx9 ty9) ∧ ax_B dC dI (va_A wx sz) wx9 ty9 t) (va_A wx sz)) 0 0 (va_A wx sz) := by
  sorry

set_option maxHeartbeats 4000000 in
set_option maxRecDepth 100000 in
theorem k_X7_odds (l : Launch) (dC : Nat → ClassId) (dI : Nat → Nat → Nat) (sz : Nat) (x : Nat) (tp : Int32) (vi : Nat → Int32) (vf : Nat → Nat → Int32) (wx : va_W) (tx : List (ClassId × FieldType)) (h : IXv x tp vi vf wx tx) (a1 : Int32) (a2 : Int32) (a3 : Int32) : Met l yX7_odds wsX7_odds ({ frames := 3, cells := 0, slots := 0, locals := 66 }) (va_Pc [.ref x, .int a1, .int a2, .int a3] (ax_C dC dI sz wx tx (fun _ => True))) (va_Ql (fun (_ : Int64) (_ : Unit) => True) (fun _ t => ∃ wx9 ty9, (∃ vi1 vf1, (∀ k9 : Nat, k9 ∉ ([0] : List Nat) → vi1 k9 = vi k9) ∧ (∀ k9 : Nat, k9 ∉ ([] : List Nat) → vf1 k9 = vf k9) ∧ IXv x tp vi1 vf1 wx9 ty9) ∧ ax_B dC dI (va_A wx sz) wx9 ty9 t) (va_A wx sz)) 0 0 (va_A wx sz) := by
  sorry

set_option maxHeartbeats 4000000 in
set_option maxRecDepth 100000 in
theorem k_X8_odds (l : Launch) (dC : Nat → ClassId) (dI : Nat → Nat → Nat) (sz : Nat) (x : Nat) (tp : Int32) (vi : Nat → Int32) (vf : Nat → Nat → Int32) (wx : va_W) (tx : List (ClassId × FieldType)) (h : IMv x tp vi vf wx tx) (a1 : Int32) (a2 : Int32) (a3 : Int32) : Met l yX8_odds wsX8_odds ({ frames := 3, cells := 0, slots := 0, locals := 68 }) (va_Pc [.ref x, .int a1, .int a2, .int a3] (ax_C dC dI sz wx tx (fun _ => True))) (va_Ql (fun (_ : Int64) (_ : Unit) => True) (fun _ t => ∃ wx9 ty9, (∃ vi1 vf1, (∀ k9 : Nat, k9 ∉ ([0, 9, 18, 19] : List Nat) → vi1 k9 = vi k9) ∧ (∀ k9 : Nat, k9 ∉ ([10] : List Nat) → vf1 k9 = vf k9) ∧ IMv x tp vi1 vf1 wx9 ty9) ∧ ax_B dC dI (va_A wx sz) wx9 ty9 t) (va_A wx sz)) 0 0 (va_A wx sz) := by
  sorry

set_option maxHeartbeats 4000000 in
set_option maxRecDepth 100000 in
theorem k_X7_mean (l : Launch) (dC : Nat → ClassId) (dI : Nat → Nat → Nat) (sz : Nat) (x : Nat) (tp : Int32) (vi : Nat → Int32) (vf : Nat → Nat → Int32) (wx : va_W) (tx : List (ClassId × FieldType)) (h : IXv x tp vi vf wx tx) (a1 : Int32) (a2 : Int32) (a3 : Int32) : Met l yX7_mean wsX7_mean ({ frames := 3, cells := 0, slots := 0, locals := 66 }) (va_Pc [.ref x, .int a1, .int a2, .int a3] (ax_C dC dI sz wx tx (fun _ => True))) (va_Ql (fun (_ : Int64) (_ : Unit) => True) (fun _ t => ∃ wx9 ty9, (∃ vi1 vf1, (∀ k9 : Nat, k9 ∉ ([0] : List Nat) → vi1 k9 = vi k9) ∧ (∀ k9 : Nat, k9 ∉ ([] : List Nat) → vf1 k9 = vf k9) ∧ IXv x tp vi1 vf1 wx9 ty9) ∧ ax_B dC dI (va_A wx sz) wx9 ty9 t) (va_A wx sz)) 0 0 (va_A wx sz) := by
  sorry

set_option maxHeartbeats 4000000 in
set_option maxRecDepth 100000 in
theorem k_X8_mean (l : Launch) (dC : Nat → ClassId) (dI : Nat → Nat → Nat) (sz : Nat) (x : Nat) (tp : Int32) (vi : Nat → Int32) (vf : Nat → Nat → Int32) (wx : va_W) (tx : List (ClassId × FieldType)) (h : IMv x tp vi vf wx tx) (a1 : Int32) (a2 : Int32) (a3 : Int32) : Met l yX8_mean wsX8_mean ({ frames := 3, cells := 0, slots := 0, locals := 68 }) (va_Pc [.ref x, .int a1, .int a2, .int a3] (ax_C dC dI sz wx tx (fun _ => True))) (va_Ql (fun (_ : Int64) (_ : Unit) => True) (fun _ t => ∃ wx9 ty9, (∃ vi1 vf1, (∀ k9 : Nat, k9 ∉ ([0, 9, 18, 19] : List Nat) → vi1 k9 = vi k9) ∧ (∀ k9 : Nat, k9 ∉ ([10] : List Nat) → vf1 k9 = vf k9) ∧ IMv x tp vi1 vf1 wx9 ty9) ∧ ax_B dC dI (va_A wx sz) wx9 ty9 t) (va_A wx sz)) 0 0 (va_A wx sz) := by
  sorry

set_option maxHeartbeats 4000000 in
set_option maxRecDepth 100000 in
theorem k_X7_drawn (l : Launch) (dC : Nat → ClassId) (dI : Nat → Nat → Nat) (sz : Nat) (x : Nat) (tp : Int32) (vi : Nat → Int32) (vf : Nat → Nat → Int32) (wx : va_W) (tx : List (ClassId × FieldType)) (h : IXv x tp vi vf wx tx) (a1 : Int32) (a2 : Int32) (a3 : Int32) : Met l yX7_drawn wsX7_drawn ({ frames := 2, cells := 0, slots := 0, locals := 43 }) (va_Pc [.ref x, .int a1, .int a2, .int a3] (ax_C dC dI sz wx tx (fun _ => True))) (va_Qi (fun (_ : Int32) (_ : Unit) => True) (fun _ t => ∃ wx9 ty9, (∃ vi1 vf1, (∀ k9 : Nat, k9 ∉ ([0] : List Nat) → vi1 k9 = vi k9) ∧ (∀ k9 : Nat, k9 ∉ ([] : List Nat) → vf1 k9 = vf k9) ∧ IXv x tp vi1 vf1 wx9 ty9) ∧ ax_B dC dI (va_A wx sz) wx9 ty9 t) (va_A wx sz)) 0 0 (va_A wx sz) := by
  sorry

set_option maxHeartbeats 4000000 in
set_option maxRecDepth 100000 in
theorem k_X8_drawn (l : Launch) (dC : Nat → ClassId) (dI : Nat → Nat → Nat) (sz : Nat) (x : Nat) (tp : Int32) (vi : Nat → Int32) (vf : Nat → Nat → Int32) (wx : va_W) (tx : List (ClassId × FieldType)) (h : IMv x tp vi vf wx tx) (a1 : Int32) (a2 : Int32) (a3 : Int32) : Met l yX8_drawn wsX8_drawn ({ frames := 3, cells := 0, slots := 0, locals := 72 }) (va_Pc [.ref x, .int a1, .int a2, .int a3] (ax_C dC dI sz wx tx (fun _ => True))) (va_Qi (fun (_ : Int32) (_ : Unit) => True) (fun _ t => ∃ wx9 ty9, (∃ vi1 vf1, (∀ k9 : Nat, k9 ∉ ([0, 9, 18, 19, 22, 23] : List Nat) → vi1 k9 = vi k9) ∧ (∀ k9 : Nat, k9 ∉ ([10] : List Nat) → vf1 k9 = vf k9) ∧ IMv x tp vi1 vf1 wx9 ty9) ∧ ax_B dC dI (va_A wx sz) wx9 ty9 t) (va_A wx sz)) 0 0 (va_A wx sz) := by
  sorry

set_option maxHeartbeats 4000000 in
set_option maxRecDepth 100000 in
theorem k_X7_firstShut (l : Launch) (dC : Nat → ClassId) (dI : Nat → Nat → Nat) (sz : Nat) (x : Nat) (tp : Int32) (vi : Nat → Int32) (vf : Nat → Nat → Int32) (wx : va_W) (tx : List (ClassId × FieldType)) (h : IXv x tp vi vf wx tx) (a1 : Int32) (a2 : Int32) : Met l yX7_firstShut wsX7_firstShut ({ frames := 1, cells := 0, slots := 0, locals := 22 }) (va_Pc [.ref x, .int a1, .int a2] (ax_C dC dI sz wx tx (fun _ => True))) (va_Qi (fun (_ : Int32) (_ : Unit) => True) (fun _ t => ∃ wx9 ty9, (∃ vi1 vf1, (∀ k9 : Nat, k9 ∉ ([0] : List Nat) → vi1 k9 = vi k9) ∧ (∀ k9 : Nat, k9 ∉ ([] : List Nat) → vf1 k9 = vf k9) ∧ IXv x tp vi1 vf1 wx9 ty9) ∧ ax_B dC dI (va_A wx sz) wx9 ty9 t) (va_A wx sz)) 0 0 (va_A wx sz) := by
  sorry

set_option maxHeartbeats 4000000 in
set_option maxRecDepth 100000 in
theorem k_X8_firstShut (l : Launch) (dC : Nat → ClassId) (dI : Nat → Nat → Nat) (sz : Nat) (x : Nat) (tp : Int32) (vi : Nat → Int32) (vf : Nat → Nat → Int32) (wx : va_W) (tx : List (ClassId × FieldType)) (h : IMv x tp vi vf wx tx) (a1 : Int32) (a2 : Int32) : Met l yX8_firstShut wsX8_firstShut ({ frames := 3, cells := 0, slots := 0, locals := 72 }) (va_Pc [.ref x, .int a1, .int a2] (ax_C dC dI sz wx tx (fun _ => True))) (va_Qi (fun (_ : Int32) (_ : Unit) => True) (fun _ t => ∃ wx9 ty9, (∃ vi1 vf1, (∀ k9 : Nat, k9 ∉ ([0, 9, 18, 19, 22, 23] : List Nat) → vi1 k9 = vi k9) ∧ (∀ k9 : Nat, k9 ∉ ([10] : List Nat) → vf1 k9 = vf k9) ∧ IMv x tp vi1 vf1 wx9 ty9) ∧ ax_B dC dI (va_A wx sz) wx9 ty9 t) (va_A wx sz)) 0 0 (va_A wx sz) := by
  sorry

set_option maxHeartbeats 4000000 in
set_option maxRecDepth 100000 in
theorem k_X7_go (l : Launch) (dC : Nat → ClassId) (dI : Nat → Nat → Nat) (sz : Nat) (x : Nat) (tp : Int32) (vi : Nat → Int32) (vf : Nat → Nat → Int32) (wx : va_W) (tx : List (ClassId × FieldType)) (h : IXv x tp vi vf wx tx) (a1 : Int32) : Met l yX7_go wsX7_go ({ frames := 4, cells := 0, slots := 0, locals := 98 }) (va_Pc [.ref x, .int a1] (ax_C dC dI sz wx tx (fun U => va_Nw (.methodLinkNest RX0 118 yX7_within RX7) U ∧ va_Nw (.methodLinkNest RX5 38 yX7_hasBit RX7) U ∧ va_Nw (.methodLinkNest RX0 129 yX7_hasBit RX7) U))) (va_Qi (fun (_ : Int32) (_ : Unit) => True) (fun _ t => ∃ wx9 ty9, (∃ vi1 vf1, (∀ k9 : Nat, k9 ∉ ([0, 12, 13, 14, 15, 16, 24, 26, 57, 58, 59, 60, 61, 62, 63, 64, 65, 66, 67, 68, 69, 70, 71, 72, 73, 74, 75, 76, 77, 78, 79, 80, 81, 82, 83, 84, 85, 86, 87, 88, 89, 90, 91, 92, 93, 94, 95, 96, 97, 98, 99, 100, 101, 102, 103, 104, 105, 106, 107, 108, 109, 110, 111, 112, 113, 114, 115, 116, 117, 118, 119, 120, 121, 122, 123, 124, 125, 126, 127, 128, 129, 130, 131, 132, 133, 134, 135, 136] : List Nat) → vi1 k9 = vi k9) ∧ (∀ k9 : Nat, k9 ∉ ([1, 2, 23, 24, 25, 26, 27, 28, 29, 30, 31, 32, 33, 34, 35, 36, 37, 38, 39, 40, 41, 42, 43, 44, 45, 46, 47, 48, 49, 50, 51, 52, 53, 54] : List Nat) → vf1 k9 = vf k9) ∧ IXv x tp vi1 vf1 wx9 ty9) ∧ ax_B dC dI (va_A wx sz) wx9 ty9 t) (va_A wx sz)) 0 0 (va_A wx sz) := by
  sorry

set_option maxHeartbeats 4000000 in
set_option maxRecDepth 100000 in
theorem k_X8_go (l : Launch) (dC : Nat → ClassId) (dI : Nat → Nat → Nat) (sz : Nat) (x : Nat) (tp : Int32) (vi : Nat → Int32) (vf : Nat → Nat → Int32) (wx : va_W) (tx : List (ClassId × FieldType)) (h : IMv x tp vi vf wx tx) (a1 : Int32) : Met l yX8_go wsX8_go ({ frames := 4, cells := 0, slots := 0, locals := 95 }) (va_Pc [.ref x, .int a1] (ax_C dC dI sz wx tx (fun _ => True))) (va_Qi (fun (_ : Int32) (_ : Unit) => True) (fun _ t => ∃ wx9 ty9, (∃ vi1 vf1, (∀ k9 : Nat, k9 ∉ ([0, 9, 12, 14, 15, 16, 17] : List Nat) → vi1 k9 = vi k9) ∧ (∀ k9 : Nat, k9 ∉ ([4, 6, 8, 9] : List Nat) → vf1 k9 = vf k9) ∧ IMv x tp vi1 vf1 wx9 ty9) ∧ ax_B dC dI (va_A wx sz) wx9 ty9 t) (va_A wx sz)) 0 0 (va_A wx sz) := by
  sorry

set_option maxHeartbeats 4000000 in
set_option maxRecDepth 100000 in
theorem k_X7_put (l : Launch) (dC : Nat → ClassId) (dI : Nat → Nat → Nat) (sz : Nat) (x : Nat) (tp : Int32) (vi : Nat → Int32) (vf : Nat → Nat → Int32) (wx : va_W) (tx : List (ClassId × FieldType)) (h : IXv x tp vi vf wx tx) (a1 : Int32) : Met l yX7_put wsX7_put ({ frames := 2, cells := 0, slots := 0, locals := 45 }) (va_Pc [.ref x, .int a1] (ax_C dC dI sz wx tx (fun U => va_Nw (.methodLinkNest RX5 38 yX7_hasBit RX7) U))) (va_Qi (fun (_ : Int32) (_ : Unit) => True) (fun _ t => ∃ wx9 ty9, (∃ vi1 vf1, (∀ k9 : Nat, k9 ∉ ([0, 24, 26, 57, 58, 59, 60, 61, 62, 63, 64, 65, 66, 67, 68, 69, 70, 71, 72, 73, 74, 75, 76, 77, 78, 79, 80, 81, 82, 83, 84, 85, 86, 87, 88, 89, 90, 91, 92, 93, 94, 95, 96, 97, 98, 99, 100, 101, 102, 103, 104, 105, 106, 107, 108, 109, 110, 111, 112, 113, 114, 115, 116, 117, 118, 119, 120, 121, 122, 123, 124, 125, 126, 127, 128, 129, 130, 131, 132, 133, 134, 135, 136] : List Nat) → vi1 k9 = vi k9) ∧ (∀ k9 : Nat, k9 ∉ ([1, 23, 24, 25, 26, 27, 28, 29, 30, 31, 32, 33, 34, 35, 36, 37, 38, 39, 40, 41, 42, 43, 44, 45, 46, 47, 48, 49, 50, 51, 52, 53, 54] : List Nat) → vf1 k9 = vf k9) ∧ IXv x tp vi1 vf1 wx9 ty9) ∧ ax_B dC dI (va_A wx sz) wx9 ty9 t) (va_A wx sz)) 0 0 (va_A wx sz) := by
  sorry

set_option maxHeartbeats 4000000 in
set_option maxRecDepth 100000 in
theorem k_X8_put (l : Launch) (dC : Nat → ClassId) (dI : Nat → Nat → Nat) (sz : Nat) (x : Nat) (tp : Int32) (vi : Nat → Int32) (vf : Nat → Nat → Int32) (wx : va_W) (tx : List (ClassId × FieldType)) (h : IMv x tp vi vf wx tx) (a1 : Int32) : Met l yX8_put wsX8_put ({ frames := 2, cells := 0, slots := 0, locals := 46 }) (va_Pc [.ref x, .int a1] (ax_C dC dI sz wx tx (fun _ => True))) (va_Qi (fun (_ : Int32) (_ : Unit) => True) (fun _ t => ∃ wx9 ty9, (∃ vi1 vf1, (∀ k9 : Nat, k9 ∉ ([0, 9, 12] : List Nat) → vi1 k9 = vi k9) ∧ (∀ k9 : Nat, k9 ∉ ([4, 6] : List Nat) → vf1 k9 = vf k9) ∧ IMv x tp vi1 vf1 wx9 ty9) ∧ ax_B dC dI (va_A wx sz) wx9 ty9 t) (va_A wx sz)) 0 0 (va_A wx sz) := by
  sorry

set_option maxHeartbeats 4000000 in
set_option maxRecDepth 100000 in
theorem k_X7_wind (l : Launch) (dC : Nat → ClassId) (dI : Nat → Nat → Nat) (sz : Nat) (x : Nat) (tp : Int32) (vi : Nat → Int32) (vf : Nat → Nat → Int32) (wx : va_W) (tx : List (ClassId × FieldType)) (h : IXv x tp vi vf wx tx) (a1 : Int32) : Met l yX7_wind wsX7_wind ({ frames := 2, cells := 0, slots := 0, locals := 45 }) (va_Pc [.ref x, .int a1] (ax_C dC dI sz wx tx (fun _ => True))) (va_Qi (fun (_ : Int32) (_ : Unit) => True) (fun _ t => ∃ wx9 ty9, (∃ vi1 vf1, (∀ k9 : Nat, k9 ∉ ([0, 13, 14, 24, 26, 57, 58, 59, 60, 61, 62, 63, 64, 65, 66, 67, 68, 69, 70, 71, 72, 73, 74, 75, 76, 77, 78, 79, 80, 81, 82, 83, 84, 85, 86, 87, 88, 89, 90, 91, 92, 93, 94, 95, 96, 97, 98, 99, 100, 101, 102, 103, 104, 105, 106, 107, 108, 109, 110, 111, 112, 113, 114, 115, 116, 117, 118, 119, 120, 121, 122, 123, 124, 125, 126, 127, 128, 129, 130, 131, 132, 133, 134, 135, 136] : List Nat) → vi1 k9 = vi k9) ∧ (∀ k9 : Nat, k9 ∉ ([23, 24, 25, 26, 27, 28, 29, 30, 31, 32, 33, 34, 35, 36, 37, 38, 39, 40, 41, 42, 43, 44, 45, 46, 47, 48, 49, 50, 51, 52, 53, 54] : List Nat) → vf1 k9 = vf k9) ∧ IXv x tp vi1 vf1 wx9 ty9) ∧ ax_B dC dI (va_A wx sz) wx9 ty9 t) (va_A wx sz)) 0 0 (va_A wx sz) := by
  sorry

set_option maxHeartbeats 4000000 in
set_option maxRecDepth 100000 in
theorem k_X8_wind (l : Launch) (dC : Nat → ClassId) (dI : Nat → Nat → Nat) (sz : Nat) (x : Nat) (tp : Int32) (vi : Nat → Int32) (vf : Nat → Nat → Int32) (wx : va_W) (tx : List (ClassId × FieldType)) (h : IMv x tp vi vf wx tx) (a1 : Int32) : Met l yX8_wind wsX8_wind ({ frames := 2, cells := 0, slots := 0, locals := 46 }) (va_Pc [.ref x, .int a1] (ax_C dC dI sz wx tx (fun _ => True))) (va_Qi (fun (_ : Int32) (_ : Unit) => True) (fun _ t => ∃ wx9 ty9, (∃ vi1 vf1, (∀ k9 : Nat, k9 ∉ ([0, 9, 12] : List Nat) → vi1 k9 = vi k9) ∧ (∀ k9 : Nat, k9 ∉ ([4, 6] : List Nat) → vf1 k9 = vf k9) ∧ IMv x tp vi1 vf1 wx9 ty9) ∧ ax_B dC dI (va_A wx sz) wx9 ty9 t) (va_A wx sz)) 0 0 (va_A wx sz) := by
  sorry

set_option maxHeartbeats 4000000 in
set_option maxRecDepth 100000 in
theorem k_X7_undo (l : Launch) (dC : Nat → ClassId) (dI : Nat → Nat → Nat) (sz : Nat) (x : Nat) (tp : Int32) (vi : Nat → Int32) (vf : Nat → Nat → Int32) (wx : va_W) (tx : List (ClassId × FieldType)) (h : IXv x tp vi vf wx tx) : Met l yX7_undo wsX7_undo ({ frames := 2, cells := 0, slots := 0, locals := 43 }) (va_Pc [.ref x] (ax_C dC dI sz wx tx (fun _ => True))) (va_Qi (fun (_ : Int32) (_ : Unit) => True) (fun _ t => ∃ wx9 ty9, (∃ vi1 vf1, (∀ k9 : Nat, k9 ∉ ([0, 12, 13, 14, 15, 16, 24, 26] : List Nat) → vi1 k9 = vi k9) ∧ (∀ k9 : Nat, k9 ∉ ([1, 2] : List Nat) → vf1 k9 = vf k9) ∧ IXv x tp vi1 vf1 wx9 ty9) ∧ ax_B dC dI (va_A wx sz) wx9 ty9 t) (va_A wx sz)) 0 0 (va_A wx sz) := by
  sorry

set_option maxHeartbeats 4000000 in
set_option maxRecDepth 100000 in
theorem k_X8_undo (l : Launch) (dC : Nat → ClassId) (dI : Nat → Nat → Nat) (sz : Nat) (x : Nat) (tp : Int32) (vi : Nat → Int32) (vf : Nat → Nat → Int32) (wx : va_W) (tx : List (ClassId × FieldType)) (h : IMv x tp vi vf wx tx) : Met l yX8_undo wsX8_undo ({ frames := 1, cells := 0, slots := 0, locals := 25 }) (va_Pc [.ref x] (ax_C dC dI sz wx tx (fun _ => True))) (va_Qi (fun (_ : Int32) (_ : Unit) => True) (fun _ t => ∃ wx9 ty9, (∃ vi1 vf1, (∀ k9 : Nat, k9 ∉ ([0, 9, 12] : List Nat) → vi1 k9 = vi k9) ∧ (∀ k9 : Nat, k9 ∉ ([4] : List Nat) → vf1 k9 = vf k9) ∧ IMv x tp vi1 vf1 wx9 ty9) ∧ ax_B dC dI (va_A wx sz) wx9 ty9 t) (va_A wx sz)) 0 0 (va_A wx sz) := by
  sorry

set_option maxHeartbeats 4000000 in
set_option maxRecDepth 100000 in
theorem k_X7_image (l : Launch) (dC : Nat → ClassId) (dI : Nat → Nat → Nat) (sz : Nat) (x : Nat) (tp : Int32) (vi : Nat → Int32) (vf : Nat → Nat → Int32) (wx : va_W) (tx : List (ClassId × FieldType)) (h : IXv x tp vi vf wx tx) : Met l yX7_image wsX7_image ({ frames := 2, cells := 0, slots := 0, locals := 43 }) (va_Pc [.ref x] (ax_C dC dI sz wx tx (fun _ => True))) (va_Qi (fun (_ : Int32) (_ : Unit) => True) (fun _ t => ∃ wx9 ty9, (∃ vi1 vf1, (∀ k9 : Nat, k9 ∉ ([0, 25, 137, 138, 139, 140, 141, 142, 143, 144, 145, 146, 147, 148, 149, 150, 151] : List Nat) → vi1 k9 = vi k9) ∧ (∀ k9 : Nat, k9 ∉ ([55, 56, 57, 58, 59, 60] : List Nat) → vf1 k9 = vf k9) ∧ IXv x tp vi1 vf1 wx9 ty9) ∧ ax_B dC dI (va_A wx sz) wx9 ty9 t) (va_A wx sz)) 0 0 (va_A wx sz) := by
  sorry

set_option maxHeartbeats 4000000 in
set_option maxRecDepth 100000 in
theorem k_X8_image (l : Launch) (dC : Nat → ClassId) (dI : Nat → Nat → Nat) (sz : Nat) (x : Nat) (tp : Int32) (vi : Nat → Int32) (vf : Nat → Nat → Int32) (wx : va_W) (tx : List (ClassId × FieldType)) (h : IMv x tp vi vf wx tx) : Met l yX8_image wsX8_image ({ frames := 1, cells := 0, slots := 0, locals := 25 }) (va_Pc [.ref x] (ax_C dC dI sz wx tx (fun _ => True))) (va_Qi (fun (_ : Int32) (_ : Unit) => True) (fun _ t => ∃ wx9 ty9, (∃ vi1 vf1, (∀ k9 : Nat, k9 ∉ ([0, 9, 13] : List Nat) → vi1 k9 = vi k9) ∧ (∀ k9 : Nat, k9 ∉ ([7] : List Nat) → vf1 k9 = vf k9) ∧ IMv x tp vi1 vf1 wx9 ty9) ∧ ax_B dC dI (va_A wx sz) wx9 ty9 t) (va_A wx sz)) 0 0 (va_A wx sz) := by
  sorry

set_option maxHeartbeats 4000000 in
set_option maxRecDepth 100000 in
theorem k_X7_back (l : Launch) (dC : Nat → ClassId) (dI : Nat → Nat → Nat) (sz : Nat) (x : Nat) (tp : Int32) (vi : Nat → Int32) (vf : Nat → Nat → Int32) (wx : va_W) (tx : List (ClassId × FieldType)) (h : IXv x tp vi vf wx tx) (a1 : Int32) : Met l yX7_back wsX7_back ({ frames := 2, cells := 0, slots := 0, locals := 44 }) (va_Pc [.ref x, .int a1] (ax_C dC dI sz wx tx (fun U => va_Nw (.methodLinkNest RX1 41 yX7_within RX7) U))) (va_Qi (fun (_ : Int32) (_ : Unit) => True) (fun _ t => ∃ wx9 ty9, (∃ vi1 vf1, (∀ k9 : Nat, k9 ∉ ([0, 12, 13, 14, 15, 16, 24] : List Nat) → vi1 k9 = vi k9) ∧ (∀ k9 : Nat, k9 ∉ ([1, 2] : List Nat) → vf1 k9 = vf k9) ∧ IXv x tp vi1 vf1 wx9 ty9) ∧ ax_B dC dI (va_A wx sz) wx9 ty9 t) (va_A wx sz)) 0 0 (va_A wx sz) := by
  sorry

set_option maxHeartbeats 4000000 in
set_option maxRecDepth 100000 in
theorem k_X8_back (l : Launch) (dC : Nat → ClassId) (dI : Nat → Nat → Nat) (sz : Nat) (x : Nat) (tp : Int32) (vi : Nat → Int32) (vf : Nat → Nat → Int32) (wx : va_W) (tx : List (ClassId × FieldType)) (h : IMv x tp vi vf wx tx) (a1 : Int32) : Met l yX8_back wsX8_back ({ frames := 1, cells := 0, slots := 0, locals := 25 }) (va_Pc [.ref x, .int a1] (ax_C dC dI sz wx tx (fun _ => True))) (va_Qi (fun (_ : Int32) (_ : Unit) => True) (fun _ t => ∃ wx9 ty9, (∃ vi1 vf1, (∀ k9 : Nat, k9 ∉ ([0, 9, 12] : List Nat) → vi1 k9 = vi k9) ∧ (∀ k9 : Nat, k9 ∉ ([4] : List Nat) → vf1 k9 = vf k9) ∧ IMv x tp vi1 vf1 wx9 ty9) ∧ ax_B dC dI (va_A wx sz) wx9 ty9 t) (va_A wx sz)) 0 0 (va_A wx sz) := by
  sorry

set_option maxHeartbeats 4000000 in
set_option maxRecDepth 100000 in
theorem k_X7_size (l : Launch) (dC : Nat → ClassId) (dI : Nat → Nat → Nat) (sz : Nat) (x : Nat) (tp : Int32) (vi : Nat → Int32) (vf : Nat → Nat → Int32) (wx : va_W) (tx : List (ClassId × FieldType)) (h : IXv x tp vi vf wx tx) (a1 : Int32) : Met l yX7_size wsX7_size ({ frames := 2, cells := 0, slots := 0, locals := 41 }) (va_Pc [.ref x, .int a1] (ax_C dC dI sz wx tx (fun _ => True))) (va_Qi (fun (_ : Int32) (_ : Unit) => True) (fun _ t => ∃ wx9 ty9, (∃ vi1 vf1, (∀ k9 : Nat, k9 ∉ ([] : List Nat) → vi1 k9 = vi k9) ∧ (∀ k9 : Nat, k9 ∉ ([] : List Nat) → vf1 k9 = vf k9) ∧ IXv x tp vi1 vf1 wx9 ty9) ∧ ax_B dC dI (va_A wx sz) wx9 ty9 t) (va_A wx sz)) 0 0 (va_A wx sz) := by
  sorry

set_option maxHeartbeats 4000000 in
set_option maxRecDepth 100000 in
theorem k_X8_size (l : Launch) (dC : Nat → ClassId) (dI : Nat → Nat → Nat) (sz : Nat) (x : Nat) (tp : Int32) (vi : Nat → Int32) (vf : Nat → Nat → Int32) (wx : va_W) (tx : List (ClassId × FieldType)) (h : IMv x tp vi vf wx tx) (a1 : Int32) : Met l yX8_size wsX8_size ({ frames := 1, cells := 0, slots := 0, locals := 22 }) (va_Pc [.ref x, .int a1] (ax_C dC dI sz wx tx (fun _ => True))) (va_Qi (fun (_ : Int32) (_ : Unit) => True) (fun _ t => ∃ wx9 ty9, (∃ vi1 vf1, (∀ k9 : Nat, k9 ∉ ([0] : List Nat) → vi1 k9 = vi k9) ∧ (∀ k9 : Nat, k9 ∉ ([] : List Nat) → vf1 k9 = vf k9) ∧ IMv x tp vi1 vf1 wx9 ty9) ∧ ax_B dC dI (va_A wx sz) wx9 ty9 t) (va_A wx sz)) 0 0 (va_A wx sz) := by
  sorry

set_option maxHeartbeats 4000000 in
set_option maxRecDepth 100000 in
theorem k_X7_feed (l : Launch) (dC : Nat → ClassId) (dI : Nat → Nat → Nat) (sz : Nat) (x : Nat) (tp : Int32) (vi : Nat → Int32) (vf : Nat → Nat → Int32) (wx : va_W) (tx : List (ClassId × FieldType)) (h : IXv x tp vi vf wx tx) (a1 : Int32) (a2 : Int32) (a3 : Int32) (a4 : Int32) (a5 : Int32) : Met l yX7_feed wsX7_feed ({ frames := 1, cells := 0, slots := 0, locals := 22 }) (va_Pc [.ref x, .int a1, .int a2, .int a3, .int a4, .int a5] (ax_C dC dI sz wx tx (fun _ => True))) (va_Qi (fun (r : Int32) (_ : Unit) => r.toInt = (Ff_X7_feed a1.toInt a2.toInt a3.toInt a4.toInt a5.toInt tp.toInt (fl_A (vf 0))).1) (fun _ t => ∃ wx9 ty9, (∃ tp9 vi1 vf1, (∀ k9 : Nat, k9 ∉ ([] : List Nat) → vi1 k9 = vi k9) ∧ (∀ k9 : Nat, k9 ∉ ([0] : List Nat) → vf1 k9 = vf k9) ∧ (tp9.toInt = (Ff_X7_feed a1.toInt a2.toInt a3.toInt a4.toInt a5.toInt tp.toInt (fl_A (vf 0))).2.1 ∧ fl_A (vf1 0) = (Ff_X7_feed a1.toInt a2.toInt a3.toInt a4.toInt a5.toInt tp.toInt (fl_A (vf 0))).2.2) ∧ IXv x tp9 vi1 vf1 wx9 ty9) ∧ ax_B dC dI (va_A wx sz) wx9 ty9 t) (va_A wx sz)) 0 0 (va_A wx sz) := by
  sorry

set_option maxHeartbeats 4000000 in
set_option maxRecDepth 100000 in
theorem k_X8_feed (l : Launch) (dC : Nat → ClassId) (dI : Nat → Nat → Nat) (sz : Nat) (x : Nat) (tp : Int32) (vi : Nat → Int32) (vf : Nat → Nat → Int32) (wx : va_W) (tx : List (ClassId × FieldType)) (h : IMv x tp vi vf wx tx) (a1 : Int32) (a2 : Int32) (a3 : Int32) (a4 : Int32) (a5 : Int32) : Met l yX8_feed wsX8_feed ({ frames := 0, cells := 0, slots := 0, locals := 0 }) (va_Pc [.ref x, .int a1, .int a2, .int a3, .int a4, .int a5] (ax_C dC dI sz wx tx (fun _ => True))) (va_Qi (fun (r : Int32) (_ : Unit) => r.toInt = (Ff_X8_feed a1.toInt a2.toInt a3.toInt a4.toInt a5.toInt tp.toInt (fl_A (vf 0))).1) (fun _ t => ∃ wx9 ty9, (∃ tp9 vi1 vf1, (∀ k9 : Nat, k9 ∉ ([0] : List Nat) → vi1 k9 = vi k9) ∧ (∀ k9 : Nat, k9 ∉ ([0] : List Nat) → vf1 k9 = vf k9) ∧ (tp9.toInt = (Ff_X8_feed a1.toInt a2.toInt a3.toInt a4.toInt a5.toInt tp.toInt (fl_A (vf 0))).2.2.1 ∧ fl_A (vf1 0) = (Ff_X8_feed a1.toInt a2.toInt a3.toInt a4.toInt a5.toInt tp.toInt (fl_A (vf 0))).2.2.2) ∧ IMv x tp9 vi1 vf1 wx9 ty9) ∧ ax_B dC dI (va_A wx sz) wx9 ty9 t) (va_A wx sz)) 0 0 (va_A wx sz) := by
  sorry

set_option maxHeartbeats 4000000 in
set_option maxRecDepth 100000 in
theorem k_X7_gallery (l : Launch) (dC : Nat → ClassId) (dI : Nat → Nat → Nat) (sz : Nat) (x : Nat) (tp : Int32) (vi : Nat → Int32) (vf : Nat → Nat → Int32) (wx : va_W) (tx : List (ClassId × FieldType)) (h : IXv x tp vi vf wx tx) (sd : Nat → Nat) (a1 : Int32) : Met l yX7_gallery wsX7_gallery ({ frames := 9, cells := 0, slots := 0, locals := 197 }) (va_Pc [.ref x, .int a1] (ax_C dC dI sz wx tx (fun U => sxc_T sd (va_A wx sz) U ∧ va_Nw (.methodLinkNest RX3 223 yX7_within RX7) U ∧ va_Nw (.methodLinkNest RX3 196 yX7_hasBit RX7) U))) (va_Qi (fun (r : Int32) (_ : Unit) => ∃ (vl : Int64) (fl : Nat → Int64), r.toInt = (Ff_X7_gallery a1.toInt (vi 1).toInt (vi 2).toInt tp.toInt (vi 3).toInt (vi 4).toInt (vi 5).toInt (vi 6).toInt (vi 7).toInt (vi 8).toInt (vi 9).toInt vl.toInt (vi 10).toInt (vi 11).toInt (vi 43).toInt (vi 44).toInt (vi 45).toInt (vi 46).toInt (vi 47).toInt (vi 48).toInt (vi 49).toInt (vi 50).toInt (vi 51).toInt (vi 52).toInt (vi 55).toInt (fl_A (vf 15)) (fl_A (vf 16)) (fl_A (vf 0)) (fl_L fl) (fl_A (vf 21)) (fl_A (vf 22)) (fl_A (vf 18)) (fl_A (vf 17)) (vi 12).toInt (vi 13).toInt (vi 14).toInt (vi 15).toInt (vi 16).toInt (fl_A (vf 1)) (fl_A (vf 2)) (vi 24).toInt (vi 25).toInt (vi 30).toInt (vi 31).toInt).1) (fun _ t => ∃ wx9 ty9, (∃ tp9 vi1 vf1, (((0 : Int) ≤ a1.toInt ∧ a1.toInt ≤ tp.toInt → tp9.toInt = 0) ∧ (a1.toInt < 0 ∨ tp.toInt < a1.toInt → tp9.toInt = tp.toInt)) ∧ vf1 0 = vf 0 ∧ IXv x tp9 vi1 vf1 wx9 ty9) ∧ ax_B dC dI (va_A wx sz) wx9 ty9 t) (va_A wx sz)) 0 0 (va_A wx sz) := by
  sorry

set_option maxHeartbeats 4000000 in
set_option maxRecDepth 100000 in
theorem k_X8_gallery (l : Launch) (dC : Nat → ClassId) (dI : Nat → Nat → Nat) (sz : Nat) (x : Nat) (tp : Int32) (vi : Nat → Int32) (vf : Nat → Nat → Int32) (wx : va_W) (tx : List (ClassId × FieldType)) (h : IMv x tp vi vf wx tx) (sd : Nat → Nat) (a1 : Int32) : Met l yX8_gallery wsX8_gallery ({ frames := 10, cells := 0, slots := 0, locals := 214 }) (va_Pc [.ref x, .int a1] (ax_C dC dI sz wx tx (sxc_T sd (va_A wx sz)))) (va_Qi (fun (r : Int32) (_ : Unit) => r.toInt = (Ff_X8_gallery a1.toInt tp.toInt (vi 1).toInt (vi 2).toInt (vi 3).toInt (vi 4).toInt (vi 5).toInt (vi 6).toInt (vi 7).toInt (vi 8).toInt (vi 10).toInt (vi 11).toInt (vi 12).toInt (vi 13).toInt (fl_A (vf 3)) (fl_A (vf 0)) (fl_A (vf 1)) (fl_A (vf 2)) (fl_A (vf 4))).1) (fun _ t => ∃ wx9 ty9, (∃ tp9 vi1 vf1, (((0 : Int) ≤ a1.toInt ∧ a1.toInt ≤ tp.toInt → tp9.toInt = 0) ∧ (a1.toInt < 0 ∨ tp.toInt < a1.toInt → tp9.toInt = tp.toInt)) ∧ vf1 0 = vf 0 ∧ IMv x tp9 vi1 vf1 wx9 ty9) ∧ ax_B dC dI (va_A wx sz) wx9 ty9 t) (va_A wx sz)) 0 0 (va_A wx sz) := by
  sorry
