set_option maxHeartbeats 4000000 in
set_option maxRecDepth 100000 in
theorem k_X7_fault (l : Launch) (dC : Nat → ClassId) (dI : Nat → Nat → Nat) (sz : Nat) (x : Nat) (tp : Int32) (vi : Nat → Int32) (vf : Nat → Nat → Int32) (wx : va_W) (tx : List (ClassId × FieldType)) (h : IXv x tp vi vf wx tx) : Met l yX7_fault wsX7_fault ({ frames := 0, cells := 0, slots := 0, locals := 0 }) (va_Pc [.ref x] (ax_C dC dI sz wx tx (fun _ => True))) (va_Qi (fun (_ : Int32) (_ : Unit) => True) (fun _ t => ∃ wx9 ty9, (∃ vi1 vf1, (∀ k9 : Nat, k9 ∉ ([] : List Nat) → vi1 k9 = vi k9) ∧ (∀ k9 : Nat, k9 ∉ ([] : List Nat) → vf1 k9 = vf k9) ∧ IXv x tp vi1 vf1 wx9 ty9) ∧ ax_B dC dI (va_A wx sz) wx9 ty9 t) (va_A wx sz)) 0 0 (va_A wx sz) := by
  sorry

set_option maxHeartbeats 4000000 in
set_option maxRecDepth 100000 in
theorem k_X8_fault (l : Launch) (dC : Nat → ClassId) (dI : Nat → Nat → Nat) (sz : Nat) (x : Nat) (tp : Int32) (vi : Nat → Int32) (vf : Nat → Nat → Int32) (wx : va_W) (tx : List (ClassId × FieldType)) (h : IMv x tp vi vf wx tx) : Met l yX8_fault wsX8_fault ({ frames := 0, cells := 0, slots := 0, locals := 0 }) (va_Pc [.ref x] (ax_C dC dI sz wx tx (fun _ => True))) (va_Qi (fun (_ : Int32) (_ : Unit) => True) (fun _ t => ∃ wx9 ty9, (∃ vi1 vf1, (∀ k9 : Nat, k9 ∉ ([0] : List Nat) → vi1 k9 = vi k9) ∧ (∀ k9 : Nat, k9 ∉ ([] : List Nat) → vf1 k9 = vf k9) ∧ IMv x tp vi1 vf1 wx9 ty9) ∧ ax_B dC dI (va_A wx sz) wx9 ty9 t) (va_A wx sz)) 0 0 (va_A wx sz) := by
  sorry

set_option maxHeartbeats 4000000 in
set_option maxRecDepth 100000 in
theorem k_X7_where (l : Launch) (dC : Nat → ClassId) (dI : Nat → Nat → Nat) (sz : Nat) (x : Nat) (tp : Int32) (vi : Nat → Int32) (vf : Nat → Nat → Int32) (wx : va_W) (tx : List (ClassId × FieldType)) (h : IXv x tp vi vf wx tx) : Met l yX7_where wsX7_where ({ frames := 0, cells := 0, slots := 0, locals := 0 }) (va_Pc [.ref x] (ax_C dC dI sz wx tx (fun _ => True))) (va_Qi (fun (_ : Int32) (_ : Unit) => True) (fun _ t => ∃ wx9 ty9, (∃ vi1 vf1, (∀ k9 : Nat, k9 ∉ ([] : List Nat) → vi1 k9 = vi k9) ∧ (∀ k9 : Nat, k9 ∉ ([] : List Nat) → vf1 k9 = vf k9) ∧ IXv x tp vi1 vf1 wx9 ty9) ∧ ax_B dC dI (va_A wx sz) wx9 ty9 t) (va_A wx sz)) 0 0 (va_A wx sz) := by
  sorry

set_option maxHeartbeats 4000000 in
set_option maxRecDepth 100000 in
theorem k_X8_where (l : Launch) (dC : Nat → ClassId) (dI : Nat → Nat → Nat) (sz : Nat) (x : Nat) (tp : Int32) (vi : Nat → Int32) (vf : Nat → Nat → Int32) (wx : va_W) (tx : List (ClassId × FieldType)) (h : IMv x tp vi vf wx tx) : Met l yX8_where wsX8_where ({ frames := 0, cells := 0, slots := 0, locals := 0 }) (va_Pc [.ref x] (ax_C dC dI sz wx tx (fun _ => True))) (va_Qi (fun (_ : Int32) (_ : Unit) => True) (fun _ t => ∃ wx9 ty9, (∃ vi1 vf1, (∀ k9 : Nat, k9 ∉ ([0] : List Nat) → vi1 k9 = vi k9) ∧ (∀ k9 : Nat, k9 ∉ ([] : List Nat) → vf1 k9 = vf k9) ∧ IMv x tp vi1 vf1 wx9 ty9) ∧ ax_B dC dI (va_A wx sz) wx9 ty9 t) (va_A wx sz)) 0 0 (va_A wx sz) := by
  sorry

set_option maxHeartbeats 4000000 in
set_option maxRecDepth 100000 in
theorem k_X7_trouble (l : Launch) (dC : Nat → ClassId) (dI : Nat → Nat → Nat) (sz : Nat) (x : Nat) (tp : Int32) (vi : Nat → Int32) (vf : Nat → Nat → Int32) (wx : va_W) (tx : List (ClassId × FieldType)) (h : IXv x tp vi vf wx tx) : Met l yX7_trouble wsX7_trouble ({ frames := 0, cells := 0, slots := 0, locals := 0 }) (va_Pc [.ref x] (ax_C dC dI sz wx tx (fun _ => True))) (va_Qi (fun (_ : Int32) (_ : Unit) => True) (fun _ t => ∃ wx9 ty9, (∃ vi1 vf1, (∀ k9 : Nat, k9 ∉ ([] : List Nat) → vi1 k9 = vi k9) ∧ (∀ k9 : Nat, k9 ∉ ([] : List Nat) → vf1 k9 = vf k9) ∧ IXv x tp vi1 vf1 wx9 ty9) ∧ ax_B dC dI (va_A wx sz) wx9 ty9 t) (va_A wx sz)) 0 0 (va_A wx sz) := by
  sorry

set_option maxHeartbeats 4000000 in
set_option maxRecDepth 100000 in
theorem k_X8_trouble (l : Launch) (dC : Nat → ClassId) (dI : Nat → Nat → Nat) (sz : Nat) (x : Nat) (tp : Int32) (vi : Nat → Int32) (vf : Nat → Nat → Int32) (wx : va_W) (tx : List (ClassId × FieldType)) (h : IMv x tp vi vf wx tx) : Met l yX8_trouble wsX8_trouble ({ frames := 0, cells := 0, slots := 0, locals := 0 }) (va_Pc [.ref x] (ax_C dC dI sz wx tx (fun _ => True))) (va_Qi (fun (_ : Int32) (_ : Unit) => True) (fun _ t => ∃ wx9 ty9, (∃ vi1 vf1, (∀ k9 : Nat, k9 ∉ ([0] : List Nat) → vi1 k9 = vi k9) ∧ (∀ k9 : Nat, k9 ∉ ([] : List Nat) → vf1 k9 = vf k9) ∧ IMv x tp vi1 vf1 wx9 ty9) ∧ ax_B dC dI (va_A wx sz) wx9 ty9 t) (va_A wx sz)) 0 0 (va_A wx sz) := by
  sorry

set_option maxHeartbeats 4000000 in
set_option maxRecDepth 100000 in
theorem k_X7_figure (l : Launch) (dC : Nat → ClassId) (dI : Nat → Nat → Nat) (sz : Nat) (x : Nat) (tp : Int32) (vi : Nat → Int32) (vf : Nat → Nat → Int32) (wx : va_W) (tx : List (ClassId × FieldType)) (h : IXv x tp vi vf wx tx) (a1 : Int32) (a2 : Int32) : Met l yX7_figure wsX7_figure ({ frames := 2, cells := 0, slots := 0, locals := 43 }) (va_Pc [.ref x, .int a1, .int a2] (ax_C dC dI sz wx tx (fun U => va_Nw (.methodLinkNest RX5 38 yX7_hasBit RX7) U))) (va_Qi (fun (_ : Int32) (_ : Unit) => True) (fun _ t => ∃ wx9 ty9, (∃ vi1 vf1, (∀ k9 : Nat, k9 ∉ ([0] : List Nat) → vi1 k9 = vi k9) ∧ (∀ k9 : Nat, k9 ∉ ([] : List Nat) → vf1 k9 = vf k9) ∧ IXv x tp vi1 vf1 wx9 ty9) ∧ ax_B dC dI (va_A wx sz) wx9 ty9 t) (va_A wx sz)) 0 0 (va_A wx sz) := by
  sorry

set_option maxHeartbeats 4000000 in
set_option maxRecDepth 100000 in
theorem k_X8_figure (l : Launch) (dC : Nat → ClassId) (dI : Nat → Nat → Nat) (sz : Nat) (x : Nat) (tp : Int32) (vi : Nat → Int32) (vf : Nat → Nat → Int32) (wx : va_W) (tx : List (ClassId × FieldType)) (h : IMv x tp vi vf wx tx) (a1 : Int32) (a2 : Int32) : Met l yX8_figure wsX8_figure ({ frames := 2, cells := 0, slots := 0, locals := 43 }) (va_Pc [.ref x, .int a1, .int a2] (ax_C dC dI sz wx tx (fun _ => True))) (va_Qi (fun (_ : Int32) (_ : Unit) => True) (fun _ t => ∃ wx9 ty9, (∃ vi1 vf1, (∀ k9 : Nat, k9 ∉ ([0, 9] : List Nat) → vi1 k9 = vi k9) ∧ (∀ k9 : Nat, k9 ∉ ([] : List Nat) → vf1 k9 = vf k9) ∧ IMv x tp vi1 vf1 wx9 ty9) ∧ ax_B dC dI (va_A wx sz) wx9 ty9 t) (va_A wx sz)) 0 0 (va_A wx sz) := by
  sorry

set_option maxHeartbeats 4000000 in
set_option maxRecDepth 100000 in
theorem k_X7_watcher (l : Launch) (dC : Nat → ClassId) (dI : Nat → Nat → Nat) (sz : Nat) (x : Nat) (tp : Int32) (vi : Nat → Int32) (vf : Nat → Nat → Int32) (wx : va_W) (tx : List (ClassId × FieldType)) (h : IXv x tp vi vf wx tx) (a1 : Int32) (a2 : Int32) : Met l yX7_watcher wsX7_watcher ({ frames := 2, cells := 0, slots := 0, locals := 43 }) (va_Pc [.ref x, .int a1, .int a2] (ax_C dC dI sz wx tx (fun _ => True))) (va_Qi (fun (_ : Int32) (_ : Unit) => True) (fun _ t => ∃ wx9 ty9, (∃ vi1 vf1, (∀ k9 : Nat, k9 ∉ ([0] : List Nat) → vi1 k9 = vi k9) ∧ (∀ k9 : Nat, k9 ∉ ([] : List Nat) → vf1 k9 = vf k9) ∧ IXv x tp vi1 vf1 wx9 ty9) ∧ ax_B dC dI (va_A wx sz) wx9 ty9 t) (va_A wx sz)) 0 0 (va_A wx sz) := by
  sorry

set_option maxHeartbeats 4000000 in
set_option maxRecDepth 100000 in
theorem k_X8_watcher (l : Launch) (dC : Nat → ClassId) (dI : Nat → Nat → Nat) (sz : Nat) (x : Nat) (tp : Int32) (vi : Nat → Int32) (vf : Nat → Nat → Int32) (wx : va_W) (tx : List (ClassId × FieldType)) (h : IMv x tp vi vf wx tx) (a1 : Int32) (a2 : Int32) : Met l yX8_watcher wsX8_watcher ({ frames := 2, cells := 0, slots := 0, locals := 43 }) (va_Pc [.ref x, .int a1, .int a2] (ax_C dC dI sz wx tx (fun _ => True))) (va_Qi (fun (_ : Int32) (_ : Unit) => True) (fun _ t => ∃ wx9 ty9, (∃ vi1 vf1, (∀ k9 : Nat, k9 ∉ ([0, 9, 14] : List Nat) → vi1 k9 = vi k9) ∧ (∀ k9 : Nat, k9 ∉ ([8, 9] : List Nat) → vf1 k9 = vf k9) ∧ IMv x tp vi1 vf1 wx9 ty9) ∧ ax_B dC dI (va_A wx sz) wx9 ty9 t) (va_A wx sz)) 0 0 (va_A wx sz) := by
  sorry

set_option maxHeartbeats 4000000 in
set_option maxRecDepth 100000 in
theorem k_X7_alive (l : Launch) (dC : Nat → ClassId) (dI : Nat → Nat → Nat) (sz : Nat) (x : Nat) (tp : Int32) (vi : Nat → Int32) (vf : Nat → Nat → Int32) (wx : va_W) (tx : List (ClassId × FieldType)) (h : IXv x tp vi vf wx tx) : Met l yX7_alive wsX7_alive ({ frames := 1, cells := 0, slots := 0, locals := 21 }) (va_Pc [.ref x] (ax_C dC dI sz wx tx (fun _ => True))) (va_Qi (fun (_ : Int32) (_ : Unit) => True) (fun _ t => ∃ wx9 ty9, (∃ vi1 vf1, (∀ k9 : Nat, k9 ∉ ([0] : List Nat) → vi1 k9 = vi k9) ∧ (∀ k9 : Nat, k9 ∉ ([] : List Nat) → vf1 k9 = vf k9) ∧ IXv x tp vi1 vf1 wx9 ty9) ∧ ax_B dC dI (va_A wx sz) wx9 ty9 t) (va_A wx sz)) 0 0 (va_A wx sz) := by
  sorry

set_option maxHeartbeats 4000000 in
set_option maxRecDepth 100000 in
theorem k_X8_alive (l : Launch) (dC : Nat → ClassId) (dI : Nat → Nat → Nat) (sz : Nat) (x : Nat) (tp : Int32) (vi : Nat → Int32) (vf : Nat → Nat → Int32) (wx : va_W) (tx : List (ClassId × FieldType)) (h : IMv x tp vi vf wx tx) : Met l yX8_alive wsX8_alive ({ frames := 1, cells := 0, slots := 0, locals := 21 }) (va_Pc [.ref x] (ax_C dC dI sz wx tx (fun _ => True))) (va_Qi (fun (_ : Int32) (_ : Unit) => True) (fun _ t => ∃ wx9 ty9, (∃ vi1 vf1, (∀ k9 : Nat, k9 ∉ ([0, 9] : List Nat) → vi1 k9 = vi k9) ∧ (∀ k9 : Nat, k9 ∉ ([] : List Nat) → vf1 k9 = vf k9) ∧ IMv x tp vi1 vf1 wx9 ty9) ∧ ax_B dC dI (va_A wx sz) wx9 ty9 t) (va_A wx sz)) 0 0 (va_A wx sz) := by
  sorry

set_option maxHeartbeats 4000000 in
set_option maxRecDepth 100000 in
theorem k_X7_left (l : Launch) (dC : Nat → ClassId) (dI : Nat → Nat → Nat) (sz : Nat) (x : Nat) (tp : Int32) (vi : Nat → Int32) (vf : Nat → Nat → Int32) (wx : va_W) (tx : List (ClassId × FieldType)) (h : IXv x tp vi vf wx tx) : Met l yX7_left wsX7_left ({ frames := 1, cells := 0, slots := 0, locals := 21 }) (va_Pc [.ref x] (ax_C dC dI sz wx tx (fun _ => True))) (va_Qi (fun (_ : Int32) (_ : Unit) => True) (fun _ t => ∃ wx9 ty9, (∃ vi1 vf1, (∀ k9 : Nat, k9 ∉ ([0] : List Nat) → vi1 k9 = vi k9) ∧ (∀ k9 : Nat, k9 ∉ ([] : List Nat) → vf1 k9 = vf k9) ∧ IXv x tp vi1 vf1 wx9 ty9) ∧ ax_B dC dI (va_A wx sz) wx9 ty9 t) (va_A wx sz)) 0 0 (va_A wx sz) := by
  sorry

set_option maxHeartbeats 4000000 in
set_option maxRecDepth 100000 in
theorem k_X8_left (l : Launch) (dC : Nat → ClassId) (dI : Nat → Nat → Nat) (sz : Nat) (x : Nat) (tp : Int32) (vi : Nat → Int32) (vf : Nat → Nat → Int32) (wx : va_W) (tx : List (ClassId × FieldType)) (h : IMv x tp vi vf wx tx) : Met l yX8_left wsX8_left ({ frames := 1, cells := 0, slots := 0, locals := 21 }) (va_Pc [.ref x] (ax_C dC dI sz wx tx (fun _ => True))) (va_Qi (fun (_ : Int32) (_ : Unit) => True) (fun _ t => ∃ wx9 ty9, (∃ vi1 vf1, (∀ k9 : Nat, k9 ∉ ([0, 9] : List Nat) → vi1 k9 = vi k9) ∧ (∀ k9 : Nat, k9 ∉ ([] : List Nat) → vf1 k9 = vf k9) ∧ IMv x tp vi1 vf1 wx9 ty9) ∧ ax_B dC dI (va_A wx sz) wx9 ty9 t) (va_A wx sz)) 0 0 (va_A wx sz) := by
  sorry

set_option maxHeartbeats 4000000 in
set_option maxRecDepth 100000 in
theorem k_X7_caught (l : Launch) (dC : Nat → ClassId) (dI : Nat → Nat → Nat) (sz : Nat) (x : Nat) (tp : Int32) (vi : Nat → Int32) (vf : Nat → Nat → Int32) (wx : va_W) (tx : List (ClassId × FieldType)) (h : IXv x tp vi vf wx tx) : Met l yX7_caught wsX7_caught ({ frames := 1, cells := 0, slots := 0, locals := 21 }) (va_Pc [.ref x] (ax_C dC dI sz wx tx (fun _ => True))) (va_Qi (fun (_ : Int32) (_ : Unit) => True) (fun _ t => ∃ wx9 ty9, (∃ vi1 vf1, (∀ k9 : Nat, k9 ∉ ([0] : List Nat) → vi1 k9 = vi k9) ∧ (∀ k9 : Nat, k9 ∉ ([] : List Nat) → vf1 k9 = vf k9) ∧ IXv x tp vi1 vf1 wx9 ty9) ∧ ax_B dC dI (va_A wx sz) wx9 ty9 t) (va_A wx sz)) 0 0 (va_A wx sz) := by
  sorry

set_option maxHeartbeats 4000000 in
set_option maxRecDepth 100000 in
theorem k_X8_caught (l : Launch) (dC : Nat → ClassId) (dI : Nat → Nat → Nat) (sz : Nat) (x : Nat) (tp : Int32) (vi : Nat → Int32) (vf : Nat → Nat → Int32) (wx : va_W) (tx : List (ClassId × FieldType)) (h : IMv x tp vi vf wx tx) : Met l yX8_caught wsX8_caught ({ frames := 1, cells := 0, slots := 0, locals := 21 }) (va_Pc [.ref x] (ax_C dC dI sz wx tx (fun _ => True))) (va_Qi (fun (_ : Int32) (_ : Unit) => True) (fun _ t => ∃ wx9 ty9, (∃ vi1 vf1, (∀ k9 : Nat, k9 ∉ ([0, 9] : List Nat) → vi1 k9 = vi k9) ∧ (∀ k9 : Nat, k9 ∉ ([] : List Nat) → vf1 k9 = vf k9) ∧ IMv x tp vi1 vf1 wx9 ty9) ∧ ax_B dC dI (va_A wx sz) wx9 ty9 t) (va_A wx sz)) 0 0 (va_A wx sz) := by
  sorry

set_option maxHeartbeats 4000000 in
set_option maxRecDepth 100000 in
theorem k_X7_turnOf (l : Launch) (dC : Nat → ClassId) (dI : Nat → Nat → Nat) (sz : Nat) (x : Nat) (tp : Int32) (vi : Nat → Int32) (vf : Nat → Nat → Int32) (wx : va_W) (tx : List (ClassId × FieldType)) (h : IXv x tp vi vf wx tx) (a1 : Int32) : Met l yX7_turnOf wsX7_turnOf ({ frames := 2, cells := 0, slots := 0, locals := 49 }) (va_Pc [.ref x, .int a1] (ax_C dC dI sz wx tx (fun _ => True))) (va_Qi (fun (_ : Int32) (_ : Unit) => True) (fun _ t => ∃ wx9 ty9, (∃ vi1 vf1, (∀ k9 : Nat, k9 ∉ ([0] : List Nat) → vi1 k9 = vi k9) ∧ (∀ k9 : Nat, k9 ∉ ([] : List Nat) → vf1 k9 = vf k9) ∧ IXv x tp vi1 vf1 wx9 ty9) ∧ ax_B dC dI (va_A wx sz) wx9 ty9 t) (va_A wx sz)) 0 0 (va_A wx sz) := by
  sorry

set_option maxHeartbeats 4000000 in
set_option maxRecDepth 100000 in
theorem k_X8_turnOf (l : Launch) (dC : Nat → ClassId) (dI : Nat → Nat → Nat) (sz : Nat) (x : Nat) (tp : Int32) (vi : Nat → Int32) (vf : Nat → Nat → Int32) (wx : va_W) (tx : List (ClassId × FieldType)) (h : IMv x tp vi vf wx tx) (a1 : Int32) : Met l yX8_turnOf wsX8_turnOf ({ frames := 2, cells := 0, slots := 0, locals := 44 }) (va_Pc [.ref x, .int a1] (ax_C dC dI sz wx tx (fun _ => True))) (va_Qi (fun (_ : Int32) (_ : Unit) => True) (fun _ t => ∃ wx9 ty9, (∃ vi1 vf1, (∀ k9 : Nat, k9 ∉ ([0, 9, 18, 19] : List Nat) → vi1 k9 = vi k9) ∧ (∀ k9 : Nat, k9 ∉ ([10] : List Nat) → vf1 k9 = vf k9) ∧ IMv x tp vi1 vf1 wx9 ty9) ∧ ax_B dC dI (va_A wx sz) wx9 ty9 t) (va_A wx sz)) 0 0 (va_A wx sz) := by
  sorry

set_option maxHeartbeats 4000000 in
set_option maxRecDepth 100000 in
theorem k_X7_turnIn (l : Launch) (dC : Nat → ClassId) (dI : Nat → Nat → Nat) (sz : Nat) (x : Nat) (tp : Int32) (vi : Nat → Int32) (vf : Nat → Nat → Int32) (wx : va_W) (tx : List (ClassId × FieldType)) (h : IXv x tp vi vf wx tx) (a1 : Int32) : Met l yX7_turnIn wsX7_turnIn ({ frames := 2, cells := 0, slots := 0, locals := 43 }) (va_Pc [.ref x, .int a1] (ax_C dC dI sz wx tx (fun _ => True))) (va_Qi (fun (_ : Int32) (_ : Unit) => True) (fun _ t => ∃ wx9 ty9, (∃ vi1 vf1, (∀ k9 : Nat, k9 ∉ ([0] : List Nat) → vi1 k9 = vi k9) ∧ (∀ k9 : Nat, k9 ∉ ([] : List Nat) → vf1 k9 = vf k9) ∧ IXv x tp vi1 vf1 wx9 ty9) ∧ ax_B dC dI (va_A wx sz) wx9 ty9 t) (va_A wx sz)) 0 0 (va_A wx sz) := by
  sorry

set_option maxHeartbeats 4000000 in
set_option maxRecDepth 100000 in
theorem k_X8_turnIn (l : Launch) (dC : Nat → ClassId) (dI : Nat → Nat → Nat) (sz : Nat) (x : Nat) (tp : Int32) (vi : Nat → Int32) (vf : Nat → Nat → Int32) (wx : va_W) (tx : List (ClassId × FieldType)) (h : IMv x tp vi vf wx tx) (a1 : Int32) : Met l yX8_turnIn wsX8_turnIn ({ frames := 2, cells := 0, slots := 0, locals := 44 }) (va_Pc [.ref x, .int a1] (ax_C dC dI sz wx tx (fun _ => True))) (va_Qi (fun (_ : Int32) (_ : Unit) => True) (fun _ t => ∃ wx9 ty9, (∃ vi1 vf1, (∀ k9 : Nat, k9 ∉ ([0, 9, 18, 19] : List Nat) → vi1 k9 = vi k9) ∧ (∀ k9 : Nat, k9 ∉ ([10] : List Nat) → vf1 k9 = vf k9) ∧ IMv x tp vi1 vf1 wx9 ty9) ∧ ax_B dC dI (va_A wx sz) wx9 ty9 t) (va_A wx sz)) 0 0 (va_A wx sz) := by
  sorry

set_option maxHeartbeats 4000000 in
set_option maxRecDepth 100000 in
theorem k_X7_settles (l : Launch) (dC : Nat → ClassId) (dI : Nat → Nat → Nat) (sz : Nat) (x : Nat) (tp : Int32) (vi : Nat → Int32) (vf : Nat → Nat → Int32) (wx : va_W) (tx : List (ClassId × FieldType)) (h : IXv x tp vi vf wx tx) : Met l yX7_settles wsX7_settles ({ frames := 3, cells := 0, slots := 0, locals := 72 }) (va_Pc [.ref x] (ax_C dC dI sz wx tx (fun _ => True))) (va_Qi (fun (_ : Int32) (_ : Unit) => True) (fun _ t => ∃ wx9 ty9, (∃ vi1 vf1, (∀ k9 : Nat, k9 ∉ ([0] : List Nat) → vi1 k9 = vi k9) ∧ (∀ k9 : Nat, k9 ∉ ([] : List Nat) → vf1 k9 = vf k9) ∧ IXv x tp vi1 vf1 wx9 ty9) ∧ ax_B dC dI (va_A wx sz) wx9 ty9 t) (va_A wx sz)) 0 0 (va_A wx sz) := by
  sorry

set_option maxHeartbeats 4000000 in
set_option maxRecDepth 100000 in
theorem k_X8_settles (l : Launch) (dC : Nat → ClassId) (dI : Nat → Nat → Nat) (sz : Nat) (x : Nat) (tp : Int32) (vi : Nat → Int32) (vf : Nat → Nat → Int32) (wx : va_W) (tx : List (ClassId × FieldType)) (h : IMv x tp vi vf wx tx) : Met l yX8_settles wsX8_settles ({ frames := 2, cells := 0, slots := 0, locals := 44 }) (va_Pc [.ref x] (ax_C dC dI sz wx tx (fun _ => True))) (va_Qi (fun (_ : Int32) (_ : Unit) => True) (fun _ t => ∃ wx9 ty9, (∃ vi1 vf1, (∀ k9 : Nat, k9 ∉ ([0, 9, 18, 19] : List Nat) → vi1 k9 = vi k9) ∧ (∀ k9 : Nat, k9 ∉ ([10] : List Nat) → vf1 k9 = vf k9) ∧ IMv x tp vi1 vf1 wx9 ty9) ∧ ax_B dC dI (va_A wx sz) wx9 ty9 t) (va_A wx sz)) 0 0 (va_A wx sz) := by
  sorry

set_option maxHeartbeats 4000000 in
set_option maxRecDepth 100000 in
theorem k_X7_round (l : Launch) (dC : Nat → ClassId) (dI : Nat → Nat → Nat) (sz : Nat) (x : Nat) (tp : Int32) (vi : Nat → Int32) (vf : Nat → Nat → Int32) (wx : va_W) (tx : List (ClassId × FieldType)) (h : IXv x tp vi vf wx tx) : Met l yX7_round wsX7_round ({ frames := 3, cells := 0, slots := 0, locals := 72 }) (va_Pc [.ref x] (ax_C dC dI sz wx tx (fun _ => True))) (va_Qi (fun (_ : Int32) (_ : Unit) => True) (fun _ t => ∃ wx9 ty9, (∃ vi1 vf1, (∀ k9 : Nat, k9 ∉ ([0] : List Nat) → vi1 k9 = vi k9) ∧ (∀ k9 : Nat, k9 ∉ ([] : List Nat) → vf1 k9 = vf k9) ∧ IXv x tp vi1 vf1 wx9 ty9) ∧ ax_B dC dI (va_A wx sz) wx9 ty9 t) (va_A wx sz)) 0 0 (va_A wx sz) := by
  sorry

set_option maxHeartbeats 4000000 in
set_option maxRecDepth 100000 in
theorem k_X8_round (l : Launch) (dC : Nat → ClassId) (dI : Nat → Nat → Nat) (sz : Nat) (x : Nat) (tp : Int32) (vi : Nat → Int32) (vf : Nat → Nat → Int32) (wx : va_W) (tx : List (ClassId × FieldType)) (h : IMv x tp vi vf wx tx) : Met l yX8_round wsX8_round ({ frames := 2, cells := 0, slots := 0, locals := 44 }) (va_Pc [.ref x] (ax_C dC dI sz wx tx (fun _ => True))) (va_Qi (fun (_ : Int32) (_ : Unit) => True) (fun _ t => ∃ wx9 ty9, (∃ vi1 vf1, (∀ k9 : Nat, k9 ∉ ([0, 9, 18, 19] : List Nat) → vi1 k9 = vi k9) ∧ (∀ k9 : Nat, k9 ∉ ([10] : List Nat) → vf1 k9 = vf k9) ∧ IMv x tp vi1 vf1 wx9 ty9) ∧ ax_B dC dI (va_A wx sz) wx9 ty9 t) (va_A wx sz)) 0 0 (va_A wx sz) := by
  sorry

set_option maxHeartbeats 4000000 in
set_option maxRecDepth 100000 in
theorem k_X7_called (l : Launch) (dC : Nat → ClassId) (dI : Nat → Nat → Nat) (sz : Nat) (x : Nat) (tp : Int32) (vi : Nat → Int32) (vf : Nat → Nat → Int32) (wx : va_W) (tx : List (ClassId × FieldType)) (h : IXv x tp vi vf wx tx) : Met l yX7_called wsX7_called ({ frames := 1, cells := 0, slots := 0, locals := 21 }) (va_Pc [.ref x] (ax_C dC dI sz wx tx (fun _ => True))) (va_Qi (fun (_ : Int32) (_ : Unit) => True) (fun _ t => ∃ wx9 ty9, (∃ vi1 vf1, (∀ k9 : Nat, k9 ∉ ([0] : List Nat) → vi1 k9 = vi k9) ∧ (∀ k9 : Nat, k9 ∉ ([] : List Nat) → vf1 k9 = vf k9) ∧ IXv x tp vi1 vf1 wx9 ty9) ∧ ax_B dC dI (va_A wx sz) wx9 ty9 t) (va_A wx sz)) 0 0 (va_A wx sz) := by
  sorry

set_option maxHeartbeats 4000000 in
set_option maxRecDepth 100000 in
theorem k_X8_called (l : Launch) (dC : Nat → ClassId) (dI : Nat → Nat → Nat) (sz : Nat) (x : Nat) (tp : Int32) (vi : Nat → Int32) (vf : Nat → Nat → Int32) (wx : va_W) (tx : List (ClassId × FieldType)) (h : IMv x tp vi vf wx tx) : Met l yX8_called wsX8_called ({ frames := 2, cells := 0, slots := 0, locals := 44 }) (va_Pc [.ref x] (ax_C dC dI sz wx tx (fun _ => True))) (va_Qi (fun (_ : Int32) (_ : Unit) => True) (fun _ t => ∃ wx9 ty9, (∃ vi1 vf1, (∀ k9 : Nat, k9 ∉ ([0, 9, 18, 19] : List Nat) → vi1 k9 = vi k9) ∧ (∀ k9 : Nat, k9 ∉ ([10] : List Nat) → vf1 k9 = vf k9) ∧ IMv x tp vi1 vf1 wx9 ty9) ∧ ax_B dC dI (va_A wx sz) wx9 ty9 t) (va_A wx sz)) 0 0 (va_A wx sz) := by
  sorry

set_option maxHeartbeats 4000000 in
set_option maxRecDepth 100000 in
theorem k_X7_minutesOf (l : Launch) (dC : Nat → ClassId) (dI : Nat → Nat → Nat) (sz : Nat) (x : Nat) (tp : Int32) (vi : Nat → Int32) (vf : Nat → Nat → Int32) (wx : va_W) (tx : List (ClassId × FieldType)) (h : IXv x tp vi vf wx tx) (a1 : Int32) (a2 : Int32) : Met l yX7_minutesOf wsX7_minutesOf ({ frames := 2, cells := 0, slots := 0, locals := 43 }) (va_Pc [.ref x, .int a1, .int a2] (ax_C dC dI sz wx tx (fun _ => True))) (va_Qi (fun (_ : Int32) (_ : Unit) => True) (fun _ t => ∃ wx9 ty9, (∃ vi1 vf1, (∀ k9 : Nat, k9 ∉ ([0] : List Nat) → vi1 k9 = vi k9) ∧ (∀ k9 : Nat, k9 ∉ ([] : List Nat) → vf1 k9 = vf k9) ∧ IXv x tp vi1 vf1 wx9 ty9) ∧ ax_B dC dI (va_A wx sz) wx9 ty9 t) (va_A wx sz)) 0 0 (va_A wx sz) := by
  sorry

set_option maxHeartbeats 4000000 in
set_option maxRecDepth 100000 in
theorem k_X8_minutesOf (l : Launch) (dC : Nat → ClassId) (dI : Nat → Nat → Nat) (sz : Nat) (x : Nat) (tp : Int32) (vi : Nat → Int32) (vf : Nat → Nat → Int32) (wx : va_W) (tx : List (ClassId × FieldType)) (h : IMv x tp vi vf wx tx) (a1 : Int32) (a2 : Int32) : Met l yX8_minutesOf wsX8_minutesOf ({ frames := 2, cells := 0, slots := 0, locals := 44 }) (va_Pc [.ref x, .int a1, .int a2] (ax_C dC dI sz wx tx (fun _ => True))) (va_Qi (fun (_ : Int32) (_ : Unit) => True) (fun _ t => ∃ wx9 ty9, (∃ vi1 vf1, (∀ k9 : Nat, k9 ∉ ([0, 9, 18, 19] : List Nat) → vi1 k9 = vi k9) ∧ (∀ k9 : Nat, k9 ∉ ([10] : List Nat) → vf1 k9 = vf k9) ∧ IMv x tp vi1 vf1 wx9 ty9) ∧ ax_B dC dI (va_A wx sz) wx9 ty9 t) (va_A wx sz)) 0 0 (va_A wx sz) := by
  sorry

set_option maxHeartbeats 4000000 in
set_option maxRecDepth 100000 in
theorem k_X7_place (l : Launch) (dC : Nat → ClassId) (dI : Nat → Nat → Nat) (sz : Nat) (x : Nat) (tp : Int32) (vi : Nat → Int32) (vf : Nat → Nat → Int32) (wx : va_W) (tx : List (ClassId × FieldType)) (h : IXv x tp vi vf wx tx) (a1 : Int32) (a2 : Int32) : Met l yX7_place wsX7_place ({ frames := 6, cells := 0, slots := 0, locals := 141 }) (va_Pc [.ref x, .int a1, .int a2] (ax_C dC dI sz wx tx (fun U => va_Nw (.methodLinkNest RX0 118 yX7_within RX7) U ∧ va_Nw (.methodLinkNest RX5 38 yX7_hasBit RX7) U ∧ va_Nw (.methodLinkNest RX0 129 yX7_hasBit RX7) U))) (va_Qi (fun (_ : Int32) (_ : Unit) => True) (fun _ t => ∃ wx9 ty9, (∃ vi1 vf1, (∀ k9 : Nat, k9 ∉ ([0, 17, 18, 19, 20, 21] : List Nat) → vi1 k9 = vi k9) ∧ (∀ k9 : Nat, k9 ∉ ([3, 4] : List Nat) → vf1 k9 = vf k9) ∧ IXv x tp vi1 vf1 wx9 ty9) ∧ ax_B dC dI (va_A wx sz) wx9 ty9 t) (va_A wx sz)) 0 0 (va_A wx sz) := by
  sorry

set_option maxHeartbeats 4000000 in
set_option maxRecDepth 100000 in
theorem k_X8_place (l : Launch) (dC : Nat → ClassId) (dI : Nat → Nat → Nat) (sz : Nat) (x : Nat) (tp : Int32) (vi : Nat → Int32) (vf : Nat → Nat → Int32) (wx : va_W) (tx : List (ClassId × FieldType)) (h : IMv x tp vi vf wx tx) (a1 : Int32) (a2 : Int32) : Met l yX8_place wsX8_place ({ frames := 5, cells := 0, slots := 0, locals := 117 }) (va_Pc [.ref x, .int a1, .int a2] (ax_C dC dI sz wx tx (fun _ => True))) (va_Qi (fun (_ : Int32) (_ : Unit) => True) (fun _ t => ∃ wx9 ty9, (∃ vi1 vf1, (∀ k9 : Nat, k9 ∉ ([0, 9, 14, 15, 16, 17] : List Nat) → vi1 k9 = vi k9) ∧ (∀ k9 : Nat, k9 ∉ ([5, 8, 9] : List Nat) → vf1 k9 = vf k9) ∧ IMv x tp vi1 vf1 wx9 ty9) ∧ ax_B dC dI (va_A wx sz) wx9 ty9 t) (va_A wx sz)) 0 0 (va_A wx sz) := by
  sorry

set_option maxHeartbeats 4000000 in
set_option maxRecDepth 100000 in
theorem k_X7_watch (l : Launch) (dC : Nat → ClassId) (dI : Nat → Nat → Nat) (sz : Nat) (x : Nat) (tp : Int32) (vi : Nat → Int32) (vf : Nat → Nat → Int32) (wx : va_W) (tx : List (ClassId × FieldType)) (h : IXv x tp vi vf wx tx) (a1 : Int32) (a2 : Int32) : Met l yX7_watch wsX7_watch ({ frames := 2, cells := 0, slots := 0, locals := 43 }) (va_Pc [.ref x, .int a1, .int a2] (ax_C dC dI sz wx tx (fun _ => True))) (va_Qi (fun (_ : Int32) (_ : Unit) => True) (fun _ t => ∃ wx9 ty9, (∃ vi1 vf1, (∀ k9 : Nat, k9 ∉ ([0] : List Nat) → vi1 k9 = vi k9) ∧ (∀ k9 : Nat, k9 ∉ ([] : List Nat) → vf1 k9 = vf k9) ∧ IXv x tp vi1 vf1 wx9 ty9) ∧ ax_B dC dI (va_A wx sz) wx9 ty9 t) (va_A wx sz)) 0 0 (va_A wx sz) := by
  sorry

set_option maxHeartbeats 4000000 in
set_option maxRecDepth 100000 in
theorem k_X8_watch (l : Launch) (dC : Nat → ClassId) (dI : Nat → Nat → Nat) (sz : Nat) (x : Nat) (tp : Int32) (vi : Nat → Int32) (vf : Nat → Nat → Int32) (wx : va_W) (tx : List (ClassId × FieldType)) (h : IMv x tp vi vf wx tx) (a1 : Int32) (a2 : Int32) : Met l yX8_watch wsX8_watch ({ frames := 2, cells := 0, slots := 0, locals := 45 }) (va_Pc [.ref x, .int a1, .int a2] (ax_C dC dI sz wx tx (fun _ => True))) (va_Qi (fun (_ : Int32) (_ : Unit) => True) (fun _ t => ∃ wx9 ty9, (∃ vi1 vf1, (∀ k9 : Nat, k9 ∉ ([0, 9, 14] : List Nat) → vi1 k9 = vi k9) ∧ (∀ k9 : Nat, k9 ∉ ([8, 9] : List Nat) → vf1 k9 = vf k9) ∧ IMv x tp vi1 vf1 wx9 ty9) ∧ ax_B dC dI (va_A wx sz) wx9 ty9 t) (va_A wx sz)) 0 0 (va_A wx sz) := by
  sorry

set_option maxHeartbeats 4000000 in
set_option maxRecDepth 100000 in
theorem k_X7_gone (l : Launch) (dC : Nat → ClassId) (dI : Nat → Nat → Nat) (sz : Nat) (x : Nat) (tp : Int32) (vi : Nat → Int32) (vf : Nat → Nat → Int32) (wx : va_W) (tx : List (ClassId × FieldType)) (h : IXv x tp vi vf wx tx) (a1 : Int32) : Met l yX7_gone wsX7_gone ({ frames := 6, cells := 0, slots := 0, locals := 141 }) (va_Pc [.ref x, .int a1] (ax_C dC dI sz wx tx (fun U => va_Nw (.methodLinkNest RX0 118 yX7_within RX7) U ∧ va_Nw (.methodLinkNest RX5 38 yX7_hasBit RX7) U ∧ va_Nw (.methodLinkNest RX0 129 yX7_hasBit RX7) U))) (va_Qi (fun (_ : Int32) (_ : Unit) => True) (fun _ t => ∃ wx9 ty9, (∃ vi1 vf1, (∀ k9 : Nat, k9 ∉ ([0, 17, 18, 19, 20, 21] : List Nat) → vi1 k9 = vi k9) ∧ (∀ k9 : Nat, k9 ∉ ([3, 4] : List Nat) → vf1 k9 = vf k9) ∧ IXv x tp vi1 vf1 wx9 ty9) ∧ ax_B dC dI (va_A wx sz) wx9 ty9 t) (va_A wx sz)) 0 0 (va_A wx sz) := by
  sorry

set_option maxHeartbeats 4000000 in
set_option maxRecDepth 100000 in
theorem k_X8_gone (l : Launch) (dC : Nat → ClassId) (dI : Nat → Nat → Nat) (sz : Nat) (x : Nat) (tp : Int32) (vi : Nat → Int32) (vf : Nat → Nat → Int32) (wx : va_W) (tx : List (ClassId × FieldType)) (h : IMv x tp vi vf wx tx) (a1 : Int32) : Met l yX8_gone wsX8_gone ({ frames := 5, cells := 0, slots := 0, locals := 117 }) (va_Pc [.ref x, .int a1] (ax_C dC dI sz wx tx (fun _ => True))) (va_Qi (fun (_ : Int32) (_ : Unit) => True) (fun _ t => ∃ wx9 ty9, (∃ vi1 vf1, (∀ k9 : Nat, k9 ∉ ([0, 9, 14, 15, 16, 17] : List Nat) → vi1 k9 = vi k9) ∧ (∀ k9 : Nat, k9 ∉ ([5, 8, 9] : List Nat) → vf1 k9 = vf k9) ∧ IMv x tp vi1 vf1 wx9 ty9) ∧ ax_B dC dI (va_A wx sz) wx9 ty9 t) (va_A wx sz)) 0 0 (va_A wx sz) := by
  sorry

set_option maxHeartbeats 4000000 in
set_option maxRecDepth 100000 in
theorem k_X7_stairs (l : Launch) (dC : Nat → ClassId) (dI : Nat → Nat → Nat) (sz : Nat) (x : Nat) (tp : Int32) (vi : Nat → Int32) (vf : Nat → Nat → Int32) (wx : va_W) (tx : List (ClassId × FieldType)) (h : IXv x tp vi vf wx tx) : Met l yX7_stairs wsX7_stairs ({ frames := 5, cells := 0, slots := 0, locals := 122 }) (va_Pc [.ref x] (ax_C dC dI sz wx tx (fun U => va_Nw (.methodLinkNest RX0 118 yX7_within RX7) U ∧ va_Nw (.methodLinkNest RX5 38 yX7_hasBit RX7) U ∧ va_Nw (.methodLinkNest RX0 129 yX7_hasBit RX7) U))) (va_Qi (fun (_ : Int32) (_ : Unit) => True) (fun _ t => ∃ wx9 ty9, (∃ vi1 vf1, (∀ k9 : Nat, k9 ∉ ([0, 17, 18, 19, 20, 21] : List Nat) → vi1 k9 = vi k9) ∧ (∀ k9 : Nat, k9 ∉ ([3, 4] : List Nat) → vf1 k9 = vf k9) ∧ IXv x tp vi1 vf1 wx9 ty9) ∧ ax_B dC dI (va_A wx sz) wx9 ty9 t) (va_A wx sz)) 0 0 (va_A wx sz) := by
  sorry

set_option maxHeartbeats 4000000 in
set_option maxRecDepth 100000 in
theorem k_X8_stairs (l : Launch) (dC : Nat → ClassId) (dI : Nat → Nat → Nat) (sz : Nat) (x : Nat) (tp : Int32) (vi : Nat → Int32) (vf : Nat → Nat → Int32) (wx : va_W) (tx : List (ClassId × FieldType)) (h : IMv x tp vi vf wx tx) : Met l yX8_stairs wsX8_stairs ({ frames := 5, cells := 0, slots := 0, locals := 117 }) (va_Pc [.ref x] (ax_C dC dI sz wx tx (fun _ => True))) (va_Qi (fun (_ : Int32) (_ : Unit) => True) (fun _ t => ∃ wx9 ty9, (∃ vi1 vf1, (∀ k9 : Nat, k9 ∉ ([0, 9, 14, 15, 16, 17] : List Nat) → vi1 k9 = vi k9) ∧ (∀ k9 : Nat, k9 ∉ ([5, 8, 9] : List Nat) → vf1 k9 = vf k9) ∧ IMv x tp vi1 vf1 wx9 ty9) ∧ ax_B dC dI (va_A wx sz) wx9 ty9 t) (va_A wx sz)) 0 0 (va_A wx sz) := by
  sorry

set_option maxHeartbeats 4000000 in
set_option maxRecDepth 100000 in
theorem k_X7_catches (l : Launch) (dC : Nat → ClassId) (dI : Nat → Nat → Nat) (sz : Nat) (x : Nat) (tp : Int32) (vi : Nat → Int32) (vf : Nat → Nat → Int32) (wx : va_W) (tx : List (ClassId × FieldType)) (h : IXv x tp vi vf wx tx) (a1 : Int32) : Met l yX7_catches wsX7_catches ({ frames := 6, cells := 0, slots := 0, locals := 141 }) (va_Pc [.ref x, .int a1] (ax_C dC dI sz wx tx (fun U => va_Nw (.methodLinkNest RX0 118 yX7_within RX7) U ∧ va_Nw (.methodLinkNest RX5 38 yX7_hasBit RX7) U ∧ va_Nw (.methodLinkNest RX0 129 yX7_hasBit RX7) U))) (va_Qi (fun (_ : Int32) (_ : Unit) => True) (fun _ t => ∃ wx9 ty9, (∃ vi1 vf1, (∀ k9 : Nat, k9 ∉ ([0, 17, 18, 19, 20, 21] : List Nat) → vi1 k9 = vi k9) ∧ (∀ k9 : Nat, k9 ∉ ([3, 4] : List Nat) → vf1 k9 = vf k9) ∧ IXv x tp vi1 vf1 wx9 ty9) ∧ ax_B dC dI (va_A wx sz) wx9 ty9 t) (va_A wx sz)) 0 0 (va_A wx sz) := by
  sorry

set_option maxHeartbeats 4000000 in
set_option maxRecDepth 100000 in
theorem k_X8_catches (l : Launch) (dC : Nat → ClassId) (dI : Nat → Nat → Nat) (sz : Nat) (x : Nat) (tp : Int32) (vi : Nat → Int32) (vf : Nat → Nat → Int32) (wx : va_W) (tx : List (ClassId × FieldType)) (h : IMv x tp vi vf wx tx) (a1 : Int32) : Met l yX8_catches wsX8_catches ({ frames := 5, cells := 0, slots := 0, locals := 117 }) (va_Pc [.ref x, .int a1] (ax_C dC dI sz wx tx (fun _ => True))) (va_Qi (fun (_ : Int32) (_ : Unit) => True) (fun _ t => ∃ wx9 ty9, (∃ vi1 vf1, (∀ k9 : Nat, k9 ∉ ([0, 9, 14, 15, 16, 17] : List Nat) → vi1 k9 = vi k9) ∧ (∀ k9 : Nat, k9 ∉ ([5, 8, 9] : List Nat) → vf1 k9 = vf k9) ∧ IMv x tp vi1 vf1 wx9 ty9) ∧ ax_B dC dI (va_A wx sz) wx9 ty9 t) (va_A wx sz)) 0 0 (va_A wx sz) := by
  sorry

set_option maxHeartbeats 4000000 in
set_option maxRecDepth 100000 in
theorem k_X7_heard (l : Launch) (dC : Nat → ClassId) (dI : Nat → Nat → Nat) (sz : Nat) (x : Nat) (tp : Int32) (vi : Nat → Int32) (vf : Nat → Nat → Int32) (wx : va_W) (tx : List (ClassId × FieldType)) (h : IXv x tp vi vf wx tx) (a1 : Int32) (a2 : Int32) : Met l yX7_heard wsX7_heard ({ frames := 5, cells := 0, slots := 0, locals := 120 }) (va_Pc [.ref x, .int a1, .int a2] (ax_C dC dI sz wx tx (fun U => va_Nw (.methodLinkNest RX0 118 yX7_within RX7) U ∧ va_Nw (.methodLinkNest RX5 38 yX7_hasBit RX7) U ∧ va_Nw (.methodLinkNest RX0 129 yX7_hasBit RX7) U))) (va_Qi (fun (_ : Int32) (_ : Unit) => True) (fun _ t => ∃ wx9 ty9, (∃ vi1 vf1, (∀ k9 : Nat, k9 ∉ ([0, 17, 18, 19, 20, 21] : List Nat) → vi1 k9 = vi k9) ∧ (∀ k9 : Nat, k9 ∉ ([3, 4] : List Nat) → vf1 k9 = vf k9) ∧ IXv x tp vi1 vf1 wx9 ty9) ∧ ax_B dC dI (va_A wx sz) wx9 ty9 t) (va_A wx sz)) 0 0 (va_A wx sz) := by
  sorry

set_option maxHeartbeats 4000000 in
set_option maxRecDepth 100000 in
theorem k_X8_heard (l : Launch) (dC : Nat → ClassId) (dI : Nat → Nat → Nat) (sz : Nat) (x : Nat) (tp : Int32) (vi : Nat → Int32) (vf : Nat → Nat → Int32) (wx : va_W) (tx : List (ClassId × FieldType)) (h : IMv x tp vi vf wx tx) (a1 : Int32) (a2 : Int32) : Met l yX8_heard wsX8_heard ({ frames := 4, cells := 0, slots := 0, locals := 95 }) (va_Pc [.ref x, .int a1, .int a2] (ax_C dC dI sz wx tx (fun _ => True))) (va_Qi (fun (_ : Int32) (_ : Unit) => True) (fun _ t => ∃ wx9 ty9, (∃ vi1 vf1, (∀ k9 : Nat, k9 ∉ ([0, 9, 14, 15, 16, 17] : List Nat) → vi1 k9 = vi k9) ∧ (∀ k9 : Nat, k9 ∉ ([5, 8, 9] : List Nat) → vf1 k9 = vf k9) ∧ IMv x tp vi1 vf1 wx9 ty9) ∧ ax_B dC dI (va_A wx sz) wx9 ty9 t) (va_A wx sz)) 0 0 (va_A wx sz) := by
  sorry

set_option maxHeartbeats 4000000 in
set_option maxRecDepth 100000 in
theorem k_X7_allIn (l : Launch) (dC : Nat → ClassId) (dI : Nat → Nat → Nat) (sz : Nat) (x : Nat) (tp : Int32) (vi : Nat → Int32) (vf : Nat → Nat → Int32) (wx : va_W) (tx : List (ClassId × FieldType)) (h : IXv x tp vi vf wx tx) (a1 : Int32) : Met l yX7_allIn wsX7_allIn ({ frames := 4, cells := 0, slots := 0, locals := 98 }) (va_Pc [.ref x, .int a1] (ax_C dC dI sz wx tx (fun U => va_Nw (.methodLinkNest RX0 118 yX7_within RX7) U ∧ va_Nw (.methodLinkNest RX5 38 yX7_hasBit RX7) U ∧ va_Nw (.methodLinkNest RX0 129 yX7_hasBit RX7) U))) (va_Qi (fun (_ : Int32) (_ : Unit) => True) (fun _ t => ∃ wx9 ty9, (∃ vi1 vf1, (∀ k9 : Nat, k9 ∉ ([0, 17, 18, 19, 20, 21] : List Nat) → vi1 k9 = vi k9) ∧ (∀ k9 : Nat, k9 ∉ ([3, 4] : List Nat) → vf1 k9 = vf k9) ∧ IXv x tp vi1 vf1 wx9 ty9) ∧ ax_B dC dI (va_A wx sz) wx9 ty9 t) (va_A wx sz)) 0 0 (va_A wx sz) := by
  sorry

set_option maxHeartbeats 4000000 in
set_option maxRecDepth 100000 in
theorem k_X8_allIn (l : Launch) (dC : Nat → ClassId) (dI : Nat → Nat → Nat) (sz : Nat) (x : Nat) (tp : Int32) (vi : Nat → Int32) (vf : Nat → Nat → Int32) (wx : va_W) (tx : List (ClassId × FieldType)) (h : IMv x tp vi vf wx tx) (a1 : Int32) : Met l yX8_allIn wsX8_allIn ({ frames := 4, cells := 0, slots := 0, locals := 95 }) (va_Pc [.ref x, .int a1] (ax_C dC dI sz wx tx (fun _ => True))) (va_Qi (fun (_ : Int32) (_ : Unit) => True) (fun _ t => ∃ wx9 ty9, (∃ vi1 vf1, (∀ k9 : Nat, k9 ∉ ([0, 9, 14, 15, 16, 17] : List Nat) → vi1 k9 = vi k9) ∧ (∀ k9 : Nat, k9 ∉ ([5, 8, 9] : List Nat) → vf1 k9 = vf k9) ∧ IMv x tp vi1 vf1 wx9 ty9) ∧ ax_B dC dI (va_A wx sz) wx9 ty9 t) (va_A wx sz)) 0 0 (va_A wx sz) := by
  sorry

set_option maxHeartbeats 4000000 in
set_option maxRecDepth 100000 in
theorem k_X7_meets (l : Launch) (dC : Nat → ClassId) (dI : Nat → Nat → Nat) (sz : Nat) (x : Nat) (tp : Int32) (vi : Nat → Int32) (vf : Nat → Nat → Int32) (wx : va_W) (tx : List (ClassId × FieldType)) (h : IXv x tp vi vf wx tx) (a1 : Int32) : Met l yX7_meets wsX7_meets ({ frames := 5, cells := 0, slots := 0, locals := 119 }) (va_Pc [.ref x, .int a1] (ax_C dC dI sz wx tx (fun U => va_Nw (.methodLinkNest RX0 118 yX7_within RX7) U ∧ va_Nw (.methodLinkNest RX5 38 yX7_hasBit RX7) U ∧ va_Nw (.methodLinkNest RX0 129 yX7_hasBit RX7) U))) (va_Qi (fun (_ : Int32) (_ : Unit) => True) (fun _ t => ∃ wx9 ty9, (∃ vi1 vf1, (∀ k9 : Nat, k9 ∉ ([0, 17, 18, 19, 20, 21] : List Nat) → vi1 k9 = vi k9) ∧ (∀ k9 : Nat, k9 ∉ ([3, 4] : List Nat) → vf1 k9 = vf k9) ∧ IXv x tp vi1 vf1 wx9 ty9) ∧ ax_B dC dI (va_A wx sz) wx9 ty9 t) (va_A wx sz)) 0 0 (va_A wx sz) := by
  sorry

set_option maxHeartbeats 4000000 in
set_option maxRecDepth 100000 in
theorem k_X8_meets (l : Launch) (dC : Nat → ClassId) (dI : Nat → Nat → Nat) (sz : Nat) (x : Nat) (tp : Int32) (vi : Nat → Int32) (vf : Nat → Nat → Int32) (wx : va_W) (tx : List (ClassId × FieldType)) (h : IMv x tp vi vf wx tx) (a1 : Int32) : Met l yX8_meets wsX8_meets ({ frames := 4, cells := 0, slots := 0, locals := 95 }) (va_Pc [.ref x, .int a1] (ax_C dC dI sz wx tx (fun _ => True))) (va_Qi (fun (_ : Int32) (_ : Unit) => True) (fun _ t => ∃ wx9 ty9, (∃ vi1 vf1, (∀ k9 : Nat, k9 ∉ ([0, 9, 14, 15, 16, 17] : List Nat) → vi1 k9 = vi k9) ∧ (∀ k9 : Nat, k9 ∉ ([5, 8, 9] : List Nat) → vf1 k9 = vf k9) ∧ IMv x tp vi1 vf1 wx9 ty9) ∧ ax_B dC dI (va_A wx sz) wx9 ty9 t) (va_A wx sz)) 0 0 (va_A wx sz) := by
  sorry

set_option maxHeartbeats 4000000 in
set_option maxRecDepth 100000 in
theorem k_X7_crowd (l : Launch) (dC : Nat → ClassId) (dI : Nat → Nat → Nat) (sz : Nat) (x : Nat) (tp : Int32) (vi : Nat → Int32) (vf : Nat → Nat → Int32) (wx : va_W) (tx : List (ClassId × FieldType)) (h : IXv x tp vi vf wx tx) (a1 : Int32) : Met l yX7_crowd wsX7_crowd ({ frames := 6, cells := 0, slots := 0, locals := 141 }) (va_Pc [.ref x, .int a1] (ax_C dC dI sz wx tx (fun U => va_Nw (.methodLinkNest RX0 118 yX7_within RX7) U ∧ va_Nw (.methodLinkNest RX5 38 yX7_hasBit RX7) U ∧ va_Nw (.methodLinkNest RX0 129 yX7_hasBit RX7) U))) (va_Qi (fun (_ : Int32) (_ : Unit) => True) (fun _ t => ∃ wx9 ty9, (∃ vi1 vf1, (∀ k9 : Nat, k9 ∉ ([0, 17, 18, 19, 20, 21] : List Nat) → vi1 k9 = vi k9) ∧ (∀ k9 : Nat, k9 ∉ ([3, 4] : List Nat) → vf1 k9 = vf k9) ∧ IXv x tp vi1 vf1 wx9 ty9) ∧ ax_B dC dI (va_A wx sz) wx9 ty9 t) (va_A wx sz)) 0 0 (va_A wx sz) := by
  sorry

set_option maxHeartbeats 4000000 in
set_option maxRecDepth 100000 in
theorem k_X8_crowd (l : Launch) (dC : Nat → ClassId) (dI : Nat → Nat → Nat) (sz : Nat) (x : Nat) (tp : Int32) (vi : Nat → Int32) (vf : Nat → Nat → Int32) (wx : va_W) (tx : List (ClassId × FieldType)) (h : IMv x tp vi vf wx tx) (a1 : Int32) : Met l yX8_crowd wsX8_crowd ({ frames := 5, cells := 0, slots := 0, locals := 117 }) (va_Pc [.ref x, .int a1] (ax_C dC dI sz wx tx (fun _ => True))) (va_Qi (fun (_ : Int32) (_ : Unit) => True) (fun _ t => ∃ wx9 ty9, (∃ vi1 vf1, (∀ k9 : Nat, k9 ∉ ([0, 9, 14, 15, 16, 17] : List Nat) → vi1 k9 = vi k9) ∧ (∀ k9 : Nat, k9 ∉ ([5, 8, 9] : List Nat) → vf1 k9 = vf k9) ∧ IMv x tp vi1 vf1 wx9 ty9) ∧ ax_B dC dI (va_A wx sz) wx9 ty9 t) (va_A wx sz)) 0 0 (va_A wx sz) := by
  sorry

set_option maxHeartbeats 4000000 in
set_option maxRecDepth 100000 in
theorem k_X7_farthest (l : Launch) (dC : Nat → ClassId) (dI : Nat → Nat → Nat) (sz : Nat) (x : Nat) (tp : Int32) (vi : Nat → Int32) (vf : Nat → Nat → Int32) (wx : va_W) (tx : List (ClassId × FieldType)) (h : IXv x tp vi vf wx tx) (a1 : Int32) : Met l yX7_farthest wsX7_farthest ({ frames := 6, cells := 0, slots := 0, locals := 141 }) (va_Pc [.ref x, .int a1] (ax_C dC dI sz wx tx (fun U => va_Nw (.methodLinkNest RX0 118 yX7_within RX7) U ∧ va_Nw (.methodLinkNest RX5 38 yX7_hasBit RX7) U ∧ va_Nw (.methodLinkNest RX0 129 yX7_hasBit RX7) U))) (va_Qi (fun (_ : Int32) (_ : Unit) => True) (fun _ t => ∃ wx9 ty9, (∃ vi1 vf1, (∀ k9 : Nat, k9 ∉ ([0, 17, 18, 19, 20, 21] : List Nat) → vi1 k9 = vi k9) ∧ (∀ k9 : Nat, k9 ∉ ([3, 4] : List Nat) → vf1 k9 = vf k9) ∧ IXv x tp vi1 vf1 wx9 ty9) ∧ ax_B dC dI (va_A wx sz) wx9 ty9 t) (va_A wx sz)) 0 0 (va_A wx sz) := by
  sorry

set_option maxHeartbeats 4000000 in
set_option maxRecDepth 100000 in
theorem k_X8_farthest (l : Launch) (dC : Nat → ClassId) (dI : Nat → Nat → Nat) (sz : Nat) (x : Nat) (tp : Int32) (vi : Nat → Int32) (vf : Nat → Nat → Int32) (wx : va_W) (tx : List (ClassId × FieldType)) (h : IMv x tp vi vf wx tx) (a1 : Int32) : Met l yX8_farthest wsX8_farthest ({ frames := 5, cells := 0, slots := 0, locals := 117 }) (va_Pc [.ref x, .int a1] (ax_C dC dI sz wx tx (fun _ => True))) (va_Qi (fun (_ : Int32) (_ : Unit) => True) (fun _ t => ∃ wx9 ty9, (∃ vi1 vf1, (∀ k9 : Nat, k9 ∉ ([0, 9, 14, 15, 16, 17] : List Nat) → vi1 k9 = vi k9) ∧ (∀ k9 : Nat, k9 ∉ ([5, 8, 9] : List Nat) → vf1 k9 = vf k9) ∧ IMv x tp vi1 vf1 wx9 ty9) ∧ ax_B dC dI (va_A wx sz) wx9 ty9 t) (va_A wx sz)) 0 0 (va_A wx sz) := by
  sorry

set_option maxHeartbeats 4000000 in
set_option maxRecDepth 100000 in
theorem k_X7_nearBy (l : Launch) (dC : Nat → ClassId) (dI : Nat → Nat → Nat) (sz : Nat) (x : Nat) (tp : Int32) (vi : Nat → Int32) (vf : Nat → Nat → Int32) (wx : va_W) (tx : List (ClassId × FieldType)) (h : IXv x tp vi vf wx tx) (a1 : Int32) (a2 : Int32) : Met l yX7_nearBy wsX7_nearBy ({ frames := 4, cells := 0, slots := 0, locals := 98 }) (va_Pc [.ref x, .int a1, .int a2] (ax_C dC dI sz wx tx (fun U => va_Nw (.methodLinkNest RX0 118 yX7_within RX7) U ∧ va_Nw (.methodLinkNest RX5 38 yX7_hasBit RX7) U ∧ va_Nw (.methodLinkNest RX0 129 yX7_hasBit RX7) U))) (va_Qi (fun (_ : Int32) (_ : Unit) => True) (fun _ t => ∃ wx9 ty9, (∃ vi1 vf1, (∀ k9 : Nat, k9 ∉ ([0, 17, 18, 19, 20, 21] : List Nat) → vi1 k9 = vi k9) ∧ (∀ k9 : Nat, k9 ∉ ([3, 4] : List Nat) → vf1 k9 = vf k9) ∧ IXv x tp vi1 vf1 wx9 ty9) ∧ ax_B dC dI (va_A wx sz) wx9 ty9 t) (va_A wx sz)) 0 0 (va_A wx sz) := by
  sorry

set_option maxHeartbeats 4000000 in
set_option maxRecDepth 100000 in
theorem k_X8_nearBy (l : Launch) (dC : Nat → ClassId) (dI : Nat → Nat → Nat) (sz : Nat) (x : Nat) (tp : Int32) (vi : Nat → Int32) (vf : Nat → Nat → Int32) (wx : va_W) (tx : List (ClassId × FieldType)) (h : IMv x tp vi vf wx tx) (a1 : Int32) (a2 : Int32) : Met l yX8_nearBy wsX8_nearBy ({ frames := 4, cells := 0, slots := 0, locals := 95 }) (va_Pc [.ref x, .int a1, .int a2] (ax_C dC dI sz wx tx (fun _ => True))) (va_Qi (fun (_ : Int32) (_ : Unit) => True) (fun _ t => ∃ wx9 ty9, (∃ vi1 vf1, (∀ k9 : Nat, k9 ∉ ([0, 9, 14, 15, 16, 17] : List Nat) → vi1 k9 = vi k9) ∧ (∀ k9 : Nat, k9 ∉ ([5, 8, 9] : List Nat) → vf1 k9 = vf k9) ∧ IMv x tp vi1 vf1 wx9 ty9) ∧ ax_B dC dI (va_A wx sz) wx9 ty9 t) (va_A wx sz)) 0 0 (va_A wx sz) := by
  sorry

set_option maxHeartbeats 4000000 in
set_option maxRecDepth 100000 in
theorem k_X7_spoken (l : Launch) (dC : Nat → ClassId) (dI : Nat → Nat → Nat) (sz : Nat) (x : Nat) (tp : Int32) (vi : Nat → Int32) (vf : Nat → Nat → Int32) (wx : va_W) (tx : List (ClassId × FieldType)) (h : IXv x tp vi vf wx tx) (a1 : Int32) (a2 : Int32) : Met l yX7_spoken wsX7_spoken ({ frames := 4, cells := 0, slots := 0, locals := 98 }) (va_Pc [.ref x, .int a1, .int a2] (ax_C dC dI sz wx tx (fun U => va_Nw (.methodLinkNest RX0 118 yX7_within RX7) U ∧ va_Nw (.methodLinkNest RX5 38 yX7_hasBit RX7) U ∧ va_Nw (.methodLinkNest RX0 129 yX7_hasBit RX7) U))) (va_Qi (fun (_ : Int32) (_ : Unit) => True) (fun _ t => ∃ wx9 ty9, (∃ vi1 vf1, (∀ k9 : Nat, k9 ∉ ([0, 17, 18, 19, 20, 21] : List Nat) → vi1 k9 = vi k9) ∧ (∀ k9 : Nat, k9 ∉ ([3, 4] : List Nat) → vf1 k9 = vf k9) ∧ IXv x tp vi1 vf1 wx9 ty9) ∧ ax_B dC dI (va_A wx sz) wx9 ty9 t) (va_A wx sz)) 0 0 (va_A wx sz) := by
  sorry

set_option maxHeartbeats 4000000 in
set_option maxRecDepth 100000 in
theorem k_X8_spoken (l : Launch) (dC : Nat → ClassId) (dI : Nat → Nat → Nat) (sz : Nat) (x : Nat) (tp : Int32) (vi : Nat → Int32) (vf : Nat → Nat → Int32) (wx : va_W) (tx : List (ClassId × FieldType)) (h : IMv x tp vi vf wx tx) (a1 : Int32) (a2 : Int32) : Met l yX8_spoken wsX8_spoken ({ frames := 4, cells := 0, slots := 0, locals := 95 }) (va_Pc [.ref x, .int a1, .int a2] (ax_C dC dI sz wx tx (fun _ => True))) (va_Qi (fun (_ : Int32) (_ : Unit) => True) (fun _ t => ∃ wx9 ty9, (∃ vi1 vf1, (∀ k9 : Nat, k9 ∉ ([0, 9, 14, 15, 16, 17] : List Nat) → vi1 k9 = vi k9) ∧ (∀ k9 : Nat, k9 ∉ ([5, 8, 9] : List Nat) → vf1 k9 = vf k9) ∧ IMv x tp vi1 vf1 wx9 ty9) ∧ ax_B dC dI (va_A wx sz) wx9 ty9 t) (va_A wx sz)) 0 0 (va_A wx sz) := by
  sorry

set_option maxHeartbeats 4000000 in
set_option maxRecDepth 100000 in
theorem k_X7_route (l : Launch) (dC : Nat → ClassId) (dI : Nat → Nat → Nat) (sz : Nat) (x : Nat) (tp : Int32) (vi : Nat → Int32) (vf : Nat → Nat → Int32) (wx : va_W) (tx : List (ClassId × FieldType)) (h : IXv x tp vi vf wx tx) (a1 : Int32) (a2 : Int32) : Met l yX7_route wsX7_route ({ frames := 6, cells := 0, slots := 0, locals := 141 }) (va_Pc [.ref x, .int a1, .int a2] (ax_C dC dI sz wx tx (fun U => va_Nw (.methodLinkNest RX0 118 yX7_within RX7) U ∧ va_Nw (.methodLinkNest RX5 38 yX7_hasBit RX7) U ∧ va_Nw (.methodLinkNest RX0 129 yX7_hasBit RX7) U ∧ va_Nw (.methodLinkNest RX4 18 yX7_within RX7) U))) (va_Qi (fun (_ : Int32) (_ : Unit) => True) (fun _ t => ∃ wx9 ty9, (∃ vi1 vf1, (∀ k9 : Nat, k9 ∉ ([0, 17, 18, 19, 20, 21, 32] : List Nat) → vi1 k9 = vi k9) ∧ (∀ k9 : Nat, k9 ∉ ([3, 4, 9, 10] : List Nat) → vf1 k9 = vf k9) ∧ IXv x tp vi1 vf1 wx9 ty9) ∧ ax_B dC dI (va_A wx sz) wx9 ty9 t) (va_A wx sz)) 0 0 (va_A wx sz) := by
  sorry

set_option maxHeartbeats 4000000 in
set_option maxRecDepth 100000 in
theorem k_X8_route (l : Launch) (dC : Nat → ClassId) (dI : Nat → Nat → Nat) (sz : Nat) (x : Nat) (tp : Int32) (vi : Nat → Int32) (vf : Nat → Nat → Int32) (wx : va_W) (tx : List (ClassId × FieldType)) (h : IMv x tp vi vf wx tx) (a1 : Int32) (a2 : Int32) : Met l yX8_route wsX8_route ({ frames := 5, cells := 0, slots := 0, locals := 118 }) (va_Pc [.ref x, .int a1, .int a2] (ax_C dC dI sz wx tx (fun _ => True))) (va_Qi (fun (_ : Int32) (_ : Unit) => True) (fun _ t => ∃ wx9 ty9, (∃ vi1 vf1, (∀ k9 : Nat, k9 ∉ ([0, 9, 14, 15, 16, 17] : List Nat) → vi1 k9 = vi k9) ∧ (∀ k9 : Nat, k9 ∉ ([5, 8, 9, 11, 12] : List Nat) → vf1 k9 = vf k9) ∧ IMv x tp vi1 vf1 wx9 ty9) ∧ ax_B dC dI (va_A wx sz) wx9 ty9 t) (va_A wx sz)) 0 0 (va_A wx sz) := by
  sorry

set_option maxHeartbeats 4000000 in
set_option maxRecDepth 100000 in
theorem k_X7_routeAt (l : Launch) (dC : Nat → ClassId) (dI : Nat → Nat → Nat) (sz : Nat) (x : Nat) (tp : Int32) (vi : Nat → Int32) (vf : Nat → Nat → Int32) (wx : va_W) (tx : List (ClassId × FieldType)) (h : IXv x tp vi vf wx tx) (a1 : Int32) (a2 : Int32) (a3 : Int32) : Met l yX7_routeAt wsX7_routeAt ({ frames := 6, cells := 0, slots := 0, locals := 141 }) (va_Pc [.ref x, .int a1, .int a2, .int a3] (ax_C dC dI sz wx tx (fun U => va_Nw (.methodLinkNest RX0 118 yX7_within RX7) U ∧ va_Nw (.methodLinkNest RX5 38 yX7_hasBit RX7) U ∧ va_Nw (.methodLinkNest RX0 129 yX7_hasBit RX7) U ∧ va_Nw (.methodLinkNest RX4 18 yX7_within RX7) U))) (va_Qi (fun (_ : Int32) (_ : Unit) => True) (fun _ t => ∃ wx9 ty9, (∃ vi1 vf1, (∀ k9 : Nat, k9 ∉ ([0, 17, 18, 19, 20, 21, 32] : List Nat) → vi1 k9 = vi k9) ∧ (∀ k9 : Nat, k9 ∉ ([3, 4, 9, 10] : List Nat) → vf1 k9 = vf k9) ∧ IXv x tp vi1 vf1 wx9 ty9) ∧ ax_B dC dI (va_A wx sz) wx9 ty9 t) (va_A wx sz)) 0 0 (va_A wx sz) := by
  sorry

set_option maxHeartbeats 4000000 in
set_option maxRecDepth 100000 in
theorem k_X8_routeAt (l : Launch) (dC : Nat → ClassId) (dI : Nat → Nat → Nat) (sz : Nat) (x : Nat) (tp : Int32) (vi : Nat → Int32) (vf : Nat → Nat → Int32) (wx : va_W) (tx : List (ClassId × FieldType)) (h : IMv x tp vi vf wx tx) (a1 : Int32) (a2 : Int32) (a3 : Int32) : Met l yX8_routeAt wsX8_routeAt ({ frames := 5, cells := 0, slots := 0, locals := 118 }) (va_Pc [.ref x, .int a1, .int a2, .int a3] (ax_C dC dI sz wx tx (fun _ => True))) (va_Qi (fun (_ : Int32) (_ : Unit) => True) (fun _ t => ∃ wx9 ty9, (∃ vi1 vf1, (∀ k9 : Nat, k9 ∉ ([0, 9, 14, 15, 16, 17] : List Nat) → vi1 k9 = vi k9) ∧ (∀ k9 : Nat, k9 ∉ ([5, 8, 9, 11, 12] : List Nat) → vf1 k9 = vf k9) ∧ IMv x tp vi1 vf1 wx9 ty9) ∧ ax_B dC dI (va_A wx sz) wx9 ty9 t) (va_A wx sz)) 0 0 (va_A wx sz) := by
  sorry

set_option maxHeartbeats 4000000 in
set_option maxRecDepth 100000 in
theorem k_X7_stand (l : Launch) (dC : Nat → ClassId) (dI : Nat → Nat → Nat) (sz : Nat) (x : Nat) (tp : Int32) (vi : Nat → Int32) (vf : Nat → Nat → Int32) (wx : va_W) (tx : List (ClassId × FieldType)) (h : IXv x tp vi vf wx tx) (a1 : Int32) : Met l yX7_stand wsX7_stand ({ frames := 6, cells := 0, slots := 0, locals := 141 }) (va_Pc [.ref x, .int a1] (ax_C dC dI sz wx tx (fun U => va_Nw (.methodLinkNest RX0 118 yX7_within RX7) U ∧ va_Nw (.methodLinkNest RX5 38 yX7_hasBit RX7) U ∧ va_Nw (.methodLinkNest RX0 129 yX7_hasBit RX7) U ∧ va_Nw (.methodLinkNest RX4 18 yX7_within RX7) U))) (va_Qi (fun (_ : Int32) (_ : Unit) => True) (fun _ t => ∃ wx9 ty9, (∃ vi1 vf1, (∀ k9 : Nat, k9 ∉ ([0, 17, 18, 19, 20, 21, 32] : List Nat) → vi1 k9 = vi k9) ∧ (∀ k9 : Nat, k9 ∉ ([3, 4, 9, 10] : List Nat) → vf1 k9 = vf k9) ∧ IXv x tp vi1 vf1 wx9 ty9) ∧ ax_B dC dI (va_A wx sz) wx9 ty9 t) (va_A wx sz)) 0 0 (va_A wx sz) := by
  sorry

set_option maxHeartbeats 4000000 in
set_option maxRecDepth 100000 in
theorem k_X8_stand (l : Launch) (dC : Nat → ClassId) (dI : Nat → Nat → Nat) (sz : Nat) (x : Nat) (tp : Int32) (vi : Nat → Int32) (vf : Nat → Nat → Int32) (wx : va_W) (tx : List (ClassId × FieldType)) (h : IMv x tp vi vf wx tx) (a1 : Int32) : Met l yX8_stand wsX8_stand ({ frames := 5, cells := 0, slots := 0, locals := 118 }) (va_Pc [.ref x, .int a1] (ax_C dC dI sz wx tx (fun _ => True))) (va_Qi (fun (_ : Int32) (_ : Unit) => True) (fun _ t => ∃ wx9 ty9, (∃ vi1 vf1, (∀ k9 : Nat, k9 ∉ ([0, 9, 14, 15, 16, 17] : List Nat) → vi1 k9 = vi k9) ∧ (∀ k9 : Nat, k9 ∉ ([5, 8, 9, 11, 12] : List Nat) → vf1 k9 = vf k9) ∧ IMv x tp vi1 vf1 wx9 ty9) ∧ ax_B dC dI (va_A wx sz) wx9 ty9 t) (va_A wx sz)) 0 0 (va_A wx sz) := by
  sorry

set_option maxHeartbeats 4000000 in
set_option maxRecDepth 100000 in
theorem k_X7_guard (l : Launch) (dC : Nat → ClassId) (dI : Nat → Nat → Nat) (sz : Nat) (x : Nat) (tp : Int32) (vi : Nat → Int32) (vf : Nat → Nat → Int32) (wx : va_W) (tx : List (ClassId × FieldType)) (h : IXv x tp vi vf wx tx) (a1 : Int32) : Met l yX7_guard wsX7_guard ({ frames := 6, cells := 0, slots := 0, locals := 144 }) (va_Pc [.ref x, .int a1] (ax_C dC dI sz wx tx (fun U => va_Nw (.methodLinkNest RX0 118 yX7_within RX7) U ∧ va_Nw (.methodLinkNest RX5 38 yX7_hasBit RX7) U ∧ va_Nw (.methodLinkNest RX0 129 yX7_hasBit RX7) U))) (va_Qi (fun (_ : Int32) (_ : Unit) => True) (fun _ t => ∃ wx9 ty9, (∃ vi1 vf1, (∀ k9 : Nat, k9 ∉ ([0, 17, 18, 19, 20, 21, 22, 23] : List Nat) → vi1 k9 = vi k9) ∧ (∀ k9 : Nat, k9 ∉ ([3, 4, 5, 6] : List Nat) → vf1 k9 = vf k9) ∧ IXv x tp vi1 vf1 wx9 ty9) ∧ ax_B dC dI (va_A wx sz) wx9 ty9 t) (va_A wx sz)) 0 0 (va_A wx sz) := by
  sorry

set_option maxHeartbeats 4000000 in
set_option maxRecDepth 100000 in
theorem k_X8_guard (l : Launch) (dC : Nat → ClassId) (dI : Nat → Nat → Nat) (sz : Nat) (x : Nat) (tp : Int32) (vi : Nat → Int32) (vf : Nat → Nat → Int32) (wx : va_W) (tx : List (ClassId × FieldType)) (h : IMv x tp vi vf wx tx) (a1 : Int32) : Met l yX8_guard wsX8_guard ({ frames := 4, cells := 0, slots := 0, locals := 95 }) (va_Pc [.ref x, .int a1] (ax_C dC dI sz wx tx (fun _ => True))) (va_Qi (fun (_ : Int32) (_ : Unit) => True) (fun _ t => ∃ wx9 ty9, (∃ vi1 vf1, (∀ k9 : Nat, k9 ∉ ([0, 9, 14, 15, 16, 17] : List Nat) → vi1 k9 = vi k9) ∧ (∀ k9 : Nat, k9 ∉ ([5, 8, 9] : List Nat) → vf1 k9 = vf k9) ∧ IMv x tp vi1 vf1 wx9 ty9) ∧ ax_B dC dI (va_A wx sz) wx9 ty9 t) (va_A wx sz)) 0 0 (va_A wx sz) := by
  sorry

set_option maxHeartbeats 4000000 in
set_option maxRecDepth 100000 in
theorem k_X7_windBest (l : Launch) (dC : Nat → ClassId) (dI : Nat → Nat → Nat) (sz : Nat) (x : Nat) (tp : Int32) (vi : Nat → Int32) (vf : Nat → Nat → Int32) (wx : va_W) (tx : List (ClassId × FieldType)) (h : IXv x tp vi vf wx tx) : Met l yX7_windBest wsX7_windBest ({ frames := 5, cells := 0, slots := 0, locals := 122 }) (va_Pc [.ref x] (ax_C dC dI sz wx tx (fun U => va_Nw (.methodLinkNest RX0 118 yX7_within RX7) U ∧ va_Nw (.methodLinkNest RX5 38 yX7_hasBit RX7) U ∧ va_Nw (.methodLinkNest RX0 129 yX7_hasBit RX7) U))) (va_Qi (fun (_ : Int32) (_ : Unit) => True) (fun _ t => ∃ wx9 ty9, (∃ vi1 vf1, (∀ k9 : Nat, k9 ∉ ([0, 17, 18, 19, 20, 21] : List Nat) → vi1 k9 = vi k9) ∧ (∀ k9 : Nat, k9 ∉ ([3, 4] : List Nat) → vf1 k9 = vf k9) ∧ IXv x tp vi1 vf1 wx9 ty9) ∧ ax_B dC dI (va_A wx sz) wx9 ty9 t) (va_A wx sz)) 0 0 (va_A wx sz) := by
  sorry

set_option maxHeartbeats 4000000 in
set_option maxRecDepth 100000 in
theorem k_X8_windBest (l : Launch) (dC : Nat → ClassId) (dI : Nat → Nat → Nat) (sz : Nat) (x : Nat) (tp : Int32) (vi : Nat → Int32) (vf : Nat → Nat → Int32) (wx : va_W) (tx : List (ClassId × FieldType)) (h : IMv x tp vi vf wx tx) : Met l yX8_windBest wsX8_windBest ({ frames := 5, cells := 0, slots := 0, locals := 117 }) (va_Pc [.ref x] (ax_C dC dI sz wx tx (fun _ => True))) (va_Qi (fun (_ : Int32) (_ : Unit) => True) (fun _ t => ∃ wx9 ty9, (∃ vi1 vf1, (∀ k9 : Nat, k9 ∉ ([0, 9, 14, 15, 16, 17] : List Nat) → vi1 k9 = vi k9) ∧ (∀ k9 : Nat, k9 ∉ ([5, 8, 9] : List Nat) → vf1 k9 = vf k9) ∧ IMv x tp vi1 vf1 wx9 ty9) ∧ ax_B dC dI (va_A wx sz) wx9 ty9 t) (va_A wx sz)) 0 0 (va_A wx sz) := by
  sorry

set_option maxHeartbeats 4000000 in
set_option maxRecDepth 100000 in
theorem k_X7_patrol (l : Launch) (dC : Nat → ClassId) (dI : Nat → Nat → Nat) (sz : Nat) (x : Nat) (tp : Int32) (vi : Nat → Int32) (vf : Nat → Nat → Int32) (wx : va_W) (tx : List (ClassId × FieldType)) (h : IXv x tp vi vf wx tx) (a1 : Int32) (a2 : Int32) : Met l yX7_patrol wsX7_patrol ({ frames := 5, cells := 0, slots := 0, locals := 120 }) (va_Pc [.ref x, .int a1, .int a2] (ax_C dC dI sz wx tx (fun U => va_Nw (.methodLinkNest RX0 118 yX7_within RX7) U ∧ va_Nw (.methodLinkNest RX5 38 yX7_hasBit RX7) U ∧ va_Nw (.methodLinkNest RX0 129 yX7_hasBit RX7) U))) (va_Qi (fun (_ : Int32) (_ : Unit) => True) (fun _ t => ∃ wx9 ty9, (∃ vi1 vf1, (∀ k9 : Nat, k9 ∉ ([0, 17, 18, 19, 20, 21, 22, 23] : List Nat) → vi1 k9 = vi k9) ∧ (∀ k9 : Nat, k9 ∉ ([3, 4, 5, 6] : List Nat) → vf1 k9 = vf k9) ∧ IXv x tp vi1 vf1 wx9 ty9) ∧ ax_B dC dI (va_A wx sz) wx9 ty9 t) (va_A wx sz)) 0 0 (va_A wx sz) := by
  sorry

set_option maxHeartbeats 4000000 in
set_option maxRecDepth 100000 in
theorem k_X8_patrol (l : Launch) (dC : Nat → ClassId) (dI : Nat → Nat → Nat) (sz : Nat) (x : Nat) (tp : Int32) (vi : Nat → Int32) (vf : Nat → Nat → Int32) (wx : va_W) (tx : List (ClassId × FieldType)) (h : IMv x tp vi vf wx tx) (a1 : Int32) (a2 : Int32) : Met l yX8_patrol wsX8_patrol ({ frames := 4, cells := 0, slots := 0, locals := 95 }) (va_Pc [.ref x, .int a1, .int a2] (ax_C dC dI sz wx tx (fun _ => True))) (va_Qi (fun (_ : Int32) (_ : Unit) => True) (fun _ t => ∃ wx9 ty9, (∃ vi1 vf1, (∀ k9 : Nat, k9 ∉ ([0, 9, 14, 15, 16, 17] : List Nat) → vi1 k9 = vi k9) ∧ (∀ k9 : Nat, k9 ∉ ([5, 8, 9] : List Nat) → vf1 k9 = vf k9) ∧ IMv x tp vi1 vf1 wx9 ty9) ∧ ax_B dC dI (va_A wx sz) wx9 ty9 t) (va_A wx sz)) 0 0 (va_A wx sz) := by
  sorry

set_option maxHeartbeats 4000000 in
set_option maxRecDepth 100000 in
theorem k_X7_fits (l : Launch) (dC : Nat → ClassId) (dI : Nat → Nat → Nat) (sz : Nat) (x : Nat) (tp : Int32) (vi : Nat → Int32) (vf : Nat → Nat → Int32) (wx : va_W) (tx : List (ClassId × FieldType)) (h : IXv x tp vi vf wx tx) : Met l yX7_fits wsX7_fits ({ frames := 4, cells := 0, slots := 0, locals := 98 }) (va_Pc [.ref x] (ax_C dC dI sz wx tx (fun U => va_Nw (.methodLinkNest RX0 72 yX7_laterTurn RX7) U))) (va_Qi (fun (_ : Int32) (_ : Unit) => True) (fun _ t => ∃ wx9 ty9, (∃ vi1 vf1, (∀ k9 : Nat, k9 ∉ ([0, 27, 30] : List Nat) → vi1 k9 = vi k9) ∧ (∀ k9 : Nat, k9 ∉ ([7] : List Nat) → vf1 k9 = vf k9) ∧ IXv x tp vi1 vf1 wx9 ty9) ∧ ax_B dC dI (va_A wx sz) wx9 ty9 t) (va_A wx sz)) 0 0 (va_A wx sz) := by
  sorry

set_option maxHeartbeats 4000000 in
set_option maxRecDepth 100000 in
theorem k_X8_fits (l : Launch) (dC : Nat → ClassId) (dI : Nat → Nat → Nat) (sz : Nat) (x : Nat) (tp : Int32) (vi : Nat → Int32) (vf : Nat → Nat → Int32) (wx : va_W) (tx : List (ClassId × FieldType)) (h : IMv x tp vi vf wx tx) : Met l yX8_fits wsX8_fits ({ frames := 3, cells := 0, slots := 0, locals := 72 }) (va_Pc [.ref x] (ax_C dC dI sz wx tx (fun _ => True))) (va_Qi (fun (_ : Int32) (_ : Unit) => True) (fun _ t => ∃ wx9 ty9, (∃ vi1 vf1, (∀ k9 : Nat, k9 ∉ ([0, 9] : List Nat) → vi1 k9 = vi k9) ∧ (∀ k9 : Nat, k9 ∉ ([13] : List Nat) → vf1 k9 = vf k9) ∧ IMv x tp vi1 vf1 wx9 ty9) ∧ ax_B dC dI (va_A wx sz) wx9 ty9 t) (va_A wx sz)) 0 0 (va_A wx sz) := by
  sorry

set_option maxHeartbeats 4000000 in
set_option maxRecDepth 100000 in
theorem k_X7_fitAt (l : Launch) (dC : Nat → ClassId) (dI : Nat → Nat → Nat) (sz : Nat) (x : Nat) (tp : Int32) (vi : Nat → Int32) (vf : Nat → Nat → Int32) (wx : va_W) (tx : List (ClassId × FieldType)) (h : IXv x tp vi vf wx tx) (a1 : Int32) : Met l yX7_fitAt wsX7_fitAt ({ frames := 4, cells := 0, slots := 0, locals := 98 }) (va_Pc [.ref x, .int a1] (ax_C dC dI sz wx tx (fun U => va_Nw (.methodLinkNest RX0 72 yX7_laterTurn RX7) U))) (va_Qi (fun (_ : Int32) (_ : Unit) => True) (fun _ t => ∃ wx9 ty9, (∃ vi1 vf1, (∀ k9 : Nat, k9 ∉ ([0, 27, 30] : List Nat) → vi1 k9 = vi k9) ∧ (∀ k9 : Nat, k9 ∉ ([7] : List Nat) → vf1 k9 = vf k9) ∧ IXv x tp vi1 vf1 wx9 ty9) ∧ ax_B dC dI (va_A wx sz) wx9 ty9 t) (va_A wx sz)) 0 0 (va_A wx sz) := by
  sorry

set_option maxHeartbeats 4000000 in
set_option maxRecDepth 100000 in
theorem k_X8_fitAt (l : Launch) (dC : Nat → ClassId) (dI : Nat → Nat → Nat) (sz : Nat) (x : Nat) (tp : Int32) (vi : Nat → Int32) (vf : Nat → Nat → Int32) (wx : va_W) (tx : List (ClassId × FieldType)) (h : IMv x tp vi vf wx tx) (a1 : Int32) : Met l yX8_fitAt wsX8_fitAt ({ frames := 3, cells := 0, slots := 0, locals := 72 }) (va_Pc [.ref x, .int a1] (ax_C dC dI sz wx tx (fun _ => True))) (va_Qi (fun (_ : Int32) (_ : Unit) => True) (fun _ t => ∃ wx9 ty9, (∃ vi1 vf1, (∀ k9 : Nat, k9 ∉ ([0, 9] : List Nat) → vi1 k9 = vi k9) ∧ (∀ k9 : Nat, k9 ∉ ([13] : List Nat) → vf1 k9 = vf k9) ∧ IMv x tp vi1 vf1 wx9 ty9) ∧ ax_B dC dI (va_A wx sz) wx9 ty9 t) (va_A wx sz)) 0 0 (va_A wx sz) := by
  sorry

set_option maxHeartbeats 4000000 in
set_option maxRecDepth 100000 in
theorem k_X7_could (l : Launch) (dC : Nat → ClassId) (dI : Nat → Nat → Nat) (sz : Nat) (x : Nat) (tp : Int32) (vi : Nat → Int32) (vf : Nat → Nat → Int32) (wx : va_W) (tx : List (ClassId × FieldType)) (h : IXv x tp vi vf wx tx) (a1 : Int32) : Met l yX7_could wsX7_could ({ frames := 4, cells := 0, slots := 0, locals := 98 }) (va_Pc [.ref x, .int a1] (ax_C dC dI sz wx tx (fun U => va_Nw (.methodLinkNest RX0 72 yX7_laterTurn RX7) U))) (va_Qi (fun (_ : Int32) (_ : Unit) => True) (fun _ t => ∃ wx9 ty9, (∃ vi1 vf1, (∀ k9 : Nat, k9 ∉ ([0, 27, 30] : List Nat) → vi1 k9 = vi k9) ∧ (∀ k9 : Nat, k9 ∉ ([7] : List Nat) → vf1 k9 = vf k9) ∧ IXv x tp vi1 vf1 wx9 ty9) ∧ ax_B dC dI (va_A wx sz) wx9 ty9 t) (va_A wx sz)) 0 0 (va_A wx sz) := by
  sorry

set_option maxHeartbeats 4000000 in
set_option maxRecDepth 100000 in
theorem k_X8_could (l : Launch) (dC : Nat → ClassId) (dI : Nat → Nat → Nat) (sz : Nat) (x : Nat) (tp : Int32) (vi : Nat → Int32) (vf : Nat → Nat → Int32) (wx : va_W) (tx : List (ClassId × FieldType)) (h : IMv x tp vi vf wx tx) (a1 : Int32) : Met l yX8_could wsX8_could ({ frames := 4, cells := 0, slots := 0, locals := 94 }) (va_Pc [.ref x, .int a1] (ax_C dC dI sz wx tx (fun _ => True))) (va_Qi (fun (_ : Int32) (_ : Unit) => True) (fun _ t => ∃ wx9 ty9, (∃ vi1 vf1, (∀ k9 : Nat, k9 ∉ ([0, 9] : List Nat) → vi1 k9 = vi k9) ∧ (∀ k9 : Nat, k9 ∉ ([13, 14] : List Nat) → vf1 k9 = vf k9) ∧ IMv x tp vi1 vf1 wx9 ty9) ∧ ax_B dC dI (va_A wx sz) wx9 ty9 t) (va_A wx sz)) 0 0 (va_A wx sz) := by
  sorry

set_option maxHeartbeats 4000000 in
set_option maxRecDepth 100000 in
theorem k_X7_aliveBy (l : Launch) (dC : Nat → ClassId) (dI : Nat → Nat → Nat) (sz : Nat) (x : Nat) (tp : Int32) (vi : Nat → Int32) (vf : Nat → Nat → Int32) (wx : va_W) (tx : List (ClassId × FieldType)) (h : IXv x tp vi vf wx tx) (a1 : Int32) (a2 : Int32) : Met l yX7_aliveBy wsX7_aliveBy ({ frames := 4, cells := 0, slots := 0, locals := 98 }) (va_Pc [.ref x, .int a1, .int a2] (ax_C dC dI sz wx tx (fun U => va_Nw (.methodLinkNest RX0 72 yX7_laterTurn RX7) U))) (va_Qi (fun (_ : Int32) (_ : Unit) => True) (fun _ t => ∃ wx9 ty9, (∃ vi1 vf1, (∀ k9 : Nat, k9 ∉ ([0, 27, 30] : List Nat) → vi1 k9 = vi k9) ∧ (∀ k9 : Nat, k9 ∉ ([7] : List Nat) → vf1 k9 = vf k9) ∧ IXv x tp vi1 vf1 wx9 ty9) ∧ ax_B dC dI (va_A wx sz) wx9 ty9 t) (va_A wx sz)) 0 0 (va_A wx sz) := by
  sorry

set_option maxHeartbeats 4000000 in
set_option maxRecDepth 100000 in
theorem k_X8_aliveBy (l : Launch) (dC : Nat → ClassId) (dI : Nat → Nat → Nat) (sz : Nat) (x : Nat) (tp : Int32) (vi : Nat → Int32) (vf : Nat → Nat → Int32) (wx : va_W) (tx : List (ClassId × FieldType)) (h : IMv x tp vi vf wx tx) (a1 : Int32) (a2 : Int32) : Met l yX8_aliveBy wsX8_aliveBy ({ frames := 4, cells := 0, slots := 0, locals := 94 }) (va_Pc [.ref x, .int a1, .int a2] (ax_C dC dI sz wx tx (fun _ => True))) (va_Qi (fun (_ : Int32) (_ : Unit) => True) (fun _ t => ∃ wx9 ty9, (∃ vi1 vf1, (∀ k9 : Nat, k9 ∉ ([0, 9] : List Nat) → vi1 k9 = vi k9) ∧ (∀ k9 : Nat, k9 ∉ ([13, 14] : List Nat) → vf1 k9 = vf k9) ∧ IMv x tp vi1 vf1 wx9 ty9) ∧ ax_B dC dI (va_A wx sz) wx9 ty9 t) (va_A wx sz)) 0 0 (va_A wx sz) := by
  sorry

set_option maxHeartbeats 4000000 in
set_option maxRecDepth 100000 in
theorem k_X7_look (l : Launch) (dC : Nat → ClassId) (dI : Nat → Nat → Nat) (sz : Nat) (x : Nat) (tp : Int32) (vi : Nat → Int32) (vf : Nat → Nat → Int32) (wx : va_W) (tx : List (ClassId × FieldType)) (h : IXv x tp vi vf wx tx) : Met l yX7_look wsX7_look ({ frames := 5, cells := 0, slots := 0, locals := 122 }) (va_Pc [.ref x] (ax_C dC dI sz wx tx (fun U => va_Nw (.methodLinkNest RX0 72 yX7_laterTurn RX7) U))) (va_Qi (fun (_ : Int32) (_ : Unit) => True) (fun _ t => ∃ wx9 ty9, (∃ vi1 vf1, (∀ k9 : Nat, k9 ∉ ([0, 27, 28, 29, 30, 31] : List Nat) → vi1 k9 = vi k9) ∧ (∀ k9 : Nat, k9 ∉ ([7, 8] : List Nat) → vf1 k9 = vf k9) ∧ IXv x tp vi1 vf1 wx9 ty9) ∧ ax_B dC dI (va_A wx sz) wx9 ty9 t) (va_A wx sz)) 0 0 (va_A wx sz) := by
  sorry

set_option maxHeartbeats 4000000 in
set_option maxRecDepth 100000 in
theorem k_X8_look (l : Launch) (dC : Nat → ClassId) (dI : Nat → Nat → Nat) (sz : Nat) (x : Nat) (tp : Int32) (vi : Nat → Int32) (vf : Nat → Nat → Int32) (wx : va_W) (tx : List (ClassId × FieldType)) (h : IMv x tp vi vf wx tx) : Met l yX8_look wsX8_look ({ frames := 5, cells := 0, slots := 0, locals := 118 }) (va_Pc [.ref x] (ax_C dC dI sz wx tx (fun _ => True))) (va_Qi (fun (_ : Int32) (_ : Unit) => True) (fun _ t => ∃ wx9 ty9, (∃ vi1 vf1, (∀ k9 : Nat, k9 ∉ ([0, 9, 20] : List Nat) → vi1 k9 = vi k9) ∧ (∀ k9 : Nat, k9 ∉ ([13, 14] : List Nat) → vf1 k9 = vf k9) ∧ IMv x tp vi1 vf1 wx9 ty9) ∧ ax_B dC dI (va_A wx sz) wx9 ty9 t) (va_A wx sz)) 0 0 (va_A wx sz) := by
  sorry
