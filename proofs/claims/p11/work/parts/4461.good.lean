set_option maxRecDepth 20000 in
theorem gX0_init_X6_init : GoodIn wsX0_init (wsX6_init) := goodIn_s _ [(15, 2), (2, 3), (17, 2), (34, 4)] rfl (by decide +kernel)
set_option maxRecDepth 20000 in
theorem gX1_init_X5_init : GoodIn wsX1_init (wsX5_init) := goodIn_s _ [(11, 2), (2, 2), (13, 3), (21, 7)] rfl (by decide +kernel)
set_option maxRecDepth 20000 in
theorem gX3_init_X0_init : GoodIn wsX3_init (wsX0_init) := goodIn_s _ [(14, 2), (2, 2), (16, 15), (45, 19)] rfl (by decide +kernel)
set_option maxRecDepth 20000 in
theorem gX7_init_X3_init : GoodIn wsX7_init (wsX3_init) := goodIn_s _ [(38, 2), (2, 2), (40, 5), (30, 2), (45, 11), (14, 2), (56, 7), (91, 14), (142, 15), (123, 4)] rfl (by decide +kernel)
set_option maxRecDepth 20000 in
theorem gX7_init_X5_init : GoodIn wsX7_init (wsX5_init) := goodIn_s _ [(65, 2), (2, 2), (50, 1), (67, 2), (116, 7)] rfl (by decide +kernel)
set_option maxRecDepth 20000 in
theorem gX7_init_X6_init : GoodIn wsX7_init (wsX6_init) := goodIn_s _ [(59, 2), (2, 2), (50, 1), (61, 2), (123, 4)] rfl (by decide +kernel)
set_option maxRecDepth 20000 in
theorem gX7_init_X1_init : GoodIn wsX7_init (wsX1_init) := goodIn_s _ [(72, 2), (2, 2), (74, 2), (9, 2), (76, 2), (64, 3), (50, 1), (67, 2), (127, 5), (116, 7)] rfl (by decide +kernel)
set_option maxRecDepth 20000 in
theorem gX7_init_X2_init : GoodIn wsX7_init (wsX2_init) := goodIn_s _ [(80, 2), (2, 2), (50, 1), (82, 2), (132, 7)] rfl (by decide +kernel)
set_option maxRecDepth 20000 in
theorem gX7_init_X4_init : GoodIn wsX7_init (wsX4_init) := goodIn_s _ [(86, 2), (2, 2), (50, 1), (88, 2), (139, 3)] rfl (by decide +kernel)
set_option maxRecDepth 20000 in
theorem gX7_init_X0_init : GoodIn wsX7_init (wsX0_init) := goodIn_s _ [(48, 2), (2, 2), (50, 6), (14, 2), (56, 7), (142, 15), (123, 4)] rfl (by decide +kernel)
theorem ocXX0_init : (Cond.code objectInit ⟨#[0xb1]⟩ 1 none) ∈ wsX0_init := List.mem_of_getElem? (i := 3) rfl
theorem ocXX1_init : (Cond.code objectInit ⟨#[0xb1]⟩ 1 none) ∈ wsX1_init := List.mem_of_getElem? (i := 3) rfl
theorem ocXX2_init : (Cond.code objectInit ⟨#[0xb1]⟩ 1 none) ∈ wsX2_init := List.mem_of_getElem? (i := 3) rfl
theorem ocXX3_init : (Cond.code objectInit ⟨#[0xb1]⟩ 1 none) ∈ wsX3_init := List.mem_of_getElem? (i := 3) rfl
theorem ocXX4_init : (Cond.code objectInit ⟨#[0xb1]⟩ 1 none) ∈ wsX4_init := List.mem_of_getElem? (i := 3) rfl
theorem ocXX5_init : (Cond.code objectInit ⟨#[0xb1]⟩ 1 none) ∈ wsX5_init := List.mem_of_getElem? (i := 3) rfl
theorem ocXX6_init : (Cond.code objectInit ⟨#[0xb1]⟩ 1 none) ∈ wsX6_init := List.mem_of_getElem? (i := 3) rfl
theorem ocXX7_init : (Cond.code objectInit ⟨#[0xb1]⟩ 1 none) ∈ wsX7_init := List.mem_of_getElem? (i := 3) rfl
theorem ocXX8_init : (Cond.code objectInit ⟨#[0xb1]⟩ 1 none) ∈ wsX8_init := List.mem_of_getElem? (i := 3) rfl
