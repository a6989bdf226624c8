set_option maxRecDepth 20000 in
theorem gX0_init_X6_init : GoodIn wsX0_init (wsX6_init) := goodIn_r _ [15, 16, 2, 3, 4, 17, 18, 34, 35, 36, 37] rfl (by decide +kernel)
set_option maxRecDepth 20000 in
theorem gX1_init_X5_init : GoodIn wsX1_init (wsX5_init) := goodIn_r _ [11, 12, 2, 3, 13, 14, 15, 21, 22, 23, 24, 25, 26, 27] rfl (by decide +kernel)
set_option maxRecDepth 20000 in
theorem gX3_init_X0_init : GoodIn wsX3_init (wsX0_init) := goodIn_r _ [14, 15, 2, 3, 16, 17, 18, 19, 20, 21, 22, 23, 24, 25, 26, 27, 28, 29, 30, 45, 46, 47, 48, 49, 50, 51, 52, 53, 54, 55, 56, 57, 58, 59, 60, 61, 62, 63] rfl (by decide +kernel)
set_option maxRecDepth 20000 in
theorem gX7_init_X3_init : GoodIn wsX7_init (wsX3_init) := goodIn_r _ [38, 39, 2, 3, 40, 41, 42, 43, 44, 30, 31, 45, 46, 47, 48, 49, 50, 51, 52, 53, 54, 55, 14, 15, 56, 57, 58, 59, 60, 61, 62, 91, 92, 93, 94, 95, 96, 97, 98, 99, 100, 101, 102, 103, 104, 142, 143, 144, 145, 146, 147, 148, 149, 150, 151, 152, 153, 154, 155, 156, 123, 124, 125, 126] rfl (by decide +kernel)
set_option maxRecDepth 20000 in
theorem gX7_init_X5_init : GoodIn wsX7_init (wsX5_init) := goodIn_r _ [65, 66, 2, 3, 50, 67, 68, 116, 117, 118, 119, 120, 121, 122] rfl (by decide +kernel)
set_option maxRecDepth 20000 in
theorem gX7_init_X6_init : GoodIn wsX7_init (wsX6_init) := goodIn_r _ [59, 60, 2, 3, 50, 61, 62, 123, 124, 125, 126] rfl (by decide +kernel)
set_option maxRecDepth 20000 in
theorem gX7_init_X1_init : GoodIn wsX7_init (wsX1_init) := goodIn_r _ [72, 73, 2, 3, 74, 75, 9, 10, 76, 77, 64, 65, 66, 50, 67, 68, 127, 128, 129, 130, 131, 116, 117, 118, 119, 120, 121, 122] rfl (by decide +kernel)
set_option maxRecDepth 20000 in
theorem gX7_init_X2_init : GoodIn wsX7_init (wsX2_init) := goodIn_r _ [80, 81, 2, 3, 50, 82, 83, 132, 133, 134, 135, 136, 137, 138] rfl (by decide +kernel)
set_option maxRecDepth 20000 in
theorem gX7_init_X4_init : GoodIn wsX7_init (wsX4_init) := goodIn_r _ [86, 87, 2, 3, 50, 88, 89, 139, 140, 141] rfl (by decide +kernel)
set_option maxRecDepth 20000 in
theorem gX7_init_X0_init : GoodIn wsX7_init (wsX0_init) := goodIn_r _ [48, 49, 2, 3, 50, 51, 52, 53, 54, 55, 14, 15, 56, 57, 58, 59, 60, 61, 62, 142, 143, 144, 145, 146, 147, 148, 149, 150, 151, 152, 153, 154, 155, 156, 123, 124, 125, 126] rfl (by decide +kernel)
theorem ocXX0_init : (Cond.code objectInit ⟨#[0xb1]⟩ 1 none) ∈ wsX0_init := List.mem_of_getElem? (i := 3) rfl
theorem ocXX1_init : (Cond.code objectInit ⟨#[0xb1]⟩ 1 none) ∈ wsX1_init := List.mem_of_getElem? (i := 3) rfl
theorem ocXX2_init : (Cond.code objectInit ⟨#[0xb1]⟩ 1 none) ∈ wsX2_init := List.mem_of_getElem? (i := 3) rfl
theorem ocXX3_init : (Cond.code objectInit ⟨#[0xb1]⟩ 1 none) ∈ wsX3_init := List.mem_of_getElem? (i := 3) rfl
theorem ocXX4_init : (Cond.code objectInit ⟨#[0xb1]⟩ 1 none) ∈ wsX4_init := List.mem_of_getElem? (i := 3) rfl
theorem ocXX5_init : (Cond.code objectInit ⟨#[0xb1]⟩ 1 none) ∈ wsX5_init := List.mem_of_getElem? (i := 3) rfl
theorem ocXX6_init : (Cond.code objectInit ⟨#[0xb1]⟩ 1 none) ∈ wsX6_init := List.mem_of_getElem? (i := 3) rfl
theorem ocXX7_init : (Cond.code objectInit ⟨#[0xb1]⟩ 1 none) ∈ wsX7_init := List.mem_of_getElem? (i := 3) rfl
theorem ocXX8_init : (Cond.code objectInit ⟨#[0xb1]⟩ 1 none) ∈ wsX8_init := List.mem_of_getElem? (i := 3) rfl
