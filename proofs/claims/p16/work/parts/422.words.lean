def wlB : List (List Cond) := [k2_sels lw_privs, tables_1_1, tables_1_2, tables_1_3, tables_1_4, tables_1_5, tables_1_6, tables_1_7, tables_1_8]
theorem wlB_in : ∀ c ∈ wlB, ∀ w ∈ c, w ∈ lw_tbl := by
  unfold wlB
  exact List.forall_mem_cons.mpr ⟨fun _ h => List.mem_append_left _ h, List.forall_mem_cons.mpr ⟨fun _ h => List.mem_append_right _ (List.mem_append_left _ h), List.forall_mem_cons.mpr ⟨fun _ h => List.mem_append_right _ (List.mem_append_right _ (List.mem_append_left _ h)), List.forall_mem_cons.mpr ⟨fun _ h => List.mem_append_right _ (List.mem_append_right _ (List.mem_append_right _ (List.mem_append_left _ h))), List.forall_mem_cons.mpr ⟨fun _ h => List.mem_append_right _ (List.mem_append_right _ (List.mem_append_right _ (List.mem_append_right _ (List.mem_append_left _ h)))), List.forall_mem_cons.mpr ⟨fun _ h => List.mem_append_right _ (List.mem_append_right _ (List.mem_append_right _ (List.mem_append_right _ (List.mem_append_right _ (List.mem_append_left _ h))))), List.forall_mem_cons.mpr ⟨fun _ h => List.mem_append_right _ (List.mem_append_right _ (List.mem_append_right _ (List.mem_append_right _ (List.mem_append_right _ (List.mem_append_right _ (List.mem_append_left _ h)))))), List.forall_mem_cons.mpr ⟨fun _ h => List.mem_append_right _ (List.mem_append_right _ (List.mem_append_right _ (List.mem_append_right _ (List.mem_append_right _ (List.mem_append_right _ (List.mem_append_right _ (List.mem_append_left _ h))))))), List.forall_mem_cons.mpr ⟨fun _ h => List.mem_append_right _ (List.mem_append_right _ (List.mem_append_right _ (List.mem_append_right _ (List.mem_append_right _ (List.mem_append_right _ (List.mem_append_right _ (List.mem_append_right _ h))))))), fun _ h => absurd h List.not_mem_nil⟩⟩⟩⟩⟩⟩⟩⟩⟩
theorem wl_of2 {ws : List Cond} (ps : List (Nat × Nat)) (h : ws = ps.filterMap (fun q => (wlB[q.1]?).bind (fun c => c[q.2]?))) : ∀ w ∈ ws, w ∈ lw_tbl := by
  intro w hw
  rw [h] at hw
  obtain ⟨q, -, hq⟩ := List.mem_filterMap.mp hw
  obtain ⟨c, hc, hj⟩ := Option.bind_eq_some_iff.mp hq
  exact wlB_in c (List.mem_of_getElem? hc) w (List.mem_of_getElem? hj)
set_option maxRecDepth 20000 in
theorem wl_wsL_law0_r1 : ∀ w ∈ wsL_law0_r1, w ∈ lw_tbl := wl_of2 [(1, 20), (1, 21), (1, 1), (5, 122), (5, 123), (1, 9), (1, 66), (1, 22), (1, 23), (1, 24), (1, 25), (1, 26), (1, 27), (1, 28), (1, 29), (1, 2), (2, 69), (1, 188), (1, 189), (1, 5), (2, 70), (2, 71), (1, 230), (1, 41)] rfl
set_option maxRecDepth 20000 in
theorem wl_wsL_law0_r2 : ∀ w ∈ wsL_law0_r2, w ∈ lw_tbl := wl_of2 [(1, 4), (2, 72), (1, 232), (1, 233), (1, 6), (2, 73), (2, 19), (2, 20), (1, 7), (2, 74), (2, 51), (2, 52), (1, 8), (2, 75), (2, 67), (1, 35), (1, 3), (2, 76), (2, 77), (2, 78), (2, 79), (1, 30), (1, 31), (1, 32)] rfl
set_option maxRecDepth 20000 in
theorem wl_wsL_law0_r3 : ∀ w ∈ wsL_law0_r3, w ∈ lw_tbl := wl_of2 [(1, 33), (1, 65), (1, 148), (1, 149), (1, 34), (1, 150), (1, 36), (1, 37), (1, 38), (1, 39), (1, 67), (1, 98), (1, 100), (1, 102), (1, 105), (1, 40), (1, 108), (1, 42), (1, 43), (1, 44), (1, 45), (1, 52), (1, 54), (1, 190)] rfl
set_option maxRecDepth 20000 in
theorem wl_wsL_law0_r4 : ∀ w ∈ wsL_law0_r4, w ∈ lw_tbl := wl_of2 [(1, 191), (1, 192), (1, 193), (1, 209), (1, 212), (1, 231), (1, 234), (1, 235), (1, 236), (1, 237), (1, 238), (2, 6), (2, 7), (2, 0), (2, 21), (2, 22), (2, 23), (2, 24), (2, 31), (2, 33), (2, 53), (2, 54), (2, 55), (2, 56)] rfl
set_option maxRecDepth 20000 in
theorem wl_wsL_law0_r5 : ∀ w ∈ wsL_law0_r5, w ∈ lw_tbl := wl_of2 [(2, 58), (2, 59), (2, 68), (5, 124), (5, 125), (5, 126), (5, 127), (5, 129), (5, 138), (5, 140), (5, 143), (5, 144), (5, 145), (5, 146), (5, 147), (5, 148), (5, 151), (5, 152), (5, 157), (5, 160), (5, 161), (5, 162), (5, 163), (2, 103)] rfl
set_option maxRecDepth 20000 in
theorem wl_wsL_law0_r6 : ∀ w ∈ wsL_law0_r6, w ∈ lw_tbl := wl_of2 [(2, 104), (2, 105), (2, 106), (1, 142), (2, 107), (2, 108), (2, 109), (2, 110), (1, 143), (6, 9), (6, 10), (6, 11), (6, 12), (5, 128), (5, 130), (2, 111), (2, 112), (2, 113), (2, 114), (1, 144), (1, 146), (1, 89), (1, 70), (2, 115)] rfl
set_option maxRecDepth 20000 in
theorem wl_wsL_law0_r7 : ∀ w ∈ wsL_law0_r7, w ∈ lw_tbl := wl_of2 [(2, 116), (2, 117), (2, 118), (2, 120), (0, 0), (2, 121), (2, 122), (2, 123), (2, 124), (2, 125), (2, 126), (2, 127), (1, 10), (2, 128), (1, 152), (1, 151), (1, 145), (1, 147), (1, 154), (1, 155), (1, 82), (2, 129), (2, 130), (2, 131)] rfl
set_option maxRecDepth 20000 in
theorem wl_wsL_law0_r8 : ∀ w ∈ wsL_law0_r8, w ∈ lw_tbl := wl_of2 [(2, 132), (1, 68), (1, 81), (1, 92), (1, 94), (1, 47), (2, 133), (2, 135), (0, 1), (2, 136), (1, 153), (2, 137), (2, 139), (0, 2), (2, 140), (1, 156), (2, 141), (2, 143), (0, 3), (2, 144), (1, 157), (2, 145), (2, 147), (0, 4)] rfl
set_option maxRecDepth 20000 in
theorem wl_wsL_law0_r9 : ∀ w ∈ wsL_law0_r9, w ∈ lw_tbl := wl_of2 [(2, 148), (1, 71), (1, 93), (1, 110), (1, 48), (1, 96), (2, 150), (2, 152), (0, 5), (2, 153), (2, 154), (2, 155), (2, 156), (1, 11), (2, 157), (8, 41), (2, 158), (2, 159), (2, 160), (2, 161), (2, 162), (8, 42), (2, 164), (2, 165)] rfl
set_option maxRecDepth 20000 in
theorem wl_wsL_law0_r10 : ∀ w ∈ wsL_law0_r10, w ∈ lw_tbl := wl_of2 [(2, 166), (2, 167), (2, 168), (2, 169), (2, 170), (2, 171), (2, 172), (2, 173), (1, 12), (2, 174), (2, 175), (2, 176), (2, 177), (2, 178), (2, 180), (2, 181), (1, 13), (2, 182), (2, 183), (2, 184), (1, 14), (2, 185), (2, 186), (2, 187)] rfl
set_option maxRecDepth 20000 in
theorem wl_wsL_law0_r11 : ∀ w ∈ wsL_law0_r11, w ∈ lw_tbl := wl_of2 [(2, 188), (2, 189), (2, 190), (2, 191), (2, 192), (2, 193), (2, 194), (2, 195), (2, 196), (2, 198), (2, 200), (2, 202), (2, 204), (0, 6), (2, 205), (2, 206), (2, 208), (0, 7), (2, 209), (1, 158), (1, 75), (1, 77), (1, 79), (2, 211)] rfl
set_option maxRecDepth 20000 in
theorem wl_wsL_law0_r12 : ∀ w ∈ wsL_law0_r12, w ∈ lw_tbl := wl_of2 [(2, 213), (0, 8), (2, 214), (2, 215), (2, 217), (0, 9), (2, 218), (2, 227), (2, 229), (0, 10), (2, 230), (1, 84), (1, 87), (1, 91), (2, 234), (2, 235), (1, 15), (2, 236), (2, 237), (2, 238), (2, 239), (3, 0), (3, 2), (0, 11)] rfl
set_option maxRecDepth 20000 in
theorem wl_wsL_law0_r13 : ∀ w ∈ wsL_law0_r13, w ∈ lw_tbl := wl_of2 [(3, 3), (3, 4), (3, 6), (0, 12), (3, 7), (3, 9), (3, 11), (0, 13), (3, 12), (3, 14), (3, 15), (3, 18), (3, 19), (3, 20), (3, 21), (3, 22), (3, 24), (0, 14), (3, 25), (3, 28), (3, 29), (3, 30), (3, 31), (1, 46)] rfl
set_option maxRecDepth 20000 in
theorem wl_wsL_law0_r14 : ∀ w ∈ wsL_law0_r14, w ∈ lw_tbl := wl_of2 [(3, 32), (3, 34), (0, 15), (3, 35), (3, 37), (3, 38), (3, 39), (3, 40), (3, 41), (3, 42), (3, 43), (3, 44), (3, 45), (3, 46), (3, 47), (3, 48), (3, 49), (3, 50), (3, 51), (3, 52), (1, 194), (1, 203), (1, 206), (3, 53)] rfl
set_option maxRecDepth 20000 in
theorem wl_wsL_law0_r15 : ∀ w ∈ wsL_law0_r15, w ∈ lw_tbl := wl_of2 [(3, 54), (3, 55), (3, 56), (1, 197), (1, 200), (3, 57), (3, 58), (3, 59), (3, 60), (2, 1), (2, 3), (3, 61), (3, 62), (3, 63), (3, 64), (2, 34), (2, 35), (3, 65), (3, 67), (0, 16), (3, 68), (6, 13), (6, 14), (6, 15)] rfl
set_option maxRecDepth 20000 in
theorem wl_wsL_law0_r16 : ∀ w ∈ wsL_law0_r16, w ∈ lw_tbl := wl_of2 [(6, 16), (5, 137), (5, 141), (5, 131), (5, 133), (5, 134), (5, 132), (5, 142), (5, 149), (5, 150), (6, 17), (6, 19), (0, 44), (6, 20), (5, 139), (6, 21), (6, 22), (6, 23), (6, 24), (6, 26), (0, 45), (6, 27), (6, 28), (6, 30)] rfl
set_option maxRecDepth 20000 in
theorem wl_wsL_law0_r17 : ∀ w ∈ wsL_law0_r17, w ∈ lw_tbl := wl_of2 [(0, 46), (6, 31), (5, 136), (5, 135), (6, 32), (6, 34), (0, 47), (6, 35), (6, 36), (6, 37), (6, 38), (6, 39), (6, 40), (6, 41), (6, 42), (6, 44), (0, 48), (6, 45), (6, 47), (6, 49), (0, 49), (6, 50), (6, 51), (6, 52)] rfl
set_option maxRecDepth 20000 in
theorem wl_wsL_law0_r18 : ∀ w ∈ wsL_law0_r18, w ∈ lw_tbl := wl_of2 [(6, 53), (6, 55), (0, 50), (6, 56), (6, 57), (6, 59), (0, 51), (6, 60), (6, 62), (6, 64), (0, 52), (6, 65), (6, 66), (6, 68), (0, 53), (6, 69), (6, 70), (6, 72), (0, 54), (6, 73), (6, 74), (6, 76), (0, 55), (6, 77)] rfl
set_option maxRecDepth 20000 in
theorem wl_wsL_law0_r19 : ∀ w ∈ wsL_law0_r19, w ∈ lw_tbl := wl_of2 [(6, 78), (6, 80), (0, 56), (6, 81), (6, 82), (6, 84), (0, 57), (6, 85), (6, 90), (6, 92), (0, 58), (6, 93), (6, 95), (6, 97), (0, 59), (6, 98), (6, 102), (6, 104), (0, 60), (6, 105), (6, 106), (6, 108), (0, 61), (6, 109)] rfl
set_option maxRecDepth 20000 in
theorem wl_wsL_law0_r20 : ∀ w ∈ wsL_law0_r20, w ∈ lw_tbl := wl_of2 [(6, 110), (6, 112), (0, 62), (6, 113), (6, 116), (6, 118), (0, 63), (6, 119), (6, 123), (6, 125), (0, 64), (6, 126), (6, 129), (6, 131), (0, 65), (6, 132), (6, 134), (6, 135), (6, 136), (3, 69), (3, 70), (3, 71), (3, 72), (6, 137)] rfl
set_option maxRecDepth 20000 in
theorem wl_wsL_law0_r21 : ∀ w ∈ wsL_law0_r21, w ∈ lw_tbl := wl_of2 [(6, 138), (6, 139), (6, 140), (3, 73), (3, 74), (3, 75), (3, 76), (6, 141), (6, 142), (6, 143), (6, 144), (3, 77), (3, 78), (3, 79), (3, 80), (1, 99), (1, 101), (1, 210), (1, 213), (3, 81), (3, 83), (0, 17), (3, 84), (3, 85)] rfl
set_option maxRecDepth 20000 in
theorem wl_wsL_law0_r22 : ∀ w ∈ wsL_law0_r22, w ∈ lw_tbl := wl_of2 [(3, 86), (3, 87), (3, 88), (6, 145), (6, 146), (6, 147), (6, 148), (6, 149), (6, 151), (0, 66), (6, 152), (3, 90), (3, 91), (3, 92), (3, 93), (1, 109), (1, 53), (1, 55), (1, 195), (3, 94), (3, 96), (0, 18), (3, 97), (1, 49)] rfl
set_option maxRecDepth 20000 in
theorem wl_wsL_law0_r23 : ∀ w ∈ wsL_law0_r23, w ∈ lw_tbl := wl_of2 [(3, 98), (3, 99), (3, 100), (3, 101), (6, 153), (6, 154), (6, 155), (6, 156), (6, 157), (6, 159), (0, 67), (6, 160), (6, 161), (6, 163), (0, 68), (6, 164), (5, 153), (6, 165), (6, 167), (0, 69), (6, 168), (3, 102), (3, 103), (3, 104)] rfl
set_option maxRecDepth 20000 in
theorem wl_wsL_law0_r24 : ∀ w ∈ wsL_law0_r24, w ∈ lw_tbl := wl_of2 [(3, 105), (1, 198), (3, 106), (3, 108), (0, 19), (3, 109), (6, 169), (6, 170), (6, 171), (6, 172), (3, 110), (3, 111), (3, 112), (3, 113), (1, 74), (1, 201), (6, 173), (6, 174), (6, 175), (6, 176), (3, 114), (3, 115), (3, 116), (3, 117)] rfl
set_option maxRecDepth 20000 in
theorem wl_wsL_law0_r25 : ∀ w ∈ wsL_law0_r25, w ∈ lw_tbl := wl_of2 [(1, 207), (6, 177), (6, 178), (6, 179), (6, 180), (3, 118), (3, 119), (3, 120), (3, 121), (3, 122), (3, 123), (3, 125), (0, 20), (3, 126), (1, 85), (1, 88), (3, 127), (3, 128), (3, 129), (6, 181), (6, 182), (6, 183), (6, 184), (6, 185)] rfl
set_option maxRecDepth 20000 in
theorem wl_wsL_law0_r26 : ∀ w ∈ wsL_law0_r26, w ∈ lw_tbl := wl_of2 [(6, 186), (6, 188), (0, 70), (6, 189), (6, 190), (6, 192), (0, 71), (6, 193), (5, 158), (5, 159), (6, 194), (6, 196), (0, 72), (6, 197), (6, 198), (6, 200), (0, 73), (6, 201), (3, 130), (3, 131), (3, 132), (3, 133), (3, 134), (3, 135)] rfl
set_option maxRecDepth 20000 in
theorem wl_wsL_law0_r27 : ∀ w ∈ wsL_law0_r27, w ∈ lw_tbl := wl_of2 [(3, 136), (3, 137), (1, 83), (1, 86), (6, 202), (6, 203), (6, 204), (6, 205), (3, 138), (3, 139), (3, 140), (3, 141), (3, 142), (3, 144), (0, 21), (3, 145), (6, 206), (6, 207), (6, 208), (6, 209), (3, 146), (3, 147), (3, 148), (3, 149)] rfl
set_option maxRecDepth 20000 in
theorem wl_wsL_law0_r28 : ∀ w ∈ wsL_law0_r28, w ∈ lw_tbl := wl_of2 [(6, 210), (6, 211), (6, 212), (6, 213), (3, 150), (3, 151), (3, 152), (3, 153), (6, 214), (6, 215), (6, 216), (6, 217), (3, 154), (3, 155), (3, 156), (3, 157), (6, 218), (6, 219), (6, 220), (6, 221), (3, 158), (3, 159), (3, 160), (3, 161)] rfl
set_option maxRecDepth 20000 in
theorem wl_wsL_law0_r29 : ∀ w ∈ wsL_law0_r29, w ∈ lw_tbl := wl_of2 [(3, 162), (3, 164), (0, 22), (3, 165), (3, 166), (3, 168), (0, 23), (3, 169), (3, 170), (3, 171), (3, 172), (3, 173), (3, 174), (3, 176), (0, 24), (3, 177), (3, 178), (3, 179), (3, 180), (3, 181), (1, 199), (1, 202), (1, 211), (1, 196)] rfl
set_option maxRecDepth 20000 in
theorem wl_wsL_law0_r30 : ∀ w ∈ wsL_law0_r30, w ∈ lw_tbl := wl_of2 [(1, 214), (1, 73), (3, 182), (3, 184), (0, 25), (3, 185), (3, 187), (3, 189), (0, 26), (3, 190), (1, 208), (1, 76), (1, 204), (3, 191), (3, 192), (3, 194), (0, 27), (3, 195), (3, 196), (3, 197), (3, 198), (3, 199), (1, 50), (3, 200)] rfl
set_option maxRecDepth 20000 in
theorem wl_wsL_law0_r31 : ∀ w ∈ wsL_law0_r31, w ∈ lw_tbl := wl_of2 [(3, 202), (3, 203), (3, 204), (3, 205), (3, 206), (3, 207), (3, 208), (3, 209), (3, 210), (6, 222), (6, 223), (6, 224), (6, 225), (6, 226), (6, 228), (0, 74), (6, 229), (6, 230), (6, 232), (0, 75), (6, 233), (6, 234), (6, 236), (0, 76)] rfl
set_option maxRecDepth 20000 in
theorem wl_wsL_law0_r32 : ∀ w ∈ wsL_law0_r32, w ∈ lw_tbl := wl_of2 [(6, 237), (6, 238), (7, 0), (0, 77), (7, 1), (5, 156), (5, 154), (5, 155), (7, 2), (7, 3), (7, 4), (7, 5), (7, 7), (0, 78), (7, 8), (7, 9), (7, 11), (0, 79), (7, 12), (7, 13), (7, 15), (0, 80), (7, 16), (3, 211)] rfl
set_option maxRecDepth 20000 in
theorem wl_wsL_law0_r33 : ∀ w ∈ wsL_law0_r33, w ∈ lw_tbl := wl_of2 [(3, 212), (3, 213), (3, 214), (7, 17), (7, 18), (7, 19), (7, 20), (3, 215), (3, 216), (3, 217), (3, 218), (1, 205), (3, 219), (3, 221), (0, 28), (3, 222), (7, 21), (7, 22), (7, 23), (7, 24), (3, 223), (3, 224), (3, 225), (3, 226)] rfl
set_option maxRecDepth 20000 in
theorem wl_wsL_law0_r34 : ∀ w ∈ wsL_law0_r34, w ∈ lw_tbl := wl_of2 [(3, 227), (3, 229), (0, 29), (3, 230), (7, 25), (7, 26), (7, 27), (7, 28), (7, 29), (7, 31), (0, 81), (7, 32), (3, 231), (3, 232), (3, 233), (3, 234), (7, 33), (7, 34), (7, 35), (7, 36), (3, 235), (3, 236), (3, 237), (3, 238)] rfl
set_option maxRecDepth 20000 in
theorem wl_wsL_law0_r35 : ∀ w ∈ wsL_law0_r35, w ∈ lw_tbl := wl_of2 [(7, 37), (7, 38), (7, 39), (7, 40), (3, 239), (4, 0), (4, 1), (4, 2), (7, 41), (7, 42), (7, 43), (7, 44), (4, 3), (4, 4), (4, 5), (4, 6), (4, 7), (4, 9), (0, 30), (4, 10), (7, 45), (7, 46), (7, 47), (7, 48)] rfl
set_option maxRecDepth 20000 in
theorem wl_wsL_law0_r36 : ∀ w ∈ wsL_law0_r36, w ∈ lw_tbl := wl_of2 [(4, 11), (4, 12), (4, 13), (4, 14), (4, 15), (4, 17), (0, 31), (4, 18), (7, 49), (7, 50), (7, 51), (7, 52), (4, 19), (4, 20), (4, 21), (4, 22), (4, 23), (4, 24), (4, 25), (7, 53), (7, 54), (7, 55), (7, 56), (7, 57)] rfl
set_option maxRecDepth 20000 in
theorem wl_wsL_law0_r37 : ∀ w ∈ wsL_law0_r37, w ∈ lw_tbl := wl_of2 [(7, 58), (7, 59), (4, 26), (4, 27), (4, 28), (4, 29), (4, 30), (4, 31), (7, 60), (7, 61), (7, 62), (7, 63), (4, 32), (4, 33), (4, 34), (4, 35), (4, 36), (7, 64), (7, 65), (7, 66), (7, 67), (4, 37), (4, 38), (4, 39)] rfl
set_option maxRecDepth 20000 in
theorem wl_wsL_law0_r38 : ∀ w ∈ wsL_law0_r38, w ∈ lw_tbl := wl_of2 [(4, 40), (4, 41), (4, 43), (0, 32), (4, 44), (4, 45), (4, 47), (0, 33), (4, 48), (4, 49), (4, 50), (4, 51), (4, 52), (4, 54), (4, 55), (4, 56), (4, 57), (4, 58), (2, 57), (4, 59), (4, 61), (0, 34), (4, 62), (4, 63)] rfl
set_option maxRecDepth 20000 in
theorem wl_wsL_law0_r39 : ∀ w ∈ wsL_law0_r39, w ∈ lw_tbl := wl_of2 [(4, 65), (0, 35), (4, 66), (4, 67), (4, 68), (4, 69), (4, 70), (7, 80), (7, 81), (7, 82), (7, 83), (7, 84), (7, 86), (0, 82), (7, 87), (7, 88), (7, 90), (0, 83), (7, 91), (7, 92), (7, 94), (0, 84), (7, 95), (4, 71)] rfl
set_option maxRecDepth 20000 in
theorem wl_wsL_law0_r40 : ∀ w ∈ wsL_law0_r40, w ∈ lw_tbl := wl_of2 [(4, 72), (4, 73), (4, 74), (4, 75), (4, 76), (4, 77), (4, 78), (7, 96), (7, 97), (7, 98), (7, 99), (4, 79), (4, 80), (4, 81), (4, 82), (7, 100), (7, 101), (7, 102), (7, 103), (4, 83), (4, 84), (4, 85), (4, 86), (4, 87)] rfl
set_option maxRecDepth 20000 in
theorem wl_wsL_law0_r41 : ∀ w ∈ wsL_law0_r41, w ∈ lw_tbl := wl_of2 [(4, 88), (4, 89), (4, 90), (4, 91), (4, 93), (0, 36), (4, 94), (1, 51), (7, 104), (7, 105), (7, 106), (7, 107), (7, 77), (7, 78), (7, 79), (4, 95), (4, 96), (4, 97), (4, 98), (4, 99), (7, 68), (7, 69), (7, 70), (7, 71)] rfl
set_option maxRecDepth 20000 in
theorem wl_wsL_law0_r42 : ∀ w ∈ wsL_law0_r42, w ∈ lw_tbl := wl_of2 [(4, 100), (4, 101), (4, 102), (4, 103), (4, 104), (4, 106), (0, 37), (4, 107), (4, 108), (7, 72), (7, 73), (7, 74), (7, 75), (7, 76), (4, 109), (4, 110), (4, 111), (4, 112), (2, 26), (4, 113), (4, 114), (4, 115), (4, 116), (2, 25)] rfl
set_option maxRecDepth 20000 in
theorem wl_wsL_law0_r43 : ∀ w ∈ wsL_law0_r43, w ∈ lw_tbl := wl_of2 [(1, 69), (4, 117), (4, 119), (0, 38), (4, 120), (1, 95), (1, 106), (1, 103), (4, 121), (4, 122), (4, 123), (4, 124), (7, 108), (7, 109), (7, 110), (7, 111), (7, 112), (7, 114), (0, 85), (7, 115), (7, 116), (7, 118), (0, 86), (7, 119)] rfl
set_option maxRecDepth 20000 in
theorem wl_wsL_law0_r44 : ∀ w ∈ wsL_law0_r44, w ∈ lw_tbl := wl_of2 [(7, 120), (7, 122), (0, 87), (7, 123), (7, 124), (7, 126), (0, 88), (7, 127), (4, 126), (4, 127), (4, 128), (4, 129), (2, 32), (7, 128), (7, 129), (7, 130), (7, 131), (7, 132), (7, 134), (0, 89), (7, 135), (4, 130), (4, 131), (4, 132)] rfl
set_option maxRecDepth 20000 in
theorem wl_wsL_law0_r45 : ∀ w ∈ wsL_law0_r45, w ∈ lw_tbl := wl_of2 [(4, 133), (4, 134), (7, 136), (7, 137), (7, 138), (7, 139), (7, 140), (7, 142), (0, 90), (7, 143), (4, 135), (4, 136), (4, 137), (4, 138), (7, 144), (7, 145), (7, 146), (7, 147), (4, 139), (4, 140), (4, 141), (4, 142), (2, 28), (4, 143)] rfl
set_option maxRecDepth 20000 in
theorem wl_wsL_law0_r46 : ∀ w ∈ wsL_law0_r46, w ∈ lw_tbl := wl_of2 [(4, 144), (4, 145), (4, 146), (2, 27), (2, 29), (1, 72), (4, 147), (4, 148), (4, 150), (0, 39), (4, 151), (4, 152), (4, 154), (0, 40), (4, 155), (4, 156), (4, 157), (4, 158), (7, 148), (7, 149), (7, 150), (7, 151), (7, 152), (7, 154)] rfl
set_option maxRecDepth 20000 in
theorem wl_wsL_law0_r47 : ∀ w ∈ wsL_law0_r47, w ∈ lw_tbl := wl_of2 [(0, 91), (7, 155), (5, 164), (4, 159), (4, 160), (4, 161), (4, 162), (2, 30), (7, 156), (7, 157), (7, 158), (7, 159), (4, 163), (4, 164), (4, 165), (4, 166), (4, 167), (4, 168), (4, 169), (4, 170), (1, 90), (7, 164), (7, 165), (7, 166)] rfl
set_option maxRecDepth 20000 in
theorem wl_wsL_law0_r48 : ∀ w ∈ wsL_law0_r48, w ∈ lw_tbl := wl_of2 [(7, 167), (4, 171), (4, 172), (4, 173), (4, 174), (7, 168), (7, 169), (7, 170), (7, 171), (4, 175), (4, 176), (4, 177), (4, 178), (1, 97), (1, 107), (1, 104), (7, 160), (7, 161), (7, 162), (7, 163), (4, 179), (4, 180), (4, 181), (4, 182)] rfl
set_option maxRecDepth 20000 in
theorem wl_wsL_law0_r49 : ∀ w ∈ wsL_law0_r49, w ∈ lw_tbl := wl_of2 [(4, 183), (4, 184), (4, 185), (4, 186), (4, 187), (4, 188), (7, 172), (7, 173), (7, 174), (7, 175), (7, 176), (7, 177), (7, 178), (7, 179), (7, 180), (7, 181), (4, 189), (4, 190), (4, 191), (4, 192), (4, 193), (4, 194), (4, 195), (7, 182)] rfl
set_option maxRecDepth 20000 in
theorem wl_wsL_law0_r50 : ∀ w ∈ wsL_law0_r50, w ∈ lw_tbl := wl_of2 [(7, 183), (7, 184), (7, 185), (7, 186), (7, 188), (0, 92), (7, 189), (5, 165), (4, 196), (4, 197), (4, 198), (4, 199), (7, 190), (7, 191), (7, 192), (7, 193), (4, 200), (4, 201), (4, 202), (4, 203), (4, 208), (1, 80), (4, 204), (4, 206)] rfl
set_option maxRecDepth 20000 in
theorem wl_wsL_law0_r51 : ∀ w ∈ wsL_law0_r51, w ∈ lw_tbl := wl_of2 [(0, 41), (4, 207), (4, 209), (4, 210), (4, 211), (7, 194), (7, 195), (7, 196), (7, 197), (7, 202), (7, 198), (7, 200), (0, 93), (7, 201), (7, 203), (7, 204), (7, 205), (4, 212), (4, 213), (4, 214), (4, 215), (7, 206), (7, 207), (7, 208)] rfl
set_option maxRecDepth 20000 in
theorem wl_wsL_law0_r52 : ∀ w ∈ wsL_law0_r52, w ∈ lw_tbl := wl_of2 [(7, 209), (4, 216), (4, 217), (4, 218), (4, 219), (4, 220), (4, 221), (4, 222), (4, 223), (4, 224), (4, 225), (4, 227), (0, 42), (4, 228), (7, 210), (7, 211), (7, 212), (7, 213), (5, 167), (7, 214), (7, 216), (0, 94), (7, 217), (7, 218)] rfl
set_option maxRecDepth 20000 in
theorem wl_wsL_law0_r53 : ∀ w ∈ wsL_law0_r53, w ∈ lw_tbl := wl_of2 [(5, 166), (7, 219), (4, 229), (4, 230), (4, 231), (4, 232), (7, 220), (7, 221), (7, 222), (7, 223), (4, 233), (4, 234), (4, 235), (4, 236), (4, 237), (4, 238), (4, 239), (5, 0), (2, 5), (5, 2), (5, 1), (7, 224), (7, 225), (7, 226)] rfl
set_option maxRecDepth 20000 in
theorem wl_wsL_law0_r54 : ∀ w ∈ wsL_law0_r54, w ∈ lw_tbl := wl_of2 [(7, 227), (7, 228), (7, 230), (0, 95), (7, 231), (5, 3), (5, 4), (5, 5), (5, 6), (7, 232), (7, 233), (7, 234), (7, 235), (5, 7), (5, 8), (5, 9), (5, 10), (7, 236), (7, 237), (7, 238), (7, 239), (5, 11), (5, 12), (5, 13)] rfl
set_option maxRecDepth 20000 in
theorem wl_wsL_law0_r55 : ∀ w ∈ wsL_law0_r55, w ∈ lw_tbl := wl_of2 [(5, 14), (5, 15), (5, 16), (5, 17), (5, 18), (8, 0), (8, 1), (8, 2), (8, 3), (8, 4), (8, 6), (0, 96), (8, 7), (5, 19), (5, 20), (5, 21), (5, 22), (2, 4), (5, 23), (5, 24), (5, 25), (5, 26), (8, 8), (8, 9)] rfl
set_option maxRecDepth 20000 in
theorem wl_wsL_law0_r56 : ∀ w ∈ wsL_law0_r56, w ∈ lw_tbl := wl_of2 [(8, 10), (8, 11), (5, 27), (5, 28), (5, 29), (5, 30), (5, 31), (5, 32), (5, 33), (5, 34), (8, 12), (8, 13), (8, 14), (8, 15), (5, 49), (5, 50), (1, 0), (5, 51), (5, 52), (5, 53), (5, 54), (5, 55), (5, 56), (5, 57)] rfl
set_option maxRecDepth 20000 in
theorem wl_wsL_law0_r57 : ∀ w ∈ wsL_law0_r57, w ∈ lw_tbl := wl_of2 [(1, 19), (8, 16), (8, 17), (8, 18), (8, 19), (5, 36), (5, 37), (5, 38), (5, 39), (2, 2), (5, 40), (5, 41), (5, 42), (5, 43), (1, 78), (5, 44), (8, 20), (8, 21), (8, 22), (8, 23), (5, 45), (5, 46), (5, 47), (5, 48)] rfl
set_option maxRecDepth 20000 in
theorem wl_wsL_law0_r58 : ∀ w ∈ wsL_law0_r58, w ∈ lw_tbl := wl_of2 [(8, 24), (8, 25), (8, 26), (8, 27)] rfl
set_option maxRecDepth 20000 in
theorem wl_wsX70 : ∀ w ∈ wsX70, w ∈ lw_tbl := wl_of2 [(2, 80), (2, 82), (2, 84), (2, 86), (2, 88), (2, 90), (2, 92), (2, 94), (2, 96), (2, 98), (2, 100)] rfl
set_option maxRecDepth 20000 in
theorem wl_wsX80 : ∀ w ∈ wsX80, w ∈ lw_tbl := wl_of2 [(5, 168), (5, 170), (5, 172), (5, 174), (5, 176), (5, 178), (5, 180), (5, 182), (5, 184), (5, 186), (5, 188), (5, 190), (5, 192), (5, 194), (5, 196), (5, 198), (5, 200), (5, 202), (5, 204), (5, 206), (5, 208), (5, 210), (5, 212), (5, 214), (5, 216), (5, 218), (5, 220), (5, 222), (5, 224), (5, 226), (5, 228), (5, 230), (5, 232), (5, 234), (5, 236), (5, 238), (6, 0), (6, 2), (6, 4), (6, 6)] rfl
set_option maxRecDepth 20000 in
theorem wl_wsX30 : ∀ w ∈ wsX30, w ∈ lw_tbl := wl_of2 [(1, 159), (1, 161), (1, 163), (1, 165), (1, 167), (1, 169), (1, 171), (1, 173), (1, 175), (1, 177), (1, 179), (1, 181), (1, 183), (1, 185)] rfl
set_option maxRecDepth 20000 in
theorem wl_wsX50 : ∀ w ∈ wsX50, w ∈ lw_tbl := wl_of2 [(1, 215), (1, 217), (1, 219), (1, 221), (1, 223), (1, 225), (1, 227)] rfl
set_option maxRecDepth 20000 in
theorem wl_wsX60 : ∀ w ∈ wsX60, w ∈ lw_tbl := wl_of2 [(1, 56), (1, 58), (1, 60), (1, 62)] rfl
set_option maxRecDepth 20000 in
theorem wl_wsX10 : ∀ w ∈ wsX10, w ∈ lw_tbl := wl_of2 [(2, 8), (2, 10), (2, 12), (2, 14), (2, 16)] rfl
set_option maxRecDepth 20000 in
theorem wl_wsX20 : ∀ w ∈ wsX20, w ∈ lw_tbl := wl_of2 [(2, 36), (2, 38), (2, 40), (2, 42), (2, 44), (2, 46), (2, 48)] rfl
set_option maxRecDepth 20000 in
theorem wl_wsX40 : ∀ w ∈ wsX40, w ∈ lw_tbl := wl_of2 [(2, 60), (2, 62), (2, 64)] rfl
set_option maxRecDepth 20000 in
theorem wl_wsX00 : ∀ w ∈ wsX00, w ∈ lw_tbl := wl_of2 [(1, 111), (1, 113), (1, 115), (1, 117), (1, 119), (1, 121), (1, 123), (1, 125), (1, 127), (1, 129), (1, 131), (1, 133), (1, 135), (1, 137), (1, 139)] rfl
def wlL : List (List Cond) := [wsL_law0_r1, wsL_law0_r2, wsL_law0_r3, wsL_law0_r4, wsL_law0_r5, wsL_law0_r6, wsL_law0_r7, wsL_law0_r8, wsL_law0_r9, wsL_law0_r10, wsL_law0_r11, wsL_law0_r12, wsL_law0_r13, wsL_law0_r14, wsL_law0_r15, wsL_law0_r16, wsL_law0_r17, wsL_law0_r18, wsL_law0_r19, wsL_law0_r20, wsL_law0_r21, wsL_law0_r22, wsL_law0_r23, wsL_law0_r24, wsL_law0_r25, wsL_law0_r26, wsL_law0_r27, wsL_law0_r28, wsL_law0_r29, wsL_law0_r30, wsL_law0_r31, wsL_law0_r32, wsL_law0_r33, wsL_law0_r34, wsL_law0_r35, wsL_law0_r36, wsL_law0_r37, wsL_law0_r38, wsL_law0_r39, wsL_law0_r40, wsL_law0_r41, wsL_law0_r42, wsL_law0_r43, wsL_law0_r44, wsL_law0_r45, wsL_law0_r46, wsL_law0_r47, wsL_law0_r48, wsL_law0_r49, wsL_law0_r50, wsL_law0_r51, wsL_law0_r52, wsL_law0_r53, wsL_law0_r54, wsL_law0_r55, wsL_law0_r56, wsL_law0_r57, wsL_law0_r58, wsX70, wsX80, wsX30, wsX50, wsX60, wsX10, wsX20, wsX40, wsX00]
def wlT : List Cond := wlL.flatten ++ (ax_atX RX7 352 "java/util/NoSuchElementException" 13 ax_rx13 "java/lang/RuntimeException" ["java/lang/Exception"]).filter goodWord
set_option maxRecDepth 20000 in
theorem wl_x0 : ∀ w ∈ (ax_atX RX7 352 "java/util/NoSuchElementException" 13 ax_rx13 "java/lang/RuntimeException" ["java/lang/Exception"]).filter goodWord, w ∈ lw_tbl := by decide +kernel
theorem wlL_in : ∀ c ∈ wlL, ∀ w ∈ c, w ∈ lw_tbl := by
  unfold wlL
  exact List.forall_mem_cons.mpr ⟨wl_wsL_law0_r1, List.forall_mem_cons.mpr ⟨wl_wsL_law0_r2, List.forall_mem_cons.mpr ⟨wl_wsL_law0_r3, List.forall_mem_cons.mpr ⟨wl_wsL_law0_r4, List.forall_mem_cons.mpr ⟨wl_wsL_law0_r5, List.forall_mem_cons.mpr ⟨wl_wsL_law0_r6, List.forall_mem_cons.mpr ⟨wl_wsL_law0_r7, List.forall_mem_cons.mpr ⟨wl_wsL_law0_r8, List.forall_mem_cons.mpr ⟨wl_wsL_law0_r9, List.forall_mem_cons.mpr ⟨wl_wsL_law0_r10, List.forall_mem_cons.mpr ⟨wl_wsL_law0_r11, List.forall_mem_cons.mpr ⟨wl_wsL_law0_r12, List.forall_mem_cons.mpr ⟨wl_wsL_law0_r13, List.forall_mem_cons.mpr ⟨wl_wsL_law0_r14, List.forall_mem_cons.mpr ⟨wl_wsL_law0_r15, List.forall_mem_cons.mpr ⟨wl_wsL_law0_r16, List.forall_mem_cons.mpr ⟨wl_wsL_law0_r17, List.forall_mem_cons.mpr ⟨wl_wsL_law0_r18, List.forall_mem_cons.mpr ⟨wl_wsL_law0_r19, List.forall_mem_cons.mpr ⟨wl_wsL_law0_r20, List.forall_mem_cons.mpr ⟨wl_wsL_law0_r21, List.forall_mem_cons.mpr ⟨wl_wsL_law0_r22, List.forall_mem_cons.mpr ⟨wl_wsL_law0_r23, List.forall_mem_cons.mpr ⟨wl_wsL_law0_r24, List.forall_mem_cons.mpr ⟨wl_wsL_law0_r25, List.forall_mem_cons.mpr ⟨wl_wsL_law0_r26, List.forall_mem_cons.mpr ⟨wl_wsL_law0_r27, List.forall_mem_cons.mpr ⟨wl_wsL_law0_r28, List.forall_mem_cons.mpr ⟨wl_wsL_law0_r29, List.forall_mem_cons.mpr ⟨wl_wsL_law0_r30, List.forall_mem_cons.mpr ⟨wl_wsL_law0_r31, List.forall_mem_cons.mpr ⟨wl_wsL_law0_r32, List.forall_mem_cons.mpr ⟨wl_wsL_law0_r33, List.forall_mem_cons.mpr ⟨wl_wsL_law0_r34, List.forall_mem_cons.mpr ⟨wl_wsL_law0_r35, List.forall_mem_cons.mpr ⟨wl_wsL_law0_r36, List.forall_mem_cons.mpr ⟨wl_wsL_law0_r37, List.forall_mem_cons.mpr ⟨wl_wsL_law0_r38, List.forall_mem_cons.mpr ⟨wl_wsL_law0_r39, List.forall_mem_cons.mpr ⟨wl_wsL_law0_r40, List.forall_mem_cons.mpr ⟨wl_wsL_law0_r41, List.forall_mem_cons.mpr ⟨wl_wsL_law0_r42, List.forall_mem_cons.mpr ⟨wl_wsL_law0_r43, List.forall_mem_cons.mpr ⟨wl_wsL_law0_r44, List.forall_mem_cons.mpr ⟨wl_wsL_law0_r45, List.forall_mem_cons.mpr ⟨wl_wsL_law0_r46, List.forall_mem_cons.mpr ⟨wl_wsL_law0_r47, List.forall_mem_cons.mpr ⟨wl_wsL_law0_r48, List.forall_mem_cons.mpr ⟨wl_wsL_law0_r49, List.forall_mem_cons.mpr ⟨wl_wsL_law0_r50, List.forall_mem_cons.mpr ⟨wl_wsL_law0_r51, List.forall_mem_cons.mpr ⟨wl_wsL_law0_r52, List.forall_mem_cons.mpr ⟨wl_wsL_law0_r53, List.forall_mem_cons.mpr ⟨wl_wsL_law0_r54, List.forall_mem_cons.mpr ⟨wl_wsL_law0_r55, List.forall_mem_cons.mpr ⟨wl_wsL_law0_r56, List.forall_mem_cons.mpr ⟨wl_wsL_law0_r57, List.forall_mem_cons.mpr ⟨wl_wsL_law0_r58, List.forall_mem_cons.mpr ⟨wl_wsX70, List.forall_mem_cons.mpr ⟨wl_wsX80, List.forall_mem_cons.mpr ⟨wl_wsX30, List.forall_mem_cons.mpr ⟨wl_wsX50, List.forall_mem_cons.mpr ⟨wl_wsX60, List.forall_mem_cons.mpr ⟨wl_wsX10, List.forall_mem_cons.mpr ⟨wl_wsX20, List.forall_mem_cons.mpr ⟨wl_wsX40, List.forall_mem_cons.mpr ⟨wl_wsX00, fun _ h => absurd h List.not_mem_nil⟩⟩⟩⟩⟩⟩⟩⟩⟩⟩⟩⟩⟩⟩⟩⟩⟩⟩⟩⟩⟩⟩⟩⟩⟩⟩⟩⟩⟩⟩⟩⟩⟩⟩⟩⟩⟩⟩⟩⟩⟩⟩⟩⟩⟩⟩⟩⟩⟩⟩⟩⟩⟩⟩⟩⟩⟩⟩⟩⟩⟩⟩⟩⟩⟩⟩⟩
theorem wlT_in : ∀ w ∈ wlT, w ∈ lw_tbl := by
  intro w h
  rcases List.mem_append.mp h with h | h
  · obtain ⟨c, hc, hw⟩ := List.mem_flatten.mp h
    exact wlL_in c hc w hw
  · exact wl_x0 w h
theorem wl_at {i j : Nat} {w : Cond} (h : (wlL[i]?).bind (fun c => c[j]?) = some w) : w ∈ wlT := by
  obtain ⟨c, hc, hj⟩ := Option.bind_eq_some_iff.mp h
  exact List.mem_append_left _ (List.mem_flatten.mpr ⟨c, List.mem_of_getElem? hc, List.mem_of_getElem? hj⟩)
theorem gd_x : GoodIn wlT ((ax_atX RX7 352 "java/util/NoSuchElementException" 13 ax_rx13 "java/lang/RuntimeException" ["java/lang/Exception"]).filter goodWord) := goodIn_sub (fun _ h => List.mem_append_right _ h) (by decide +kernel)
theorem inlX7 : ∀ w ∈ wsX70, w ∈ wlT := fun w h => List.mem_append_left _ (List.mem_flatten.mpr ⟨wsX70, List.mem_of_getElem? (i := 58) rfl, h⟩)
theorem inX7 : ∀ w ∈ wsX70, w ∈ lw_tbl := wl_wsX70
theorem inlX8 : ∀ w ∈ wsX80, w ∈ wlT := fun w h => List.mem_append_left _ (List.mem_flatten.mpr ⟨wsX80, List.mem_of_getElem? (i := 59) rfl, h⟩)
theorem inX8 : ∀ w ∈ wsX80, w ∈ lw_tbl := wl_wsX80
theorem inX3 : ∀ w ∈ wsX30, w ∈ lw_tbl := wl_wsX30
theorem inX5 : ∀ w ∈ wsX50, w ∈ lw_tbl := wl_wsX50
theorem inX6 : ∀ w ∈ wsX60, w ∈ lw_tbl := wl_wsX60
theorem inX1 : ∀ w ∈ wsX10, w ∈ lw_tbl := wl_wsX10
theorem inX2 : ∀ w ∈ wsX20, w ∈ lw_tbl := wl_wsX20
theorem inX4 : ∀ w ∈ wsX40, w ∈ lw_tbl := wl_wsX40
theorem inX0 : ∀ w ∈ wsX00, w ∈ lw_tbl := wl_wsX00
theorem gd_s {ws : List Cond} (ps : List (Nat × Nat × Nat)) (h : ws = ps.flatMap (fun q => ((wlL.drop q.1).flatten.drop q.2.1).take q.2.2)) (h2 : ws.all goodWord = true) : GoodIn wlT ws := by
  intro w hw
  have h1 := List.all_eq_true.mp h2 w hw
  rw [h] at hw
  obtain ⟨q, -, hq⟩ := List.mem_flatMap.mp hw
  obtain ⟨c, hc, hj⟩ := List.mem_flatten.mp (List.mem_of_mem_drop (List.mem_of_mem_take hq))
  exact ⟨List.mem_append_left _ (List.mem_flatten.mpr ⟨c, List.mem_of_mem_drop hc, hj⟩), good_of_word h1⟩
