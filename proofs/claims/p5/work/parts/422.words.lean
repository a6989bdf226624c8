section P422_words
def wlB : List (List Cond) := [k2_sels lw_privs, tables_1_1, tables_1_2, tables_1_3, tables_1_4, tables_1_5, tables_1_6, tables_1_7, tables_1_8]
theorem wlB_in : ∀ c ∈ wlB, ∀ w ∈ c, w ∈ lw_tbl := by
  unfold wlB
  exact List.forall_mem_cons.mpr ⟨fun _ h => List.mem_append_left _ h, List.forall_mem_cons.mpr ⟨fun _ h => List.mem_append_right _ (List.mem_append_left _ h), List.forall_mem_cons.mpr ⟨fun _ h => List.mem_append_right _ (List.mem_append_right _ (List.mem_append_left _ h)), List.forall_mem_cons.mpr ⟨fun _ h => List.mem_append_right _ (List.mem_append_right _ (List.mem_append_right _ (List.mem_append_left _ h))), List.forall_mem_cons.mpr ⟨fun _ h => List.mem_append_right _ (List.mem_append_right _ (List.mem_append_right _ (List.mem_append_right _ (List.mem_append_left _ h)))), List.forall_mem_cons.mpr ⟨fun _ h => List.mem_append_right _ (List.mem_append_right _ (List.mem_append_right _ (List.mem_append_right _ (List.mem_append_right _ (List.mem_append_left _ h))))), List.forall_mem_cons.mpr ⟨fun _ h => List.mem_append_right _ (List.mem_append_right _ (List.mem_append_right _ (List.mem_append_right _ (List.mem_append_right _ (List.mem_append_right _ (List.mem_append_left _ h)))))), List.forall_mem_cons.mpr ⟨fun _ h => List.mem_append_right _ (List.mem_append_right _ (List.mem_append_right _ (List.mem_append_right _ (List.mem_append_right _ (List.mem_append_right _ (List.mem_append_right _ (List.mem_append_left _ h))))))), List.forall_mem_cons.mpr ⟨fun _ h => List.mem_append_right _ (List.mem_append_right _ (List.mem_append_right _ (List.mem_append_right _ (List.mem_append_right _ (List.mem_append_right _ (List.mem_append_right _ (List.mem_append_right _ h))))))), fun _ h => absurd h List.not_mem_nil⟩⟩⟩⟩⟩⟩⟩⟩⟩
theorem wl_of2 {ws : List Cond} (ps : List (Nat × Nat)) (h : ws = ps.filterMap (fun q => (wlB[q.1]?).bind (fun c => c[q.2]?))) : ∀ w ∈ ws, w ∈ lw_tbl := by
  intro w hw
  rw [h] at hw
  obtain ⟨q, -, hq⟩ := List.mem_filterMap.mp hw
  obtain ⟨c, hc, hj⟩ := Option.bind_eq_some_iff.mp hq
  exact wlB_in c (List.mem_of_getElem? hc) w (List.mem_of_getElem? hj)
set_option maxRecDepth 20000 in
theorem wl_wsL_law0_r1 : ∀ w ∈ wsL_law0_r1, w ∈ lw_tbl := wl_of2 [(1, 20), (1, 21), (1, 1), (5, 122), (5, 123), (1, 9), (1, 66), (1, 22), (1, 23), (1, 24), (1, 25), (1, 26), (1, 27), (1, 28), (1, 29), (1, 2), (2, 69), (1, 188), (1, 189), (1, 5), (2, 70), (2, 71), (1, 230), (1, 41)] rfl
set_option maxRecDepth 20000 in
theorem wl_wsL_law0_r2 : ∀ w ∈ wsL_law0_r2, w ∈ lw_tbl := wl_of2 [(1, 4), (2, 72), (1, 232), (1, 233), (1, 6), (2, 73), (2, 19), (2, 20), (1, 7), (2, 74), (2, 51), (2, 52), (1, 8), (2, 75), (2, 67), (1, 35), (1, 3), (2, 76), (2, 77), (2, 78), (2, 79), (1, 30), (1, 31), (1, 32)] rfl
set_option maxRecDepth 20000 in
theorem wl_wsL_law0_r3 : ∀ w ∈ wsL_law0_r3, w ∈ lw_tbl := wl_of2 [(1, 33), (1, 65), (1, 148), (1, 149), (1, 34), (1, 150), (1, 36), (1, 37), (1, 38), (1, 39), (1, 67), (1, 98), (1, 100), (1, 102), (1, 105), (1, 40), (1, 108), (1, 42), (1, 43), (1, 44), (1, 45), (1, 52), (1, 54), (1, 190)] rfl
set_option maxRecDepth 20000 in
theorem wl_wsL_law0_r4 : ∀ w ∈ wsL_law0_r4, w ∈ lw_tbl := wl_of2 [(1, 191), (1, 192), (1, 193), (1, 209), (1, 212), (1, 231), (1, 234), (1, 235), (1, 236), (1, 237), (1, 238), (2, 6), (2, 7), (2, 0), (2, 21), (2, 22), (2, 23), (2, 24), (2, 31), (2, 33), (2, 53), (2, 54), (2, 55), (2, 56)] rfl
set_option maxRecDepth 20000 in
theorem wl_wsL_law0_r5 : ∀ w ∈ wsL_law0_r5, w ∈ lw_tbl := wl_of2 [(2, 58), (2, 59), (2, 68), (5, 124), (5, 125), (5, 126), (5, 127), (5, 129), (5, 138), (5, 140), (5, 143), (5, 144), (5, 145), (5, 146), (5, 147), (5, 148), (5, 151), (5, 152), (5, 157), (5, 160), (5, 161), (5, 162), (5, 163), (2, 103)] rfl
set_option maxRecDepth 20000 in
theorem wl_wsL_law0_r6 : ∀ w ∈ wsL_law0_r6, w ∈ lw_tbl := wl_of2 [(2, 104), (2, 105), (2, 106), (1, 142), (2, 107), (2, 108), (2, 109), (2, 110), (1, 143), (6, 9), (6, 10), (6, 11), (6, 12), (5, 128), (5, 130), (2, 111), (2, 112), (2, 113), (2, 114), (1, 144), (1, 146), (1, 89), (1, 70), (2, 115)] rfl
set_option maxRecDepth 20000 in
theorem wl_wsL_law0_r7 : ∀ w ∈ wsL_law0_r7, w ∈ lw_tbl := wl_of2 [(2, 116), (2, 117), (2, 118), (2, 120), (0, 0), (2, 121), (2, 122), (2, 123), (2, 124), (2, 125), (2, 126), (2, 127), (1, 10), (2, 128), (1, 152), (1, 151), (1, 145), (1, 147), (1, 154), (1, 155), (1, 82), (2, 129), (2, 130), (2, 131)] rfl
set_option maxRecDepth 20000 in
theorem wl_wsL_law0_r8 : ∀ w ∈ wsL_law0_r8, w ∈ lw_tbl := wl_of2 [(2, 132), (1, 68), (1, 81), (1, 92), (1, 94), (1, 47), (2, 133), (2, 135), (0, 1), (2, 136), (1, 153), (2, 137), (2, 139), (0, 2), (2, 140), (1, 156), (2, 141), (2, 143), (0, 3), (2, 144), (1, 157), (2, 145), (2, 147), (0, 4)] rfl
set_option maxRecDepth 20000 in
theorem wl_wsL_law0_r9 : ∀ w ∈ wsL_law0_r9, w ∈ lw_tbl := wl_of2 [(2, 148), (1, 71), (1, 93), (1, 110), (1, 48), (1, 96), (2, 150), (2, 152), (0, 5), (2, 153), (2, 154), (2, 155), (2, 156), (1, 11), (2, 157), (8, 41), (2, 158), (2, 159), (2, 160), (2, 161), (2, 162), (8, 42), (2, 164), (2, 165)] rfl
set_option maxRecDepth 20000 in
theorem wl_wsL_law0_r10 : ∀ w ∈ wsL_law0_r10, w ∈ lw_tbl := wl_of2 [(2, 166), (2, 167), (2, 168), (2, 169), (2, 170), (2, 171), (2, 172), (2, 173), (1, 12), (2, 174), (2, 175), (2, 176), (2, 177), (2, 178), (2, 180), (2, 181), (1, 13), (2, 182), (2, 183), (2, 184), (1, 14), (2, 185), (2, 186), (2, 187)] rfl
set_option maxRecDepth 20000 in
theorem wl_wsL_law0_r11 : ∀ w ∈ wsL_law0_r11, w ∈ lw_tbl := wl_of2 [(2, 188), (2, 189), (2, 190), (2, 191), (2, 192), (2, 193), (2, 194), (2, 195), (2, 196), (2, 198), (2, 200), (2, 202), (2, 204), (0, 6), (2, 205), (2, 206), (2, 208), (0, 7), (2, 209), (1, 158), (1, 75), (1, 77), (1, 79), (2, 211)] rfl
set_option maxRecDepth 20000 in
theorem wl_wsL_law0_r12 : ∀ w ∈ wsL_law0_r12, w ∈ lw_tbl := wl_of2 [(2, 213), (0, 8), (2, 214), (2, 215), (2, 217), (0, 9), (2, 218), (2, 227), (2, 229), (0, 10), (2, 230), (1, 84), (1, 87), (1, 91), (2, 234), (2, 235), (1, 15), (2, 236), (2, 237), (2, 238), (2, 239), (3, 0), (3, 2), (0, 11)] rfl
set_option maxRecDepth 20000 in
theorem wl_wsL_law0_r13 : ∀ w ∈ wsL_law0_r13, w ∈ lw_tbl := wl_of2 [(3, 3), (3, 4), (3, 6), (0, 12), (3, 7), (3, 9), (3, 11), (0, 13), (3, 12), (3, 14), (3, 15), (3, 18), (3, 19), (3, 20), (3, 21), (3, 22), (3, 24), (0, 14), (3, 25), (3, 28), (3, 29), (3, 30), (3, 31), (1, 46)] rfl
set_option maxRecDepth 20000 in
theorem wl_wsL_law0_r14 : ∀ w ∈ wsL_law0_r14, w ∈ lw_tbl := wl_of2 [(3, 32), (3, 34), (0, 15), (3, 35), (3, 37), (3, 38), (3, 39), (3, 40), (3, 41), (3, 42), (3, 43), (3, 44), (3, 45), (3, 46), (3, 47), (3, 48), (3, 49), (3, 50), (3, 51), (3, 52), (1, 194), (1, 203), (1, 206), (3, 53)] rfl
set_option maxRecDepth 20000 in
theorem wl_wsL_law0_r15 : ∀ w ∈ wsL_law0_r15, w ∈ lw_tbl := wl_of2 [(3, 54), (3, 55), (3, 56), (1, 197), (1, 200), (3, 57), (3, 58), (3, 59), (3, 60), (2, 1), (2, 3), (3, 61), (3, 62), (3, 63), (3, 64), (2, 34), (2, 35), (3, 65), (3, 67), (0, 16), (3, 68), (6, 13), (6, 14), (6, 15)] rfl
set_option maxRecDepth 20000 in
theorem wl_wsL_law0_r16 : ∀ w ∈ wsL_law0_r16, w ∈ lw_tbl := wl_of2 [(6, 16), (5, 137), (5, 141), (5, 131), (5, 133), (5, 134), (5, 132), (5, 142), (5, 149), (5, 150), (6, 17), (6, 19), (0, 44), (6, 20), (5, 139), (6, 21), (6, 22), (6, 23), (6, 24), (6, 26), (0, 45), (6, 27), (6, 28), (6, 30)] rfl
set_option maxRecDepth 20000 in
theorem wl_wsL_law0_r17 : ∀ w ∈ wsL_law0_r17, w ∈ lw_tbl := wl_of2 [(0, 46), (6, 31), (5, 136), (5, 135), (6, 32), (6, 34), (0, 47), (6, 35), (6, 36), (6, 37), (6, 38), (6, 39), (6, 40), (6, 41), (6, 42), (6, 44), (0, 48), (6, 45), (6, 47), (6, 49), (0, 49), (6, 50), (6, 51), (6, 52)] rfl
set_option maxRecDepth 20000 in
theorem wl_wsL_law0_r18 : ∀ w ∈ wsL_law0_r18, w ∈ lw_tbl := wl_of2 [(6, 53), (6, 55), (0, 50), (6, 56), (6, 57), (6, 59), (0, 51), (6, 60), (6, 62), (6, 64), (0, 52), (6, 65), (6, 66), (6, 68), (0, 53), (6, 69), (6, 70), (6, 72), (0, 54), (6, 73), (6, 74), (6, 76), (0, 55), (6, 77)] rfl
set_option maxRecDepth 20000 in
theorem wl_wsL_law0_r19 : ∀ w ∈ wsL_law0_r19, w ∈ lw_tbl := wl_of2 [(6, 78), (6, 80), (0, 56), (6, 81), (6, 82), (6, 84), (0, 57), (6, 85), (6, 90), (6, 92), (0, 58), (6, 93), (6, 95), (6, 97), (0, 59), (6, 98), (6, 102), (6, 104), (0, 60), (6, 105), (6, 106), (6, 108), (0, 61), (6, 109)] rfl
set_option maxRecDepth 20000 in
theorem wl_wsL_law0_r20 : ∀ w ∈ wsL_law0_r20, w ∈ lw_tbl := wl_of2 [(6, 110), (6, 112), (0, 62), (6, 113), (6, 116), (6, 118), (0, 63), (6, 119), (6, 123), (6, 125), (0, 64), (6, 126), (6, 129), (6, 131), (0, 65), (6, 132), (6, 134), (6, 135), (6, 136), (3, 69), (3, 70), (3, 71), (3, 72), (6, 137)] rfl
set_option maxRecDepth 20000 in
theorem wl_wsL_law0_r21 : ∀ w ∈ wsL_law0_r21, w ∈ lw_tbl := wl_of2 [(6, 138), (6, 139), (6, 140), (3, 73), (3, 74), (3, 75), (3, 76), (6, 141), (6, 142), (6, 143), (6, 144), (3, 77), (3, 78), (3, 79), (3, 80), (1, 99), (1, 101), (1, 210), (1, 213), (3, 81), (3, 83), (0, 17), (3, 84), (3, 85)] rfl
set_option maxRecDepth 20000 in
theorem wl_wsL_law0_r22 : ∀ w ∈ wsL_law0_r22, w ∈ lw_tbl := wl_of2 [(3, 86), (3, 87), (3, 88), (6, 145), (6, 146), (6, 147), (6, 148), (6, 149), (6, 151), (0, 66), (6, 152), (3, 90), (3, 91), (3, 92), (3, 93), (1, 109), (1, 53), (1, 55), (1, 195), (3, 94), (3, 96), (0, 18), (3, 97), (1, 49)] rfl
set_option maxRecDepth 20000 in
theorem wl_wsL_law0_r23 : ∀ w ∈ wsL_law0_r23, w ∈ lw_tbl := wl_of2 [(3, 98), (3, 99), (3, 100), (3, 101), (6, 153), (6, 154), (6, 155), (6, 156), (6, 157), (6, 159), (0, 67), (6, 160), (6, 161), (6, 163), (0, 68), (6, 164), (5, 153), (6, 165), (6, 167), (0, 69), (6, 168), (3, 102), (3, 103), (3, 104)] rfl
set_option maxRecDepth 20000 in
theorem wl_wsL_law0_r24 : ∀ w ∈ wsL_law0_r24, w ∈ lw_tbl := wl_of2 [(3, 105), (1, 198), (3, 106), (3, 108), (0, 19), (3, 109), (6, 169), (6, 170), (6, 171), (6, 172), (3, 110), (3, 111), (3, 112), (3, 113), (1, 74), (1, 201), (6, 173), (6, 174), (6, 175), (6, 176), (3, 114), (3, 115), (3, 116), (3, 117)] rfl
set_option maxRecDepth 20000 in
theorem wl_wsL_law0_r25 : ∀ w ∈ wsL_law0_r25, w ∈ lw_tbl := wl_of2 [(1, 207), (6, 177), (6, 178), (6, 179), (6, 180), (3, 118), (3, 119), (3, 120), (3, 121), (3, 122), (3, 123), (3, 125), (0, 20), (3, 126), (1, 85), (1, 88), (3, 127), (3, 128), (3, 129), (6, 181), (6, 182), (6, 183), (6, 184), (6, 185)] rfl
set_option maxRecDepth 20000 in
theorem wl_wsL_law0_r26 : ∀ w ∈ wsL_law0_r26, w ∈ lw_tbl := wl_of2 [(6, 186), (6, 188), (0, 70), (6, 189), (6, 190), (6, 192), (0, 71), (6, 193), (5, 158), (5, 159), (6, 194), (6, 196), (0, 72), (6, 197), (6, 198), (6, 200), (0, 73), (6, 201), (3, 130), (3, 131), (3, 132), (3, 133), (3, 134), (3, 135)] rfl
set_option maxRecDepth 20000 in
theorem wl_wsL_law0_r27 : ∀ w ∈ wsL_law0_r27, w ∈ lw_tbl := wl_of2 [(3, 136), (3, 137), (1, 83), (1, 86), (6, 202), (6, 203), (6, 204), (6, 205), (3, 138), (3, 139), (3, 140), (3, 141), (3, 142), (3, 144), (0, 21), (3, 145), (6, 206), (6, 207), (6, 208), (6, 209), (3, 146), (3, 147), (3, 148), (3, 149)] rfl
set_option maxRecDepth 20000 in
theorem wl_wsL_law0_r28 : ∀ w ∈ wsL_law0_r28, w ∈ lw_tbl := wl_of2 [(6, 210), (6, 211), (6, 212), (6, 213), (3, 150), (3, 151), (3, 152), (3, 153), (6, 214), (6, 215), (6, 216), (6, 217), (3, 154), (3, 155), (3, 156), (3, 157), (6, 218), (6, 219), (6, 220), (6, 221), (3, 158), (3, 159), (3, 160), (3, 161)] rfl
set_option maxRecDepth 20000 in
theorem wl_wsL_law0_r29 : ∀ w ∈ wsL_law0_r29, w ∈ lw_tbl := wl_of2 [(3, 162), (3, 164), (0, 22), (3, 165), (3, 166), (3, 168), (0, 23), (3, 169), (3, 170), (3, 171), (3, 172), (3, 173), (3, 174), (3, 176), (0, 24), (3, 177), (3, 178), (3, 179), (3, 180), (3, 181), (1, 199), (1, 202), (1, 211), (1, 196)] rfl
set_option maxRecDepth 20000 in
theorem wl_wsL_law0_r30 : ∀ w ∈ wsL_law0_r30, w ∈ lw_tbl := wl_of2 [(1, 214), (1, 73), (3, 182), (3, 184), (0, 25), (3, 185), (3, 187), (3, 189), (0, 26), (3, 190), (1, 208), (1, 76), (1, 204), (3, 191), (3, 192), (3, 194), (0, 27), (3, 195), (3, 196), (3, 197), (3, 198), (3, 199), (1, 50), (3, 200)] rfl
set_option maxRecDepth 20000 in
theorem wl_wsL_law0_r31 : ∀ w ∈ wsL_law0_r31, w ∈ lw_tbl := wl_of2 [(3, 202), (3, 203), (3, 204), (3, 205), (3, 206), (3, 207), (3, 208), (3, 209), (3, 210), (6, 222), (6, 223), (6, 224), (6, 225), (6, 226), (6, 228), (0, 74), (6, 229), (6, 230), (6, 232), (0, 75), (6, 233), (6, 234), (6, 236), (0, 76)] rfl
set_option maxRecDepth 20000 in
theorem wl_wsL_law0_r32 : ∀ w ∈ wsL_law0_r32, w ∈ lw_tbl := wl_of2 [(6, 237), (6, 238), (7, 0), (0, 77), (7, 1), (5, 156), (5, 154), (5, 155), (7, 2), (7, 3), (7, 4), (7, 5), (7, 7), (0, 78), (7, 8), (7, 9), (7, 11), (0, 79), (7, 12), (7, 13), (7, 15), (0, 80), (7, 16), (3, 211)] rfl
set_option maxRecDepth 20000 in
theorem wl_wsL_law0_r33 : ∀ w ∈ wsL_law0_r33, w ∈ lw_tbl := wl_of2 [(3, 212), (3, 213), (3, 214), (7, 17), (7, 18), (7, 19), (7, 20), (3, 215), (3, 216), (3, 217), (3, 218), (1, 205), (3, 219), (3, 221), (0, 28), (3, 222), (7, 21), (7, 22), (7, 23), (7, 24), (3, 223), (3, 224), (3, 225), (3, 226)] rfl
set_option maxRecDepth 20000 in
theorem wl_wsL_law0_r34 : ∀ w ∈ wsL_law0_r34, w ∈ lw_tbl := wl_of2 [(3, 227), (3, 229), (0, 29), (3, 230), (7, 25), (7, 26), (7, 27), (7, 28), (7, 29), (7, 31), (0, 81), (7, 32), (3, 231), (3, 232), (3, 233), (3, 234), (7, 33), (7, 34), (7, 35), (7, 36), (3, 235), (3, 236), (3, 237), (3, 238)] rfl
set_option maxRecDepth 20000 in
theorem wl_wsL_law0_r35 : ∀ w ∈ wsL_law0_r35, w ∈ lw_tbl := wl_of2 [(7, 37), (7, 38), (7, 39), (7, 40), (3, 239), (4, 0), (4, 1), (4, 2), (7, 41), (7, 42), (7, 43), (7, 44), (4, 3), (4, 4), (4, 5), (4, 6), (4, 7), (4, 9), (0, 30), (4, 10), (7, 45), (7, 46), (7, 47), (7, 48)] rfl
set_option maxRecDepth 20000 in
theorem wl_wsL_law0_r36 : ∀ w ∈ wsL_law0_r36, w ∈ lw_tbl := wl_of2 [(4, 11), (4, 12), (4, 13), (4, 14), (4, 15), (4, 17), (0, 31), (4, 18), (7, 49), (7, 50), (7, 51), (7, 52), (4, 19), (4, 20), (4, 21), (4, 22), (4, 23), (4, 24), (4, 25), (7, 53), (7, 54), (7, 55), (7, 56), (7, 57)] rfl
set_option maxRecDepth 20000 in
theorem wl_wsL_law0_r37 : ∀ w ∈ wsL_law0_r37, w ∈ lw_tbl := wl_of2 [(7, 58), (7, 59), (4, 26), (4, 27), (4, 28), (4, 29), (4, 30), (4, 31), (7, 60), (7, 61), (7, 62), (7, 63), (4, 32), (4, 33), (4, 34), (4, 35), (4, 36), (7, 64), (7, 65), (7, 66), (7, 67), (4, 37), (4, 38), (4, 39)] rfl
set_option maxRecDepth 20000 in
theorem wl_wsL_law0_r38 : ∀ w ∈ wsL_law0_r38, w ∈ lw_tbl := wl_of2 [(4, 40), (4, 41), (4, 43), (0, 32), (4, 44), (4, 45), (4, 47), (0, 33), (4, 48), (4, 49), (4, 50), (4, 51), (4, 52), (4, 54), (4, 55), (4, 56), (4, 57), (4, 58), (2, 57), (4, 59), (4, 61), (0, 34), (4, 62), (4, 63)] rfl
set_option maxRecDepth 20000 in
theorem wl_wsL_law0_r39 : ∀ w ∈ wsL_law0_r39, w ∈ lw_tbl := wl_of2 [(4, 65), (0, 35), (4, 66), (4, 67), (4, 68), (4, 69), (4, 70), (7, 80), (7, 81), (7, 82), (7, 83), (7, 84), (7, 86), (0, 82), (7, 87), (7, 88), (7, 90), (0, 83), (7, 91), (7, 92), (7, 94), (0, 84), (7, 95), (4, 71)] rfl
set_option maxRecDepth 20000 in
theorem wl_wsL_law0_r40 : ∀ w ∈ wsL_law0_r40, w ∈ lw_tbl := wl_of2 [(4, 72), (4, 73), (4, 74), (4, 75), (4, 76), (4, 77), (4, 78), (7, 96), (7, 97), (7, 98), (7, 99), (4, 79), (4, 80), (4, 81), (4, 82), (7, 100), (7, 101), (7, 102), (7, 103), (4, 83), (4, 84), (4, 85), (4, 86), (4, 87)] rfl
set_option maxRecDepth 20000 in
theorem wl_wsL_law0_r41 : ∀ w ∈ wsL_law0_r41, w ∈ lw_tbl := wl_of2 [(4, 88), (4, 89), (4, 90), (4, 91), (4, 93), (0, 36), (4, 94), (1, 51), (7, 104), (7, 105), (7, 106), (7, 107), (7, 77), (7, 78), (7, 79), (4, 95), (4, 96), (4, 97), (4, 98), (4, 99), (7, 68), (7, 69), (7, 70), (7, 71)] rfl
set_option maxRecDepth 20000 in
theorem wl_wsL_law0_r42 : ∀ w ∈ wsL_law0_r42, w ∈ lw_tbl := wl_of2 [(4, 100), (4, 101), (4, 102), (4, 103), (4, 104), (4, 106), (0, 37), (4, 107), (4, 108), (7, 72), (7, 73), (7, 74), (7, 75), (7, 76), (4, 109), (4, 110), (4, 111), (4, 112), (2, 26), (4, 113), (4, 114), (4, 115), (4, 116), (2, 25)] rfl
set_option maxRecDepth 20000 in
theorem wl_wsL_law0_r43 : ∀ w ∈ wsL_law0_r43, w ∈ lw_tbl := wl_of2 [(1, 69), (4, 117), (4, 119), (0, 38), (4, 120), (1, 95), (1, 106), (1, 103), (4, 121), (4, 122), (4, 123), (4, 124), (7, 108), (7, 109), (7, 110), (7, 111), (7, 112), (7, 114), (0, 85), (7, 115), (7, 116), (7, 118), (0, 86), (7, 119)] rfl
set_option maxRecDepth 20000 in
theorem wl_wsL_law0_r44 : ∀ w ∈ wsL_law0_r44, w ∈ lw_tbl := wl_of2 [(7, 120), (7, 122), (0, 87), (7, 123), (7, 124), (7, 126), (0, 88), (7, 127), (4, 126), (4, 127), (4, 128), (4, 129), (2, 32), (7, 128), (7, 129), (7, 130), (7, 131), (7, 132), (7, 134), (0, 89), (7, 135), (4, 130), (4, 131), (4, 132)] rfl
set_option maxRecDepth 20000 in
theorem wl_wsL_law0_r45 : ∀ w ∈ wsL_law0_r45, w ∈ lw_tbl := wl_of2 [(4, 133), (4, 134), (7, 136), (7, 137), (7, 138), (7, 139), (7, 140), (7, 142), (0, 90), (7, 143), (4, 135), (4, 136), (4, 137), (4, 138), (7, 144), (7, 145), (7, 146), (7, 147), (4, 139), (4, 140), (4, 141), (4, 142), (2, 28), (4, 143)] rfl
set_option maxRecDepth 20000 in
theorem wl_wsL_law0_r46 : ∀ w ∈ wsL_law0_r46, w ∈ lw_tbl := wl_of2 [(4, 144), (4, 145), (4, 146), (2, 27), (2, 29), (1, 72), (4, 147), (4, 148), (4, 150), (0, 39), (4, 151), (4, 152), (4, 154), (0, 40), (4, 155), (4, 156), (4, 157), (4, 158), (7, 148), (7, 149), (7, 150), (7, 151), (7, 152), (7, 154)] rfl
set_option maxRecDepth 20000 in
theorem wl_wsL_law0_r47 : ∀ w ∈ wsL_law0_r47, w ∈ lw_tbl := wl_of2 [(0, 91), (7, 155), (5, 164), (4, 159), (4, 160), (4, 161), (4, 162), (2, 30), (7, 156), (7, 157), (7, 158), (7, 159), (4, 163), (4, 164), (4, 165), (4, 166), (4, 167), (4, 168), (4, 169), (4, 170), (1, 90), (7, 164), (7, 165), (7, 166)] rfl
set_option maxRecDepth 20000 in
theorem wl_wsL_law0_r48 : ∀ w ∈ wsL_law0_r48, w ∈ lw_tbl := wl_of2 [(7, 167), (4, 171), (4, 172), (4, 173), (4, 174), (7, 168), (7, 169), (7, 170), (7, 171), (4, 175), (4, 176), (4, 177), (4, 178), (1, 97), (1, 107), (1, 104), (7, 160), (7, 161), (7, 162), (7, 163), (4, 179), (4, 180), (4, 181), (4, 182)] rfl
set_option maxRecDepth 20000 in
theorem wl_wsL_law0_r49 : ∀ w ∈ wsL_law0_r49, w ∈ lw_tbl := wl_of2 [(4, 183), (4, 184), (4, 185), (4, 186), (4, 187), (4, 188), (7, 172), (7, 173), (7, 174), (7, 175), (7, 176), (7, 177), (7, 178), (7, 179), (7, 180), (7, 181), (4, 189), (4, 190), (4, 191), (4, 192), (4, 193), (4, 194), (4, 195), (7, 182)] rfl
set_option maxRecDepth 20000 in
theorem wl_wsL_law0_r50 : ∀ w ∈ wsL_law0_r50, w ∈ lw_tbl := wl_of2 [(7, 183), (7, 184), (7, 185), (7, 186), (7, 188), (0, 92), (7, 189), (5, 165), (4, 196), (4, 197), (4, 198), (4, 199), (7, 190), (7, 191), (7, 192), (7, 193), (4, 200), (4, 201), (4, 202), (4, 203), (4, 208), (1, 80), (4, 204), (4, 206)] rfl
set_option maxRecDepth 20000 in
theorem wl_wsL_law0_r51 : ∀ w ∈ wsL_law0_r51, w ∈ lw_tbl := wl_of2 [(0, 41), (4, 207), (4, 209), (4, 210), (4, 211), (7, 194), (7, 195), (7, 196), (7, 197), (7, 202), (7, 198), (7, 200), (0, 93), (7, 201), (7, 203), (7, 204), (7, 205), (4, 212), (4, 213), (4, 214), (4, 215), (7, 206), (7, 207), (7, 208)] rfl
set_option maxRecDepth 20000 in
theorem wl_wsL_law0_r52 : ∀ w ∈ wsL_law0_r52, w ∈ lw_tbl := wl_of2 [(7, 209), (4, 216), (4, 217), (4, 218), (4, 219), (4, 220), (4, 221), (4, 222), (4, 223), (4, 224), (4, 225), (4, 227), (0, 42), (4, 228), (7, 210), (7, 211), (7, 212), (7, 213), (5, 167), (7, 214), (7, 216), (0, 94), (7, 217), (7, 218)] rfl
set_option maxRecDepth 20000 in
theorem wl_wsL_law0_r53 : ∀ w ∈ wsL_law0_r53, w ∈ lw_tbl := wl_of2 [(5, 166), (7, 219), (4, 229), (4, 230), (4, 231), (4, 232), (7, 220), (7, 221), (7, 222), (7, 223), (4, 233), (4, 234), (4, 235), (4, 236), (4, 237), (4, 238), (4, 239), (5, 0), (2, 5), (5, 2), (5, 1), (7, 224), (7, 225), (7, 226)] rfl
set_option maxRecDepth 20000 in
theorem wl_wsL_law0_r54 : ∀ w ∈ wsL_law0_r54, w ∈ lw_tbl := wl_of2 [(7, 227), (7, 228), (7, 230), (0, 95), (7, 231), (5, 3), (5, 4), (5, 5), (5, 6), (7, 232), (7, 233), (7, 234), (7, 235), (5, 7), (5, 8), (5, 9), (5, 10), (7, 236), (7, 237), (7, 238), (7, 239), (5, 11), (5, 12), (5, 13)] rfl
set_option maxRecDepth 20000 in
theorem wl_wsL_law0_r55 : ∀ w ∈ wsL_law0_r55, w ∈ lw_tbl := wl_of2 [(5, 14), (5, 15), (5, 16), (5, 17), (5, 18), (8, 0), (8, 1), (8, 2), (8, 3), (8, 4), (8, 6), (0, 96), (8, 7), (5, 19), (5, 20), (5, 21), (5, 22), (2, 4), (5, 23), (5, 24), (5, 25), (5, 26), (8, 8), (8, 9)] rfl
set_option maxRecDepth 20000 in
theorem wl_wsL_law0_r56 : ∀ w ∈ wsL_law0_r56, w ∈ lw_tbl := wl_of2 [(8, 10), (8, 11), (5, 27), (5, 28), (5, 29), (5, 30), (5, 31), (5, 32), (5, 33), (5, 34), (8, 12), (8, 13), (8, 14), (8, 15), (5, 49), (5, 50), (1, 0), (5, 51), (5, 52), (5, 53), (5, 54), (5, 55), (5, 56), (5, 57)] rfl
set_option maxRecDepth 20000 in
theorem wl_wsL_law0_r57 : ∀ w ∈ wsL_law0_r57, w ∈ lw_tbl := wl_of2 [(1, 19), (8, 16), (8, 17), (8, 18), (8, 19), (5, 36), (5, 37), (5, 38), (5, 39), (2, 2), (5, 40), (5, 41), (5, 42), (5, 43), (1, 78), (5, 44), (8, 20), (8, 21), (8, 22), (8, 23), (5, 45), (5, 46), (5, 47), (5, 48)] rfl
set_option maxRecDepth 20000 in
theorem wl_wsL_law0_r58 : ∀ w ∈ wsL_law0_r58, w ∈ lw_tbl := wl_of2 [(8, 24), (8, 25), (8, 26), (8, 27)] rfl
set_option maxRecDepth 20000 in
theorem wl_wsX70 : ∀ w ∈ wsX70, w ∈ lw_tbl := wl_of2 [(2, 80), (2, 82), (2, 84), (2, 86), (2, 88), (2, 90), (2, 92), (2, 94), (2, 96), (2, 98), (2, 100)] rfl
set_option maxRecDepth 20000 in
theorem wl_wsX80 : ∀ w ∈ wsX80, w ∈ lw_tbl := wl_of2 [(5, 168), (5, 170), (5, 172), (5, 174), (5, 176), (5, 178), (5, 180), (5, 182), (5, 184), (5, 186), (5, 188), (5, 190), (5, 192), (5, 194), (5, 196), (5, 198), (5, 200), (5, 202), (5, 204), (5, 206), (5, 208), (5, 210), (5, 212), (5, 214), (5, 216), (5, 218), (5, 220), (5, 222), (5, 224), (5, 226), (5, 228), (5, 230), (5, 232), (5, 234), (5, 236), (5, 238), (6, 0), (6, 2), (6, 4), (6, 6)] rfl
set_option maxRecDepth 20000 in
theorem wl_wsX30 : ∀ w ∈ wsX30, w ∈ lw_tbl := wl_of2 [(1, 159), (1, 161), (1, 163), (1, 165), (1, 167), (1, 169), (1, 171), (1, 173), (1, 175), (1, 177), (1, 179), (1, 181), (1, 183), (1, 185)] rfl
set_option maxRecDepth 20000 in
theorem wl_wsX50 : ∀ w ∈ wsX50, w ∈ lw_tbl := wl_of2 [(1, 215), (1, 217), (1, 219), (1, 221), (1, 223), (1, 225), (1, 227)] rfl
set_option maxRecDepth 20000 in
theorem wl_wsX60 : ∀ w ∈ wsX60, w ∈ lw_tbl := wl_of2 [(1, 56), (1, 58), (1, 60), (1, 62)] rfl
set_option maxRecDepth 20000 in
theorem wl_wsX10 : ∀ w ∈ wsX10, w ∈ lw_tbl := wl_of2 [(2, 8), (2, 10), (2, 12), (2, 14), (2, 16)] rfl
set_option maxRecDepth 20000 in
theorem wl_wsX20 : ∀ w ∈ wsX20, w ∈ lw_tbl := wl_of2 [(2, 36), (2, 38), (2, 40), (2, 42), (2, 44), (2, 46), (2, 48)] rfl
set_option maxRecDepth 20000 in
theorem wl_wsX40 : ∀ w ∈ wsX40, w ∈ lw_tbl := wl_of2 [(2, 60), (2, 62), (2, 64)] rfl
set_option maxRecDepth 20000 in
theorem wl_wsX00 : ∀ w ∈ wsX00, w ∈ lw_tbl := wl_of2 [(1, 111), (1, 113), (1, 115), (1, 117), (1, 119), (1, 121), (1, 123), (1, 125), (1, 127), (1, 129), (1, 131), (1, 133), (1, 135), (1, 137), (1, 139)] rfl
def wlL : List (List Cond) := [wsL_law0_r1, wsL_law0_r2, wsL_law0_r3, wsL_law0_r4, wsL_law0_r5, wsL_law0_r6, wsL_law0_r7, wsL_law0_r8, wsL_law0_r9, wsL_law0_r10, wsL_law0_r11, wsL_law0_r12, wsL_law0_r13, wsL_law0_r14, wsL_law0_r15, wsL_law0_r16, wsL_law0_r17, wsL_law0_r18, wsL_law0_r19, wsL_law0_r20, wsL_law0_r21, wsL_law0_r22, wsL_law0_r23, wsL_law0_r24, wsL_law0_r25, wsL_law0_r26, wsL_law0_r27, wsL_law0_r28, wsL_law0_r29, wsL_law0_r30, wsL_law0_r31, wsL_law0_r32, wsL_law0_r33, wsL_law0_r34, wsL_law0_r35, wsL_law0_r36, wsL_law0_r37, wsL_law0_r38, wsL_law0_r39, wsL_law0_r40, wsL_law0_r41, wsL_law0_r42, wsL_law0_r43, wsL_law0_r44, wsL_law0_r45, wsL_law0_r46, wsL_law0_r47, wsL_law0_r48, wsL_law0_r49, wsL_law0_r50, wsL_law0_r51, wsL_law0_r52, wsL_law0_r53, wsL_law0_r54, wsL_law0_r55, wsL_law0_r56, wsL_law0_r57, wsL_law0_r58, wsX70, wsX80, wsX30, wsX50, wsX60, wsX10, wsX20, wsX40, wsX00]
def wlT : List Cond := wlL.flatten ++ (ax_atX RX7 352 "java/util/NoSuchElementException" 13 ax_rx13 "java/lang/RuntimeException" ["java/lang/Exception"]).filter goodWord
set_option maxRecDepth 20000 in
theorem wl_x0 : ∀ w ∈ (ax_atX RX7 352 "java/util/NoSuchElementException" 13 ax_rx13 "java/lang/RuntimeException" ["java/lang/Exception"]).filter goodWord, w ∈ lw_tbl := by decide +kernel
theorem wlL_in : ∀ c ∈ wlL, ∀ w ∈ c, w ∈ lw_tbl := by
  unfold wlL
  exact List.forall_mem_cons.mpr ⟨wl_wsL_law0_r1, List.forall_mem_cons.mpr ⟨wl_wsL_law0_r2, List.forall_mem_cons.mpr ⟨wl_wsL_law0_r3, List.forall_mem_cons.mpr ⟨wl_wsL_law0_r4, List.forall_mem_cons.mpr ⟨wl_wsL_law0_r5, List.forall_mem_cons.mpr ⟨wl_wsL_law0_r6, List.forall_mem_cons.mpr ⟨wl_wsL_law0_r7, List.forall_mem_cons.mpr ⟨wl_wsL_law0_r8, List.forall_mem_cons.mpr ⟨wl_wsL_law0_r9, List.forall_mem_cons.mpr ⟨wl_wsL_law0_r10, List.forall_mem_cons.mpr ⟨wl_wsL_law0_r11, List.forall_mem_cons.mpr ⟨wl_wsL_law0_r12, List.forall_mem_cons.mpr ⟨wl_wsL_law0_r13, List.forall_mem_cons.mpr ⟨wl_wsL_law0_r14, List.forall_mem_cons.mpr ⟨wl_wsL_law0_r15, List.forall_mem_cons.mpr ⟨wl_wsL_law0_r16, List.forall_mem_cons.mpr ⟨wl_wsL_law0_r17, List.forall_mem_cons.mpr ⟨wl_wsL_law0_r18, List.forall_mem_cons.mpr ⟨wl_wsL_law0_r19, List.forall_mem_cons.mpr ⟨wl_wsL_law0_r20, List.forall_mem_cons.mpr ⟨wl_wsL_law0_r21, List.forall_mem_cons.mpr ⟨wl_wsL_law0_r22, List.forall_mem_cons.mpr ⟨wl_wsL_law0_r23, List.forall_mem_cons.mpr ⟨wl_wsL_law0_r24, List.forall_mem_cons.mpr ⟨wl_wsL_law0_r25, List.forall_mem_cons.mpr ⟨wl_wsL_law0_r26, List.forall_mem_cons.mpr ⟨wl_wsL_law0_r27, List.forall_mem_cons.mpr ⟨wl_wsL_law0_r28, List.forall_mem_cons.mpr ⟨wl_wsL_law0_r29, List.forall_mem_cons.mpr ⟨wl_wsL_law0_r30, List.forall_mem_cons.mpr ⟨wl_wsL_law0_r31, List.forall_mem_cons.mpr ⟨wl_wsL_law0_r32, List.forall_mem_cons.mpr ⟨wl_wsL_law0_r33, List.forall_mem_cons.mpr ⟨wl_wsL_law0_r34, List.forall_mem_cons.mpr ⟨wl_wsL_law0_r35, List.forall_mem_cons.mpr ⟨wl_wsL_law0_r36, List.forall_mem_cons.mpr ⟨wl_wsL_law0_r37, List.forall_mem_cons.mpr ⟨wl_wsL_law0_r38, List.forall_mem_cons.mpr ⟨wl_wsL_law0_r39, List.forall_mem_cons.mpr ⟨wl_wsL_law0_r40, List.forall_mem_cons.mpr ⟨wl_wsL_law0_r41, List.forall_mem_cons.mpr ⟨wl_wsL_law0_r42, List.forall_mem_cons.mpr ⟨wl_wsL_law0_r43, List.forall_mem_cons.mpr ⟨wl_wsL_law0_r44, List.forall_mem_cons.mpr ⟨wl_wsL_law0_r45, List.forall_mem_cons.mpr ⟨wl_wsL_law0_r46, List.forall_mem_cons.mpr ⟨wl_wsL_law0_r47, List.forall_mem_cons.mpr ⟨wl_wsL_law0_r48, List.forall_mem_cons.mpr ⟨wl_wsL_law0_r49, List.forall_mem_cons.mpr ⟨wl_wsL_law0_r50, List.forall_mem_cons.mpr ⟨wl_wsL_law0_r51, List.forall_mem_cons.mpr ⟨wl_wsL_law0_r52, List.forall_mem_cons.mpr ⟨wl_wsL_law0_r53, List.forall_mem_cons.mpr ⟨wl_wsL_law0_r54, List.forall_mem_cons.mpr ⟨wl_wsL_law0_r55, List.forall_mem_cons.mpr ⟨wl_wsL_law0_r56, List.forall_mem_cons.mpr ⟨wl_wsL_law0_r57, List.forall_mem_cons.mpr ⟨wl_wsL_law0_r58, List.forall_mem_cons.mpr ⟨wl_wsX70, List.forall_mem_cons.mpr ⟨wl_wsX80, List.forall_mem_cons.mpr ⟨wl_wsX30, List.forall_mem_cons.mpr ⟨wl_wsX50, List.forall_mem_cons.mpr ⟨wl_wsX60, List.forall_mem_cons.mpr ⟨wl_wsX10, List.forall_mem_cons.mpr ⟨wl_wsX20, List.forall_mem_cons.mpr ⟨wl_wsX40, List.forall_mem_cons.mpr ⟨wl_wsX00, fun _ h => absurd h List.not_mem_nil⟩⟩⟩⟩⟩⟩⟩⟩⟩⟩⟩⟩⟩⟩⟩⟩⟩⟩⟩⟩⟩⟩⟩⟩⟩⟩⟩⟩⟩⟩⟩⟩⟩⟩⟩⟩⟩⟩⟩⟩⟩⟩⟩⟩⟩⟩⟩⟩⟩⟩⟩⟩⟩⟩⟩⟩⟩⟩⟩⟩⟩⟩⟩⟩⟩⟩⟩
theorem wlT_in : ∀ w ∈ wlT, w ∈ lw_tbl := by
  intro w h
  rcases List.mem_append.mp h with h | h
  · obtain ⟨c, hc, hw⟩ := List.mem_flatten.mp h
    exact wlL_in c hc w hw
  · exact wl_x0 w h
theorem wl_at {i j : Nat} {w : Cond} (h : (wlL[i]?).bind (fun c => c[j]?) = some w) : w ∈ wlT := by
  obtain ⟨c, hc, hj⟩ := Option.bind_eq_some_iff.mp h
  exact List.mem_append_left _ (List.mem_flatten.mpr ⟨c, List.mem_of_getElem? hc, List.mem_of_getElem? hj⟩)
theorem gd_x : GoodIn wlT ((ax_atX RX7 352 "java/util/NoSuchElementException" 13 ax_rx13 "java/lang/RuntimeException" ["java/lang/Exception"]).filter goodWord) := goodIn_sub (fun _ h => List.mem_append_right _ h) (by decide +kernel)
theorem inlX7 : ∀ w ∈ wsX70, w ∈ wlT := fun w h => List.mem_append_left _ (List.mem_flatten.mpr ⟨wsX70, List.mem_of_getElem? (i := 58) rfl, h⟩)
theorem inX7 : ∀ w ∈ wsX70, w ∈ lw_tbl := wl_wsX70
theorem inlX8 : ∀ w ∈ wsX80, w ∈ wlT := fun w h => List.mem_append_left _ (List.mem_flatten.mpr ⟨wsX80, List.mem_of_getElem? (i := 59) rfl, h⟩)
theorem inX8 : ∀ w ∈ wsX80, w ∈ lw_tbl := wl_wsX80
theorem inX3 : ∀ w ∈ wsX30, w ∈ lw_tbl := wl_wsX30
theorem inX5 : ∀ w ∈ wsX50, w ∈ lw_tbl := wl_wsX50
theorem inX6 : ∀ w ∈ wsX60, w ∈ lw_tbl := wl_wsX60
theorem inX1 : ∀ w ∈ wsX10, w ∈ lw_tbl := wl_wsX10
theorem inX2 : ∀ w ∈ wsX20, w ∈ lw_tbl := wl_wsX20
theorem inX4 : ∀ w ∈ wsX40, w ∈ lw_tbl := wl_wsX40
theorem inX0 : ∀ w ∈ wsX00, w ∈ lw_tbl := wl_wsX00
theorem gd_s {ws : List Cond} (ps : List (Nat × Nat × Nat)) (h : ws = ps.flatMap (fun q => ((wlL.drop q.1).flatten.drop q.2.1).take q.2.2)) (h2 : ws.all goodWord = true) : GoodIn wlT ws := by
  intro w hw
  have h1 := List.all_eq_true.mp h2 w hw
  rw [h] at hw
  obtain ⟨q, -, hq⟩ := List.mem_flatMap.mp hw
  obtain ⟨c, hc, hj⟩ := List.mem_flatten.mp (List.mem_of_mem_drop (List.mem_of_mem_take hq))
  exact ⟨List.mem_append_left _ (List.mem_flatten.mpr ⟨c, List.mem_of_mem_drop hc, hj⟩), good_of_word h1⟩
end P422_words
section P4229_zl
theorem zdrop : ∀ (j : Nat) (L : List (List UInt8)), (∀ t ∈ L.take j, t.length = 64) → L.flatten.drop (64 * j) = (L.drop j).flatten
  | 0, L, _ => rfl
  | j + 1, [], _ => rfl
  | j + 1, t :: L, h => by
    have ht : t.length = 64 := h t (List.mem_cons_self ..)
    have ih := zdrop j L (fun x hx => h x (List.mem_cons_of_mem _ hx))
    show (t ++ L.flatten).drop (64 * (j + 1)) = (L.drop j).flatten
    rw [← ih, show 64 * (j + 1) = t.length + 64 * j from by omega]
    exact List.drop_length_add_append _
theorem zrd_ch {code : ByteArray} {L : List (List UInt8)} {m : Nat} (he : code.data.toList = L.flatten) (hl : ∀ t ∈ L.take m, t.length = 64) (j o n : Nat) {l : List Nat} (hj : j ≤ m) (h : (((L.drop j).flatten.drop o).take n).map UInt8.toNat = l) : zrd code (64 * j + o) n = l := by
  have h1 : L.flatten.drop (64 * j) = (L.drop j).flatten := zdrop j L (fun t ht => hl t (by
    have h2 : L.take j = (L.take m).take j := by rw [List.take_take, Nat.min_eq_left hj]
    rw [h2] at ht
    exact List.mem_of_mem_take ht))
  unfold zrd
  rw [he, ← List.drop_drop, h1]
  exact h
def zl_0 : List UInt8 := [187, 0, 8, 89, 183, 0, 15, 76, 187, 0, 16, 89, 183, 0, 18, 77, 4, 188, 11, 78, 3, 54, 4, 21, 4, 42, 190, 16, 6, 100, 163, 7, 125, 42, 21, 4, 46, 16, 63, 126, 170, 0, 0, 0, 0, 0, 7, 109, 0, 0, 0, 0, 0, 0, 0, 57, 0, 0, 0, 248, 0, 0, 1, 65]
def zl_1 : List UInt8 := [0, 0, 1, 90, 0, 0, 1, 103, 0, 0, 1, 116, 0, 0, 1, 153, 0, 0, 1, 190, 0, 0, 1, 203, 0, 0, 1, 216, 0, 0, 1, 229, 0, 0, 1, 254, 0, 0, 2, 23, 0, 0, 2, 36, 0, 0, 2, 49, 0, 0, 2, 62, 0, 0, 2, 99, 0, 0, 2, 136, 0, 0, 2, 173]
def zl_2 : List UInt8 := [0, 0, 2, 198, 0, 0, 2, 211, 0, 0, 2, 236, 0, 0, 3, 17, 0, 0, 3, 42, 0, 0, 3, 67, 0, 0, 3, 92, 0, 0, 3, 117, 0, 0, 3, 154, 0, 0, 3, 191, 0, 0, 3, 228, 0, 0, 4, 21, 0, 0, 4, 46, 0, 0, 4, 71, 0, 0, 4, 84, 0, 0, 4, 121]
def zl_3 : List UInt8 := [0, 0, 4, 134, 0, 0, 4, 159, 0, 0, 4, 184, 0, 0, 4, 221, 0, 0, 4, 234, 0, 0, 4, 247, 0, 0, 5, 4, 0, 0, 5, 41, 0, 0, 5, 54, 0, 0, 5, 163, 0, 0, 5, 188, 0, 0, 5, 213, 0, 0, 6, 22, 0, 0, 6, 87, 0, 0, 6, 136, 0, 0, 6, 173]
def zl_4 : List UInt8 := [0, 0, 6, 198, 0, 0, 6, 223, 0, 0, 6, 248, 0, 0, 7, 5, 0, 0, 7, 18, 0, 0, 7, 43, 0, 0, 7, 71, 0, 0, 7, 96, 43, 42, 21, 4, 4, 96, 46, 42, 21, 4, 5, 96, 46, 42, 21, 4, 6, 96, 46, 42, 21, 4, 7, 96, 46, 42, 21, 4, 8, 96, 46, 182]
def zl_5 : List UInt8 := [0, 19, 87, 44, 42, 21, 4, 4, 96, 46, 42, 21, 4, 5, 96, 46, 42, 21, 4, 6, 96, 46, 42, 21, 4, 7, 96, 46, 42, 21, 4, 8, 96, 46, 182, 0, 23, 87, 167, 6, 47, 43, 42, 21, 4, 4, 96, 46, 182, 0, 24, 87, 44, 42, 21, 4, 4, 96, 46, 182, 0, 27, 87, 167]
def zl_6 : List UInt8 := [6, 22, 43, 182, 0, 28, 87, 44, 182, 0, 32, 87, 167, 6, 9, 43, 182, 0, 33, 44, 182, 0, 36, 159, 5, 254, 3, 172, 43, 42, 21, 4, 4, 96, 46, 42, 21, 4, 5, 96, 46, 182, 0, 37, 87, 44, 42, 21, 4, 4, 96, 46, 42, 21, 4, 5, 96, 46, 182, 0, 41, 87, 167, 5]
def zl_7 : List UInt8 := [215, 43, 42, 21, 4, 4, 96, 46, 42, 21, 4, 5, 96, 46, 182, 0, 42, 87, 44, 42, 21, 4, 4, 96, 46, 42, 21, 4, 5, 96, 46, 182, 0, 45, 87, 167, 5, 178, 43, 182, 0, 46, 87, 44, 182, 0, 49, 87, 167, 5, 165, 43, 182, 0, 50, 87, 44, 182, 0, 53, 87, 167, 5, 152]
def zl_8 : List UInt8 := [43, 182, 0, 54, 87, 44, 182, 0, 57, 87, 167, 5, 139, 43, 42, 21, 4, 4, 96, 46, 182, 0, 58, 87, 44, 42, 21, 4, 4, 96, 46, 182, 0, 61, 87, 167, 5, 114, 43, 42, 21, 4, 4, 96, 46, 182, 0, 62, 87, 44, 42, 21, 4, 4, 96, 46, 182, 0, 65, 87, 167, 5, 89, 43]
def zl_9 : List UInt8 := [182, 0, 66, 87, 44, 182, 0, 69, 87, 167, 5, 76, 43, 182, 0, 70, 87, 44, 182, 0, 73, 87, 167, 5, 63, 43, 182, 0, 74, 87, 44, 182, 0, 77, 87, 167, 5, 50, 43, 42, 21, 4, 4, 96, 46, 42, 21, 4, 5, 96, 46, 182, 0, 78, 87, 44, 42, 21, 4, 4, 96, 46, 42, 21]
def zl_10 : List UInt8 := [4, 5, 96, 46, 182, 0, 81, 87, 167, 5, 13, 43, 42, 21, 4, 4, 96, 46, 42, 21, 4, 5, 96, 46, 182, 0, 82, 87, 44, 42, 21, 4, 4, 96, 46, 42, 21, 4, 5, 96, 46, 182, 0, 85, 87, 167, 4, 232, 43, 42, 21, 4, 4, 96, 46, 42, 21, 4, 5, 96, 46, 182, 0, 86]
def zl_11 : List UInt8 := [87, 44, 42, 21, 4, 4, 96, 46, 42, 21, 4, 5, 96, 46, 182, 0, 89, 87, 167, 4, 195, 43, 42, 21, 4, 4, 96, 46, 182, 0, 90, 87, 44, 42, 21, 4, 4, 96, 46, 182, 0, 93, 87, 167, 4, 170, 43, 182, 0, 94, 87, 44, 182, 0, 97, 87, 167, 4, 157, 43, 42, 21, 4, 4]
def zl_12 : List UInt8 := [96, 46, 182, 0, 98, 87, 44, 42, 21, 4, 4, 96, 46, 182, 0, 101, 87, 167, 4, 132, 43, 42, 21, 4, 4, 96, 46, 42, 21, 4, 5, 96, 46, 182, 0, 102, 87, 44, 42, 21, 4, 4, 96, 46, 42, 21, 4, 5, 96, 46, 182, 0, 105, 87, 167, 4, 95, 43, 42, 21, 4, 4, 96, 46]
def zl_13 : List UInt8 := [182, 0, 106, 87, 44, 42, 21, 4, 4, 96, 46, 182, 0, 109, 87, 167, 4, 70, 43, 42, 21, 4, 4, 96, 46, 182, 0, 110, 87, 44, 42, 21, 4, 4, 96, 46, 182, 0, 113, 87, 167, 4, 45, 43, 42, 21, 4, 4, 96, 46, 182, 0, 114, 87, 44, 42, 21, 4, 4, 96, 46, 182, 0, 117]
def zl_14 : List UInt8 := [87, 167, 4, 20, 43, 42, 21, 4, 4, 96, 46, 182, 0, 118, 87, 44, 42, 21, 4, 4, 96, 46, 182, 0, 121, 87, 167, 3, 251, 43, 42, 21, 4, 4, 96, 46, 42, 21, 4, 5, 96, 46, 182, 0, 122, 87, 44, 42, 21, 4, 4, 96, 46, 42, 21, 4, 5, 96, 46, 182, 0, 125, 87, 167]
def zl_15 : List UInt8 := [3, 214, 43, 42, 21, 4, 4, 96, 46, 42, 21, 4, 5, 96, 46, 182, 0, 126, 87, 44, 42, 21, 4, 4, 96, 46, 42, 21, 4, 5, 96, 46, 182, 0, 129, 87, 167, 3, 177, 43, 42, 21, 4, 4, 96, 46, 42, 21, 4, 5, 96, 46, 182, 0, 130, 87, 44, 42, 21, 4, 4, 96, 46, 42]
def zl_16 : List UInt8 := [21, 4, 5, 96, 46, 182, 0, 133, 87, 167, 3, 140, 43, 42, 21, 4, 4, 96, 46, 42, 21, 4, 5, 96, 46, 42, 21, 4, 6, 96, 46, 182, 0, 134, 87, 44, 42, 21, 4, 4, 96, 46, 42, 21, 4, 5, 96, 46, 42, 21, 4, 6, 96, 46, 182, 0, 138, 87, 167, 3, 91, 43, 42, 21]
def zl_17 : List UInt8 := [4, 4, 96, 46, 182, 0, 139, 87, 44, 42, 21, 4, 4, 96, 46, 182, 0, 142, 87, 167, 3, 66, 43, 42, 21, 4, 4, 96, 46, 182, 0, 143, 87, 44, 42, 21, 4, 4, 96, 46, 182, 0, 146, 87, 167, 3, 41, 43, 182, 0, 147, 87, 44, 182, 0, 150, 87, 167, 3, 28, 43, 42, 21, 4]
def zl_18 : List UInt8 := [4, 96, 46, 42, 21, 4, 5, 96, 46, 182, 0, 151, 87, 44, 42, 21, 4, 4, 96, 46, 42, 21, 4, 5, 96, 46, 182, 0, 154, 87, 167, 2, 247, 43, 182, 0, 155, 87, 44, 182, 0, 158, 87, 167, 2, 234, 43, 42, 21, 4, 4, 96, 46, 182, 0, 159, 87, 44, 42, 21, 4, 4, 96, 46]
def zl_19 : List UInt8 := [182, 0, 162, 87, 167, 2, 209, 43, 42, 21, 4, 4, 96, 46, 182, 0, 163, 87, 44, 42, 21, 4, 4, 96, 46, 182, 0, 166, 87, 167, 2, 184, 43, 42, 21, 4, 4, 96, 46, 42, 21, 4, 5, 96, 46, 182, 0, 167, 87, 44, 42, 21, 4, 4, 96, 46, 42, 21, 4, 5, 96, 46, 182, 0]
def zl_20 : List UInt8 := [170, 87, 167, 2, 147, 43, 182, 0, 171, 87, 44, 182, 0, 174, 87, 167, 2, 134, 43, 182, 0, 175, 87, 44, 182, 0, 178, 87, 167, 2, 121, 43, 182, 0, 179, 87, 44, 182, 0, 182, 87, 167, 2, 108, 43, 42, 21, 4, 4, 96, 46, 42, 21, 4, 5, 96, 46, 182, 0, 183, 87, 44, 42, 21]
def zl_21 : List UInt8 := [4, 4, 96, 46, 42, 21, 4, 5, 96, 46, 182, 0, 186, 87, 167, 2, 71, 43, 182, 0, 187, 87, 44, 182, 0, 190, 87, 167, 2, 58, 43, 42, 21, 4, 4, 96, 46, 42, 21, 4, 5, 96, 46, 153, 0, 7, 4, 167, 0, 4, 3, 42, 21, 4, 6, 96, 46, 153, 0, 7, 4, 167, 0, 4]
def zl_22 : List UInt8 := [3, 42, 21, 4, 7, 96, 46, 153, 0, 7, 4, 167, 0, 4, 3, 182, 0, 191, 87, 44, 42, 21, 4, 4, 96, 46, 42, 21, 4, 5, 96, 46, 153, 0, 7, 4, 167, 0, 4, 3, 42, 21, 4, 6, 96, 46, 153, 0, 7, 4, 167, 0, 4, 3, 42, 21, 4, 7, 96, 46, 153, 0, 7, 4]
def zl_23 : List UInt8 := [167, 0, 4, 3, 182, 0, 195, 87, 167, 1, 205, 43, 42, 21, 4, 4, 96, 46, 182, 0, 196, 87, 44, 42, 21, 4, 4, 96, 46, 182, 0, 199, 87, 167, 1, 180, 43, 42, 21, 4, 4, 96, 46, 182, 0, 200, 87, 44, 42, 21, 4, 4, 96, 46, 182, 0, 203, 87, 167, 1, 155, 43, 42, 21]
def zl_24 : List UInt8 := [4, 4, 96, 46, 42, 21, 4, 5, 96, 46, 42, 21, 4, 6, 96, 46, 153, 0, 7, 4, 167, 0, 4, 3, 182, 0, 204, 88, 44, 42, 21, 4, 4, 96, 46, 42, 21, 4, 5, 96, 46, 42, 21, 4, 6, 96, 46, 153, 0, 7, 4, 167, 0, 4, 3, 182, 0, 208, 88, 167, 1, 90, 43, 42]
def zl_25 : List UInt8 := [21, 4, 4, 96, 46, 42, 21, 4, 5, 96, 46, 42, 21, 4, 6, 96, 46, 153, 0, 7, 4, 167, 0, 4, 3, 182, 0, 209, 88, 44, 42, 21, 4, 4, 96, 46, 42, 21, 4, 5, 96, 46, 42, 21, 4, 6, 96, 46, 153, 0, 7, 4, 167, 0, 4, 3, 182, 0, 212, 88, 167, 1, 25, 43]
def zl_26 : List UInt8 := [42, 21, 4, 4, 96, 46, 42, 21, 4, 5, 96, 46, 42, 21, 4, 6, 96, 46, 182, 0, 213, 87, 44, 42, 21, 4, 4, 96, 46, 42, 21, 4, 5, 96, 46, 42, 21, 4, 6, 96, 46, 182, 0, 216, 87, 167, 0, 232, 43, 42, 21, 4, 4, 96, 46, 42, 21, 4, 5, 96, 46, 182, 0, 217]
def zl_27 : List UInt8 := [87, 44, 42, 21, 4, 4, 96, 46, 42, 21, 4, 5, 96, 46, 182, 0, 220, 87, 167, 0, 195, 43, 42, 21, 4, 4, 96, 46, 182, 0, 221, 87, 44, 42, 21, 4, 4, 96, 46, 182, 0, 224, 87, 167, 0, 170, 43, 42, 21, 4, 4, 96, 46, 182, 0, 225, 87, 44, 42, 21, 4, 4, 96, 46]
def zl_28 : List UInt8 := [182, 0, 228, 87, 167, 0, 145, 43, 42, 21, 4, 4, 96, 46, 182, 0, 229, 87, 44, 42, 21, 4, 4, 96, 46, 182, 0, 232, 87, 167, 0, 120, 43, 182, 0, 233, 87, 44, 182, 0, 237, 87, 167, 0, 107, 43, 182, 0, 238, 87, 44, 182, 0, 241, 87, 167, 0, 94, 43, 42, 21, 4, 4, 96]
def zl_29 : List UInt8 := [46, 182, 0, 242, 87, 44, 42, 21, 4, 4, 96, 46, 182, 0, 246, 87, 167, 0, 69, 43, 42, 21, 4, 4, 96, 46, 45, 184, 0, 247, 54, 5, 44, 42, 21, 4, 4, 96, 46, 182, 0, 252, 54, 6, 167, 0, 41, 43, 42, 21, 4, 4, 96, 46, 182, 0, 253, 87, 44, 42, 21, 4, 4, 96]
def zl_30 : List UInt8 := [46, 182, 1, 0, 87, 167, 0, 16, 43, 182, 1, 1, 87, 44, 182, 1, 4, 87, 167, 0, 3, 132, 4, 6, 167, 248, 127, 4, 172]
def zl_all : List (List UInt8) := [zl_0, zl_1, zl_2, zl_3, zl_4, zl_5, zl_6, zl_7, zl_8, zl_9, zl_10, zl_11, zl_12, zl_13, zl_14, zl_15, zl_16, zl_17, zl_18, zl_19, zl_20, zl_21, zl_22, zl_23, zl_24, zl_25, zl_26, zl_27, zl_28, zl_29, zl_30]
theorem zl_eq : cL_law.data.toList = zl_all.flatten := by decide +kernel
theorem zl_len : ∀ t ∈ zl_all.take 30, t.length = 64 := by decide +kernel
end P4229_zl
section P423_decode_0
theorem dL_led_0 : decode cL_led 0 = .ok (.aload_n 2, 1) := zy_0 zK_44 (by decide +kernel)
theorem dL_led_1 : decode cL_led 1 = .ok (.iconst 0, 1) := zy_0 zK_3 (by decide +kernel)
theorem dL_led_2 : decode cL_led 2 = .ok (.aload_n 0, 1) := zy_0 zK_42 (by decide +kernel)
theorem dL_led_3 : decode cL_led 3 = .ok (.iload_n 1, 1) := zy_0 zK_27 (by decide +kernel)
theorem dL_led_4 : decode cL_led 4 = .ok (.invokevirtual 7, 3) := zy_u2 (b1 := 0) (b2 := 7) zK_182 (by decide +kernel)
theorem dL_led_7 : decode cL_led 7 = .ok (.i2l, 1) := zy_0 zK_133 (by decide +kernel)
theorem dL_led_8 : decode cL_led 8 = .ok (.lastore, 1) := zy_0 zK_80 (by decide +kernel)
theorem dL_led_9 : decode cL_led 9 = .ok (.goto 6, 3) := zy_s2 (b1 := 0) (b2 := 6) zK_167 (by decide +kernel) (by decide +kernel)
theorem dL_led_12 : decode cL_led 12 = .ok (.astore_n 3, 1) := zy_0 zK_78 (by decide +kernel)
theorem dL_led_13 : decode cL_led 13 = .ok (.iconst 1, 1) := zy_0 zK_4 (by decide +kernel)
theorem dL_led_14 : decode cL_led 14 = .ok (.ireturn, 1) := zy_0 zK_172 (by decide +kernel)
theorem dL_led_15 : decode cL_led 15 = .ok (.iconst 0, 1) := zy_0 zK_3 (by decide +kernel)
theorem dL_led_16 : decode cL_led 16 = .ok (.ireturn, 1) := zy_0 zK_172 (by decide +kernel)
theorem dL_law_0 : decode cL_law 0 = .ok (.new 8, 3) := zy_u2 (b1 := 0) (b2 := 8) zK_187 (zrd_ch zl_eq zl_len 0 0 _ (Nat.le_of_ble_eq_true rfl) (by decide +kernel))
theorem dL_law_3 : decode cL_law 3 = .ok (.dup, 1) := zy_0 zK_89 (zrd_ch zl_eq zl_len 0 3 _ (Nat.le_of_ble_eq_true rfl) (by decide +kernel))
theorem dL_law_4 : decode cL_law 4 = .ok (.invokespecial 15, 3) := zy_u2 (b1 := 0) (b2 := 15) zK_183 (zrd_ch zl_eq zl_len 0 4 _ (Nat.le_of_ble_eq_true rfl) (by decide +kernel))
theorem dL_law_7 : decode cL_law 7 = .ok (.astore_n 1, 1) := zy_0 zK_76 (zrd_ch zl_eq zl_len 0 7 _ (Nat.le_of_ble_eq_true rfl) (by decide +kernel))
theorem dL_law_8 : decode cL_law 8 = .ok (.new 16, 3) := zy_u2 (b1 := 0) (b2 := 16) zK_187 (zrd_ch zl_eq zl_len 0 8 _ (Nat.le_of_ble_eq_true rfl) (by decide +kernel))
theorem dL_law_11 : decode cL_law 11 = .ok (.dup, 1) := zy_0 zK_89 (zrd_ch zl_eq zl_len 0 11 _ (Nat.le_of_ble_eq_true rfl) (by decide +kernel))
theorem dL_law_12 : decode cL_law 12 = .ok (.invokespecial 18, 3) := zy_u2 (b1 := 0) (b2 := 18) zK_183 (zrd_ch zl_eq zl_len 0 12 _ (Nat.le_of_ble_eq_true rfl) (by decide +kernel))
theorem dL_law_15 : decode cL_law 15 = .ok (.astore_n 2, 1) := zy_0 zK_77 (zrd_ch zl_eq zl_len 0 15 _ (Nat.le_of_ble_eq_true rfl) (by decide +kernel))
theorem dL_law_16 : decode cL_law 16 = .ok (.iconst 1, 1) := zy_0 zK_4 (zrd_ch zl_eq zl_len 0 16 _ (Nat.le_of_ble_eq_true rfl) (by decide +kernel))
theorem dL_law_17 : decode cL_law 17 = .ok (.newarray .long, 2) := by decide +kernel
theorem dL_law_19 : decode cL_law 19 = .ok (.astore_n 3, 1) := zy_0 zK_78 (zrd_ch zl_eq zl_len 0 19 _ (Nat.le_of_ble_eq_true rfl) (by decide +kernel))
theorem dL_law_20 : decode cL_law 20 = .ok (.iconst 0, 1) := zy_0 zK_3 (zrd_ch zl_eq zl_len 0 20 _ (Nat.le_of_ble_eq_true rfl) (by decide +kernel))
theorem dL_law_21 : decode cL_law 21 = .ok (.istore 4, 2) := zy_u1 (b1 := 4) zK_54 (zrd_ch zl_eq zl_len 0 21 _ (Nat.le_of_ble_eq_true rfl) (by decide +kernel))
theorem dL_law_23 : decode cL_law 23 = .ok (.iload 4, 2) := zy_u1 (b1 := 4) zK_21 (zrd_ch zl_eq zl_len 0 23 _ (Nat.le_of_ble_eq_true rfl) (by decide +kernel))
theorem dL_law_25 : decode cL_law 25 = .ok (.aload_n 0, 1) := zy_0 zK_42 (zrd_ch zl_eq zl_len 0 25 _ (Nat.le_of_ble_eq_true rfl) (by decide +kernel))
theorem dL_law_26 : decode cL_law 26 = .ok (.arraylength, 1) := zy_0 zK_190 (zrd_ch zl_eq zl_len 0 26 _ (Nat.le_of_ble_eq_true rfl) (by decide +kernel))
theorem dL_law_27 : decode cL_law 27 = .ok (.bipush 6, 2) := zy_s1 (b1 := 6) zK_16 (zrd_ch zl_eq zl_len 0 27 _ (Nat.le_of_ble_eq_true rfl) (by decide +kernel)) (by decide +kernel)
theorem dL_law_29 : decode cL_law 29 = .ok (.isub, 1) := zy_0 zK_100 (zrd_ch zl_eq zl_len 0 29 _ (Nat.le_of_ble_eq_true rfl) (by decide +kernel))
theorem dL_law_30 : decode cL_law 30 = .ok (.if_icmp .gt 1917, 3) := zy_s2 (b1 := 7) (b2 := 125) zK_163 (zrd_ch zl_eq zl_len 0 30 _ (Nat.le_of_ble_eq_true rfl) (by decide +kernel)) (by decide +kernel)
theorem dL_law_33 : decode cL_law 33 = .ok (.aload_n 0, 1) := zy_0 zK_42 (zrd_ch zl_eq zl_len 0 33 _ (Nat.le_of_ble_eq_true rfl) (by decide +kernel))
theorem dL_law_34 : decode cL_law 34 = .ok (.iload 4, 2) := zy_u1 (b1 := 4) zK_21 (zrd_ch zl_eq zl_len 0 34 _ (Nat.le_of_ble_eq_true rfl) (by decide +kernel))
theorem dL_law_36 : decode cL_law 36 = .ok (.iaload, 1) := zy_0 zK_46 (zrd_ch zl_eq zl_len 0 36 _ (Nat.le_of_ble_eq_true rfl) (by decide +kernel))
theorem dL_law_37 : decode cL_law 37 = .ok (.bipush 63, 2) := zy_s1 (b1 := 63) zK_16 (zrd_ch zl_eq zl_len 0 37 _ (Nat.le_of_ble_eq_true rfl) (by decide +kernel)) (by decide +kernel)
theorem dL_law_39 : decode cL_law 39 = .ok (.iand, 1) := zy_0 zK_126 (zrd_ch zl_eq zl_len 0 39 _ (Nat.le_of_ble_eq_true rfl) (by decide +kernel))
theorem dL_law_40 : decode cL_law 40 = .ok (.tableswitch 1901 0 57 #[248, 321, 346, 359, 372, 409, 446, 459, 472, 485, 510, 535, 548, 561, 574, 611, 648, 685, 710, 723, 748, 785, 810, 835, 860, 885, 922, 959, 996, 1045, 1070, 1095, 1108, 1145, 1158, 1183, 1208, 1245, 1258, 1271, 1284, 1321, 1334, 1443, 1468, 1493, 1558, 1623, 1672, 1709, 1734, 1759, 1784, 1797, 1810, 1835, 1863, 1888], 248) := by decide +kernel
theorem dL_law_288 : decode cL_law 288 = .ok (.aload_n 1, 1) := zy_0 zK_43 (zrd_ch zl_eq zl_len 4 32 _ (Nat.le_of_ble_eq_true rfl) (by decide +kernel))
theorem dL_law_289 : decode cL_law 289 = .ok (.aload_n 0, 1) := zy_0 zK_42 (zrd_ch zl_eq zl_len 4 33 _ (Nat.le_of_ble_eq_true rfl) (by decide +kernel))
theorem dL_law_290 : decode cL_law 290 = .ok (.iload 4, 2) := zy_u1 (b1 := 4) zK_21 (zrd_ch zl_eq zl_len 4 34 _ (Nat.le_of_ble_eq_true rfl) (by decide +kernel))
theorem dL_law_292 : decode cL_law 292 = .ok (.iconst 1, 1) := zy_0 zK_4 (zrd_ch zl_eq zl_len 4 36 _ (Nat.le_of_ble_eq_true rfl) (by decide +kernel))
theorem dL_law_293 : decode cL_law 293 = .ok (.iadd, 1) := zy_0 zK_96 (zrd_ch zl_eq zl_len 4 37 _ (Nat.le_of_ble_eq_true rfl) (by decide +kernel))
theorem dL_law_294 : decode cL_law 294 = .ok (.iaload, 1) := zy_0 zK_46 (zrd_ch zl_eq zl_len 4 38 _ (Nat.le_of_ble_eq_true rfl) (by decide +kernel))
theorem dL_law_295 : decode cL_law 295 = .ok (.aload_n 0, 1) := zy_0 zK_42 (zrd_ch zl_eq zl_len 4 39 _ (Nat.le_of_ble_eq_true rfl) (by decide +kernel))
theorem dL_law_296 : decode cL_law 296 = .ok (.iload 4, 2) := zy_u1 (b1 := 4) zK_21 (zrd_ch zl_eq zl_len 4 40 _ (Nat.le_of_ble_eq_true rfl) (by decide +kernel))
theorem dL_law_298 : decode cL_law 298 = .ok (.iconst 2, 1) := zy_0 zK_5 (zrd_ch zl_eq zl_len 4 42 _ (Nat.le_of_ble_eq_true rfl) (by decide +kernel))
theorem dL_law_299 : decode cL_law 299 = .ok (.iadd, 1) := zy_0 zK_96 (zrd_ch zl_eq zl_len 4 43 _ (Nat.le_of_ble_eq_true rfl) (by decide +kernel))
theorem dL_law_300 : decode cL_law 300 = .ok (.iaload, 1) := zy_0 zK_46 (zrd_ch zl_eq zl_len 4 44 _ (Nat.le_of_ble_eq_true rfl) (by decide +kernel))
theorem dL_law_301 : decode cL_law 301 = .ok (.aload_n 0, 1) := zy_0 zK_42 (zrd_ch zl_eq zl_len 4 45 _ (Nat.le_of_ble_eq_true rfl) (by decide +kernel))
theorem dL_law_302 : decode cL_law 302 = .ok (.iload 4, 2) := zy_u1 (b1 := 4) zK_21 (zrd_ch zl_eq zl_len 4 46 _ (Nat.le_of_ble_eq_true rfl) (by decide +kernel))
theorem dL_law_304 : decode cL_law 304 = .ok (.iconst 3, 1) := zy_0 zK_6 (zrd_ch zl_eq zl_len 4 48 _ (Nat.le_of_ble_eq_true rfl) (by decide +kernel))
theorem dL_law_305 : decode cL_law 305 = .ok (.iadd, 1) := zy_0 zK_96 (zrd_ch zl_eq zl_len 4 49 _ (Nat.le_of_ble_eq_true rfl) (by decide +kernel))
theorem dL_law_306 : decode cL_law 306 = .ok (.iaload, 1) := zy_0 zK_46 (zrd_ch zl_eq zl_len 4 50 _ (Nat.le_of_ble_eq_true rfl) (by decide +kernel))
theorem dL_law_307 : decode cL_law 307 = .ok (.aload_n 0, 1) := zy_0 zK_42 (zrd_ch zl_eq zl_len 4 51 _ (Nat.le_of_ble_eq_true rfl) (by decide +kernel))
theorem dL_law_308 : decode cL_law 308 = .ok (.iload 4, 2) := zy_u1 (b1 := 4) zK_21 (zrd_ch zl_eq zl_len 4 52 _ (Nat.le_of_ble_eq_true rfl) (by decide +kernel))
theorem dL_law_310 : decode cL_law 310 = .ok (.iconst 4, 1) := zy_0 zK_7 (zrd_ch zl_eq zl_len 4 54 _ (Nat.le_of_ble_eq_true rfl) (by decide +kernel))
theorem dL_law_311 : decode cL_law 311 = .ok (.iadd, 1) := zy_0 zK_96 (zrd_ch zl_eq zl_len 4 55 _ (Nat.le_of_ble_eq_true rfl) (by decide +kernel))
theorem dL_law_312 : decode cL_law 312 = .ok (.iaload, 1) := zy_0 zK_46 (zrd_ch zl_eq zl_len 4 56 _ (Nat.le_of_ble_eq_true rfl) (by decide +kernel))
theorem dL_law_313 : decode cL_law 313 = .ok (.aload_n 0, 1) := zy_0 zK_42 (zrd_ch zl_eq zl_len 4 57 _ (Nat.le_of_ble_eq_true rfl) (by decide +kernel))
theorem dL_law_314 : decode cL_law 314 = .ok (.iload 4, 2) := zy_u1 (b1 := 4) zK_21 (zrd_ch zl_eq zl_len 4 58 _ (Nat.le_of_ble_eq_true rfl) (by decide +kernel))
theorem dL_law_316 : decode cL_law 316 = .ok (.iconst 5, 1) := zy_0 zK_8 (zrd_ch zl_eq zl_len 4 60 _ (Nat.le_of_ble_eq_true rfl) (by decide +kernel))
theorem dL_law_317 : decode cL_law 317 = .ok (.iadd, 1) := zy_0 zK_96 (zrd_ch zl_eq zl_len 4 61 _ (Nat.le_of_ble_eq_true rfl) (by decide +kernel))
theorem dL_law_318 : decode cL_law 318 = .ok (.iaload, 1) := zy_0 zK_46 (zrd_ch zl_eq zl_len 4 62 _ (Nat.le_of_ble_eq_true rfl) (by decide +kernel))
theorem dL_law_319 : decode cL_law 319 = .ok (.invokevirtual 19, 3) := zy_u2 (b1 := 0) (b2 := 19) zK_182 (zrd_ch zl_eq zl_len 4 63 _ (Nat.le_of_ble_eq_true rfl) (by decide +kernel))
theorem dL_law_322 : decode cL_law 322 = .ok (.pop, 1) := zy_0 zK_87 (zrd_ch zl_eq zl_len 5 2 _ (Nat.le_of_ble_eq_true rfl) (by decide +kernel))
theorem dL_law_323 : decode cL_law 323 = .ok (.aload_n 2, 1) := zy_0 zK_44 (zrd_ch zl_eq zl_len 5 3 _ (Nat.le_of_ble_eq_true rfl) (by decide +kernel))
theorem dL_law_324 : decode cL_law 324 = .ok (.aload_n 0, 1) := zy_0 zK_42 (zrd_ch zl_eq zl_len 5 4 _ (Nat.le_of_ble_eq_true rfl) (by decide +kernel))
theorem dL_law_325 : decode cL_law 325 = .ok (.iload 4, 2) := zy_u1 (b1 := 4) zK_21 (zrd_ch zl_eq zl_len 5 5 _ (Nat.le_of_ble_eq_true rfl) (by decide +kernel))
theorem dL_law_327 : decode cL_law 327 = .ok (.iconst 1, 1) := zy_0 zK_4 (zrd_ch zl_eq zl_len 5 7 _ (Nat.le_of_ble_eq_true rfl) (by decide +kernel))
theorem dL_law_328 : decode cL_law 328 = .ok (.iadd, 1) := zy_0 zK_96 (zrd_ch zl_eq zl_len 5 8 _ (Nat.le_of_ble_eq_true rfl) (by decide +kernel))
theorem dL_law_329 : decode cL_law 329 = .ok (.iaload, 1) := zy_0 zK_46 (zrd_ch zl_eq zl_len 5 9 _ (Nat.le_of_ble_eq_true rfl) (by decide +kernel))
theorem dL_law_330 : decode cL_law 330 = .ok (.aload_n 0, 1) := zy_0 zK_42 (zrd_ch zl_eq zl_len 5 10 _ (Nat.le_of_ble_eq_true rfl) (by decide +kernel))
theorem dL_law_331 : decode cL_law 331 = .ok (.iload 4, 2) := zy_u1 (b1 := 4) zK_21 (zrd_ch zl_eq zl_len 5 11 _ (Nat.le_of_ble_eq_true rfl) (by decide +kernel))
theorem dL_law_333 : decode cL_law 333 = .ok (.iconst 2, 1) := zy_0 zK_5 (zrd_ch zl_eq zl_len 5 13 _ (Nat.le_of_ble_eq_true rfl) (by decide +kernel))
theorem dL_law_334 : decode cL_law 334 = .ok (.iadd, 1) := zy_0 zK_96 (zrd_ch zl_eq zl_len 5 14 _ (Nat.le_of_ble_eq_true rfl) (by decide +kernel))
theorem dL_law_335 : decode cL_law 335 = .ok (.iaload, 1) := zy_0 zK_46 (zrd_ch zl_eq zl_len 5 15 _ (Nat.le_of_ble_eq_true rfl) (by decide +kernel))
theorem dL_law_336 : decode cL_law 336 = .ok (.aload_n 0, 1) := zy_0 zK_42 (zrd_ch zl_eq zl_len 5 16 _ (Nat.le_of_ble_eq_true rfl) (by decide +kernel))
theorem dL_law_337 : decode cL_law 337 = .ok (.iload 4, 2) := zy_u1 (b1 := 4) zK_21 (zrd_ch zl_eq zl_len 5 17 _ (Nat.le_of_ble_eq_true rfl) (by decide +kernel))
theorem dL_law_339 : decode cL_law 339 = .ok (.iconst 3, 1) := zy_0 zK_6 (zrd_ch zl_eq zl_len 5 19 _ (Nat.le_of_ble_eq_true rfl) (by decide +kernel))
theorem dL_law_340 : decode cL_law 340 = .ok (.iadd, 1) := zy_0 zK_96 (zrd_ch zl_eq zl_len 5 20 _ (Nat.le_of_ble_eq_true rfl) (by decide +kernel))
theorem dL_law_341 : decode cL_law 341 = .ok (.iaload, 1) := zy_0 zK_46 (zrd_ch zl_eq zl_len 5 21 _ (Nat.le_of_ble_eq_true rfl) (by decide +kernel))
theorem dL_law_342 : decode cL_law 342 = .ok (.aload_n 0, 1) := zy_0 zK_42 (zrd_ch zl_eq zl_len 5 22 _ (Nat.le_of_ble_eq_true rfl) (by decide +kernel))
theorem dL_law_343 : decode cL_law 343 = .ok (.iload 4, 2) := zy_u1 (b1 := 4) zK_21 (zrd_ch zl_eq zl_len 5 23 _ (Nat.le_of_ble_eq_true rfl) (by decide +kernel))
theorem dL_law_345 : decode cL_law 345 = .ok (.iconst 4, 1) := zy_0 zK_7 (zrd_ch zl_eq zl_len 5 25 _ (Nat.le_of_ble_eq_true rfl) (by decide +kernel))
theorem dL_law_346 : decode cL_law 346 = .ok (.iadd, 1) := zy_0 zK_96 (zrd_ch zl_eq zl_len 5 26 _ (Nat.le_of_ble_eq_true rfl) (by decide +kernel))
theorem dL_law_347 : decode cL_law 347 = .ok (.iaload, 1) := zy_0 zK_46 (zrd_ch zl_eq zl_len 5 27 _ (Nat.le_of_ble_eq_true rfl) (by decide +kernel))
theorem dL_law_348 : decode cL_law 348 = .ok (.aload_n 0, 1) := zy_0 zK_42 (zrd_ch zl_eq zl_len 5 28 _ (Nat.le_of_ble_eq_true rfl) (by decide +kernel))
theorem dL_law_349 : decode cL_law 349 = .ok (.iload 4, 2) := zy_u1 (b1 := 4) zK_21 (zrd_ch zl_eq zl_len 5 29 _ (Nat.le_of_ble_eq_true rfl) (by decide +kernel))
theorem dL_law_351 : decode cL_law 351 = .ok (.iconst 5, 1) := zy_0 zK_8 (zrd_ch zl_eq zl_len 5 31 _ (Nat.le_of_ble_eq_true rfl) (by decide +kernel))
theorem dL_law_352 : decode cL_law 352 = .ok (.iadd, 1) := zy_0 zK_96 (zrd_ch zl_eq zl_len 5 32 _ (Nat.le_of_ble_eq_true rfl) (by decide +kernel))
theorem dL_law_353 : decode cL_law 353 = .ok (.iaload, 1) := zy_0 zK_46 (zrd_ch zl_eq zl_len 5 33 _ (Nat.le_of_ble_eq_true rfl) (by decide +kernel))
theorem dL_law_354 : decode cL_law 354 = .ok (.invokevirtual 23, 3) := zy_u2 (b1 := 0) (b2 := 23) zK_182 (zrd_ch zl_eq zl_len 5 34 _ (Nat.le_of_ble_eq_true rfl) (by decide +kernel))
theorem dL_law_357 : decode cL_law 357 = .ok (.pop, 1) := zy_0 zK_87 (zrd_ch zl_eq zl_len 5 37 _ (Nat.le_of_ble_eq_true rfl) (by decide +kernel))
theorem dL_law_358 : decode cL_law 358 = .ok (.goto 1583, 3) := zy_s2 (b1 := 6) (b2 := 47) zK_167 (zrd_ch zl_eq zl_len 5 38 _ (Nat.le_of_ble_eq_true rfl) (by decide +kernel)) (by decide +kernel)
theorem dL_law_361 : decode cL_law 361 = .ok (.aload_n 1, 1) := zy_0 zK_43 (zrd_ch zl_eq zl_len 5 41 _ (Nat.le_of_ble_eq_true rfl) (by decide +kernel))
theorem dL_law_362 : decode cL_law 362 = .ok (.aload_n 0, 1) := zy_0 zK_42 (zrd_ch zl_eq zl_len 5 42 _ (Nat.le_of_ble_eq_true rfl) (by decide +kernel))
theorem dL_law_363 : decode cL_law 363 = .ok (.iload 4, 2) := zy_u1 (b1 := 4) zK_21 (zrd_ch zl_eq zl_len 5 43 _ (Nat.le_of_ble_eq_true rfl) (by decide +kernel))
theorem dL_law_365 : decode cL_law 365 = .ok (.iconst 1, 1) := zy_0 zK_4 (zrd_ch zl_eq zl_len 5 45 _ (Nat.le_of_ble_eq_true rfl) (by decide +kernel))
theorem dL_law_366 : decode cL_law 366 = .ok (.iadd, 1) := zy_0 zK_96 (zrd_ch zl_eq zl_len 5 46 _ (Nat.le_of_ble_eq_true rfl) (by decide +kernel))
theorem dL_law_367 : decode cL_law 367 = .ok (.iaload, 1) := zy_0 zK_46 (zrd_ch zl_eq zl_len 5 47 _ (Nat.le_of_ble_eq_true rfl) (by decide +kernel))
theorem dL_law_368 : decode cL_law 368 = .ok (.invokevirtual 24, 3) := zy_u2 (b1 := 0) (b2 := 24) zK_182 (zrd_ch zl_eq zl_len 5 48 _ (Nat.le_of_ble_eq_true rfl) (by decide +kernel))
theorem dL_law_371 : decode cL_law 371 = .ok (.pop, 1) := zy_0 zK_87 (zrd_ch zl_eq zl_len 5 51 _ (Nat.le_of_ble_eq_true rfl) (by decide +kernel))
theorem dL_law_372 : decode cL_law 372 = .ok (.aload_n 2, 1) := zy_0 zK_44 (zrd_ch zl_eq zl_len 5 52 _ (Nat.le_of_ble_eq_true rfl) (by decide +kernel))
theorem dL_law_373 : decode cL_law 373 = .ok (.aload_n 0, 1) := zy_0 zK_42 (zrd_ch zl_eq zl_len 5 53 _ (Nat.le_of_ble_eq_true rfl) (by decide +kernel))
theorem dL_law_374 : decode cL_law 374 = .ok (.iload 4, 2) := zy_u1 (b1 := 4) zK_21 (zrd_ch zl_eq zl_len 5 54 _ (Nat.le_of_ble_eq_true rfl) (by decide +kernel))
theorem dL_law_376 : decode cL_law 376 = .ok (.iconst 1, 1) := zy_0 zK_4 (zrd_ch zl_eq zl_len 5 56 _ (Nat.le_of_ble_eq_true rfl) (by decide +kernel))
theorem dL_law_377 : decode cL_law 377 = .ok (.iadd, 1) := zy_0 zK_96 (zrd_ch zl_eq zl_len 5 57 _ (Nat.le_of_ble_eq_true rfl) (by decide +kernel))
theorem dL_law_378 : decode cL_law 378 = .ok (.iaload, 1) := zy_0 zK_46 (zrd_ch zl_eq zl_len 5 58 _ (Nat.le_of_ble_eq_true rfl) (by decide +kernel))
theorem dL_law_379 : decode cL_law 379 = .ok (.invokevirtual 27, 3) := zy_u2 (b1 := 0) (b2 := 27) zK_182 (zrd_ch zl_eq zl_len 5 59 _ (Nat.le_of_ble_eq_true rfl) (by decide +kernel))
theorem dL_law_382 : decode cL_law 382 = .ok (.pop, 1) := zy_0 zK_87 (zrd_ch zl_eq zl_len 5 62 _ (Nat.le_of_ble_eq_true rfl) (by decide +kernel))
theorem dL_law_383 : decode cL_law 383 = .ok (.goto 1558, 3) := zy_s2 (b1 := 6) (b2 := 22) zK_167 (zrd_ch zl_eq zl_len 5 63 _ (Nat.le_of_ble_eq_true rfl) (by decide +kernel)) (by decide +kernel)
theorem dL_law_386 : decode cL_law 386 = .ok (.aload_n 1, 1) := zy_0 zK_43 (zrd_ch zl_eq zl_len 6 2 _ (Nat.le_of_ble_eq_true rfl) (by decide +kernel))
theorem dL_law_387 : decode cL_law 387 = .ok (.invokevirtual 28, 3) := zy_u2 (b1 := 0) (b2 := 28) zK_182 (zrd_ch zl_eq zl_len 6 3 _ (Nat.le_of_ble_eq_true rfl) (by decide +kernel))
theorem dL_law_390 : decode cL_law 390 = .ok (.pop, 1) := zy_0 zK_87 (zrd_ch zl_eq zl_len 6 6 _ (Nat.le_of_ble_eq_true rfl) (by decide +kernel))
theorem dL_law_391 : decode cL_law 391 = .ok (.aload_n 2, 1) := zy_0 zK_44 (zrd_ch zl_eq zl_len 6 7 _ (Nat.le_of_ble_eq_true rfl) (by decide +kernel))
theorem dL_law_392 : decode cL_law 392 = .ok (.invokevirtual 32, 3) := zy_u2 (b1 := 0) (b2 := 32) zK_182 (zrd_ch zl_eq zl_len 6 8 _ (Nat.le_of_ble_eq_true rfl) (by decide +kernel))
theorem dL_law_395 : decode cL_law 395 = .ok (.pop, 1) := zy_0 zK_87 (zrd_ch zl_eq zl_len 6 11 _ (Nat.le_of_ble_eq_true rfl) (by decide +kernel))
theorem dL_law_396 : decode cL_law 396 = .ok (.goto 1545, 3) := zy_s2 (b1 := 6) (b2 := 9) zK_167 (zrd_ch zl_eq zl_len 6 12 _ (Nat.le_of_ble_eq_true rfl) (by decide +kernel)) (by decide +kernel)
theorem dL_law_399 : decode cL_law 399 = .ok (.aload_n 1, 1) := zy_0 zK_43 (zrd_ch zl_eq zl_len 6 15 _ (Nat.le_of_ble_eq_true rfl) (by decide +kernel))
theorem dL_law_400 : decode cL_law 400 = .ok (.invokevirtual 33, 3) := zy_u2 (b1 := 0) (b2 := 33) zK_182 (zrd_ch zl_eq zl_len 6 16 _ (Nat.le_of_ble_eq_true rfl) (by decide +kernel))
theorem dL_law_403 : decode cL_law 403 = .ok (.aload_n 2, 1) := zy_0 zK_44 (zrd_ch zl_eq zl_len 6 19 _ (Nat.le_of_ble_eq_true rfl) (by decide +kernel))
theorem dL_law_404 : decode cL_law 404 = .ok (.invokevirtual 36, 3) := zy_u2 (b1 := 0) (b2 := 36) zK_182 (zrd_ch zl_eq zl_len 6 20 _ (Nat.le_of_ble_eq_true rfl) (by decide +kernel))
theorem dL_law_407 : decode cL_law 407 = .ok (.if_icmp .eq 1534, 3) := zy_s2 (b1 := 5) (b2 := 254) zK_159 (zrd_ch zl_eq zl_len 6 23 _ (Nat.le_of_ble_eq_true rfl) (by decide +kernel)) (by decide +kernel)
theorem dL_law_412 : decode cL_law 412 = .ok (.aload_n 1, 1) := zy_0 zK_43 (zrd_ch zl_eq zl_len 6 28 _ (Nat.le_of_ble_eq_true rfl) (by decide +kernel))
theorem dL_law_413 : decode cL_law 413 = .ok (.aload_n 0, 1) := zy_0 zK_42 (zrd_ch zl_eq zl_len 6 29 _ (Nat.le_of_ble_eq_true rfl) (by decide +kernel))
theorem dL_law_414 : decode cL_law 414 = .ok (.iload 4, 2) := zy_u1 (b1 := 4) zK_21 (zrd_ch zl_eq zl_len 6 30 _ (Nat.le_of_ble_eq_true rfl) (by decide +kernel))
theorem dL_law_416 : decode cL_law 416 = .ok (.iconst 1, 1) := zy_0 zK_4 (zrd_ch zl_eq zl_len 6 32 _ (Nat.le_of_ble_eq_true rfl) (by decide +kernel))
theorem dL_law_417 : decode cL_law 417 = .ok (.iadd, 1) := zy_0 zK_96 (zrd_ch zl_eq zl_len 6 33 _ (Nat.le_of_ble_eq_true rfl) (by decide +kernel))
theorem dL_law_418 : decode cL_law 418 = .ok (.iaload, 1) := zy_0 zK_46 (zrd_ch zl_eq zl_len 6 34 _ (Nat.le_of_ble_eq_true rfl) (by decide +kernel))
theorem dL_law_419 : decode cL_law 419 = .ok (.aload_n 0, 1) := zy_0 zK_42 (zrd_ch zl_eq zl_len 6 35 _ (Nat.le_of_ble_eq_true rfl) (by decide +kernel))
theorem dL_law_420 : decode cL_law 420 = .ok (.iload 4, 2) := zy_u1 (b1 := 4) zK_21 (zrd_ch zl_eq zl_len 6 36 _ (Nat.le_of_ble_eq_true rfl) (by decide +kernel))
theorem dL_law_422 : decode cL_law 422 = .ok (.iconst 2, 1) := zy_0 zK_5 (zrd_ch zl_eq zl_len 6 38 _ (Nat.le_of_ble_eq_true rfl) (by decide +kernel))
theorem dL_law_423 : decode cL_law 423 = .ok (.iadd, 1) := zy_0 zK_96 (zrd_ch zl_eq zl_len 6 39 _ (Nat.le_of_ble_eq_true rfl) (by decide +kernel))
theorem dL_law_424 : decode cL_law 424 = .ok (.iaload, 1) := zy_0 zK_46 (zrd_ch zl_eq zl_len 6 40 _ (Nat.le_of_ble_eq_true rfl) (by decide +kernel))
theorem dL_law_425 : decode cL_law 425 = .ok (.invokevirtual 37, 3) := zy_u2 (b1 := 0) (b2 := 37) zK_182 (zrd_ch zl_eq zl_len 6 41 _ (Nat.le_of_ble_eq_true rfl) (by decide +kernel))
theorem dL_law_428 : decode cL_law 428 = .ok (.pop, 1) := zy_0 zK_87 (zrd_ch zl_eq zl_len 6 44 _ (Nat.le_of_ble_eq_true rfl) (by decide +kernel))
theorem dL_law_429 : decode cL_law 429 = .ok (.aload_n 2, 1) := zy_0 zK_44 (zrd_ch zl_eq zl_len 6 45 _ (Nat.le_of_ble_eq_true rfl) (by decide +kernel))
theorem dL_law_430 : decode cL_law 430 = .ok (.aload_n 0, 1) := zy_0 zK_42 (zrd_ch zl_eq zl_len 6 46 _ (Nat.le_of_ble_eq_true rfl) (by decide +kernel))
theorem dL_law_431 : decode cL_law 431 = .ok (.iload 4, 2) := zy_u1 (b1 := 4) zK_21 (zrd_ch zl_eq zl_len 6 47 _ (Nat.le_of_ble_eq_true rfl) (by decide +kernel))
theorem dL_law_433 : decode cL_law 433 = .ok (.iconst 1, 1) := zy_0 zK_4 (zrd_ch zl_eq zl_len 6 49 _ (Nat.le_of_ble_eq_true rfl) (by decide +kernel))
theorem dL_law_434 : decode cL_law 434 = .ok (.iadd, 1) := zy_0 zK_96 (zrd_ch zl_eq zl_len 6 50 _ (Nat.le_of_ble_eq_true rfl) (by decide +kernel))
theorem dL_law_435 : decode cL_law 435 = .ok (.iaload, 1) := zy_0 zK_46 (zrd_ch zl_eq zl_len 6 51 _ (Nat.le_of_ble_eq_true rfl) (by decide +kernel))
theorem dL_law_436 : decode cL_law 436 = .ok (.aload_n 0, 1) := zy_0 zK_42 (zrd_ch zl_eq zl_len 6 52 _ (Nat.le_of_ble_eq_true rfl) (by decide +kernel))
theorem dL_law_437 : decode cL_law 437 = .ok (.iload 4, 2) := zy_u1 (b1 := 4) zK_21 (zrd_ch zl_eq zl_len 6 53 _ (Nat.le_of_ble_eq_true rfl) (by decide +kernel))
theorem dL_law_439 : decode cL_law 439 = .ok (.iconst 2, 1) := zy_0 zK_5 (zrd_ch zl_eq zl_len 6 55 _ (Nat.le_of_ble_eq_true rfl) (by decide +kernel))
theorem dL_law_440 : decode cL_law 440 = .ok (.iadd, 1) := zy_0 zK_96 (zrd_ch zl_eq zl_len 6 56 _ (Nat.le_of_ble_eq_true rfl) (by decide +kernel))
theorem dL_law_441 : decode cL_law 441 = .ok (.iaload, 1) := zy_0 zK_46 (zrd_ch zl_eq zl_len 6 57 _ (Nat.le_of_ble_eq_true rfl) (by decide +kernel))
theorem dL_law_442 : decode cL_law 442 = .ok (.invokevirtual 41, 3) := zy_u2 (b1 := 0) (b2 := 41) zK_182 (zrd_ch zl_eq zl_len 6 58 _ (Nat.le_of_ble_eq_true rfl) (by decide +kernel))
theorem dL_law_445 : decode cL_law 445 = .ok (.pop, 1) := zy_0 zK_87 (zrd_ch zl_eq zl_len 6 61 _ (Nat.le_of_ble_eq_true rfl) (by decide +kernel))
theorem dL_law_446 : decode cL_law 446 = .ok (.goto 1495, 3) := zy_s2 (b1 := 5) (b2 := 215) zK_167 (zrd_ch zl_eq zl_len 6 62 _ (Nat.le_of_ble_eq_true rfl) (by decide +kernel)) (by decide +kernel)
theorem dL_law_449 : decode cL_law 449 = .ok (.aload_n 1, 1) := zy_0 zK_43 (zrd_ch zl_eq zl_len 7 1 _ (Nat.le_of_ble_eq_true rfl) (by decide +kernel))
theorem dL_law_450 : decode cL_law 450 = .ok (.aload_n 0, 1) := zy_0 zK_42 (zrd_ch zl_eq zl_len 7 2 _ (Nat.le_of_ble_eq_true rfl) (by decide +kernel))
theorem dL_law_451 : decode cL_law 451 = .ok (.iload 4, 2) := zy_u1 (b1 := 4) zK_21 (zrd_ch zl_eq zl_len 7 3 _ (Nat.le_of_ble_eq_true rfl) (by decide +kernel))
theorem dL_law_453 : decode cL_law 453 = .ok (.iconst 1, 1) := zy_0 zK_4 (zrd_ch zl_eq zl_len 7 5 _ (Nat.le_of_ble_eq_true rfl) (by decide +kernel))
theorem dL_law_454 : decode cL_law 454 = .ok (.iadd, 1) := zy_0 zK_96 (zrd_ch zl_eq zl_len 7 6 _ (Nat.le_of_ble_eq_true rfl) (by decide +kernel))
theorem dL_law_455 : decode cL_law 455 = .ok (.iaload, 1) := zy_0 zK_46 (zrd_ch zl_eq zl_len 7 7 _ (Nat.le_of_ble_eq_true rfl) (by decide +kernel))
theorem dL_law_456 : decode cL_law 456 = .ok (.aload_n 0, 1) := zy_0 zK_42 (zrd_ch zl_eq zl_len 7 8 _ (Nat.le_of_ble_eq_true rfl) (by decide +kernel))
theorem dL_law_457 : decode cL_law 457 = .ok (.iload 4, 2) := zy_u1 (b1 := 4) zK_21 (zrd_ch zl_eq zl_len 7 9 _ (Nat.le_of_ble_eq_true rfl) (by decide +kernel))
theorem dL_law_459 : decode cL_law 459 = .ok (.iconst 2, 1) := zy_0 zK_5 (zrd_ch zl_eq zl_len 7 11 _ (Nat.le_of_ble_eq_true rfl) (by decide +kernel))
theorem dL_law_460 : decode cL_law 460 = .ok (.iadd, 1) := zy_0 zK_96 (zrd_ch zl_eq zl_len 7 12 _ (Nat.le_of_ble_eq_true rfl) (by decide +kernel))
theorem dL_law_461 : decode cL_law 461 = .ok (.iaload, 1) := zy_0 zK_46 (zrd_ch zl_eq zl_len 7 13 _ (Nat.le_of_ble_eq_true rfl) (by decide +kernel))
theorem dL_law_462 : decode cL_law 462 = .ok (.invokevirtual 42, 3) := zy_u2 (b1 := 0) (b2 := 42) zK_182 (zrd_ch zl_eq zl_len 7 14 _ (Nat.le_of_ble_eq_true rfl) (by decide +kernel))
theorem dL_law_465 : decode cL_law 465 = .ok (.pop, 1) := zy_0 zK_87 (zrd_ch zl_eq zl_len 7 17 _ (Nat.le_of_ble_eq_true rfl) (by decide +kernel))
theorem dL_law_466 : decode cL_law 466 = .ok (.aload_n 2, 1) := zy_0 zK_44 (zrd_ch zl_eq zl_len 7 18 _ (Nat.le_of_ble_eq_true rfl) (by decide +kernel))
theorem dL_law_467 : decode cL_law 467 = .ok (.aload_n 0, 1) := zy_0 zK_42 (zrd_ch zl_eq zl_len 7 19 _ (Nat.le_of_ble_eq_true rfl) (by decide +kernel))
theorem dL_law_468 : decode cL_law 468 = .ok (.iload 4, 2) := zy_u1 (b1 := 4) zK_21 (zrd_ch zl_eq zl_len 7 20 _ (Nat.le_of_ble_eq_true rfl) (by decide +kernel))
theorem dL_law_470 : decode cL_law 470 = .ok (.iconst 1, 1) := zy_0 zK_4 (zrd_ch zl_eq zl_len 7 22 _ (Nat.le_of_ble_eq_true rfl) (by decide +kernel))
theorem dL_law_471 : decode cL_law 471 = .ok (.iadd, 1) := zy_0 zK_96 (zrd_ch zl_eq zl_len 7 23 _ (Nat.le_of_ble_eq_true rfl) (by decide +kernel))
theorem dL_law_472 : decode cL_law 472 = .ok (.iaload, 1) := zy_0 zK_46 (zrd_ch zl_eq zl_len 7 24 _ (Nat.le_of_ble_eq_true rfl) (by decide +kernel))
theorem dL_law_473 : decode cL_law 473 = .ok (.aload_n 0, 1) := zy_0 zK_42 (zrd_ch zl_eq zl_len 7 25 _ (Nat.le_of_ble_eq_true rfl) (by decide +kernel))
theorem dL_law_474 : decode cL_law 474 = .ok (.iload 4, 2) := zy_u1 (b1 := 4) zK_21 (zrd_ch zl_eq zl_len 7 26 _ (Nat.le_of_ble_eq_true rfl) (by decide +kernel))
theorem dL_law_476 : decode cL_law 476 = .ok (.iconst 2, 1) := zy_0 zK_5 (zrd_ch zl_eq zl_len 7 28 _ (Nat.le_of_ble_eq_true rfl) (by decide +kernel))
theorem dL_law_477 : decode cL_law 477 = .ok (.iadd, 1) := zy_0 zK_96 (zrd_ch zl_eq zl_len 7 29 _ (Nat.le_of_ble_eq_true rfl) (by decide +kernel))
theorem dL_law_478 : decode cL_law 478 = .ok (.iaload, 1) := zy_0 zK_46 (zrd_ch zl_eq zl_len 7 30 _ (Nat.le_of_ble_eq_true rfl) (by decide +kernel))
theorem dL_law_479 : decode cL_law 479 = .ok (.invokevirtual 45, 3) := zy_u2 (b1 := 0) (b2 := 45) zK_182 (zrd_ch zl_eq zl_len 7 31 _ (Nat.le_of_ble_eq_true rfl) (by decide +kernel))
theorem dL_law_482 : decode cL_law 482 = .ok (.pop, 1) := zy_0 zK_87 (zrd_ch zl_eq zl_len 7 34 _ (Nat.le_of_ble_eq_true rfl) (by decide +kernel))
theorem dL_law_483 : decode cL_law 483 = .ok (.goto 1458, 3) := zy_s2 (b1 := 5) (b2 := 178) zK_167 (zrd_ch zl_eq zl_len 7 35 _ (Nat.le_of_ble_eq_true rfl) (by decide +kernel)) (by decide +kernel)
theorem dL_law_486 : decode cL_law 486 = .ok (.aload_n 1, 1) := zy_0 zK_43 (zrd_ch zl_eq zl_len 7 38 _ (Nat.le_of_ble_eq_true rfl) (by decide +kernel))
theorem dL_law_487 : decode cL_law 487 = .ok (.invokevirtual 46, 3) := zy_u2 (b1 := 0) (b2 := 46) zK_182 (zrd_ch zl_eq zl_len 7 39 _ (Nat.le_of_ble_eq_true rfl) (by decide +kernel))
theorem dL_law_490 : decode cL_law 490 = .ok (.pop, 1) := zy_0 zK_87 (zrd_ch zl_eq zl_len 7 42 _ (Nat.le_of_ble_eq_true rfl) (by decide +kernel))
theorem dL_law_491 : decode cL_law 491 = .ok (.aload_n 2, 1) := zy_0 zK_44 (zrd_ch zl_eq zl_len 7 43 _ (Nat.le_of_ble_eq_true rfl) (by decide +kernel))
theorem dL_law_492 : decode cL_law 492 = .ok (.invokevirtual 49, 3) := zy_u2 (b1 := 0) (b2 := 49) zK_182 (zrd_ch zl_eq zl_len 7 44 _ (Nat.le_of_ble_eq_true rfl) (by decide +kernel))
theorem dL_law_495 : decode cL_law 495 = .ok (.pop, 1) := zy_0 zK_87 (zrd_ch zl_eq zl_len 7 47 _ (Nat.le_of_ble_eq_true rfl) (by decide +kernel))
theorem dL_law_496 : decode cL_law 496 = .ok (.goto 1445, 3) := zy_s2 (b1 := 5) (b2 := 165) zK_167 (zrd_ch zl_eq zl_len 7 48 _ (Nat.le_of_ble_eq_true rfl) (by decide +kernel)) (by decide +kernel)
theorem dL_law_499 : decode cL_law 499 = .ok (.aload_n 1, 1) := zy_0 zK_43 (zrd_ch zl_eq zl_len 7 51 _ (Nat.le_of_ble_eq_true rfl) (by decide +kernel))
theorem dL_law_500 : decode cL_law 500 = .ok (.invokevirtual 50, 3) := zy_u2 (b1 := 0) (b2 := 50) zK_182 (zrd_ch zl_eq zl_len 7 52 _ (Nat.le_of_ble_eq_true rfl) (by decide +kernel))
theorem dL_law_503 : decode cL_law 503 = .ok (.pop, 1) := zy_0 zK_87 (zrd_ch zl_eq zl_len 7 55 _ (Nat.le_of_ble_eq_true rfl) (by decide +kernel))
theorem dL_law_504 : decode cL_law 504 = .ok (.aload_n 2, 1) := zy_0 zK_44 (zrd_ch zl_eq zl_len 7 56 _ (Nat.le_of_ble_eq_true rfl) (by decide +kernel))
theorem dL_law_505 : decode cL_law 505 = .ok (.invokevirtual 53, 3) := zy_u2 (b1 := 0) (b2 := 53) zK_182 (zrd_ch zl_eq zl_len 7 57 _ (Nat.le_of_ble_eq_true rfl) (by decide +kernel))
theorem dL_law_508 : decode cL_law 508 = .ok (.pop, 1) := zy_0 zK_87 (zrd_ch zl_eq zl_len 7 60 _ (Nat.le_of_ble_eq_true rfl) (by decide +kernel))
theorem dL_law_509 : decode cL_law 509 = .ok (.goto 1432, 3) := zy_s2 (b1 := 5) (b2 := 152) zK_167 (zrd_ch zl_eq zl_len 7 61 _ (Nat.le_of_ble_eq_true rfl) (by decide +kernel)) (by decide +kernel)
theorem dL_law_512 : decode cL_law 512 = .ok (.aload_n 1, 1) := zy_0 zK_43 (zrd_ch zl_eq zl_len 8 0 _ (Nat.le_of_ble_eq_true rfl) (by decide +kernel))
theorem dL_law_513 : decode cL_law 513 = .ok (.invokevirtual 54, 3) := zy_u2 (b1 := 0) (b2 := 54) zK_182 (zrd_ch zl_eq zl_len 8 1 _ (Nat.le_of_ble_eq_true rfl) (by decide +kernel))
theorem dL_law_516 : decode cL_law 516 = .ok (.pop, 1) := zy_0 zK_87 (zrd_ch zl_eq zl_len 8 4 _ (Nat.le_of_ble_eq_true rfl) (by decide +kernel))
theorem dL_law_517 : decode cL_law 517 = .ok (.aload_n 2, 1) := zy_0 zK_44 (zrd_ch zl_eq zl_len 8 5 _ (Nat.le_of_ble_eq_true rfl) (by decide +kernel))
theorem dL_law_518 : decode cL_law 518 = .ok (.invokevirtual 57, 3) := zy_u2 (b1 := 0) (b2 := 57) zK_182 (zrd_ch zl_eq zl_len 8 6 _ (Nat.le_of_ble_eq_true rfl) (by decide +kernel))
theorem dL_law_521 : decode cL_law 521 = .ok (.pop, 1) := zy_0 zK_87 (zrd_ch zl_eq zl_len 8 9 _ (Nat.le_of_ble_eq_true rfl) (by decide +kernel))
theorem dL_law_522 : decode cL_law 522 = .ok (.goto 1419, 3) := zy_s2 (b1 := 5) (b2 := 139) zK_167 (zrd_ch zl_eq zl_len 8 10 _ (Nat.le_of_ble_eq_true rfl) (by decide +kernel)) (by decide +kernel)
theorem dL_law_525 : decode cL_law 525 = .ok (.aload_n 1, 1) := zy_0 zK_43 (zrd_ch zl_eq zl_len 8 13 _ (Nat.le_of_ble_eq_true rfl) (by decide +kernel))
theorem dL_law_526 : decode cL_law 526 = .ok (.aload_n 0, 1) := zy_0 zK_42 (zrd_ch zl_eq zl_len 8 14 _ (Nat.le_of_ble_eq_true rfl) (by decide +kernel))
theorem dL_law_527 : decode cL_law 527 = .ok (.iload 4, 2) := zy_u1 (b1 := 4) zK_21 (zrd_ch zl_eq zl_len 8 15 _ (Nat.le_of_ble_eq_true rfl) (by decide +kernel))
theorem dL_law_529 : decode cL_law 529 = .ok (.iconst 1, 1) := zy_0 zK_4 (zrd_ch zl_eq zl_len 8 17 _ (Nat.le_of_ble_eq_true rfl) (by decide +kernel))
theorem dL_law_530 : decode cL_law 530 = .ok (.iadd, 1) := zy_0 zK_96 (zrd_ch zl_eq zl_len 8 18 _ (Nat.le_of_ble_eq_true rfl) (by decide +kernel))
theorem dL_law_531 : decode cL_law 531 = .ok (.iaload, 1) := zy_0 zK_46 (zrd_ch zl_eq zl_len 8 19 _ (Nat.le_of_ble_eq_true rfl) (by decide +kernel))
theorem dL_law_532 : decode cL_law 532 = .ok (.invokevirtual 58, 3) := zy_u2 (b1 := 0) (b2 := 58) zK_182 (zrd_ch zl_eq zl_len 8 20 _ (Nat.le_of_ble_eq_true rfl) (by decide +kernel))
theorem dL_law_535 : decode cL_law 535 = .ok (.pop, 1) := zy_0 zK_87 (zrd_ch zl_eq zl_len 8 23 _ (Nat.le_of_ble_eq_true rfl) (by decide +kernel))
theorem dL_law_536 : decode cL_law 536 = .ok (.aload_n 2, 1) := zy_0 zK_44 (zrd_ch zl_eq zl_len 8 24 _ (Nat.le_of_ble_eq_true rfl) (by decide +kernel))
theorem dL_law_537 : decode cL_law 537 = .ok (.aload_n 0, 1) := zy_0 zK_42 (zrd_ch zl_eq zl_len 8 25 _ (Nat.le_of_ble_eq_true rfl) (by decide +kernel))
theorem dL_law_538 : decode cL_law 538 = .ok (.iload 4, 2) := zy_u1 (b1 := 4) zK_21 (zrd_ch zl_eq zl_len 8 26 _ (Nat.le_of_ble_eq_true rfl) (by decide +kernel))
theorem dL_law_540 : decode cL_law 540 = .ok (.iconst 1, 1) := zy_0 zK_4 (zrd_ch zl_eq zl_len 8 28 _ (Nat.le_of_ble_eq_true rfl) (by decide +kernel))
theorem dL_law_541 : decode cL_law 541 = .ok (.iadd, 1) := zy_0 zK_96 (zrd_ch zl_eq zl_len 8 29 _ (Nat.le_of_ble_eq_true rfl) (by decide +kernel))
theorem dL_law_542 : decode cL_law 542 = .ok (.iaload, 1) := zy_0 zK_46 (zrd_ch zl_eq zl_len 8 30 _ (Nat.le_of_ble_eq_true rfl) (by decide +kernel))
theorem dL_law_543 : decode cL_law 543 = .ok (.invokevirtual 61, 3) := zy_u2 (b1 := 0) (b2 := 61) zK_182 (zrd_ch zl_eq zl_len 8 31 _ (Nat.le_of_ble_eq_true rfl) (by decide +kernel))
theorem dL_law_546 : decode cL_law 546 = .ok (.pop, 1) := zy_0 zK_87 (zrd_ch zl_eq zl_len 8 34 _ (Nat.le_of_ble_eq_true rfl) (by decide +kernel))
theorem dL_law_547 : decode cL_law 547 = .ok (.goto 1394, 3) := zy_s2 (b1 := 5) (b2 := 114) zK_167 (zrd_ch zl_eq zl_len 8 35 _ (Nat.le_of_ble_eq_true rfl) (by decide +kernel)) (by decide +kernel)
theorem dL_law_550 : decode cL_law 550 = .ok (.aload_n 1, 1) := zy_0 zK_43 (zrd_ch zl_eq zl_len 8 38 _ (Nat.le_of_ble_eq_true rfl) (by decide +kernel))
theorem dL_law_551 : decode cL_law 551 = .ok (.aload_n 0, 1) := zy_0 zK_42 (zrd_ch zl_eq zl_len 8 39 _ (Nat.le_of_ble_eq_true rfl) (by decide +kernel))
theorem dL_law_552 : decode cL_law 552 = .ok (.iload 4, 2) := zy_u1 (b1 := 4) zK_21 (zrd_ch zl_eq zl_len 8 40 _ (Nat.le_of_ble_eq_true rfl) (by decide +kernel))
theorem dL_law_554 : decode cL_law 554 = .ok (.iconst 1, 1) := zy_0 zK_4 (zrd_ch zl_eq zl_len 8 42 _ (Nat.le_of_ble_eq_true rfl) (by decide +kernel))
theorem dL_law_555 : decode cL_law 555 = .ok (.iadd, 1) := zy_0 zK_96 (zrd_ch zl_eq zl_len 8 43 _ (Nat.le_of_ble_eq_true rfl) (by decide +kernel))
theorem dL_law_556 : decode cL_law 556 = .ok (.iaload, 1) := zy_0 zK_46 (zrd_ch zl_eq zl_len 8 44 _ (Nat.le_of_ble_eq_true rfl) (by decide +kernel))
theorem dL_law_557 : decode cL_law 557 = .ok (.invokevirtual 62, 3) := zy_u2 (b1 := 0) (b2 := 62) zK_182 (zrd_ch zl_eq zl_len 8 45 _ (Nat.le_of_ble_eq_true rfl) (by decide +kernel))
theorem dL_law_560 : decode cL_law 560 = .ok (.pop, 1) := zy_0 zK_87 (zrd_ch zl_eq zl_len 8 48 _ (Nat.le_of_ble_eq_true rfl) (by decide +kernel))
theorem dL_law_561 : decode cL_law 561 = .ok (.aload_n 2, 1) := zy_0 zK_44 (zrd_ch zl_eq zl_len 8 49 _ (Nat.le_of_ble_eq_true rfl) (by decide +kernel))
theorem dL_law_562 : decode cL_law 562 = .ok (.aload_n 0, 1) := zy_0 zK_42 (zrd_ch zl_eq zl_len 8 50 _ (Nat.le_of_ble_eq_true rfl) (by decide +kernel))
theorem dL_law_563 : decode cL_law 563 = .ok (.iload 4, 2) := zy_u1 (b1 := 4) zK_21 (zrd_ch zl_eq zl_len 8 51 _ (Nat.le_of_ble_eq_true rfl) (by decide +kernel))
theorem dL_law_565 : decode cL_law 565 = .ok (.iconst 1, 1) := zy_0 zK_4 (zrd_ch zl_eq zl_len 8 53 _ (Nat.le_of_ble_eq_true rfl) (by decide +kernel))
theorem dL_law_566 : decode cL_law 566 = .ok (.iadd, 1) := zy_0 zK_96 (zrd_ch zl_eq zl_len 8 54 _ (Nat.le_of_ble_eq_true rfl) (by decide +kernel))
theorem dL_law_567 : decode cL_law 567 = .ok (.iaload, 1) := zy_0 zK_46 (zrd_ch zl_eq zl_len 8 55 _ (Nat.le_of_ble_eq_true rfl) (by decide +kernel))
theorem dL_law_568 : decode cL_law 568 = .ok (.invokevirtual 65, 3) := zy_u2 (b1 := 0) (b2 := 65) zK_182 (zrd_ch zl_eq zl_len 8 56 _ (Nat.le_of_ble_eq_true rfl) (by decide +kernel))
theorem dL_law_571 : decode cL_law 571 = .ok (.pop, 1) := zy_0 zK_87 (zrd_ch zl_eq zl_len 8 59 _ (Nat.le_of_ble_eq_true rfl) (by decide +kernel))
theorem dL_law_572 : decode cL_law 572 = .ok (.goto 1369, 3) := zy_s2 (b1 := 5) (b2 := 89) zK_167 (zrd_ch zl_eq zl_len 8 60 _ (Nat.le_of_ble_eq_true rfl) (by decide +kernel)) (by decide +kernel)
theorem dL_law_575 : decode cL_law 575 = .ok (.aload_n 1, 1) := zy_0 zK_43 (zrd_ch zl_eq zl_len 8 63 _ (Nat.le_of_ble_eq_true rfl) (by decide +kernel))
theorem dL_law_576 : decode cL_law 576 = .ok (.invokevirtual 66, 3) := zy_u2 (b1 := 0) (b2 := 66) zK_182 (zrd_ch zl_eq zl_len 9 0 _ (Nat.le_of_ble_eq_true rfl) (by decide +kernel))
theorem dL_law_579 : decode cL_law 579 = .ok (.pop, 1) := zy_0 zK_87 (zrd_ch zl_eq zl_len 9 3 _ (Nat.le_of_ble_eq_true rfl) (by decide +kernel))
theorem dL_law_580 : decode cL_law 580 = .ok (.aload_n 2, 1) := zy_0 zK_44 (zrd_ch zl_eq zl_len 9 4 _ (Nat.le_of_ble_eq_true rfl) (by decide +kernel))
theorem dL_law_581 : decode cL_law 581 = .ok (.invokevirtual 69, 3) := zy_u2 (b1 := 0) (b2 := 69) zK_182 (zrd_ch zl_eq zl_len 9 5 _ (Nat.le_of_ble_eq_true rfl) (by decide +kernel))
theorem dL_law_584 : decode cL_law 584 = .ok (.pop, 1) := zy_0 zK_87 (zrd_ch zl_eq zl_len 9 8 _ (Nat.le_of_ble_eq_true rfl) (by decide +kernel))
theorem dL_law_585 : decode cL_law 585 = .ok (.goto 1356, 3) := zy_s2 (b1 := 5) (b2 := 76) zK_167 (zrd_ch zl_eq zl_len 9 9 _ (Nat.le_of_ble_eq_true rfl) (by decide +kernel)) (by decide +kernel)
theorem dL_law_588 : decode cL_law 588 = .ok (.aload_n 1, 1) := zy_0 zK_43 (zrd_ch zl_eq zl_len 9 12 _ (Nat.le_of_ble_eq_true rfl) (by decide +kernel))
theorem dL_law_589 : decode cL_law 589 = .ok (.invokevirtual 70, 3) := zy_u2 (b1 := 0) (b2 := 70) zK_182 (zrd_ch zl_eq zl_len 9 13 _ (Nat.le_of_ble_eq_true rfl) (by decide +kernel))
theorem dL_law_592 : decode cL_law 592 = .ok (.pop, 1) := zy_0 zK_87 (zrd_ch zl_eq zl_len 9 16 _ (Nat.le_of_ble_eq_true rfl) (by decide +kernel))
theorem dL_law_593 : decode cL_law 593 = .ok (.aload_n 2, 1) := zy_0 zK_44 (zrd_ch zl_eq zl_len 9 17 _ (Nat.le_of_ble_eq_true rfl) (by decide +kernel))
theorem dL_law_594 : decode cL_law 594 = .ok (.invokevirtual 73, 3) := zy_u2 (b1 := 0) (b2 := 73) zK_182 (zrd_ch zl_eq zl_len 9 18 _ (Nat.le_of_ble_eq_true rfl) (by decide +kernel))
theorem dL_law_597 : decode cL_law 597 = .ok (.pop, 1) := zy_0 zK_87 (zrd_ch zl_eq zl_len 9 21 _ (Nat.le_of_ble_eq_true rfl) (by decide +kernel))
theorem dL_law_598 : decode cL_law 598 = .ok (.goto 1343, 3) := zy_s2 (b1 := 5) (b2 := 63) zK_167 (zrd_ch zl_eq zl_len 9 22 _ (Nat.le_of_ble_eq_true rfl) (by decide +kernel)) (by decide +kernel)
theorem dL_law_601 : decode cL_law 601 = .ok (.aload_n 1, 1) := zy_0 zK_43 (zrd_ch zl_eq zl_len 9 25 _ (Nat.le_of_ble_eq_true rfl) (by decide +kernel))
theorem dL_law_602 : decode cL_law 602 = .ok (.invokevirtual 74, 3) := zy_u2 (b1 := 0) (b2 := 74) zK_182 (zrd_ch zl_eq zl_len 9 26 _ (Nat.le_of_ble_eq_true rfl) (by decide +kernel))
theorem dL_law_605 : decode cL_law 605 = .ok (.pop, 1) := zy_0 zK_87 (zrd_ch zl_eq zl_len 9 29 _ (Nat.le_of_ble_eq_true rfl) (by decide +kernel))
theorem dL_law_606 : decode cL_law 606 = .ok (.aload_n 2, 1) := zy_0 zK_44 (zrd_ch zl_eq zl_len 9 30 _ (Nat.le_of_ble_eq_true rfl) (by decide +kernel))
theorem dL_law_607 : decode cL_law 607 = .ok (.invokevirtual 77, 3) := zy_u2 (b1 := 0) (b2 := 77) zK_182 (zrd_ch zl_eq zl_len 9 31 _ (Nat.le_of_ble_eq_true rfl) (by decide +kernel))
theorem dL_law_610 : decode cL_law 610 = .ok (.pop, 1) := zy_0 zK_87 (zrd_ch zl_eq zl_len 9 34 _ (Nat.le_of_ble_eq_true rfl) (by decide +kernel))
theorem dL_law_611 : decode cL_law 611 = .ok (.goto 1330, 3) := zy_s2 (b1 := 5) (b2 := 50) zK_167 (zrd_ch zl_eq zl_len 9 35 _ (Nat.le_of_ble_eq_true rfl) (by decide +kernel)) (by decide +kernel)
theorem dL_law_614 : decode cL_law 614 = .ok (.aload_n 1, 1) := zy_0 zK_43 (zrd_ch zl_eq zl_len 9 38 _ (Nat.le_of_ble_eq_true rfl) (by decide +kernel))
theorem dL_law_615 : decode cL_law 615 = .ok (.aload_n 0, 1) := zy_0 zK_42 (zrd_ch zl_eq zl_len 9 39 _ (Nat.le_of_ble_eq_true rfl) (by decide +kernel))
theorem dL_law_616 : decode cL_law 616 = .ok (.iload 4, 2) := zy_u1 (b1 := 4) zK_21 (zrd_ch zl_eq zl_len 9 40 _ (Nat.le_of_ble_eq_true rfl) (by decide +kernel))
theorem dL_law_618 : decode cL_law 618 = .ok (.iconst 1, 1) := zy_0 zK_4 (zrd_ch zl_eq zl_len 9 42 _ (Nat.le_of_ble_eq_true rfl) (by decide +kernel))
theorem dL_law_619 : decode cL_law 619 = .ok (.iadd, 1) := zy_0 zK_96 (zrd_ch zl_eq zl_len 9 43 _ (Nat.le_of_ble_eq_true rfl) (by decide +kernel))
theorem dL_law_620 : decode cL_law 620 = .ok (.iaload, 1) := zy_0 zK_46 (zrd_ch zl_eq zl_len 9 44 _ (Nat.le_of_ble_eq_true rfl) (by decide +kernel))
theorem dL_law_621 : decode cL_law 621 = .ok (.aload_n 0, 1) := zy_0 zK_42 (zrd_ch zl_eq zl_len 9 45 _ (Nat.le_of_ble_eq_true rfl) (by decide +kernel))
theorem dL_law_622 : decode cL_law 622 = .ok (.iload 4, 2) := zy_u1 (b1 := 4) zK_21 (zrd_ch zl_eq zl_len 9 46 _ (Nat.le_of_ble_eq_true rfl) (by decide +kernel))
theorem dL_law_624 : decode cL_law 624 = .ok (.iconst 2, 1) := zy_0 zK_5 (zrd_ch zl_eq zl_len 9 48 _ (Nat.le_of_ble_eq_true rfl) (by decide +kernel))
theorem dL_law_625 : decode cL_law 625 = .ok (.iadd, 1) := zy_0 zK_96 (zrd_ch zl_eq zl_len 9 49 _ (Nat.le_of_ble_eq_true rfl) (by decide +kernel))
theorem dL_law_626 : decode cL_law 626 = .ok (.iaload, 1) := zy_0 zK_46 (zrd_ch zl_eq zl_len 9 50 _ (Nat.le_of_ble_eq_true rfl) (by decide +kernel))
theorem dL_law_627 : decode cL_law 627 = .ok (.invokevirtual 78, 3) := zy_u2 (b1 := 0) (b2 := 78) zK_182 (zrd_ch zl_eq zl_len 9 51 _ (Nat.le_of_ble_eq_true rfl) (by decide +kernel))
theorem dL_law_630 : decode cL_law 630 = .ok (.pop, 1) := zy_0 zK_87 (zrd_ch zl_eq zl_len 9 54 _ (Nat.le_of_ble_eq_true rfl) (by decide +kernel))
theorem dL_law_631 : decode cL_law 631 = .ok (.aload_n 2, 1) := zy_0 zK_44 (zrd_ch zl_eq zl_len 9 55 _ (Nat.le_of_ble_eq_true rfl) (by decide +kernel))
theorem dL_law_632 : decode cL_law 632 = .ok (.aload_n 0, 1) := zy_0 zK_42 (zrd_ch zl_eq zl_len 9 56 _ (Nat.le_of_ble_eq_true rfl) (by decide +kernel))
theorem dL_law_633 : decode cL_law 633 = .ok (.iload 4, 2) := zy_u1 (b1 := 4) zK_21 (zrd_ch zl_eq zl_len 9 57 _ (Nat.le_of_ble_eq_true rfl) (by decide +kernel))
theorem dL_law_635 : decode cL_law 635 = .ok (.iconst 1, 1) := zy_0 zK_4 (zrd_ch zl_eq zl_len 9 59 _ (Nat.le_of_ble_eq_true rfl) (by decide +kernel))
theorem dL_law_636 : decode cL_law 636 = .ok (.iadd, 1) := zy_0 zK_96 (zrd_ch zl_eq zl_len 9 60 _ (Nat.le_of_ble_eq_true rfl) (by decide +kernel))
theorem dL_law_637 : decode cL_law 637 = .ok (.iaload, 1) := zy_0 zK_46 (zrd_ch zl_eq zl_len 9 61 _ (Nat.le_of_ble_eq_true rfl) (by decide +kernel))
theorem dL_law_638 : decode cL_law 638 = .ok (.aload_n 0, 1) := zy_0 zK_42 (zrd_ch zl_eq zl_len 9 62 _ (Nat.le_of_ble_eq_true rfl) (by decide +kernel))
theorem dL_law_639 : decode cL_law 639 = .ok (.iload 4, 2) := zy_u1 (b1 := 4) zK_21 (zrd_ch zl_eq zl_len 9 63 _ (Nat.le_of_ble_eq_true rfl) (by decide +kernel))
theorem dL_law_641 : decode cL_law 641 = .ok (.iconst 2, 1) := zy_0 zK_5 (zrd_ch zl_eq zl_len 10 1 _ (Nat.le_of_ble_eq_true rfl) (by decide +kernel))
theorem dL_law_642 : decode cL_law 642 = .ok (.iadd, 1) := zy_0 zK_96 (zrd_ch zl_eq zl_len 10 2 _ (Nat.le_of_ble_eq_true rfl) (by decide +kernel))
theorem dL_law_643 : decode cL_law 643 = .ok (.iaload, 1) := zy_0 zK_46 (zrd_ch zl_eq zl_len 10 3 _ (Nat.le_of_ble_eq_true rfl) (by decide +kernel))
theorem dL_law_644 : decode cL_law 644 = .ok (.invokevirtual 81, 3) := zy_u2 (b1 := 0) (b2 := 81) zK_182 (zrd_ch zl_eq zl_len 10 4 _ (Nat.le_of_ble_eq_true rfl) (by decide +kernel))
theorem dL_law_647 : decode cL_law 647 = .ok (.pop, 1) := zy_0 zK_87 (zrd_ch zl_eq zl_len 10 7 _ (Nat.le_of_ble_eq_true rfl) (by decide +kernel))
theorem dL_law_648 : decode cL_law 648 = .ok (.goto 1293, 3) := zy_s2 (b1 := 5) (b2 := 13) zK_167 (zrd_ch zl_eq zl_len 10 8 _ (Nat.le_of_ble_eq_true rfl) (by decide +kernel)) (by decide +kernel)
theorem dL_law_651 : decode cL_law 651 = .ok (.aload_n 1, 1) := zy_0 zK_43 (zrd_ch zl_eq zl_len 10 11 _ (Nat.le_of_ble_eq_true rfl) (by decide +kernel))
theorem dL_law_652 : decode cL_law 652 = .ok (.aload_n 0, 1) := zy_0 zK_42 (zrd_ch zl_eq zl_len 10 12 _ (Nat.le_of_ble_eq_true rfl) (by decide +kernel))
theorem dL_law_653 : decode cL_law 653 = .ok (.iload 4, 2) := zy_u1 (b1 := 4) zK_21 (zrd_ch zl_eq zl_len 10 13 _ (Nat.le_of_ble_eq_true rfl) (by decide +kernel))
theorem dL_law_655 : decode cL_law 655 = .ok (.iconst 1, 1) := zy_0 zK_4 (zrd_ch zl_eq zl_len 10 15 _ (Nat.le_of_ble_eq_true rfl) (by decide +kernel))
theorem dL_law_656 : decode cL_law 656 = .ok (.iadd, 1) := zy_0 zK_96 (zrd_ch zl_eq zl_len 10 16 _ (Nat.le_of_ble_eq_true rfl) (by decide +kernel))
theorem dL_law_657 : decode cL_law 657 = .ok (.iaload, 1) := zy_0 zK_46 (zrd_ch zl_eq zl_len 10 17 _ (Nat.le_of_ble_eq_true rfl) (by decide +kernel))
theorem dL_law_658 : decode cL_law 658 = .ok (.aload_n 0, 1) := zy_0 zK_42 (zrd_ch zl_eq zl_len 10 18 _ (Nat.le_of_ble_eq_true rfl) (by decide +kernel))
theorem dL_law_659 : decode cL_law 659 = .ok (.iload 4, 2) := zy_u1 (b1 := 4) zK_21 (zrd_ch zl_eq zl_len 10 19 _ (Nat.le_of_ble_eq_true rfl) (by decide +kernel))
theorem dL_law_661 : decode cL_law 661 = .ok (.iconst 2, 1) := zy_0 zK_5 (zrd_ch zl_eq zl_len 10 21 _ (Nat.le_of_ble_eq_true rfl) (by decide +kernel))
theorem dL_law_662 : decode cL_law 662 = .ok (.iadd, 1) := zy_0 zK_96 (zrd_ch zl_eq zl_len 10 22 _ (Nat.le_of_ble_eq_true rfl) (by decide +kernel))
theorem dL_law_663 : decode cL_law 663 = .ok (.iaload, 1) := zy_0 zK_46 (zrd_ch zl_eq zl_len 10 23 _ (Nat.le_of_ble_eq_true rfl) (by decide +kernel))
theorem dL_law_664 : decode cL_law 664 = .ok (.invokevirtual 82, 3) := zy_u2 (b1 := 0) (b2 := 82) zK_182 (zrd_ch zl_eq zl_len 10 24 _ (Nat.le_of_ble_eq_true rfl) (by decide +kernel))
theorem dL_law_667 : decode cL_law 667 = .ok (.pop, 1) := zy_0 zK_87 (zrd_ch zl_eq zl_len 10 27 _ (Nat.le_of_ble_eq_true rfl) (by decide +kernel))
theorem dL_law_668 : decode cL_law 668 = .ok (.aload_n 2, 1) := zy_0 zK_44 (zrd_ch zl_eq zl_len 10 28 _ (Nat.le_of_ble_eq_true rfl) (by decide +kernel))
theorem dL_law_669 : decode cL_law 669 = .ok (.aload_n 0, 1) := zy_0 zK_42 (zrd_ch zl_eq zl_len 10 29 _ (Nat.le_of_ble_eq_true rfl) (by decide +kernel))
theorem dL_law_670 : decode cL_law 670 = .ok (.iload 4, 2) := zy_u1 (b1 := 4) zK_21 (zrd_ch zl_eq zl_len 10 30 _ (Nat.le_of_ble_eq_true rfl) (by decide +kernel))
theorem dL_law_672 : decode cL_law 672 = .ok (.iconst 1, 1) := zy_0 zK_4 (zrd_ch zl_eq zl_len 10 32 _ (Nat.le_of_ble_eq_true rfl) (by decide +kernel))
end P423_decode_0
section P423_decode_1
theorem dL_law_673 : decode cL_law 673 = .ok (.iadd, 1) := zy_0 zK_96 (zrd_ch zl_eq zl_len 10 33 _ (Nat.le_of_ble_eq_true rfl) (by decide +kernel))
theorem dL_law_674 : decode cL_law 674 = .ok (.iaload, 1) := zy_0 zK_46 (zrd_ch zl_eq zl_len 10 34 _ (Nat.le_of_ble_eq_true rfl) (by decide +kernel))
theorem dL_law_675 : decode cL_law 675 = .ok (.aload_n 0, 1) := zy_0 zK_42 (zrd_ch zl_eq zl_len 10 35 _ (Nat.le_of_ble_eq_true rfl) (by decide +kernel))
theorem dL_law_676 : decode cL_law 676 = .ok (.iload 4, 2) := zy_u1 (b1 := 4) zK_21 (zrd_ch zl_eq zl_len 10 36 _ (Nat.le_of_ble_eq_true rfl) (by decide +kernel))
theorem dL_law_678 : decode cL_law 678 = .ok (.iconst 2, 1) := zy_0 zK_5 (zrd_ch zl_eq zl_len 10 38 _ (Nat.le_of_ble_eq_true rfl) (by decide +kernel))
theorem dL_law_679 : decode cL_law 679 = .ok (.iadd, 1) := zy_0 zK_96 (zrd_ch zl_eq zl_len 10 39 _ (Nat.le_of_ble_eq_true rfl) (by decide +kernel))
theorem dL_law_680 : decode cL_law 680 = .ok (.iaload, 1) := zy_0 zK_46 (zrd_ch zl_eq zl_len 10 40 _ (Nat.le_of_ble_eq_true rfl) (by decide +kernel))
theorem dL_law_681 : decode cL_law 681 = .ok (.invokevirtual 85, 3) := zy_u2 (b1 := 0) (b2 := 85) zK_182 (zrd_ch zl_eq zl_len 10 41 _ (Nat.le_of_ble_eq_true rfl) (by decide +kernel))
theorem dL_law_684 : decode cL_law 684 = .ok (.pop, 1) := zy_0 zK_87 (zrd_ch zl_eq zl_len 10 44 _ (Nat.le_of_ble_eq_true rfl) (by decide +kernel))
theorem dL_law_685 : decode cL_law 685 = .ok (.goto 1256, 3) := zy_s2 (b1 := 4) (b2 := 232) zK_167 (zrd_ch zl_eq zl_len 10 45 _ (Nat.le_of_ble_eq_true rfl) (by decide +kernel)) (by decide +kernel)
theorem dL_law_688 : decode cL_law 688 = .ok (.aload_n 1, 1) := zy_0 zK_43 (zrd_ch zl_eq zl_len 10 48 _ (Nat.le_of_ble_eq_true rfl) (by decide +kernel))
theorem dL_law_689 : decode cL_law 689 = .ok (.aload_n 0, 1) := zy_0 zK_42 (zrd_ch zl_eq zl_len 10 49 _ (Nat.le_of_ble_eq_true rfl) (by decide +kernel))
theorem dL_law_690 : decode cL_law 690 = .ok (.iload 4, 2) := zy_u1 (b1 := 4) zK_21 (zrd_ch zl_eq zl_len 10 50 _ (Nat.le_of_ble_eq_true rfl) (by decide +kernel))
theorem dL_law_692 : decode cL_law 692 = .ok (.iconst 1, 1) := zy_0 zK_4 (zrd_ch zl_eq zl_len 10 52 _ (Nat.le_of_ble_eq_true rfl) (by decide +kernel))
theorem dL_law_693 : decode cL_law 693 = .ok (.iadd, 1) := zy_0 zK_96 (zrd_ch zl_eq zl_len 10 53 _ (Nat.le_of_ble_eq_true rfl) (by decide +kernel))
theorem dL_law_694 : decode cL_law 694 = .ok (.iaload, 1) := zy_0 zK_46 (zrd_ch zl_eq zl_len 10 54 _ (Nat.le_of_ble_eq_true rfl) (by decide +kernel))
theorem dL_law_695 : decode cL_law 695 = .ok (.aload_n 0, 1) := zy_0 zK_42 (zrd_ch zl_eq zl_len 10 55 _ (Nat.le_of_ble_eq_true rfl) (by decide +kernel))
theorem dL_law_696 : decode cL_law 696 = .ok (.iload 4, 2) := zy_u1 (b1 := 4) zK_21 (zrd_ch zl_eq zl_len 10 56 _ (Nat.le_of_ble_eq_true rfl) (by decide +kernel))
theorem dL_law_698 : decode cL_law 698 = .ok (.iconst 2, 1) := zy_0 zK_5 (zrd_ch zl_eq zl_len 10 58 _ (Nat.le_of_ble_eq_true rfl) (by decide +kernel))
theorem dL_law_699 : decode cL_law 699 = .ok (.iadd, 1) := zy_0 zK_96 (zrd_ch zl_eq zl_len 10 59 _ (Nat.le_of_ble_eq_true rfl) (by decide +kernel))
theorem dL_law_700 : decode cL_law 700 = .ok (.iaload, 1) := zy_0 zK_46 (zrd_ch zl_eq zl_len 10 60 _ (Nat.le_of_ble_eq_true rfl) (by decide +kernel))
theorem dL_law_701 : decode cL_law 701 = .ok (.invokevirtual 86, 3) := zy_u2 (b1 := 0) (b2 := 86) zK_182 (zrd_ch zl_eq zl_len 10 61 _ (Nat.le_of_ble_eq_true rfl) (by decide +kernel))
theorem dL_law_704 : decode cL_law 704 = .ok (.pop, 1) := zy_0 zK_87 (zrd_ch zl_eq zl_len 11 0 _ (Nat.le_of_ble_eq_true rfl) (by decide +kernel))
theorem dL_law_705 : decode cL_law 705 = .ok (.aload_n 2, 1) := zy_0 zK_44 (zrd_ch zl_eq zl_len 11 1 _ (Nat.le_of_ble_eq_true rfl) (by decide +kernel))
theorem dL_law_706 : decode cL_law 706 = .ok (.aload_n 0, 1) := zy_0 zK_42 (zrd_ch zl_eq zl_len 11 2 _ (Nat.le_of_ble_eq_true rfl) (by decide +kernel))
theorem dL_law_707 : decode cL_law 707 = .ok (.iload 4, 2) := zy_u1 (b1 := 4) zK_21 (zrd_ch zl_eq zl_len 11 3 _ (Nat.le_of_ble_eq_true rfl) (by decide +kernel))
theorem dL_law_709 : decode cL_law 709 = .ok (.iconst 1, 1) := zy_0 zK_4 (zrd_ch zl_eq zl_len 11 5 _ (Nat.le_of_ble_eq_true rfl) (by decide +kernel))
theorem dL_law_710 : decode cL_law 710 = .ok (.iadd, 1) := zy_0 zK_96 (zrd_ch zl_eq zl_len 11 6 _ (Nat.le_of_ble_eq_true rfl) (by decide +kernel))
theorem dL_law_711 : decode cL_law 711 = .ok (.iaload, 1) := zy_0 zK_46 (zrd_ch zl_eq zl_len 11 7 _ (Nat.le_of_ble_eq_true rfl) (by decide +kernel))
theorem dL_law_712 : decode cL_law 712 = .ok (.aload_n 0, 1) := zy_0 zK_42 (zrd_ch zl_eq zl_len 11 8 _ (Nat.le_of_ble_eq_true rfl) (by decide +kernel))
theorem dL_law_713 : decode cL_law 713 = .ok (.iload 4, 2) := zy_u1 (b1 := 4) zK_21 (zrd_ch zl_eq zl_len 11 9 _ (Nat.le_of_ble_eq_true rfl) (by decide +kernel))
theorem dL_law_715 : decode cL_law 715 = .ok (.iconst 2, 1) := zy_0 zK_5 (zrd_ch zl_eq zl_len 11 11 _ (Nat.le_of_ble_eq_true rfl) (by decide +kernel))
theorem dL_law_716 : decode cL_law 716 = .ok (.iadd, 1) := zy_0 zK_96 (zrd_ch zl_eq zl_len 11 12 _ (Nat.le_of_ble_eq_true rfl) (by decide +kernel))
theorem dL_law_717 : decode cL_law 717 = .ok (.iaload, 1) := zy_0 zK_46 (zrd_ch zl_eq zl_len 11 13 _ (Nat.le_of_ble_eq_true rfl) (by decide +kernel))
theorem dL_law_718 : decode cL_law 718 = .ok (.invokevirtual 89, 3) := zy_u2 (b1 := 0) (b2 := 89) zK_182 (zrd_ch zl_eq zl_len 11 14 _ (Nat.le_of_ble_eq_true rfl) (by decide +kernel))
theorem dL_law_721 : decode cL_law 721 = .ok (.pop, 1) := zy_0 zK_87 (zrd_ch zl_eq zl_len 11 17 _ (Nat.le_of_ble_eq_true rfl) (by decide +kernel))
theorem dL_law_722 : decode cL_law 722 = .ok (.goto 1219, 3) := zy_s2 (b1 := 4) (b2 := 195) zK_167 (zrd_ch zl_eq zl_len 11 18 _ (Nat.le_of_ble_eq_true rfl) (by decide +kernel)) (by decide +kernel)
theorem dL_law_725 : decode cL_law 725 = .ok (.aload_n 1, 1) := zy_0 zK_43 (zrd_ch zl_eq zl_len 11 21 _ (Nat.le_of_ble_eq_true rfl) (by decide +kernel))
theorem dL_law_726 : decode cL_law 726 = .ok (.aload_n 0, 1) := zy_0 zK_42 (zrd_ch zl_eq zl_len 11 22 _ (Nat.le_of_ble_eq_true rfl) (by decide +kernel))
theorem dL_law_727 : decode cL_law 727 = .ok (.iload 4, 2) := zy_u1 (b1 := 4) zK_21 (zrd_ch zl_eq zl_len 11 23 _ (Nat.le_of_ble_eq_true rfl) (by decide +kernel))
theorem dL_law_729 : decode cL_law 729 = .ok (.iconst 1, 1) := zy_0 zK_4 (zrd_ch zl_eq zl_len 11 25 _ (Nat.le_of_ble_eq_true rfl) (by decide +kernel))
theorem dL_law_730 : decode cL_law 730 = .ok (.iadd, 1) := zy_0 zK_96 (zrd_ch zl_eq zl_len 11 26 _ (Nat.le_of_ble_eq_true rfl) (by decide +kernel))
theorem dL_law_731 : decode cL_law 731 = .ok (.iaload, 1) := zy_0 zK_46 (zrd_ch zl_eq zl_len 11 27 _ (Nat.le_of_ble_eq_true rfl) (by decide +kernel))
theorem dL_law_732 : decode cL_law 732 = .ok (.invokevirtual 90, 3) := zy_u2 (b1 := 0) (b2 := 90) zK_182 (zrd_ch zl_eq zl_len 11 28 _ (Nat.le_of_ble_eq_true rfl) (by decide +kernel))
theorem dL_law_735 : decode cL_law 735 = .ok (.pop, 1) := zy_0 zK_87 (zrd_ch zl_eq zl_len 11 31 _ (Nat.le_of_ble_eq_true rfl) (by decide +kernel))
theorem dL_law_736 : decode cL_law 736 = .ok (.aload_n 2, 1) := zy_0 zK_44 (zrd_ch zl_eq zl_len 11 32 _ (Nat.le_of_ble_eq_true rfl) (by decide +kernel))
theorem dL_law_737 : decode cL_law 737 = .ok (.aload_n 0, 1) := zy_0 zK_42 (zrd_ch zl_eq zl_len 11 33 _ (Nat.le_of_ble_eq_true rfl) (by decide +kernel))
theorem dL_law_738 : decode cL_law 738 = .ok (.iload 4, 2) := zy_u1 (b1 := 4) zK_21 (zrd_ch zl_eq zl_len 11 34 _ (Nat.le_of_ble_eq_true rfl) (by decide +kernel))
theorem dL_law_740 : decode cL_law 740 = .ok (.iconst 1, 1) := zy_0 zK_4 (zrd_ch zl_eq zl_len 11 36 _ (Nat.le_of_ble_eq_true rfl) (by decide +kernel))
theorem dL_law_741 : decode cL_law 741 = .ok (.iadd, 1) := zy_0 zK_96 (zrd_ch zl_eq zl_len 11 37 _ (Nat.le_of_ble_eq_true rfl) (by decide +kernel))
theorem dL_law_742 : decode cL_law 742 = .ok (.iaload, 1) := zy_0 zK_46 (zrd_ch zl_eq zl_len 11 38 _ (Nat.le_of_ble_eq_true rfl) (by decide +kernel))
theorem dL_law_743 : decode cL_law 743 = .ok (.invokevirtual 93, 3) := zy_u2 (b1 := 0) (b2 := 93) zK_182 (zrd_ch zl_eq zl_len 11 39 _ (Nat.le_of_ble_eq_true rfl) (by decide +kernel))
theorem dL_law_746 : decode cL_law 746 = .ok (.pop, 1) := zy_0 zK_87 (zrd_ch zl_eq zl_len 11 42 _ (Nat.le_of_ble_eq_true rfl) (by decide +kernel))
theorem dL_law_747 : decode cL_law 747 = .ok (.goto 1194, 3) := zy_s2 (b1 := 4) (b2 := 170) zK_167 (zrd_ch zl_eq zl_len 11 43 _ (Nat.le_of_ble_eq_true rfl) (by decide +kernel)) (by decide +kernel)
theorem dL_law_750 : decode cL_law 750 = .ok (.aload_n 1, 1) := zy_0 zK_43 (zrd_ch zl_eq zl_len 11 46 _ (Nat.le_of_ble_eq_true rfl) (by decide +kernel))
theorem dL_law_751 : decode cL_law 751 = .ok (.invokevirtual 94, 3) := zy_u2 (b1 := 0) (b2 := 94) zK_182 (zrd_ch zl_eq zl_len 11 47 _ (Nat.le_of_ble_eq_true rfl) (by decide +kernel))
theorem dL_law_754 : decode cL_law 754 = .ok (.pop, 1) := zy_0 zK_87 (zrd_ch zl_eq zl_len 11 50 _ (Nat.le_of_ble_eq_true rfl) (by decide +kernel))
theorem dL_law_755 : decode cL_law 755 = .ok (.aload_n 2, 1) := zy_0 zK_44 (zrd_ch zl_eq zl_len 11 51 _ (Nat.le_of_ble_eq_true rfl) (by decide +kernel))
theorem dL_law_756 : decode cL_law 756 = .ok (.invokevirtual 97, 3) := zy_u2 (b1 := 0) (b2 := 97) zK_182 (zrd_ch zl_eq zl_len 11 52 _ (Nat.le_of_ble_eq_true rfl) (by decide +kernel))
theorem dL_law_759 : decode cL_law 759 = .ok (.pop, 1) := zy_0 zK_87 (zrd_ch zl_eq zl_len 11 55 _ (Nat.le_of_ble_eq_true rfl) (by decide +kernel))
theorem dL_law_760 : decode cL_law 760 = .ok (.goto 1181, 3) := zy_s2 (b1 := 4) (b2 := 157) zK_167 (zrd_ch zl_eq zl_len 11 56 _ (Nat.le_of_ble_eq_true rfl) (by decide +kernel)) (by decide +kernel)
theorem dL_law_763 : decode cL_law 763 = .ok (.aload_n 1, 1) := zy_0 zK_43 (zrd_ch zl_eq zl_len 11 59 _ (Nat.le_of_ble_eq_true rfl) (by decide +kernel))
theorem dL_law_764 : decode cL_law 764 = .ok (.aload_n 0, 1) := zy_0 zK_42 (zrd_ch zl_eq zl_len 11 60 _ (Nat.le_of_ble_eq_true rfl) (by decide +kernel))
theorem dL_law_765 : decode cL_law 765 = .ok (.iload 4, 2) := zy_u1 (b1 := 4) zK_21 (zrd_ch zl_eq zl_len 11 61 _ (Nat.le_of_ble_eq_true rfl) (by decide +kernel))
theorem dL_law_767 : decode cL_law 767 = .ok (.iconst 1, 1) := zy_0 zK_4 (zrd_ch zl_eq zl_len 11 63 _ (Nat.le_of_ble_eq_true rfl) (by decide +kernel))
theorem dL_law_768 : decode cL_law 768 = .ok (.iadd, 1) := zy_0 zK_96 (zrd_ch zl_eq zl_len 12 0 _ (Nat.le_of_ble_eq_true rfl) (by decide +kernel))
theorem dL_law_769 : decode cL_law 769 = .ok (.iaload, 1) := zy_0 zK_46 (zrd_ch zl_eq zl_len 12 1 _ (Nat.le_of_ble_eq_true rfl) (by decide +kernel))
theorem dL_law_770 : decode cL_law 770 = .ok (.invokevirtual 98, 3) := zy_u2 (b1 := 0) (b2 := 98) zK_182 (zrd_ch zl_eq zl_len 12 2 _ (Nat.le_of_ble_eq_true rfl) (by decide +kernel))
theorem dL_law_773 : decode cL_law 773 = .ok (.pop, 1) := zy_0 zK_87 (zrd_ch zl_eq zl_len 12 5 _ (Nat.le_of_ble_eq_true rfl) (by decide +kernel))
theorem dL_law_774 : decode cL_law 774 = .ok (.aload_n 2, 1) := zy_0 zK_44 (zrd_ch zl_eq zl_len 12 6 _ (Nat.le_of_ble_eq_true rfl) (by decide +kernel))
theorem dL_law_775 : decode cL_law 775 = .ok (.aload_n 0, 1) := zy_0 zK_42 (zrd_ch zl_eq zl_len 12 7 _ (Nat.le_of_ble_eq_true rfl) (by decide +kernel))
theorem dL_law_776 : decode cL_law 776 = .ok (.iload 4, 2) := zy_u1 (b1 := 4) zK_21 (zrd_ch zl_eq zl_len 12 8 _ (Nat.le_of_ble_eq_true rfl) (by decide +kernel))
theorem dL_law_778 : decode cL_law 778 = .ok (.iconst 1, 1) := zy_0 zK_4 (zrd_ch zl_eq zl_len 12 10 _ (Nat.le_of_ble_eq_true rfl) (by decide +kernel))
theorem dL_law_779 : decode cL_law 779 = .ok (.iadd, 1) := zy_0 zK_96 (zrd_ch zl_eq zl_len 12 11 _ (Nat.le_of_ble_eq_true rfl) (by decide +kernel))
theorem dL_law_780 : decode cL_law 780 = .ok (.iaload, 1) := zy_0 zK_46 (zrd_ch zl_eq zl_len 12 12 _ (Nat.le_of_ble_eq_true rfl) (by decide +kernel))
theorem dL_law_781 : decode cL_law 781 = .ok (.invokevirtual 101, 3) := zy_u2 (b1 := 0) (b2 := 101) zK_182 (zrd_ch zl_eq zl_len 12 13 _ (Nat.le_of_ble_eq_true rfl) (by decide +kernel))
theorem dL_law_784 : decode cL_law 784 = .ok (.pop, 1) := zy_0 zK_87 (zrd_ch zl_eq zl_len 12 16 _ (Nat.le_of_ble_eq_true rfl) (by decide +kernel))
theorem dL_law_785 : decode cL_law 785 = .ok (.goto 1156, 3) := zy_s2 (b1 := 4) (b2 := 132) zK_167 (zrd_ch zl_eq zl_len 12 17 _ (Nat.le_of_ble_eq_true rfl) (by decide +kernel)) (by decide +kernel)
theorem dL_law_788 : decode cL_law 788 = .ok (.aload_n 1, 1) := zy_0 zK_43 (zrd_ch zl_eq zl_len 12 20 _ (Nat.le_of_ble_eq_true rfl) (by decide +kernel))
theorem dL_law_789 : decode cL_law 789 = .ok (.aload_n 0, 1) := zy_0 zK_42 (zrd_ch zl_eq zl_len 12 21 _ (Nat.le_of_ble_eq_true rfl) (by decide +kernel))
theorem dL_law_790 : decode cL_law 790 = .ok (.iload 4, 2) := zy_u1 (b1 := 4) zK_21 (zrd_ch zl_eq zl_len 12 22 _ (Nat.le_of_ble_eq_true rfl) (by decide +kernel))
theorem dL_law_792 : decode cL_law 792 = .ok (.iconst 1, 1) := zy_0 zK_4 (zrd_ch zl_eq zl_len 12 24 _ (Nat.le_of_ble_eq_true rfl) (by decide +kernel))
theorem dL_law_793 : decode cL_law 793 = .ok (.iadd, 1) := zy_0 zK_96 (zrd_ch zl_eq zl_len 12 25 _ (Nat.le_of_ble_eq_true rfl) (by decide +kernel))
theorem dL_law_794 : decode cL_law 794 = .ok (.iaload, 1) := zy_0 zK_46 (zrd_ch zl_eq zl_len 12 26 _ (Nat.le_of_ble_eq_true rfl) (by decide +kernel))
theorem dL_law_795 : decode cL_law 795 = .ok (.aload_n 0, 1) := zy_0 zK_42 (zrd_ch zl_eq zl_len 12 27 _ (Nat.le_of_ble_eq_true rfl) (by decide +kernel))
theorem dL_law_796 : decode cL_law 796 = .ok (.iload 4, 2) := zy_u1 (b1 := 4) zK_21 (zrd_ch zl_eq zl_len 12 28 _ (Nat.le_of_ble_eq_true rfl) (by decide +kernel))
theorem dL_law_798 : decode cL_law 798 = .ok (.iconst 2, 1) := zy_0 zK_5 (zrd_ch zl_eq zl_len 12 30 _ (Nat.le_of_ble_eq_true rfl) (by decide +kernel))
theorem dL_law_799 : decode cL_law 799 = .ok (.iadd, 1) := zy_0 zK_96 (zrd_ch zl_eq zl_len 12 31 _ (Nat.le_of_ble_eq_true rfl) (by decide +kernel))
theorem dL_law_800 : decode cL_law 800 = .ok (.iaload, 1) := zy_0 zK_46 (zrd_ch zl_eq zl_len 12 32 _ (Nat.le_of_ble_eq_true rfl) (by decide +kernel))
theorem dL_law_801 : decode cL_law 801 = .ok (.invokevirtual 102, 3) := zy_u2 (b1 := 0) (b2 := 102) zK_182 (zrd_ch zl_eq zl_len 12 33 _ (Nat.le_of_ble_eq_true rfl) (by decide +kernel))
theorem dL_law_804 : decode cL_law 804 = .ok (.pop, 1) := zy_0 zK_87 (zrd_ch zl_eq zl_len 12 36 _ (Nat.le_of_ble_eq_true rfl) (by decide +kernel))
theorem dL_law_805 : decode cL_law 805 = .ok (.aload_n 2, 1) := zy_0 zK_44 (zrd_ch zl_eq zl_len 12 37 _ (Nat.le_of_ble_eq_true rfl) (by decide +kernel))
theorem dL_law_806 : decode cL_law 806 = .ok (.aload_n 0, 1) := zy_0 zK_42 (zrd_ch zl_eq zl_len 12 38 _ (Nat.le_of_ble_eq_true rfl) (by decide +kernel))
theorem dL_law_807 : decode cL_law 807 = .ok (.iload 4, 2) := zy_u1 (b1 := 4) zK_21 (zrd_ch zl_eq zl_len 12 39 _ (Nat.le_of_ble_eq_true rfl) (by decide +kernel))
theorem dL_law_809 : decode cL_law 809 = .ok (.iconst 1, 1) := zy_0 zK_4 (zrd_ch zl_eq zl_len 12 41 _ (Nat.le_of_ble_eq_true rfl) (by decide +kernel))
theorem dL_law_810 : decode cL_law 810 = .ok (.iadd, 1) := zy_0 zK_96 (zrd_ch zl_eq zl_len 12 42 _ (Nat.le_of_ble_eq_true rfl) (by decide +kernel))
theorem dL_law_811 : decode cL_law 811 = .ok (.iaload, 1) := zy_0 zK_46 (zrd_ch zl_eq zl_len 12 43 _ (Nat.le_of_ble_eq_true rfl) (by decide +kernel))
theorem dL_law_812 : decode cL_law 812 = .ok (.aload_n 0, 1) := zy_0 zK_42 (zrd_ch zl_eq zl_len 12 44 _ (Nat.le_of_ble_eq_true rfl) (by decide +kernel))
theorem dL_law_813 : decode cL_law 813 = .ok (.iload 4, 2) := zy_u1 (b1 := 4) zK_21 (zrd_ch zl_eq zl_len 12 45 _ (Nat.le_of_ble_eq_true rfl) (by decide +kernel))
theorem dL_law_815 : decode cL_law 815 = .ok (.iconst 2, 1) := zy_0 zK_5 (zrd_ch zl_eq zl_len 12 47 _ (Nat.le_of_ble_eq_true rfl) (by decide +kernel))
theorem dL_law_816 : decode cL_law 816 = .ok (.iadd, 1) := zy_0 zK_96 (zrd_ch zl_eq zl_len 12 48 _ (Nat.le_of_ble_eq_true rfl) (by decide +kernel))
theorem dL_law_817 : decode cL_law 817 = .ok (.iaload, 1) := zy_0 zK_46 (zrd_ch zl_eq zl_len 12 49 _ (Nat.le_of_ble_eq_true rfl) (by decide +kernel))
theorem dL_law_818 : decode cL_law 818 = .ok (.invokevirtual 105, 3) := zy_u2 (b1 := 0) (b2 := 105) zK_182 (zrd_ch zl_eq zl_len 12 50 _ (Nat.le_of_ble_eq_true rfl) (by decide +kernel))
theorem dL_law_821 : decode cL_law 821 = .ok (.pop, 1) := zy_0 zK_87 (zrd_ch zl_eq zl_len 12 53 _ (Nat.le_of_ble_eq_true rfl) (by decide +kernel))
theorem dL_law_822 : decode cL_law 822 = .ok (.goto 1119, 3) := zy_s2 (b1 := 4) (b2 := 95) zK_167 (zrd_ch zl_eq zl_len 12 54 _ (Nat.le_of_ble_eq_true rfl) (by decide +kernel)) (by decide +kernel)
theorem dL_law_825 : decode cL_law 825 = .ok (.aload_n 1, 1) := zy_0 zK_43 (zrd_ch zl_eq zl_len 12 57 _ (Nat.le_of_ble_eq_true rfl) (by decide +kernel))
theorem dL_law_826 : decode cL_law 826 = .ok (.aload_n 0, 1) := zy_0 zK_42 (zrd_ch zl_eq zl_len 12 58 _ (Nat.le_of_ble_eq_true rfl) (by decide +kernel))
theorem dL_law_827 : decode cL_law 827 = .ok (.iload 4, 2) := zy_u1 (b1 := 4) zK_21 (zrd_ch zl_eq zl_len 12 59 _ (Nat.le_of_ble_eq_true rfl) (by decide +kernel))
theorem dL_law_829 : decode cL_law 829 = .ok (.iconst 1, 1) := zy_0 zK_4 (zrd_ch zl_eq zl_len 12 61 _ (Nat.le_of_ble_eq_true rfl) (by decide +kernel))
theorem dL_law_830 : decode cL_law 830 = .ok (.iadd, 1) := zy_0 zK_96 (zrd_ch zl_eq zl_len 12 62 _ (Nat.le_of_ble_eq_true rfl) (by decide +kernel))
theorem dL_law_831 : decode cL_law 831 = .ok (.iaload, 1) := zy_0 zK_46 (zrd_ch zl_eq zl_len 12 63 _ (Nat.le_of_ble_eq_true rfl) (by decide +kernel))
theorem dL_law_832 : decode cL_law 832 = .ok (.invokevirtual 106, 3) := zy_u2 (b1 := 0) (b2 := 106) zK_182 (zrd_ch zl_eq zl_len 13 0 _ (Nat.le_of_ble_eq_true rfl) (by decide +kernel))
theorem dL_law_835 : decode cL_law 835 = .ok (.pop, 1) := zy_0 zK_87 (zrd_ch zl_eq zl_len 13 3 _ (Nat.le_of_ble_eq_true rfl) (by decide +kernel))
theorem dL_law_836 : decode cL_law 836 = .ok (.aload_n 2, 1) := zy_0 zK_44 (zrd_ch zl_eq zl_len 13 4 _ (Nat.le_of_ble_eq_true rfl) (by decide +kernel))
theorem dL_law_837 : decode cL_law 837 = .ok (.aload_n 0, 1) := zy_0 zK_42 (zrd_ch zl_eq zl_len 13 5 _ (Nat.le_of_ble_eq_true rfl) (by decide +kernel))
theorem dL_law_838 : decode cL_law 838 = .ok (.iload 4, 2) := zy_u1 (b1 := 4) zK_21 (zrd_ch zl_eq zl_len 13 6 _ (Nat.le_of_ble_eq_true rfl) (by decide +kernel))
theorem dL_law_840 : decode cL_law 840 = .ok (.iconst 1, 1) := zy_0 zK_4 (zrd_ch zl_eq zl_len 13 8 _ (Nat.le_of_ble_eq_true rfl) (by decide +kernel))
theorem dL_law_841 : decode cL_law 841 = .ok (.iadd, 1) := zy_0 zK_96 (zrd_ch zl_eq zl_len 13 9 _ (Nat.le_of_ble_eq_true rfl) (by decide +kernel))
theorem dL_law_842 : decode cL_law 842 = .ok (.iaload, 1) := zy_0 zK_46 (zrd_ch zl_eq zl_len 13 10 _ (Nat.le_of_ble_eq_true rfl) (by decide +kernel))
theorem dL_law_843 : decode cL_law 843 = .ok (.invokevirtual 109, 3) := zy_u2 (b1 := 0) (b2 := 109) zK_182 (zrd_ch zl_eq zl_len 13 11 _ (Nat.le_of_ble_eq_true rfl) (by decide +kernel))
theorem dL_law_846 : decode cL_law 846 = .ok (.pop, 1) := zy_0 zK_87 (zrd_ch zl_eq zl_len 13 14 _ (Nat.le_of_ble_eq_true rfl) (by decide +kernel))
theorem dL_law_847 : decode cL_law 847 = .ok (.goto 1094, 3) := zy_s2 (b1 := 4) (b2 := 70) zK_167 (zrd_ch zl_eq zl_len 13 15 _ (Nat.le_of_ble_eq_true rfl) (by decide +kernel)) (by decide +kernel)
theorem dL_law_850 : decode cL_law 850 = .ok (.aload_n 1, 1) := zy_0 zK_43 (zrd_ch zl_eq zl_len 13 18 _ (Nat.le_of_ble_eq_true rfl) (by decide +kernel))
theorem dL_law_851 : decode cL_law 851 = .ok (.aload_n 0, 1) := zy_0 zK_42 (zrd_ch zl_eq zl_len 13 19 _ (Nat.le_of_ble_eq_true rfl) (by decide +kernel))
theorem dL_law_852 : decode cL_law 852 = .ok (.iload 4, 2) := zy_u1 (b1 := 4) zK_21 (zrd_ch zl_eq zl_len 13 20 _ (Nat.le_of_ble_eq_true rfl) (by decide +kernel))
theorem dL_law_854 : decode cL_law 854 = .ok (.iconst 1, 1) := zy_0 zK_4 (zrd_ch zl_eq zl_len 13 22 _ (Nat.le_of_ble_eq_true rfl) (by decide +kernel))
theorem dL_law_855 : decode cL_law 855 = .ok (.iadd, 1) := zy_0 zK_96 (zrd_ch zl_eq zl_len 13 23 _ (Nat.le_of_ble_eq_true rfl) (by decide +kernel))
theorem dL_law_856 : decode cL_law 856 = .ok (.iaload, 1) := zy_0 zK_46 (zrd_ch zl_eq zl_len 13 24 _ (Nat.le_of_ble_eq_true rfl) (by decide +kernel))
theorem dL_law_857 : decode cL_law 857 = .ok (.invokevirtual 110, 3) := zy_u2 (b1 := 0) (b2 := 110) zK_182 (zrd_ch zl_eq zl_len 13 25 _ (Nat.le_of_ble_eq_true rfl) (by decide +kernel))
theorem dL_law_860 : decode cL_law 860 = .ok (.pop, 1) := zy_0 zK_87 (zrd_ch zl_eq zl_len 13 28 _ (Nat.le_of_ble_eq_true rfl) (by decide +kernel))
theorem dL_law_861 : decode cL_law 861 = .ok (.aload_n 2, 1) := zy_0 zK_44 (zrd_ch zl_eq zl_len 13 29 _ (Nat.le_of_ble_eq_true rfl) (by decide +kernel))
theorem dL_law_862 : decode cL_law 862 = .ok (.aload_n 0, 1) := zy_0 zK_42 (zrd_ch zl_eq zl_len 13 30 _ (Nat.le_of_ble_eq_true rfl) (by decide +kernel))
theorem dL_law_863 : decode cL_law 863 = .ok (.iload 4, 2) := zy_u1 (b1 := 4) zK_21 (zrd_ch zl_eq zl_len 13 31 _ (Nat.le_of_ble_eq_true rfl) (by decide +kernel))
theorem dL_law_865 : decode cL_law 865 = .ok (.iconst 1, 1) := zy_0 zK_4 (zrd_ch zl_eq zl_len 13 33 _ (Nat.le_of_ble_eq_true rfl) (by decide +kernel))
theorem dL_law_866 : decode cL_law 866 = .ok (.iadd, 1) := zy_0 zK_96 (zrd_ch zl_eq zl_len 13 34 _ (Nat.le_of_ble_eq_true rfl) (by decide +kernel))
theorem dL_law_867 : decode cL_law 867 = .ok (.iaload, 1) := zy_0 zK_46 (zrd_ch zl_eq zl_len 13 35 _ (Nat.le_of_ble_eq_true rfl) (by decide +kernel))
theorem dL_law_868 : decode cL_law 868 = .ok (.invokevirtual 113, 3) := zy_u2 (b1 := 0) (b2 := 113) zK_182 (zrd_ch zl_eq zl_len 13 36 _ (Nat.le_of_ble_eq_true rfl) (by decide +kernel))
theorem dL_law_871 : decode cL_law 871 = .ok (.pop, 1) := zy_0 zK_87 (zrd_ch zl_eq zl_len 13 39 _ (Nat.le_of_ble_eq_true rfl) (by decide +kernel))
theorem dL_law_872 : decode cL_law 872 = .ok (.goto 1069, 3) := zy_s2 (b1 := 4) (b2 := 45) zK_167 (zrd_ch zl_eq zl_len 13 40 _ (Nat.le_of_ble_eq_true rfl) (by decide +kernel)) (by decide +kernel)
theorem dL_law_875 : decode cL_law 875 = .ok (.aload_n 1, 1) := zy_0 zK_43 (zrd_ch zl_eq zl_len 13 43 _ (Nat.le_of_ble_eq_true rfl) (by decide +kernel))
theorem dL_law_876 : decode cL_law 876 = .ok (.aload_n 0, 1) := zy_0 zK_42 (zrd_ch zl_eq zl_len 13 44 _ (Nat.le_of_ble_eq_true rfl) (by decide +kernel))
theorem dL_law_877 : decode cL_law 877 = .ok (.iload 4, 2) := zy_u1 (b1 := 4) zK_21 (zrd_ch zl_eq zl_len 13 45 _ (Nat.le_of_ble_eq_true rfl) (by decide +kernel))
theorem dL_law_879 : decode cL_law 879 = .ok (.iconst 1, 1) := zy_0 zK_4 (zrd_ch zl_eq zl_len 13 47 _ (Nat.le_of_ble_eq_true rfl) (by decide +kernel))
theorem dL_law_880 : decode cL_law 880 = .ok (.iadd, 1) := zy_0 zK_96 (zrd_ch zl_eq zl_len 13 48 _ (Nat.le_of_ble_eq_true rfl) (by decide +kernel))
theorem dL_law_881 : decode cL_law 881 = .ok (.iaload, 1) := zy_0 zK_46 (zrd_ch zl_eq zl_len 13 49 _ (Nat.le_of_ble_eq_true rfl) (by decide +kernel))
theorem dL_law_882 : decode cL_law 882 = .ok (.invokevirtual 114, 3) := zy_u2 (b1 := 0) (b2 := 114) zK_182 (zrd_ch zl_eq zl_len 13 50 _ (Nat.le_of_ble_eq_true rfl) (by decide +kernel))
theorem dL_law_885 : decode cL_law 885 = .ok (.pop, 1) := zy_0 zK_87 (zrd_ch zl_eq zl_len 13 53 _ (Nat.le_of_ble_eq_true rfl) (by decide +kernel))
theorem dL_law_886 : decode cL_law 886 = .ok (.aload_n 2, 1) := zy_0 zK_44 (zrd_ch zl_eq zl_len 13 54 _ (Nat.le_of_ble_eq_true rfl) (by decide +kernel))
theorem dL_law_887 : decode cL_law 887 = .ok (.aload_n 0, 1) := zy_0 zK_42 (zrd_ch zl_eq zl_len 13 55 _ (Nat.le_of_ble_eq_true rfl) (by decide +kernel))
theorem dL_law_888 : decode cL_law 888 = .ok (.iload 4, 2) := zy_u1 (b1 := 4) zK_21 (zrd_ch zl_eq zl_len 13 56 _ (Nat.le_of_ble_eq_true rfl) (by decide +kernel))
theorem dL_law_890 : decode cL_law 890 = .ok (.iconst 1, 1) := zy_0 zK_4 (zrd_ch zl_eq zl_len 13 58 _ (Nat.le_of_ble_eq_true rfl) (by decide +kernel))
theorem dL_law_891 : decode cL_law 891 = .ok (.iadd, 1) := zy_0 zK_96 (zrd_ch zl_eq zl_len 13 59 _ (Nat.le_of_ble_eq_true rfl) (by decide +kernel))
theorem dL_law_892 : decode cL_law 892 = .ok (.iaload, 1) := zy_0 zK_46 (zrd_ch zl_eq zl_len 13 60 _ (Nat.le_of_ble_eq_true rfl) (by decide +kernel))
theorem dL_law_893 : decode cL_law 893 = .ok (.invokevirtual 117, 3) := zy_u2 (b1 := 0) (b2 := 117) zK_182 (zrd_ch zl_eq zl_len 13 61 _ (Nat.le_of_ble_eq_true rfl) (by decide +kernel))
theorem dL_law_896 : decode cL_law 896 = .ok (.pop, 1) := zy_0 zK_87 (zrd_ch zl_eq zl_len 14 0 _ (Nat.le_of_ble_eq_true rfl) (by decide +kernel))
theorem dL_law_897 : decode cL_law 897 = .ok (.goto 1044, 3) := zy_s2 (b1 := 4) (b2 := 20) zK_167 (zrd_ch zl_eq zl_len 14 1 _ (Nat.le_of_ble_eq_true rfl) (by decide +kernel)) (by decide +kernel)
theorem dL_law_900 : decode cL_law 900 = .ok (.aload_n 1, 1) := zy_0 zK_43 (zrd_ch zl_eq zl_len 14 4 _ (Nat.le_of_ble_eq_true rfl) (by decide +kernel))
theorem dL_law_901 : decode cL_law 901 = .ok (.aload_n 0, 1) := zy_0 zK_42 (zrd_ch zl_eq zl_len 14 5 _ (Nat.le_of_ble_eq_true rfl) (by decide +kernel))
theorem dL_law_902 : decode cL_law 902 = .ok (.iload 4, 2) := zy_u1 (b1 := 4) zK_21 (zrd_ch zl_eq zl_len 14 6 _ (Nat.le_of_ble_eq_true rfl) (by decide +kernel))
theorem dL_law_904 : decode cL_law 904 = .ok (.iconst 1, 1) := zy_0 zK_4 (zrd_ch zl_eq zl_len 14 8 _ (Nat.le_of_ble_eq_true rfl) (by decide +kernel))
theorem dL_law_905 : decode cL_law 905 = .ok (.iadd, 1) := zy_0 zK_96 (zrd_ch zl_eq zl_len 14 9 _ (Nat.le_of_ble_eq_true rfl) (by decide +kernel))
theorem dL_law_906 : decode cL_law 906 = .ok (.iaload, 1) := zy_0 zK_46 (zrd_ch zl_eq zl_len 14 10 _ (Nat.le_of_ble_eq_true rfl) (by decide +kernel))
theorem dL_law_907 : decode cL_law 907 = .ok (.invokevirtual 118, 3) := zy_u2 (b1 := 0) (b2 := 118) zK_182 (zrd_ch zl_eq zl_len 14 11 _ (Nat.le_of_ble_eq_true rfl) (by decide +kernel))
theorem dL_law_910 : decode cL_law 910 = .ok (.pop, 1) := zy_0 zK_87 (zrd_ch zl_eq zl_len 14 14 _ (Nat.le_of_ble_eq_true rfl) (by decide +kernel))
theorem dL_law_911 : decode cL_law 911 = .ok (.aload_n 2, 1) := zy_0 zK_44 (zrd_ch zl_eq zl_len 14 15 _ (Nat.le_of_ble_eq_true rfl) (by decide +kernel))
theorem dL_law_912 : decode cL_law 912 = .ok (.aload_n 0, 1) := zy_0 zK_42 (zrd_ch zl_eq zl_len 14 16 _ (Nat.le_of_ble_eq_true rfl) (by decide +kernel))
theorem dL_law_913 : decode cL_law 913 = .ok (.iload 4, 2) := zy_u1 (b1 := 4) zK_21 (zrd_ch zl_eq zl_len 14 17 _ (Nat.le_of_ble_eq_true rfl) (by decide +kernel))
theorem dL_law_915 : decode cL_law 915 = .ok (.iconst 1, 1) := zy_0 zK_4 (zrd_ch zl_eq zl_len 14 19 _ (Nat.le_of_ble_eq_true rfl) (by decide +kernel))
theorem dL_law_916 : decode cL_law 916 = .ok (.iadd, 1) := zy_0 zK_96 (zrd_ch zl_eq zl_len 14 20 _ (Nat.le_of_ble_eq_true rfl) (by decide +kernel))
theorem dL_law_917 : decode cL_law 917 = .ok (.iaload, 1) := zy_0 zK_46 (zrd_ch zl_eq zl_len 14 21 _ (Nat.le_of_ble_eq_true rfl) (by decide +kernel))
theorem dL_law_918 : decode cL_law 918 = .ok (.invokevirtual 121, 3) := zy_u2 (b1 := 0) (b2 := 121) zK_182 (zrd_ch zl_eq zl_len 14 22 _ (Nat.le_of_ble_eq_true rfl) (by decide +kernel))
theorem dL_law_921 : decode cL_law 921 = .ok (.pop, 1) := zy_0 zK_87 (zrd_ch zl_eq zl_len 14 25 _ (Nat.le_of_ble_eq_true rfl) (by decide +kernel))
theorem dL_law_922 : decode cL_law 922 = .ok (.goto 1019, 3) := zy_s2 (b1 := 3) (b2 := 251) zK_167 (zrd_ch zl_eq zl_len 14 26 _ (Nat.le_of_ble_eq_true rfl) (by decide +kernel)) (by decide +kernel)
theorem dL_law_925 : decode cL_law 925 = .ok (.aload_n 1, 1) := zy_0 zK_43 (zrd_ch zl_eq zl_len 14 29 _ (Nat.le_of_ble_eq_true rfl) (by decide +kernel))
theorem dL_law_926 : decode cL_law 926 = .ok (.aload_n 0, 1) := zy_0 zK_42 (zrd_ch zl_eq zl_len 14 30 _ (Nat.le_of_ble_eq_true rfl) (by decide +kernel))
theorem dL_law_927 : decode cL_law 927 = .ok (.iload 4, 2) := zy_u1 (b1 := 4) zK_21 (zrd_ch zl_eq zl_len 14 31 _ (Nat.le_of_ble_eq_true rfl) (by decide +kernel))
theorem dL_law_929 : decode cL_law 929 = .ok (.iconst 1, 1) := zy_0 zK_4 (zrd_ch zl_eq zl_len 14 33 _ (Nat.le_of_ble_eq_true rfl) (by decide +kernel))
theorem dL_law_930 : decode cL_law 930 = .ok (.iadd, 1) := zy_0 zK_96 (zrd_ch zl_eq zl_len 14 34 _ (Nat.le_of_ble_eq_true rfl) (by decide +kernel))
theorem dL_law_931 : decode cL_law 931 = .ok (.iaload, 1) := zy_0 zK_46 (zrd_ch zl_eq zl_len 14 35 _ (Nat.le_of_ble_eq_true rfl) (by decide +kernel))
theorem dL_law_932 : decode cL_law 932 = .ok (.aload_n 0, 1) := zy_0 zK_42 (zrd_ch zl_eq zl_len 14 36 _ (Nat.le_of_ble_eq_true rfl) (by decide +kernel))
theorem dL_law_933 : decode cL_law 933 = .ok (.iload 4, 2) := zy_u1 (b1 := 4) zK_21 (zrd_ch zl_eq zl_len 14 37 _ (Nat.le_of_ble_eq_true rfl) (by decide +kernel))
theorem dL_law_935 : decode cL_law 935 = .ok (.iconst 2, 1) := zy_0 zK_5 (zrd_ch zl_eq zl_len 14 39 _ (Nat.le_of_ble_eq_true rfl) (by decide +kernel))
theorem dL_law_936 : decode cL_law 936 = .ok (.iadd, 1) := zy_0 zK_96 (zrd_ch zl_eq zl_len 14 40 _ (Nat.le_of_ble_eq_true rfl) (by decide +kernel))
theorem dL_law_937 : decode cL_law 937 = .ok (.iaload, 1) := zy_0 zK_46 (zrd_ch zl_eq zl_len 14 41 _ (Nat.le_of_ble_eq_true rfl) (by decide +kernel))
theorem dL_law_938 : decode cL_law 938 = .ok (.invokevirtual 122, 3) := zy_u2 (b1 := 0) (b2 := 122) zK_182 (zrd_ch zl_eq zl_len 14 42 _ (Nat.le_of_ble_eq_true rfl) (by decide +kernel))
theorem dL_law_941 : decode cL_law 941 = .ok (.pop, 1) := zy_0 zK_87 (zrd_ch zl_eq zl_len 14 45 _ (Nat.le_of_ble_eq_true rfl) (by decide +kernel))
theorem dL_law_942 : decode cL_law 942 = .ok (.aload_n 2, 1) := zy_0 zK_44 (zrd_ch zl_eq zl_len 14 46 _ (Nat.le_of_ble_eq_true rfl) (by decide +kernel))
theorem dL_law_943 : decode cL_law 943 = .ok (.aload_n 0, 1) := zy_0 zK_42 (zrd_ch zl_eq zl_len 14 47 _ (Nat.le_of_ble_eq_true rfl) (by decide +kernel))
theorem dL_law_944 : decode cL_law 944 = .ok (.iload 4, 2) := zy_u1 (b1 := 4) zK_21 (zrd_ch zl_eq zl_len 14 48 _ (Nat.le_of_ble_eq_true rfl) (by decide +kernel))
theorem dL_law_946 : decode cL_law 946 = .ok (.iconst 1, 1) := zy_0 zK_4 (zrd_ch zl_eq zl_len 14 50 _ (Nat.le_of_ble_eq_true rfl) (by decide +kernel))
theorem dL_law_947 : decode cL_law 947 = .ok (.iadd, 1) := zy_0 zK_96 (zrd_ch zl_eq zl_len 14 51 _ (Nat.le_of_ble_eq_true rfl) (by decide +kernel))
theorem dL_law_948 : decode cL_law 948 = .ok (.iaload, 1) := zy_0 zK_46 (zrd_ch zl_eq zl_len 14 52 _ (Nat.le_of_ble_eq_true rfl) (by decide +kernel))
theorem dL_law_949 : decode cL_law 949 = .ok (.aload_n 0, 1) := zy_0 zK_42 (zrd_ch zl_eq zl_len 14 53 _ (Nat.le_of_ble_eq_true rfl) (by decide +kernel))
theorem dL_law_950 : decode cL_law 950 = .ok (.iload 4, 2) := zy_u1 (b1 := 4) zK_21 (zrd_ch zl_eq zl_len 14 54 _ (Nat.le_of_ble_eq_true rfl) (by decide +kernel))
theorem dL_law_952 : decode cL_law 952 = .ok (.iconst 2, 1) := zy_0 zK_5 (zrd_ch zl_eq zl_len 14 56 _ (Nat.le_of_ble_eq_true rfl) (by decide +kernel))
theorem dL_law_953 : decode cL_law 953 = .ok (.iadd, 1) := zy_0 zK_96 (zrd_ch zl_eq zl_len 14 57 _ (Nat.le_of_ble_eq_true rfl) (by decide +kernel))
theorem dL_law_954 : decode cL_law 954 = .ok (.iaload, 1) := zy_0 zK_46 (zrd_ch zl_eq zl_len 14 58 _ (Nat.le_of_ble_eq_true rfl) (by decide +kernel))
theorem dL_law_955 : decode cL_law 955 = .ok (.invokevirtual 125, 3) := zy_u2 (b1 := 0) (b2 := 125) zK_182 (zrd_ch zl_eq zl_len 14 59 _ (Nat.le_of_ble_eq_true rfl) (by decide +kernel))
theorem dL_law_958 : decode cL_law 958 = .ok (.pop, 1) := zy_0 zK_87 (zrd_ch zl_eq zl_len 14 62 _ (Nat.le_of_ble_eq_true rfl) (by decide +kernel))
theorem dL_law_959 : decode cL_law 959 = .ok (.goto 982, 3) := zy_s2 (b1 := 3) (b2 := 214) zK_167 (zrd_ch zl_eq zl_len 14 63 _ (Nat.le_of_ble_eq_true rfl) (by decide +kernel)) (by decide +kernel)
theorem dL_law_962 : decode cL_law 962 = .ok (.aload_n 1, 1) := zy_0 zK_43 (zrd_ch zl_eq zl_len 15 2 _ (Nat.le_of_ble_eq_true rfl) (by decide +kernel))
theorem dL_law_963 : decode cL_law 963 = .ok (.aload_n 0, 1) := zy_0 zK_42 (zrd_ch zl_eq zl_len 15 3 _ (Nat.le_of_ble_eq_true rfl) (by decide +kernel))
theorem dL_law_964 : decode cL_law 964 = .ok (.iload 4, 2) := zy_u1 (b1 := 4) zK_21 (zrd_ch zl_eq zl_len 15 4 _ (Nat.le_of_ble_eq_true rfl) (by decide +kernel))
theorem dL_law_966 : decode cL_law 966 = .ok (.iconst 1, 1) := zy_0 zK_4 (zrd_ch zl_eq zl_len 15 6 _ (Nat.le_of_ble_eq_true rfl) (by decide +kernel))
theorem dL_law_967 : decode cL_law 967 = .ok (.iadd, 1) := zy_0 zK_96 (zrd_ch zl_eq zl_len 15 7 _ (Nat.le_of_ble_eq_true rfl) (by decide +kernel))
theorem dL_law_968 : decode cL_law 968 = .ok (.iaload, 1) := zy_0 zK_46 (zrd_ch zl_eq zl_len 15 8 _ (Nat.le_of_ble_eq_true rfl) (by decide +kernel))
theorem dL_law_969 : decode cL_law 969 = .ok (.aload_n 0, 1) := zy_0 zK_42 (zrd_ch zl_eq zl_len 15 9 _ (Nat.le_of_ble_eq_true rfl) (by decide +kernel))
theorem dL_law_970 : decode cL_law 970 = .ok (.iload 4, 2) := zy_u1 (b1 := 4) zK_21 (zrd_ch zl_eq zl_len 15 10 _ (Nat.le_of_ble_eq_true rfl) (by decide +kernel))
theorem dL_law_972 : decode cL_law 972 = .ok (.iconst 2, 1) := zy_0 zK_5 (zrd_ch zl_eq zl_len 15 12 _ (Nat.le_of_ble_eq_true rfl) (by decide +kernel))
theorem dL_law_973 : decode cL_law 973 = .ok (.iadd, 1) := zy_0 zK_96 (zrd_ch zl_eq zl_len 15 13 _ (Nat.le_of_ble_eq_true rfl) (by decide +kernel))
theorem dL_law_974 : decode cL_law 974 = .ok (.iaload, 1) := zy_0 zK_46 (zrd_ch zl_eq zl_len 15 14 _ (Nat.le_of_ble_eq_true rfl) (by decide +kernel))
theorem dL_law_975 : decode cL_law 975 = .ok (.invokevirtual 126, 3) := zy_u2 (b1 := 0) (b2 := 126) zK_182 (zrd_ch zl_eq zl_len 15 15 _ (Nat.le_of_ble_eq_true rfl) (by decide +kernel))
theorem dL_law_978 : decode cL_law 978 = .ok (.pop, 1) := zy_0 zK_87 (zrd_ch zl_eq zl_len 15 18 _ (Nat.le_of_ble_eq_true rfl) (by decide +kernel))
theorem dL_law_979 : decode cL_law 979 = .ok (.aload_n 2, 1) := zy_0 zK_44 (zrd_ch zl_eq zl_len 15 19 _ (Nat.le_of_ble_eq_true rfl) (by decide +kernel))
theorem dL_law_980 : decode cL_law 980 = .ok (.aload_n 0, 1) := zy_0 zK_42 (zrd_ch zl_eq zl_len 15 20 _ (Nat.le_of_ble_eq_true rfl) (by decide +kernel))
theorem dL_law_981 : decode cL_law 981 = .ok (.iload 4, 2) := zy_u1 (b1 := 4) zK_21 (zrd_ch zl_eq zl_len 15 21 _ (Nat.le_of_ble_eq_true rfl) (by decide +kernel))
theorem dL_law_983 : decode cL_law 983 = .ok (.iconst 1, 1) := zy_0 zK_4 (zrd_ch zl_eq zl_len 15 23 _ (Nat.le_of_ble_eq_true rfl) (by decide +kernel))
theorem dL_law_984 : decode cL_law 984 = .ok (.iadd, 1) := zy_0 zK_96 (zrd_ch zl_eq zl_len 15 24 _ (Nat.le_of_ble_eq_true rfl) (by decide +kernel))
theorem dL_law_985 : decode cL_law 985 = .ok (.iaload, 1) := zy_0 zK_46 (zrd_ch zl_eq zl_len 15 25 _ (Nat.le_of_ble_eq_true rfl) (by decide +kernel))
theorem dL_law_986 : decode cL_law 986 = .ok (.aload_n 0, 1) := zy_0 zK_42 (zrd_ch zl_eq zl_len 15 26 _ (Nat.le_of_ble_eq_true rfl) (by decide +kernel))
theorem dL_law_987 : decode cL_law 987 = .ok (.iload 4, 2) := zy_u1 (b1 := 4) zK_21 (zrd_ch zl_eq zl_len 15 27 _ (Nat.le_of_ble_eq_true rfl) (by decide +kernel))
theorem dL_law_989 : decode cL_law 989 = .ok (.iconst 2, 1) := zy_0 zK_5 (zrd_ch zl_eq zl_len 15 29 _ (Nat.le_of_ble_eq_true rfl) (by decide +kernel))
theorem dL_law_990 : decode cL_law 990 = .ok (.iadd, 1) := zy_0 zK_96 (zrd_ch zl_eq zl_len 15 30 _ (Nat.le_of_ble_eq_true rfl) (by decide +kernel))
theorem dL_law_991 : decode cL_law 991 = .ok (.iaload, 1) := zy_0 zK_46 (zrd_ch zl_eq zl_len 15 31 _ (Nat.le_of_ble_eq_true rfl) (by decide +kernel))
theorem dL_law_992 : decode cL_law 992 = .ok (.invokevirtual 129, 3) := zy_u2 (b1 := 0) (b2 := 129) zK_182 (zrd_ch zl_eq zl_len 15 32 _ (Nat.le_of_ble_eq_true rfl) (by decide +kernel))
theorem dL_law_995 : decode cL_law 995 = .ok (.pop, 1) := zy_0 zK_87 (zrd_ch zl_eq zl_len 15 35 _ (Nat.le_of_ble_eq_true rfl) (by decide +kernel))
theorem dL_law_996 : decode cL_law 996 = .ok (.goto 945, 3) := zy_s2 (b1 := 3) (b2 := 177) zK_167 (zrd_ch zl_eq zl_len 15 36 _ (Nat.le_of_ble_eq_true rfl) (by decide +kernel)) (by decide +kernel)
theorem dL_law_999 : decode cL_law 999 = .ok (.aload_n 1, 1) := zy_0 zK_43 (zrd_ch zl_eq zl_len 15 39 _ (Nat.le_of_ble_eq_true rfl) (by decide +kernel))
theorem dL_law_1000 : decode cL_law 1000 = .ok (.aload_n 0, 1) := zy_0 zK_42 (zrd_ch zl_eq zl_len 15 40 _ (Nat.le_of_ble_eq_true rfl) (by decide +kernel))
theorem dL_law_1001 : decode cL_law 1001 = .ok (.iload 4, 2) := zy_u1 (b1 := 4) zK_21 (zrd_ch zl_eq zl_len 15 41 _ (Nat.le_of_ble_eq_true rfl) (by decide +kernel))
theorem dL_law_1003 : decode cL_law 1003 = .ok (.iconst 1, 1) := zy_0 zK_4 (zrd_ch zl_eq zl_len 15 43 _ (Nat.le_of_ble_eq_true rfl) (by decide +kernel))
theorem dL_law_1004 : decode cL_law 1004 = .ok (.iadd, 1) := zy_0 zK_96 (zrd_ch zl_eq zl_len 15 44 _ (Nat.le_of_ble_eq_true rfl) (by decide +kernel))
theorem dL_law_1005 : decode cL_law 1005 = .ok (.iaload, 1) := zy_0 zK_46 (zrd_ch zl_eq zl_len 15 45 _ (Nat.le_of_ble_eq_true rfl) (by decide +kernel))
theorem dL_law_1006 : decode cL_law 1006 = .ok (.aload_n 0, 1) := zy_0 zK_42 (zrd_ch zl_eq zl_len 15 46 _ (Nat.le_of_ble_eq_true rfl) (by decide +kernel))
theorem dL_law_1007 : decode cL_law 1007 = .ok (.iload 4, 2) := zy_u1 (b1 := 4) zK_21 (zrd_ch zl_eq zl_len 15 47 _ (Nat.le_of_ble_eq_true rfl) (by decide +kernel))
theorem dL_law_1009 : decode cL_law 1009 = .ok (.iconst 2, 1) := zy_0 zK_5 (zrd_ch zl_eq zl_len 15 49 _ (Nat.le_of_ble_eq_true rfl) (by decide +kernel))
theorem dL_law_1010 : decode cL_law 1010 = .ok (.iadd, 1) := zy_0 zK_96 (zrd_ch zl_eq zl_len 15 50 _ (Nat.le_of_ble_eq_true rfl) (by decide +kernel))
theorem dL_law_1011 : decode cL_law 1011 = .ok (.iaload, 1) := zy_0 zK_46 (zrd_ch zl_eq zl_len 15 51 _ (Nat.le_of_ble_eq_true rfl) (by decide +kernel))
theorem dL_law_1012 : decode cL_law 1012 = .ok (.invokevirtual 130, 3) := zy_u2 (b1 := 0) (b2 := 130) zK_182 (zrd_ch zl_eq zl_len 15 52 _ (Nat.le_of_ble_eq_true rfl) (by decide +kernel))
theorem dL_law_1015 : decode cL_law 1015 = .ok (.pop, 1) := zy_0 zK_87 (zrd_ch zl_eq zl_len 15 55 _ (Nat.le_of_ble_eq_true rfl) (by decide +kernel))
theorem dL_law_1016 : decode cL_law 1016 = .ok (.aload_n 2, 1) := zy_0 zK_44 (zrd_ch zl_eq zl_len 15 56 _ (Nat.le_of_ble_eq_true rfl) (by decide +kernel))
theorem dL_law_1017 : decode cL_law 1017 = .ok (.aload_n 0, 1) := zy_0 zK_42 (zrd_ch zl_eq zl_len 15 57 _ (Nat.le_of_ble_eq_true rfl) (by decide +kernel))
theorem dL_law_1018 : decode cL_law 1018 = .ok (.iload 4, 2) := zy_u1 (b1 := 4) zK_21 (zrd_ch zl_eq zl_len 15 58 _ (Nat.le_of_ble_eq_true rfl) (by decide +kernel))
theorem dL_law_1020 : decode cL_law 1020 = .ok (.iconst 1, 1) := zy_0 zK_4 (zrd_ch zl_eq zl_len 15 60 _ (Nat.le_of_ble_eq_true rfl) (by decide +kernel))
theorem dL_law_1021 : decode cL_law 1021 = .ok (.iadd, 1) := zy_0 zK_96 (zrd_ch zl_eq zl_len 15 61 _ (Nat.le_of_ble_eq_true rfl) (by decide +kernel))
theorem dL_law_1022 : decode cL_law 1022 = .ok (.iaload, 1) := zy_0 zK_46 (zrd_ch zl_eq zl_len 15 62 _ (Nat.le_of_ble_eq_true rfl) (by decide +kernel))
theorem dL_law_1023 : decode cL_law 1023 = .ok (.aload_n 0, 1) := zy_0 zK_42 (zrd_ch zl_eq zl_len 15 63 _ (Nat.le_of_ble_eq_true rfl) (by decide +kernel))
theorem dL_law_1024 : decode cL_law 1024 = .ok (.iload 4, 2) := zy_u1 (b1 := 4) zK_21 (zrd_ch zl_eq zl_len 16 0 _ (Nat.le_of_ble_eq_true rfl) (by decide +kernel))
theorem dL_law_1026 : decode cL_law 1026 = .ok (.iconst 2, 1) := zy_0 zK_5 (zrd_ch zl_eq zl_len 16 2 _ (Nat.le_of_ble_eq_true rfl) (by decide +kernel))
theorem dL_law_1027 : decode cL_law 1027 = .ok (.iadd, 1) := zy_0 zK_96 (zrd_ch zl_eq zl_len 16 3 _ (Nat.le_of_ble_eq_true rfl) (by decide +kernel))
theorem dL_law_1028 : decode cL_law 1028 = .ok (.iaload, 1) := zy_0 zK_46 (zrd_ch zl_eq zl_len 16 4 _ (Nat.le_of_ble_eq_true rfl) (by decide +kernel))
theorem dL_law_1029 : decode cL_law 1029 = .ok (.invokevirtual 133, 3) := zy_u2 (b1 := 0) (b2 := 133) zK_182 (zrd_ch zl_eq zl_len 16 5 _ (Nat.le_of_ble_eq_true rfl) (by decide +kernel))
theorem dL_law_1032 : decode cL_law 1032 = .ok (.pop, 1) := zy_0 zK_87 (zrd_ch zl_eq zl_len 16 8 _ (Nat.le_of_ble_eq_true rfl) (by decide +kernel))
theorem dL_law_1033 : decode cL_law 1033 = .ok (.goto 908, 3) := zy_s2 (b1 := 3) (b2 := 140) zK_167 (zrd_ch zl_eq zl_len 16 9 _ (Nat.le_of_ble_eq_true rfl) (by decide +kernel)) (by decide +kernel)
theorem dL_law_1036 : decode cL_law 1036 = .ok (.aload_n 1, 1) := zy_0 zK_43 (zrd_ch zl_eq zl_len 16 12 _ (Nat.le_of_ble_eq_true rfl) (by decide +kernel))
theorem dL_law_1037 : decode cL_law 1037 = .ok (.aload_n 0, 1) := zy_0 zK_42 (zrd_ch zl_eq zl_len 16 13 _ (Nat.le_of_ble_eq_true rfl) (by decide +kernel))
theorem dL_law_1038 : decode cL_law 1038 = .ok (.iload 4, 2) := zy_u1 (b1 := 4) zK_21 (zrd_ch zl_eq zl_len 16 14 _ (Nat.le_of_ble_eq_true rfl) (by decide +kernel))
theorem dL_law_1040 : decode cL_law 1040 = .ok (.iconst 1, 1) := zy_0 zK_4 (zrd_ch zl_eq zl_len 16 16 _ (Nat.le_of_ble_eq_true rfl) (by decide +kernel))
theorem dL_law_1041 : decode cL_law 1041 = .ok (.iadd, 1) := zy_0 zK_96 (zrd_ch zl_eq zl_len 16 17 _ (Nat.le_of_ble_eq_true rfl) (by decide +kernel))
theorem dL_law_1042 : decode cL_law 1042 = .ok (.iaload, 1) := zy_0 zK_46 (zrd_ch zl_eq zl_len 16 18 _ (Nat.le_of_ble_eq_true rfl) (by decide +kernel))
theorem dL_law_1043 : decode cL_law 1043 = .ok (.aload_n 0, 1) := zy_0 zK_42 (zrd_ch zl_eq zl_len 16 19 _ (Nat.le_of_ble_eq_true rfl) (by decide +kernel))
theorem dL_law_1044 : decode cL_law 1044 = .ok (.iload 4, 2) := zy_u1 (b1 := 4) zK_21 (zrd_ch zl_eq zl_len 16 20 _ (Nat.le_of_ble_eq_true rfl) (by decide +kernel))
theorem dL_law_1046 : decode cL_law 1046 = .ok (.iconst 2, 1) := zy_0 zK_5 (zrd_ch zl_eq zl_len 16 22 _ (Nat.le_of_ble_eq_true rfl) (by decide +kernel))
theorem dL_law_1047 : decode cL_law 1047 = .ok (.iadd, 1) := zy_0 zK_96 (zrd_ch zl_eq zl_len 16 23 _ (Nat.le_of_ble_eq_true rfl) (by decide +kernel))
theorem dL_law_1048 : decode cL_law 1048 = .ok (.iaload, 1) := zy_0 zK_46 (zrd_ch zl_eq zl_len 16 24 _ (Nat.le_of_ble_eq_true rfl) (by decide +kernel))
theorem dL_law_1049 : decode cL_law 1049 = .ok (.aload_n 0, 1) := zy_0 zK_42 (zrd_ch zl_eq zl_len 16 25 _ (Nat.le_of_ble_eq_true rfl) (by decide +kernel))
theorem dL_law_1050 : decode cL_law 1050 = .ok (.iload 4, 2) := zy_u1 (b1 := 4) zK_21 (zrd_ch zl_eq zl_len 16 26 _ (Nat.le_of_ble_eq_true rfl) (by decide +kernel))
theorem dL_law_1052 : decode cL_law 1052 = .ok (.iconst 3, 1) := zy_0 zK_6 (zrd_ch zl_eq zl_len 16 28 _ (Nat.le_of_ble_eq_true rfl) (by decide +kernel))
theorem dL_law_1053 : decode cL_law 1053 = .ok (.iadd, 1) := zy_0 zK_96 (zrd_ch zl_eq zl_len 16 29 _ (Nat.le_of_ble_eq_true rfl) (by decide +kernel))
theorem dL_law_1054 : decode cL_law 1054 = .ok (.iaload, 1) := zy_0 zK_46 (zrd_ch zl_eq zl_len 16 30 _ (Nat.le_of_ble_eq_true rfl) (by decide +kernel))
theorem dL_law_1055 : decode cL_law 1055 = .ok (.invokevirtual 134, 3) := zy_u2 (b1 := 0) (b2 := 134) zK_182 (zrd_ch zl_eq zl_len 16 31 _ (Nat.le_of_ble_eq_true rfl) (by decide +kernel))
theorem dL_law_1058 : decode cL_law 1058 = .ok (.pop, 1) := zy_0 zK_87 (zrd_ch zl_eq zl_len 16 34 _ (Nat.le_of_ble_eq_true rfl) (by decide +kernel))
theorem dL_law_1059 : decode cL_law 1059 = .ok (.aload_n 2, 1) := zy_0 zK_44 (zrd_ch zl_eq zl_len 16 35 _ (Nat.le_of_ble_eq_true rfl) (by decide +kernel))
theorem dL_law_1060 : decode cL_law 1060 = .ok (.aload_n 0, 1) := zy_0 zK_42 (zrd_ch zl_eq zl_len 16 36 _ (Nat.le_of_ble_eq_true rfl) (by decide +kernel))
theorem dL_law_1061 : decode cL_law 1061 = .ok (.iload 4, 2) := zy_u1 (b1 := 4) zK_21 (zrd_ch zl_eq zl_len 16 37 _ (Nat.le_of_ble_eq_true rfl) (by decide +kernel))
theorem dL_law_1063 : decode cL_law 1063 = .ok (.iconst 1, 1) := zy_0 zK_4 (zrd_ch zl_eq zl_len 16 39 _ (Nat.le_of_ble_eq_true rfl) (by decide +kernel))
theorem dL_law_1064 : decode cL_law 1064 = .ok (.iadd, 1) := zy_0 zK_96 (zrd_ch zl_eq zl_len 16 40 _ (Nat.le_of_ble_eq_true rfl) (by decide +kernel))
theorem dL_law_1065 : decode cL_law 1065 = .ok (.iaload, 1) := zy_0 zK_46 (zrd_ch zl_eq zl_len 16 41 _ (Nat.le_of_ble_eq_true rfl) (by decide +kernel))
theorem dL_law_1066 : decode cL_law 1066 = .ok (.aload_n 0, 1) := zy_0 zK_42 (zrd_ch zl_eq zl_len 16 42 _ (Nat.le_of_ble_eq_true rfl) (by decide +kernel))
theorem dL_law_1067 : decode cL_law 1067 = .ok (.iload 4, 2) := zy_u1 (b1 := 4) zK_21 (zrd_ch zl_eq zl_len 16 43 _ (Nat.le_of_ble_eq_true rfl) (by decide +kernel))
theorem dL_law_1069 : decode cL_law 1069 = .ok (.iconst 2, 1) := zy_0 zK_5 (zrd_ch zl_eq zl_len 16 45 _ (Nat.le_of_ble_eq_true rfl) (by decide +kernel))
theorem dL_law_1070 : decode cL_law 1070 = .ok (.iadd, 1) := zy_0 zK_96 (zrd_ch zl_eq zl_len 16 46 _ (Nat.le_of_ble_eq_true rfl) (by decide +kernel))
theorem dL_law_1071 : decode cL_law 1071 = .ok (.iaload, 1) := zy_0 zK_46 (zrd_ch zl_eq zl_len 16 47 _ (Nat.le_of_ble_eq_true rfl) (by decide +kernel))
theorem dL_law_1072 : decode cL_law 1072 = .ok (.aload_n 0, 1) := zy_0 zK_42 (zrd_ch zl_eq zl_len 16 48 _ (Nat.le_of_ble_eq_true rfl) (by decide +kernel))
theorem dL_law_1073 : decode cL_law 1073 = .ok (.iload 4, 2) := zy_u1 (b1 := 4) zK_21 (zrd_ch zl_eq zl_len 16 49 _ (Nat.le_of_ble_eq_true rfl) (by decide +kernel))
theorem dL_law_1075 : decode cL_law 1075 = .ok (.iconst 3, 1) := zy_0 zK_6 (zrd_ch zl_eq zl_len 16 51 _ (Nat.le_of_ble_eq_true rfl) (by decide +kernel))
theorem dL_law_1076 : decode cL_law 1076 = .ok (.iadd, 1) := zy_0 zK_96 (zrd_ch zl_eq zl_len 16 52 _ (Nat.le_of_ble_eq_true rfl) (by decide +kernel))
theorem dL_law_1077 : decode cL_law 1077 = .ok (.iaload, 1) := zy_0 zK_46 (zrd_ch zl_eq zl_len 16 53 _ (Nat.le_of_ble_eq_true rfl) (by decide +kernel))
theorem dL_law_1078 : decode cL_law 1078 = .ok (.invokevirtual 138, 3) := zy_u2 (b1 := 0) (b2 := 138) zK_182 (zrd_ch zl_eq zl_len 16 54 _ (Nat.le_of_ble_eq_true rfl) (by decide +kernel))
theorem dL_law_1081 : decode cL_law 1081 = .ok (.pop, 1) := zy_0 zK_87 (zrd_ch zl_eq zl_len 16 57 _ (Nat.le_of_ble_eq_true rfl) (by decide +kernel))
theorem dL_law_1082 : decode cL_law 1082 = .ok (.goto 859, 3) := zy_s2 (b1 := 3) (b2 := 91) zK_167 (zrd_ch zl_eq zl_len 16 58 _ (Nat.le_of_ble_eq_true rfl) (by decide +kernel)) (by decide +kernel)
theorem dL_law_1085 : decode cL_law 1085 = .ok (.aload_n 1, 1) := zy_0 zK_43 (zrd_ch zl_eq zl_len 16 61 _ (Nat.le_of_ble_eq_true rfl) (by decide +kernel))
theorem dL_law_1086 : decode cL_law 1086 = .ok (.aload_n 0, 1) := zy_0 zK_42 (zrd_ch zl_eq zl_len 16 62 _ (Nat.le_of_ble_eq_true rfl) (by decide +kernel))
theorem dL_law_1087 : decode cL_law 1087 = .ok (.iload 4, 2) := zy_u1 (b1 := 4) zK_21 (zrd_ch zl_eq zl_len 16 63 _ (Nat.le_of_ble_eq_true rfl) (by decide +kernel))
theorem dL_law_1089 : decode cL_law 1089 = .ok (.iconst 1, 1) := zy_0 zK_4 (zrd_ch zl_eq zl_len 17 1 _ (Nat.le_of_ble_eq_true rfl) (by decide +kernel))
theorem dL_law_1090 : decode cL_law 1090 = .ok (.iadd, 1) := zy_0 zK_96 (zrd_ch zl_eq zl_len 17 2 _ (Nat.le_of_ble_eq_true rfl) (by decide +kernel))
theorem dL_law_1091 : decode cL_law 1091 = .ok (.iaload, 1) := zy_0 zK_46 (zrd_ch zl_eq zl_len 17 3 _ (Nat.le_of_ble_eq_true rfl) (by decide +kernel))
theorem dL_law_1092 : decode cL_law 1092 = .ok (.invokevirtual 139, 3) := zy_u2 (b1 := 0) (b2 := 139) zK_182 (zrd_ch zl_eq zl_len 17 4 _ (Nat.le_of_ble_eq_true rfl) (by decide +kernel))
theorem dL_law_1095 : decode cL_law 1095 = .ok (.pop, 1) := zy_0 zK_87 (zrd_ch zl_eq zl_len 17 7 _ (Nat.le_of_ble_eq_true rfl) (by decide +kernel))
theorem dL_law_1096 : decode cL_law 1096 = .ok (.aload_n 2, 1) := zy_0 zK_44 (zrd_ch zl_eq zl_len 17 8 _ (Nat.le_of_ble_eq_true rfl) (by decide +kernel))
end P423_decode_1
section P423_decode_2
theorem dL_law_1097 : decode cL_law 1097 = .ok (.aload_n 0, 1) := zy_0 zK_42 (zrd_ch zl_eq zl_len 17 9 _ (Nat.le_of_ble_eq_true rfl) (by decide +kernel))
theorem dL_law_1098 : decode cL_law 1098 = .ok (.iload 4, 2) := zy_u1 (b1 := 4) zK_21 (zrd_ch zl_eq zl_len 17 10 _ (Nat.le_of_ble_eq_true rfl) (by decide +kernel))
theorem dL_law_1100 : decode cL_law 1100 = .ok (.iconst 1, 1) := zy_0 zK_4 (zrd_ch zl_eq zl_len 17 12 _ (Nat.le_of_ble_eq_true rfl) (by decide +kernel))
theorem dL_law_1101 : decode cL_law 1101 = .ok (.iadd, 1) := zy_0 zK_96 (zrd_ch zl_eq zl_len 17 13 _ (Nat.le_of_ble_eq_true rfl) (by decide +kernel))
theorem dL_law_1102 : decode cL_law 1102 = .ok (.iaload, 1) := zy_0 zK_46 (zrd_ch zl_eq zl_len 17 14 _ (Nat.le_of_ble_eq_true rfl) (by decide +kernel))
theorem dL_law_1103 : decode cL_law 1103 = .ok (.invokevirtual 142, 3) := zy_u2 (b1 := 0) (b2 := 142) zK_182 (zrd_ch zl_eq zl_len 17 15 _ (Nat.le_of_ble_eq_true rfl) (by decide +kernel))
theorem dL_law_1106 : decode cL_law 1106 = .ok (.pop, 1) := zy_0 zK_87 (zrd_ch zl_eq zl_len 17 18 _ (Nat.le_of_ble_eq_true rfl) (by decide +kernel))
theorem dL_law_1107 : decode cL_law 1107 = .ok (.goto 834, 3) := zy_s2 (b1 := 3) (b2 := 66) zK_167 (zrd_ch zl_eq zl_len 17 19 _ (Nat.le_of_ble_eq_true rfl) (by decide +kernel)) (by decide +kernel)
theorem dL_law_1110 : decode cL_law 1110 = .ok (.aload_n 1, 1) := zy_0 zK_43 (zrd_ch zl_eq zl_len 17 22 _ (Nat.le_of_ble_eq_true rfl) (by decide +kernel))
theorem dL_law_1111 : decode cL_law 1111 = .ok (.aload_n 0, 1) := zy_0 zK_42 (zrd_ch zl_eq zl_len 17 23 _ (Nat.le_of_ble_eq_true rfl) (by decide +kernel))
theorem dL_law_1112 : decode cL_law 1112 = .ok (.iload 4, 2) := zy_u1 (b1 := 4) zK_21 (zrd_ch zl_eq zl_len 17 24 _ (Nat.le_of_ble_eq_true rfl) (by decide +kernel))
theorem dL_law_1114 : decode cL_law 1114 = .ok (.iconst 1, 1) := zy_0 zK_4 (zrd_ch zl_eq zl_len 17 26 _ (Nat.le_of_ble_eq_true rfl) (by decide +kernel))
theorem dL_law_1115 : decode cL_law 1115 = .ok (.iadd, 1) := zy_0 zK_96 (zrd_ch zl_eq zl_len 17 27 _ (Nat.le_of_ble_eq_true rfl) (by decide +kernel))
theorem dL_law_1116 : decode cL_law 1116 = .ok (.iaload, 1) := zy_0 zK_46 (zrd_ch zl_eq zl_len 17 28 _ (Nat.le_of_ble_eq_true rfl) (by decide +kernel))
theorem dL_law_1117 : decode cL_law 1117 = .ok (.invokevirtual 143, 3) := zy_u2 (b1 := 0) (b2 := 143) zK_182 (zrd_ch zl_eq zl_len 17 29 _ (Nat.le_of_ble_eq_true rfl) (by decide +kernel))
theorem dL_law_1120 : decode cL_law 1120 = .ok (.pop, 1) := zy_0 zK_87 (zrd_ch zl_eq zl_len 17 32 _ (Nat.le_of_ble_eq_true rfl) (by decide +kernel))
theorem dL_law_1121 : decode cL_law 1121 = .ok (.aload_n 2, 1) := zy_0 zK_44 (zrd_ch zl_eq zl_len 17 33 _ (Nat.le_of_ble_eq_true rfl) (by decide +kernel))
theorem dL_law_1122 : decode cL_law 1122 = .ok (.aload_n 0, 1) := zy_0 zK_42 (zrd_ch zl_eq zl_len 17 34 _ (Nat.le_of_ble_eq_true rfl) (by decide +kernel))
theorem dL_law_1123 : decode cL_law 1123 = .ok (.iload 4, 2) := zy_u1 (b1 := 4) zK_21 (zrd_ch zl_eq zl_len 17 35 _ (Nat.le_of_ble_eq_true rfl) (by decide +kernel))
theorem dL_law_1125 : decode cL_law 1125 = .ok (.iconst 1, 1) := zy_0 zK_4 (zrd_ch zl_eq zl_len 17 37 _ (Nat.le_of_ble_eq_true rfl) (by decide +kernel))
theorem dL_law_1126 : decode cL_law 1126 = .ok (.iadd, 1) := zy_0 zK_96 (zrd_ch zl_eq zl_len 17 38 _ (Nat.le_of_ble_eq_true rfl) (by decide +kernel))
theorem dL_law_1127 : decode cL_law 1127 = .ok (.iaload, 1) := zy_0 zK_46 (zrd_ch zl_eq zl_len 17 39 _ (Nat.le_of_ble_eq_true rfl) (by decide +kernel))
theorem dL_law_1128 : decode cL_law 1128 = .ok (.invokevirtual 146, 3) := zy_u2 (b1 := 0) (b2 := 146) zK_182 (zrd_ch zl_eq zl_len 17 40 _ (Nat.le_of_ble_eq_true rfl) (by decide +kernel))
theorem dL_law_1131 : decode cL_law 1131 = .ok (.pop, 1) := zy_0 zK_87 (zrd_ch zl_eq zl_len 17 43 _ (Nat.le_of_ble_eq_true rfl) (by decide +kernel))
theorem dL_law_1132 : decode cL_law 1132 = .ok (.goto 809, 3) := zy_s2 (b1 := 3) (b2 := 41) zK_167 (zrd_ch zl_eq zl_len 17 44 _ (Nat.le_of_ble_eq_true rfl) (by decide +kernel)) (by decide +kernel)
theorem dL_law_1135 : decode cL_law 1135 = .ok (.aload_n 1, 1) := zy_0 zK_43 (zrd_ch zl_eq zl_len 17 47 _ (Nat.le_of_ble_eq_true rfl) (by decide +kernel))
theorem dL_law_1136 : decode cL_law 1136 = .ok (.invokevirtual 147, 3) := zy_u2 (b1 := 0) (b2 := 147) zK_182 (zrd_ch zl_eq zl_len 17 48 _ (Nat.le_of_ble_eq_true rfl) (by decide +kernel))
theorem dL_law_1139 : decode cL_law 1139 = .ok (.pop, 1) := zy_0 zK_87 (zrd_ch zl_eq zl_len 17 51 _ (Nat.le_of_ble_eq_true rfl) (by decide +kernel))
theorem dL_law_1140 : decode cL_law 1140 = .ok (.aload_n 2, 1) := zy_0 zK_44 (zrd_ch zl_eq zl_len 17 52 _ (Nat.le_of_ble_eq_true rfl) (by decide +kernel))
theorem dL_law_1141 : decode cL_law 1141 = .ok (.invokevirtual 150, 3) := zy_u2 (b1 := 0) (b2 := 150) zK_182 (zrd_ch zl_eq zl_len 17 53 _ (Nat.le_of_ble_eq_true rfl) (by decide +kernel))
theorem dL_law_1144 : decode cL_law 1144 = .ok (.pop, 1) := zy_0 zK_87 (zrd_ch zl_eq zl_len 17 56 _ (Nat.le_of_ble_eq_true rfl) (by decide +kernel))
theorem dL_law_1145 : decode cL_law 1145 = .ok (.goto 796, 3) := zy_s2 (b1 := 3) (b2 := 28) zK_167 (zrd_ch zl_eq zl_len 17 57 _ (Nat.le_of_ble_eq_true rfl) (by decide +kernel)) (by decide +kernel)
theorem dL_law_1148 : decode cL_law 1148 = .ok (.aload_n 1, 1) := zy_0 zK_43 (zrd_ch zl_eq zl_len 17 60 _ (Nat.le_of_ble_eq_true rfl) (by decide +kernel))
theorem dL_law_1149 : decode cL_law 1149 = .ok (.aload_n 0, 1) := zy_0 zK_42 (zrd_ch zl_eq zl_len 17 61 _ (Nat.le_of_ble_eq_true rfl) (by decide +kernel))
theorem dL_law_1150 : decode cL_law 1150 = .ok (.iload 4, 2) := zy_u1 (b1 := 4) zK_21 (zrd_ch zl_eq zl_len 17 62 _ (Nat.le_of_ble_eq_true rfl) (by decide +kernel))
theorem dL_law_1152 : decode cL_law 1152 = .ok (.iconst 1, 1) := zy_0 zK_4 (zrd_ch zl_eq zl_len 18 0 _ (Nat.le_of_ble_eq_true rfl) (by decide +kernel))
theorem dL_law_1153 : decode cL_law 1153 = .ok (.iadd, 1) := zy_0 zK_96 (zrd_ch zl_eq zl_len 18 1 _ (Nat.le_of_ble_eq_true rfl) (by decide +kernel))
theorem dL_law_1154 : decode cL_law 1154 = .ok (.iaload, 1) := zy_0 zK_46 (zrd_ch zl_eq zl_len 18 2 _ (Nat.le_of_ble_eq_true rfl) (by decide +kernel))
theorem dL_law_1155 : decode cL_law 1155 = .ok (.aload_n 0, 1) := zy_0 zK_42 (zrd_ch zl_eq zl_len 18 3 _ (Nat.le_of_ble_eq_true rfl) (by decide +kernel))
theorem dL_law_1156 : decode cL_law 1156 = .ok (.iload 4, 2) := zy_u1 (b1 := 4) zK_21 (zrd_ch zl_eq zl_len 18 4 _ (Nat.le_of_ble_eq_true rfl) (by decide +kernel))
theorem dL_law_1158 : decode cL_law 1158 = .ok (.iconst 2, 1) := zy_0 zK_5 (zrd_ch zl_eq zl_len 18 6 _ (Nat.le_of_ble_eq_true rfl) (by decide +kernel))
theorem dL_law_1159 : decode cL_law 1159 = .ok (.iadd, 1) := zy_0 zK_96 (zrd_ch zl_eq zl_len 18 7 _ (Nat.le_of_ble_eq_true rfl) (by decide +kernel))
theorem dL_law_1160 : decode cL_law 1160 = .ok (.iaload, 1) := zy_0 zK_46 (zrd_ch zl_eq zl_len 18 8 _ (Nat.le_of_ble_eq_true rfl) (by decide +kernel))
theorem dL_law_1161 : decode cL_law 1161 = .ok (.invokevirtual 151, 3) := zy_u2 (b1 := 0) (b2 := 151) zK_182 (zrd_ch zl_eq zl_len 18 9 _ (Nat.le_of_ble_eq_true rfl) (by decide +kernel))
theorem dL_law_1164 : decode cL_law 1164 = .ok (.pop, 1) := zy_0 zK_87 (zrd_ch zl_eq zl_len 18 12 _ (Nat.le_of_ble_eq_true rfl) (by decide +kernel))
theorem dL_law_1165 : decode cL_law 1165 = .ok (.aload_n 2, 1) := zy_0 zK_44 (zrd_ch zl_eq zl_len 18 13 _ (Nat.le_of_ble_eq_true rfl) (by decide +kernel))
theorem dL_law_1166 : decode cL_law 1166 = .ok (.aload_n 0, 1) := zy_0 zK_42 (zrd_ch zl_eq zl_len 18 14 _ (Nat.le_of_ble_eq_true rfl) (by decide +kernel))
theorem dL_law_1167 : decode cL_law 1167 = .ok (.iload 4, 2) := zy_u1 (b1 := 4) zK_21 (zrd_ch zl_eq zl_len 18 15 _ (Nat.le_of_ble_eq_true rfl) (by decide +kernel))
theorem dL_law_1169 : decode cL_law 1169 = .ok (.iconst 1, 1) := zy_0 zK_4 (zrd_ch zl_eq zl_len 18 17 _ (Nat.le_of_ble_eq_true rfl) (by decide +kernel))
theorem dL_law_1170 : decode cL_law 1170 = .ok (.iadd, 1) := zy_0 zK_96 (zrd_ch zl_eq zl_len 18 18 _ (Nat.le_of_ble_eq_true rfl) (by decide +kernel))
theorem dL_law_1171 : decode cL_law 1171 = .ok (.iaload, 1) := zy_0 zK_46 (zrd_ch zl_eq zl_len 18 19 _ (Nat.le_of_ble_eq_true rfl) (by decide +kernel))
theorem dL_law_1172 : decode cL_law 1172 = .ok (.aload_n 0, 1) := zy_0 zK_42 (zrd_ch zl_eq zl_len 18 20 _ (Nat.le_of_ble_eq_true rfl) (by decide +kernel))
theorem dL_law_1173 : decode cL_law 1173 = .ok (.iload 4, 2) := zy_u1 (b1 := 4) zK_21 (zrd_ch zl_eq zl_len 18 21 _ (Nat.le_of_ble_eq_true rfl) (by decide +kernel))
theorem dL_law_1175 : decode cL_law 1175 = .ok (.iconst 2, 1) := zy_0 zK_5 (zrd_ch zl_eq zl_len 18 23 _ (Nat.le_of_ble_eq_true rfl) (by decide +kernel))
theorem dL_law_1176 : decode cL_law 1176 = .ok (.iadd, 1) := zy_0 zK_96 (zrd_ch zl_eq zl_len 18 24 _ (Nat.le_of_ble_eq_true rfl) (by decide +kernel))
theorem dL_law_1177 : decode cL_law 1177 = .ok (.iaload, 1) := zy_0 zK_46 (zrd_ch zl_eq zl_len 18 25 _ (Nat.le_of_ble_eq_true rfl) (by decide +kernel))
theorem dL_law_1178 : decode cL_law 1178 = .ok (.invokevirtual 154, 3) := zy_u2 (b1 := 0) (b2 := 154) zK_182 (zrd_ch zl_eq zl_len 18 26 _ (Nat.le_of_ble_eq_true rfl) (by decide +kernel))
theorem dL_law_1181 : decode cL_law 1181 = .ok (.pop, 1) := zy_0 zK_87 (zrd_ch zl_eq zl_len 18 29 _ (Nat.le_of_ble_eq_true rfl) (by decide +kernel))
theorem dL_law_1182 : decode cL_law 1182 = .ok (.goto 759, 3) := zy_s2 (b1 := 2) (b2 := 247) zK_167 (zrd_ch zl_eq zl_len 18 30 _ (Nat.le_of_ble_eq_true rfl) (by decide +kernel)) (by decide +kernel)
theorem dL_law_1185 : decode cL_law 1185 = .ok (.aload_n 1, 1) := zy_0 zK_43 (zrd_ch zl_eq zl_len 18 33 _ (Nat.le_of_ble_eq_true rfl) (by decide +kernel))
theorem dL_law_1186 : decode cL_law 1186 = .ok (.invokevirtual 155, 3) := zy_u2 (b1 := 0) (b2 := 155) zK_182 (zrd_ch zl_eq zl_len 18 34 _ (Nat.le_of_ble_eq_true rfl) (by decide +kernel))
theorem dL_law_1189 : decode cL_law 1189 = .ok (.pop, 1) := zy_0 zK_87 (zrd_ch zl_eq zl_len 18 37 _ (Nat.le_of_ble_eq_true rfl) (by decide +kernel))
theorem dL_law_1190 : decode cL_law 1190 = .ok (.aload_n 2, 1) := zy_0 zK_44 (zrd_ch zl_eq zl_len 18 38 _ (Nat.le_of_ble_eq_true rfl) (by decide +kernel))
theorem dL_law_1191 : decode cL_law 1191 = .ok (.invokevirtual 158, 3) := zy_u2 (b1 := 0) (b2 := 158) zK_182 (zrd_ch zl_eq zl_len 18 39 _ (Nat.le_of_ble_eq_true rfl) (by decide +kernel))
theorem dL_law_1194 : decode cL_law 1194 = .ok (.pop, 1) := zy_0 zK_87 (zrd_ch zl_eq zl_len 18 42 _ (Nat.le_of_ble_eq_true rfl) (by decide +kernel))
theorem dL_law_1195 : decode cL_law 1195 = .ok (.goto 746, 3) := zy_s2 (b1 := 2) (b2 := 234) zK_167 (zrd_ch zl_eq zl_len 18 43 _ (Nat.le_of_ble_eq_true rfl) (by decide +kernel)) (by decide +kernel)
theorem dL_law_1198 : decode cL_law 1198 = .ok (.aload_n 1, 1) := zy_0 zK_43 (zrd_ch zl_eq zl_len 18 46 _ (Nat.le_of_ble_eq_true rfl) (by decide +kernel))
theorem dL_law_1199 : decode cL_law 1199 = .ok (.aload_n 0, 1) := zy_0 zK_42 (zrd_ch zl_eq zl_len 18 47 _ (Nat.le_of_ble_eq_true rfl) (by decide +kernel))
theorem dL_law_1200 : decode cL_law 1200 = .ok (.iload 4, 2) := zy_u1 (b1 := 4) zK_21 (zrd_ch zl_eq zl_len 18 48 _ (Nat.le_of_ble_eq_true rfl) (by decide +kernel))
theorem dL_law_1202 : decode cL_law 1202 = .ok (.iconst 1, 1) := zy_0 zK_4 (zrd_ch zl_eq zl_len 18 50 _ (Nat.le_of_ble_eq_true rfl) (by decide +kernel))
theorem dL_law_1203 : decode cL_law 1203 = .ok (.iadd, 1) := zy_0 zK_96 (zrd_ch zl_eq zl_len 18 51 _ (Nat.le_of_ble_eq_true rfl) (by decide +kernel))
theorem dL_law_1204 : decode cL_law 1204 = .ok (.iaload, 1) := zy_0 zK_46 (zrd_ch zl_eq zl_len 18 52 _ (Nat.le_of_ble_eq_true rfl) (by decide +kernel))
theorem dL_law_1205 : decode cL_law 1205 = .ok (.invokevirtual 159, 3) := zy_u2 (b1 := 0) (b2 := 159) zK_182 (zrd_ch zl_eq zl_len 18 53 _ (Nat.le_of_ble_eq_true rfl) (by decide +kernel))
theorem dL_law_1208 : decode cL_law 1208 = .ok (.pop, 1) := zy_0 zK_87 (zrd_ch zl_eq zl_len 18 56 _ (Nat.le_of_ble_eq_true rfl) (by decide +kernel))
theorem dL_law_1209 : decode cL_law 1209 = .ok (.aload_n 2, 1) := zy_0 zK_44 (zrd_ch zl_eq zl_len 18 57 _ (Nat.le_of_ble_eq_true rfl) (by decide +kernel))
theorem dL_law_1210 : decode cL_law 1210 = .ok (.aload_n 0, 1) := zy_0 zK_42 (zrd_ch zl_eq zl_len 18 58 _ (Nat.le_of_ble_eq_true rfl) (by decide +kernel))
theorem dL_law_1211 : decode cL_law 1211 = .ok (.iload 4, 2) := zy_u1 (b1 := 4) zK_21 (zrd_ch zl_eq zl_len 18 59 _ (Nat.le_of_ble_eq_true rfl) (by decide +kernel))
theorem dL_law_1213 : decode cL_law 1213 = .ok (.iconst 1, 1) := zy_0 zK_4 (zrd_ch zl_eq zl_len 18 61 _ (Nat.le_of_ble_eq_true rfl) (by decide +kernel))
theorem dL_law_1214 : decode cL_law 1214 = .ok (.iadd, 1) := zy_0 zK_96 (zrd_ch zl_eq zl_len 18 62 _ (Nat.le_of_ble_eq_true rfl) (by decide +kernel))
theorem dL_law_1215 : decode cL_law 1215 = .ok (.iaload, 1) := zy_0 zK_46 (zrd_ch zl_eq zl_len 18 63 _ (Nat.le_of_ble_eq_true rfl) (by decide +kernel))
theorem dL_law_1216 : decode cL_law 1216 = .ok (.invokevirtual 162, 3) := zy_u2 (b1 := 0) (b2 := 162) zK_182 (zrd_ch zl_eq zl_len 19 0 _ (Nat.le_of_ble_eq_true rfl) (by decide +kernel))
theorem dL_law_1219 : decode cL_law 1219 = .ok (.pop, 1) := zy_0 zK_87 (zrd_ch zl_eq zl_len 19 3 _ (Nat.le_of_ble_eq_true rfl) (by decide +kernel))
theorem dL_law_1220 : decode cL_law 1220 = .ok (.goto 721, 3) := zy_s2 (b1 := 2) (b2 := 209) zK_167 (zrd_ch zl_eq zl_len 19 4 _ (Nat.le_of_ble_eq_true rfl) (by decide +kernel)) (by decide +kernel)
theorem dL_law_1223 : decode cL_law 1223 = .ok (.aload_n 1, 1) := zy_0 zK_43 (zrd_ch zl_eq zl_len 19 7 _ (Nat.le_of_ble_eq_true rfl) (by decide +kernel))
theorem dL_law_1224 : decode cL_law 1224 = .ok (.aload_n 0, 1) := zy_0 zK_42 (zrd_ch zl_eq zl_len 19 8 _ (Nat.le_of_ble_eq_true rfl) (by decide +kernel))
theorem dL_law_1225 : decode cL_law 1225 = .ok (.iload 4, 2) := zy_u1 (b1 := 4) zK_21 (zrd_ch zl_eq zl_len 19 9 _ (Nat.le_of_ble_eq_true rfl) (by decide +kernel))
theorem dL_law_1227 : decode cL_law 1227 = .ok (.iconst 1, 1) := zy_0 zK_4 (zrd_ch zl_eq zl_len 19 11 _ (Nat.le_of_ble_eq_true rfl) (by decide +kernel))
theorem dL_law_1228 : decode cL_law 1228 = .ok (.iadd, 1) := zy_0 zK_96 (zrd_ch zl_eq zl_len 19 12 _ (Nat.le_of_ble_eq_true rfl) (by decide +kernel))
theorem dL_law_1229 : decode cL_law 1229 = .ok (.iaload, 1) := zy_0 zK_46 (zrd_ch zl_eq zl_len 19 13 _ (Nat.le_of_ble_eq_true rfl) (by decide +kernel))
theorem dL_law_1230 : decode cL_law 1230 = .ok (.invokevirtual 163, 3) := zy_u2 (b1 := 0) (b2 := 163) zK_182 (zrd_ch zl_eq zl_len 19 14 _ (Nat.le_of_ble_eq_true rfl) (by decide +kernel))
theorem dL_law_1233 : decode cL_law 1233 = .ok (.pop, 1) := zy_0 zK_87 (zrd_ch zl_eq zl_len 19 17 _ (Nat.le_of_ble_eq_true rfl) (by decide +kernel))
theorem dL_law_1234 : decode cL_law 1234 = .ok (.aload_n 2, 1) := zy_0 zK_44 (zrd_ch zl_eq zl_len 19 18 _ (Nat.le_of_ble_eq_true rfl) (by decide +kernel))
theorem dL_law_1235 : decode cL_law 1235 = .ok (.aload_n 0, 1) := zy_0 zK_42 (zrd_ch zl_eq zl_len 19 19 _ (Nat.le_of_ble_eq_true rfl) (by decide +kernel))
theorem dL_law_1236 : decode cL_law 1236 = .ok (.iload 4, 2) := zy_u1 (b1 := 4) zK_21 (zrd_ch zl_eq zl_len 19 20 _ (Nat.le_of_ble_eq_true rfl) (by decide +kernel))
theorem dL_law_1238 : decode cL_law 1238 = .ok (.iconst 1, 1) := zy_0 zK_4 (zrd_ch zl_eq zl_len 19 22 _ (Nat.le_of_ble_eq_true rfl) (by decide +kernel))
theorem dL_law_1239 : decode cL_law 1239 = .ok (.iadd, 1) := zy_0 zK_96 (zrd_ch zl_eq zl_len 19 23 _ (Nat.le_of_ble_eq_true rfl) (by decide +kernel))
theorem dL_law_1240 : decode cL_law 1240 = .ok (.iaload, 1) := zy_0 zK_46 (zrd_ch zl_eq zl_len 19 24 _ (Nat.le_of_ble_eq_true rfl) (by decide +kernel))
theorem dL_law_1241 : decode cL_law 1241 = .ok (.invokevirtual 166, 3) := zy_u2 (b1 := 0) (b2 := 166) zK_182 (zrd_ch zl_eq zl_len 19 25 _ (Nat.le_of_ble_eq_true rfl) (by decide +kernel))
theorem dL_law_1244 : decode cL_law 1244 = .ok (.pop, 1) := zy_0 zK_87 (zrd_ch zl_eq zl_len 19 28 _ (Nat.le_of_ble_eq_true rfl) (by decide +kernel))
theorem dL_law_1245 : decode cL_law 1245 = .ok (.goto 696, 3) := zy_s2 (b1 := 2) (b2 := 184) zK_167 (zrd_ch zl_eq zl_len 19 29 _ (Nat.le_of_ble_eq_true rfl) (by decide +kernel)) (by decide +kernel)
theorem dL_law_1248 : decode cL_law 1248 = .ok (.aload_n 1, 1) := zy_0 zK_43 (zrd_ch zl_eq zl_len 19 32 _ (Nat.le_of_ble_eq_true rfl) (by decide +kernel))
theorem dL_law_1249 : decode cL_law 1249 = .ok (.aload_n 0, 1) := zy_0 zK_42 (zrd_ch zl_eq zl_len 19 33 _ (Nat.le_of_ble_eq_true rfl) (by decide +kernel))
theorem dL_law_1250 : decode cL_law 1250 = .ok (.iload 4, 2) := zy_u1 (b1 := 4) zK_21 (zrd_ch zl_eq zl_len 19 34 _ (Nat.le_of_ble_eq_true rfl) (by decide +kernel))
theorem dL_law_1252 : decode cL_law 1252 = .ok (.iconst 1, 1) := zy_0 zK_4 (zrd_ch zl_eq zl_len 19 36 _ (Nat.le_of_ble_eq_true rfl) (by decide +kernel))
theorem dL_law_1253 : decode cL_law 1253 = .ok (.iadd, 1) := zy_0 zK_96 (zrd_ch zl_eq zl_len 19 37 _ (Nat.le_of_ble_eq_true rfl) (by decide +kernel))
theorem dL_law_1254 : decode cL_law 1254 = .ok (.iaload, 1) := zy_0 zK_46 (zrd_ch zl_eq zl_len 19 38 _ (Nat.le_of_ble_eq_true rfl) (by decide +kernel))
theorem dL_law_1255 : decode cL_law 1255 = .ok (.aload_n 0, 1) := zy_0 zK_42 (zrd_ch zl_eq zl_len 19 39 _ (Nat.le_of_ble_eq_true rfl) (by decide +kernel))
theorem dL_law_1256 : decode cL_law 1256 = .ok (.iload 4, 2) := zy_u1 (b1 := 4) zK_21 (zrd_ch zl_eq zl_len 19 40 _ (Nat.le_of_ble_eq_true rfl) (by decide +kernel))
theorem dL_law_1258 : decode cL_law 1258 = .ok (.iconst 2, 1) := zy_0 zK_5 (zrd_ch zl_eq zl_len 19 42 _ (Nat.le_of_ble_eq_true rfl) (by decide +kernel))
theorem dL_law_1259 : decode cL_law 1259 = .ok (.iadd, 1) := zy_0 zK_96 (zrd_ch zl_eq zl_len 19 43 _ (Nat.le_of_ble_eq_true rfl) (by decide +kernel))
theorem dL_law_1260 : decode cL_law 1260 = .ok (.iaload, 1) := zy_0 zK_46 (zrd_ch zl_eq zl_len 19 44 _ (Nat.le_of_ble_eq_true rfl) (by decide +kernel))
theorem dL_law_1261 : decode cL_law 1261 = .ok (.invokevirtual 167, 3) := zy_u2 (b1 := 0) (b2 := 167) zK_182 (zrd_ch zl_eq zl_len 19 45 _ (Nat.le_of_ble_eq_true rfl) (by decide +kernel))
theorem dL_law_1264 : decode cL_law 1264 = .ok (.pop, 1) := zy_0 zK_87 (zrd_ch zl_eq zl_len 19 48 _ (Nat.le_of_ble_eq_true rfl) (by decide +kernel))
theorem dL_law_1265 : decode cL_law 1265 = .ok (.aload_n 2, 1) := zy_0 zK_44 (zrd_ch zl_eq zl_len 19 49 _ (Nat.le_of_ble_eq_true rfl) (by decide +kernel))
theorem dL_law_1266 : decode cL_law 1266 = .ok (.aload_n 0, 1) := zy_0 zK_42 (zrd_ch zl_eq zl_len 19 50 _ (Nat.le_of_ble_eq_true rfl) (by decide +kernel))
theorem dL_law_1267 : decode cL_law 1267 = .ok (.iload 4, 2) := zy_u1 (b1 := 4) zK_21 (zrd_ch zl_eq zl_len 19 51 _ (Nat.le_of_ble_eq_true rfl) (by decide +kernel))
theorem dL_law_1269 : decode cL_law 1269 = .ok (.iconst 1, 1) := zy_0 zK_4 (zrd_ch zl_eq zl_len 19 53 _ (Nat.le_of_ble_eq_true rfl) (by decide +kernel))
theorem dL_law_1270 : decode cL_law 1270 = .ok (.iadd, 1) := zy_0 zK_96 (zrd_ch zl_eq zl_len 19 54 _ (Nat.le_of_ble_eq_true rfl) (by decide +kernel))
theorem dL_law_1271 : decode cL_law 1271 = .ok (.iaload, 1) := zy_0 zK_46 (zrd_ch zl_eq zl_len 19 55 _ (Nat.le_of_ble_eq_true rfl) (by decide +kernel))
theorem dL_law_1272 : decode cL_law 1272 = .ok (.aload_n 0, 1) := zy_0 zK_42 (zrd_ch zl_eq zl_len 19 56 _ (Nat.le_of_ble_eq_true rfl) (by decide +kernel))
theorem dL_law_1273 : decode cL_law 1273 = .ok (.iload 4, 2) := zy_u1 (b1 := 4) zK_21 (zrd_ch zl_eq zl_len 19 57 _ (Nat.le_of_ble_eq_true rfl) (by decide +kernel))
theorem dL_law_1275 : decode cL_law 1275 = .ok (.iconst 2, 1) := zy_0 zK_5 (zrd_ch zl_eq zl_len 19 59 _ (Nat.le_of_ble_eq_true rfl) (by decide +kernel))
theorem dL_law_1276 : decode cL_law 1276 = .ok (.iadd, 1) := zy_0 zK_96 (zrd_ch zl_eq zl_len 19 60 _ (Nat.le_of_ble_eq_true rfl) (by decide +kernel))
theorem dL_law_1277 : decode cL_law 1277 = .ok (.iaload, 1) := zy_0 zK_46 (zrd_ch zl_eq zl_len 19 61 _ (Nat.le_of_ble_eq_true rfl) (by decide +kernel))
theorem dL_law_1278 : decode cL_law 1278 = .ok (.invokevirtual 170, 3) := zy_u2 (b1 := 0) (b2 := 170) zK_182 (zrd_ch zl_eq zl_len 19 62 _ (Nat.le_of_ble_eq_true rfl) (by decide +kernel))
theorem dL_law_1281 : decode cL_law 1281 = .ok (.pop, 1) := zy_0 zK_87 (zrd_ch zl_eq zl_len 20 1 _ (Nat.le_of_ble_eq_true rfl) (by decide +kernel))
theorem dL_law_1282 : decode cL_law 1282 = .ok (.goto 659, 3) := zy_s2 (b1 := 2) (b2 := 147) zK_167 (zrd_ch zl_eq zl_len 20 2 _ (Nat.le_of_ble_eq_true rfl) (by decide +kernel)) (by decide +kernel)
theorem dL_law_1285 : decode cL_law 1285 = .ok (.aload_n 1, 1) := zy_0 zK_43 (zrd_ch zl_eq zl_len 20 5 _ (Nat.le_of_ble_eq_true rfl) (by decide +kernel))
theorem dL_law_1286 : decode cL_law 1286 = .ok (.invokevirtual 171, 3) := zy_u2 (b1 := 0) (b2 := 171) zK_182 (zrd_ch zl_eq zl_len 20 6 _ (Nat.le_of_ble_eq_true rfl) (by decide +kernel))
theorem dL_law_1289 : decode cL_law 1289 = .ok (.pop, 1) := zy_0 zK_87 (zrd_ch zl_eq zl_len 20 9 _ (Nat.le_of_ble_eq_true rfl) (by decide +kernel))
theorem dL_law_1290 : decode cL_law 1290 = .ok (.aload_n 2, 1) := zy_0 zK_44 (zrd_ch zl_eq zl_len 20 10 _ (Nat.le_of_ble_eq_true rfl) (by decide +kernel))
theorem dL_law_1291 : decode cL_law 1291 = .ok (.invokevirtual 174, 3) := zy_u2 (b1 := 0) (b2 := 174) zK_182 (zrd_ch zl_eq zl_len 20 11 _ (Nat.le_of_ble_eq_true rfl) (by decide +kernel))
theorem dL_law_1294 : decode cL_law 1294 = .ok (.pop, 1) := zy_0 zK_87 (zrd_ch zl_eq zl_len 20 14 _ (Nat.le_of_ble_eq_true rfl) (by decide +kernel))
theorem dL_law_1295 : decode cL_law 1295 = .ok (.goto 646, 3) := zy_s2 (b1 := 2) (b2 := 134) zK_167 (zrd_ch zl_eq zl_len 20 15 _ (Nat.le_of_ble_eq_true rfl) (by decide +kernel)) (by decide +kernel)
theorem dL_law_1298 : decode cL_law 1298 = .ok (.aload_n 1, 1) := zy_0 zK_43 (zrd_ch zl_eq zl_len 20 18 _ (Nat.le_of_ble_eq_true rfl) (by decide +kernel))
theorem dL_law_1299 : decode cL_law 1299 = .ok (.invokevirtual 175, 3) := zy_u2 (b1 := 0) (b2 := 175) zK_182 (zrd_ch zl_eq zl_len 20 19 _ (Nat.le_of_ble_eq_true rfl) (by decide +kernel))
theorem dL_law_1302 : decode cL_law 1302 = .ok (.pop, 1) := zy_0 zK_87 (zrd_ch zl_eq zl_len 20 22 _ (Nat.le_of_ble_eq_true rfl) (by decide +kernel))
theorem dL_law_1303 : decode cL_law 1303 = .ok (.aload_n 2, 1) := zy_0 zK_44 (zrd_ch zl_eq zl_len 20 23 _ (Nat.le_of_ble_eq_true rfl) (by decide +kernel))
theorem dL_law_1304 : decode cL_law 1304 = .ok (.invokevirtual 178, 3) := zy_u2 (b1 := 0) (b2 := 178) zK_182 (zrd_ch zl_eq zl_len 20 24 _ (Nat.le_of_ble_eq_true rfl) (by decide +kernel))
theorem dL_law_1307 : decode cL_law 1307 = .ok (.pop, 1) := zy_0 zK_87 (zrd_ch zl_eq zl_len 20 27 _ (Nat.le_of_ble_eq_true rfl) (by decide +kernel))
theorem dL_law_1308 : decode cL_law 1308 = .ok (.goto 633, 3) := zy_s2 (b1 := 2) (b2 := 121) zK_167 (zrd_ch zl_eq zl_len 20 28 _ (Nat.le_of_ble_eq_true rfl) (by decide +kernel)) (by decide +kernel)
theorem dL_law_1311 : decode cL_law 1311 = .ok (.aload_n 1, 1) := zy_0 zK_43 (zrd_ch zl_eq zl_len 20 31 _ (Nat.le_of_ble_eq_true rfl) (by decide +kernel))
theorem dL_law_1312 : decode cL_law 1312 = .ok (.invokevirtual 179, 3) := zy_u2 (b1 := 0) (b2 := 179) zK_182 (zrd_ch zl_eq zl_len 20 32 _ (Nat.le_of_ble_eq_true rfl) (by decide +kernel))
theorem dL_law_1315 : decode cL_law 1315 = .ok (.pop, 1) := zy_0 zK_87 (zrd_ch zl_eq zl_len 20 35 _ (Nat.le_of_ble_eq_true rfl) (by decide +kernel))
theorem dL_law_1316 : decode cL_law 1316 = .ok (.aload_n 2, 1) := zy_0 zK_44 (zrd_ch zl_eq zl_len 20 36 _ (Nat.le_of_ble_eq_true rfl) (by decide +kernel))
theorem dL_law_1317 : decode cL_law 1317 = .ok (.invokevirtual 182, 3) := zy_u2 (b1 := 0) (b2 := 182) zK_182 (zrd_ch zl_eq zl_len 20 37 _ (Nat.le_of_ble_eq_true rfl) (by decide +kernel))
theorem dL_law_1320 : decode cL_law 1320 = .ok (.pop, 1) := zy_0 zK_87 (zrd_ch zl_eq zl_len 20 40 _ (Nat.le_of_ble_eq_true rfl) (by decide +kernel))
theorem dL_law_1321 : decode cL_law 1321 = .ok (.goto 620, 3) := zy_s2 (b1 := 2) (b2 := 108) zK_167 (zrd_ch zl_eq zl_len 20 41 _ (Nat.le_of_ble_eq_true rfl) (by decide +kernel)) (by decide +kernel)
theorem dL_law_1324 : decode cL_law 1324 = .ok (.aload_n 1, 1) := zy_0 zK_43 (zrd_ch zl_eq zl_len 20 44 _ (Nat.le_of_ble_eq_true rfl) (by decide +kernel))
theorem dL_law_1325 : decode cL_law 1325 = .ok (.aload_n 0, 1) := zy_0 zK_42 (zrd_ch zl_eq zl_len 20 45 _ (Nat.le_of_ble_eq_true rfl) (by decide +kernel))
theorem dL_law_1326 : decode cL_law 1326 = .ok (.iload 4, 2) := zy_u1 (b1 := 4) zK_21 (zrd_ch zl_eq zl_len 20 46 _ (Nat.le_of_ble_eq_true rfl) (by decide +kernel))
theorem dL_law_1328 : decode cL_law 1328 = .ok (.iconst 1, 1) := zy_0 zK_4 (zrd_ch zl_eq zl_len 20 48 _ (Nat.le_of_ble_eq_true rfl) (by decide +kernel))
theorem dL_law_1329 : decode cL_law 1329 = .ok (.iadd, 1) := zy_0 zK_96 (zrd_ch zl_eq zl_len 20 49 _ (Nat.le_of_ble_eq_true rfl) (by decide +kernel))
theorem dL_law_1330 : decode cL_law 1330 = .ok (.iaload, 1) := zy_0 zK_46 (zrd_ch zl_eq zl_len 20 50 _ (Nat.le_of_ble_eq_true rfl) (by decide +kernel))
theorem dL_law_1331 : decode cL_law 1331 = .ok (.aload_n 0, 1) := zy_0 zK_42 (zrd_ch zl_eq zl_len 20 51 _ (Nat.le_of_ble_eq_true rfl) (by decide +kernel))
theorem dL_law_1332 : decode cL_law 1332 = .ok (.iload 4, 2) := zy_u1 (b1 := 4) zK_21 (zrd_ch zl_eq zl_len 20 52 _ (Nat.le_of_ble_eq_true rfl) (by decide +kernel))
theorem dL_law_1334 : decode cL_law 1334 = .ok (.iconst 2, 1) := zy_0 zK_5 (zrd_ch zl_eq zl_len 20 54 _ (Nat.le_of_ble_eq_true rfl) (by decide +kernel))
theorem dL_law_1335 : decode cL_law 1335 = .ok (.iadd, 1) := zy_0 zK_96 (zrd_ch zl_eq zl_len 20 55 _ (Nat.le_of_ble_eq_true rfl) (by decide +kernel))
theorem dL_law_1336 : decode cL_law 1336 = .ok (.iaload, 1) := zy_0 zK_46 (zrd_ch zl_eq zl_len 20 56 _ (Nat.le_of_ble_eq_true rfl) (by decide +kernel))
theorem dL_law_1337 : decode cL_law 1337 = .ok (.invokevirtual 183, 3) := zy_u2 (b1 := 0) (b2 := 183) zK_182 (zrd_ch zl_eq zl_len 20 57 _ (Nat.le_of_ble_eq_true rfl) (by decide +kernel))
theorem dL_law_1340 : decode cL_law 1340 = .ok (.pop, 1) := zy_0 zK_87 (zrd_ch zl_eq zl_len 20 60 _ (Nat.le_of_ble_eq_true rfl) (by decide +kernel))
theorem dL_law_1341 : decode cL_law 1341 = .ok (.aload_n 2, 1) := zy_0 zK_44 (zrd_ch zl_eq zl_len 20 61 _ (Nat.le_of_ble_eq_true rfl) (by decide +kernel))
theorem dL_law_1342 : decode cL_law 1342 = .ok (.aload_n 0, 1) := zy_0 zK_42 (zrd_ch zl_eq zl_len 20 62 _ (Nat.le_of_ble_eq_true rfl) (by decide +kernel))
theorem dL_law_1343 : decode cL_law 1343 = .ok (.iload 4, 2) := zy_u1 (b1 := 4) zK_21 (zrd_ch zl_eq zl_len 20 63 _ (Nat.le_of_ble_eq_true rfl) (by decide +kernel))
theorem dL_law_1345 : decode cL_law 1345 = .ok (.iconst 1, 1) := zy_0 zK_4 (zrd_ch zl_eq zl_len 21 1 _ (Nat.le_of_ble_eq_true rfl) (by decide +kernel))
theorem dL_law_1346 : decode cL_law 1346 = .ok (.iadd, 1) := zy_0 zK_96 (zrd_ch zl_eq zl_len 21 2 _ (Nat.le_of_ble_eq_true rfl) (by decide +kernel))
theorem dL_law_1347 : decode cL_law 1347 = .ok (.iaload, 1) := zy_0 zK_46 (zrd_ch zl_eq zl_len 21 3 _ (Nat.le_of_ble_eq_true rfl) (by decide +kernel))
theorem dL_law_1348 : decode cL_law 1348 = .ok (.aload_n 0, 1) := zy_0 zK_42 (zrd_ch zl_eq zl_len 21 4 _ (Nat.le_of_ble_eq_true rfl) (by decide +kernel))
theorem dL_law_1349 : decode cL_law 1349 = .ok (.iload 4, 2) := zy_u1 (b1 := 4) zK_21 (zrd_ch zl_eq zl_len 21 5 _ (Nat.le_of_ble_eq_true rfl) (by decide +kernel))
theorem dL_law_1351 : decode cL_law 1351 = .ok (.iconst 2, 1) := zy_0 zK_5 (zrd_ch zl_eq zl_len 21 7 _ (Nat.le_of_ble_eq_true rfl) (by decide +kernel))
theorem dL_law_1352 : decode cL_law 1352 = .ok (.iadd, 1) := zy_0 zK_96 (zrd_ch zl_eq zl_len 21 8 _ (Nat.le_of_ble_eq_true rfl) (by decide +kernel))
theorem dL_law_1353 : decode cL_law 1353 = .ok (.iaload, 1) := zy_0 zK_46 (zrd_ch zl_eq zl_len 21 9 _ (Nat.le_of_ble_eq_true rfl) (by decide +kernel))
theorem dL_law_1354 : decode cL_law 1354 = .ok (.invokevirtual 186, 3) := zy_u2 (b1 := 0) (b2 := 186) zK_182 (zrd_ch zl_eq zl_len 21 10 _ (Nat.le_of_ble_eq_true rfl) (by decide +kernel))
theorem dL_law_1357 : decode cL_law 1357 = .ok (.pop, 1) := zy_0 zK_87 (zrd_ch zl_eq zl_len 21 13 _ (Nat.le_of_ble_eq_true rfl) (by decide +kernel))
theorem dL_law_1358 : decode cL_law 1358 = .ok (.goto 583, 3) := zy_s2 (b1 := 2) (b2 := 71) zK_167 (zrd_ch zl_eq zl_len 21 14 _ (Nat.le_of_ble_eq_true rfl) (by decide +kernel)) (by decide +kernel)
theorem dL_law_1361 : decode cL_law 1361 = .ok (.aload_n 1, 1) := zy_0 zK_43 (zrd_ch zl_eq zl_len 21 17 _ (Nat.le_of_ble_eq_true rfl) (by decide +kernel))
theorem dL_law_1362 : decode cL_law 1362 = .ok (.invokevirtual 187, 3) := zy_u2 (b1 := 0) (b2 := 187) zK_182 (zrd_ch zl_eq zl_len 21 18 _ (Nat.le_of_ble_eq_true rfl) (by decide +kernel))
theorem dL_law_1365 : decode cL_law 1365 = .ok (.pop, 1) := zy_0 zK_87 (zrd_ch zl_eq zl_len 21 21 _ (Nat.le_of_ble_eq_true rfl) (by decide +kernel))
theorem dL_law_1366 : decode cL_law 1366 = .ok (.aload_n 2, 1) := zy_0 zK_44 (zrd_ch zl_eq zl_len 21 22 _ (Nat.le_of_ble_eq_true rfl) (by decide +kernel))
theorem dL_law_1367 : decode cL_law 1367 = .ok (.invokevirtual 190, 3) := zy_u2 (b1 := 0) (b2 := 190) zK_182 (zrd_ch zl_eq zl_len 21 23 _ (Nat.le_of_ble_eq_true rfl) (by decide +kernel))
theorem dL_law_1370 : decode cL_law 1370 = .ok (.pop, 1) := zy_0 zK_87 (zrd_ch zl_eq zl_len 21 26 _ (Nat.le_of_ble_eq_true rfl) (by decide +kernel))
theorem dL_law_1371 : decode cL_law 1371 = .ok (.goto 570, 3) := zy_s2 (b1 := 2) (b2 := 58) zK_167 (zrd_ch zl_eq zl_len 21 27 _ (Nat.le_of_ble_eq_true rfl) (by decide +kernel)) (by decide +kernel)
theorem dL_law_1374 : decode cL_law 1374 = .ok (.aload_n 1, 1) := zy_0 zK_43 (zrd_ch zl_eq zl_len 21 30 _ (Nat.le_of_ble_eq_true rfl) (by decide +kernel))
theorem dL_law_1375 : decode cL_law 1375 = .ok (.aload_n 0, 1) := zy_0 zK_42 (zrd_ch zl_eq zl_len 21 31 _ (Nat.le_of_ble_eq_true rfl) (by decide +kernel))
theorem dL_law_1376 : decode cL_law 1376 = .ok (.iload 4, 2) := zy_u1 (b1 := 4) zK_21 (zrd_ch zl_eq zl_len 21 32 _ (Nat.le_of_ble_eq_true rfl) (by decide +kernel))
theorem dL_law_1378 : decode cL_law 1378 = .ok (.iconst 1, 1) := zy_0 zK_4 (zrd_ch zl_eq zl_len 21 34 _ (Nat.le_of_ble_eq_true rfl) (by decide +kernel))
theorem dL_law_1379 : decode cL_law 1379 = .ok (.iadd, 1) := zy_0 zK_96 (zrd_ch zl_eq zl_len 21 35 _ (Nat.le_of_ble_eq_true rfl) (by decide +kernel))
theorem dL_law_1380 : decode cL_law 1380 = .ok (.iaload, 1) := zy_0 zK_46 (zrd_ch zl_eq zl_len 21 36 _ (Nat.le_of_ble_eq_true rfl) (by decide +kernel))
theorem dL_law_1381 : decode cL_law 1381 = .ok (.aload_n 0, 1) := zy_0 zK_42 (zrd_ch zl_eq zl_len 21 37 _ (Nat.le_of_ble_eq_true rfl) (by decide +kernel))
theorem dL_law_1382 : decode cL_law 1382 = .ok (.iload 4, 2) := zy_u1 (b1 := 4) zK_21 (zrd_ch zl_eq zl_len 21 38 _ (Nat.le_of_ble_eq_true rfl) (by decide +kernel))
theorem dL_law_1384 : decode cL_law 1384 = .ok (.iconst 2, 1) := zy_0 zK_5 (zrd_ch zl_eq zl_len 21 40 _ (Nat.le_of_ble_eq_true rfl) (by decide +kernel))
theorem dL_law_1385 : decode cL_law 1385 = .ok (.iadd, 1) := zy_0 zK_96 (zrd_ch zl_eq zl_len 21 41 _ (Nat.le_of_ble_eq_true rfl) (by decide +kernel))
theorem dL_law_1386 : decode cL_law 1386 = .ok (.iaload, 1) := zy_0 zK_46 (zrd_ch zl_eq zl_len 21 42 _ (Nat.le_of_ble_eq_true rfl) (by decide +kernel))
theorem dL_law_1387 : decode cL_law 1387 = .ok (.ifCond .eq 7, 3) := zy_s2 (b1 := 0) (b2 := 7) zK_153 (zrd_ch zl_eq zl_len 21 43 _ (Nat.le_of_ble_eq_true rfl) (by decide +kernel)) (by decide +kernel)
theorem dL_law_1390 : decode cL_law 1390 = .ok (.iconst 1, 1) := zy_0 zK_4 (zrd_ch zl_eq zl_len 21 46 _ (Nat.le_of_ble_eq_true rfl) (by decide +kernel))
theorem dL_law_1391 : decode cL_law 1391 = .ok (.goto 4, 3) := zy_s2 (b1 := 0) (b2 := 4) zK_167 (zrd_ch zl_eq zl_len 21 47 _ (Nat.le_of_ble_eq_true rfl) (by decide +kernel)) (by decide +kernel)
theorem dL_law_1394 : decode cL_law 1394 = .ok (.iconst 0, 1) := zy_0 zK_3 (zrd_ch zl_eq zl_len 21 50 _ (Nat.le_of_ble_eq_true rfl) (by decide +kernel))
theorem dL_law_1395 : decode cL_law 1395 = .ok (.aload_n 0, 1) := zy_0 zK_42 (zrd_ch zl_eq zl_len 21 51 _ (Nat.le_of_ble_eq_true rfl) (by decide +kernel))
theorem dL_law_1396 : decode cL_law 1396 = .ok (.iload 4, 2) := zy_u1 (b1 := 4) zK_21 (zrd_ch zl_eq zl_len 21 52 _ (Nat.le_of_ble_eq_true rfl) (by decide +kernel))
theorem dL_law_1398 : decode cL_law 1398 = .ok (.iconst 3, 1) := zy_0 zK_6 (zrd_ch zl_eq zl_len 21 54 _ (Nat.le_of_ble_eq_true rfl) (by decide +kernel))
theorem dL_law_1399 : decode cL_law 1399 = .ok (.iadd, 1) := zy_0 zK_96 (zrd_ch zl_eq zl_len 21 55 _ (Nat.le_of_ble_eq_true rfl) (by decide +kernel))
theorem dL_law_1400 : decode cL_law 1400 = .ok (.iaload, 1) := zy_0 zK_46 (zrd_ch zl_eq zl_len 21 56 _ (Nat.le_of_ble_eq_true rfl) (by decide +kernel))
theorem dL_law_1401 : decode cL_law 1401 = .ok (.ifCond .eq 7, 3) := zy_s2 (b1 := 0) (b2 := 7) zK_153 (zrd_ch zl_eq zl_len 21 57 _ (Nat.le_of_ble_eq_true rfl) (by decide +kernel)) (by decide +kernel)
theorem dL_law_1404 : decode cL_law 1404 = .ok (.iconst 1, 1) := zy_0 zK_4 (zrd_ch zl_eq zl_len 21 60 _ (Nat.le_of_ble_eq_true rfl) (by decide +kernel))
theorem dL_law_1405 : decode cL_law 1405 = .ok (.goto 4, 3) := zy_s2 (b1 := 0) (b2 := 4) zK_167 (zrd_ch zl_eq zl_len 21 61 _ (Nat.le_of_ble_eq_true rfl) (by decide +kernel)) (by decide +kernel)
theorem dL_law_1408 : decode cL_law 1408 = .ok (.iconst 0, 1) := zy_0 zK_3 (zrd_ch zl_eq zl_len 22 0 _ (Nat.le_of_ble_eq_true rfl) (by decide +kernel))
theorem dL_law_1409 : decode cL_law 1409 = .ok (.aload_n 0, 1) := zy_0 zK_42 (zrd_ch zl_eq zl_len 22 1 _ (Nat.le_of_ble_eq_true rfl) (by decide +kernel))
theorem dL_law_1410 : decode cL_law 1410 = .ok (.iload 4, 2) := zy_u1 (b1 := 4) zK_21 (zrd_ch zl_eq zl_len 22 2 _ (Nat.le_of_ble_eq_true rfl) (by decide +kernel))
theorem dL_law_1412 : decode cL_law 1412 = .ok (.iconst 4, 1) := zy_0 zK_7 (zrd_ch zl_eq zl_len 22 4 _ (Nat.le_of_ble_eq_true rfl) (by decide +kernel))
theorem dL_law_1413 : decode cL_law 1413 = .ok (.iadd, 1) := zy_0 zK_96 (zrd_ch zl_eq zl_len 22 5 _ (Nat.le_of_ble_eq_true rfl) (by decide +kernel))
theorem dL_law_1414 : decode cL_law 1414 = .ok (.iaload, 1) := zy_0 zK_46 (zrd_ch zl_eq zl_len 22 6 _ (Nat.le_of_ble_eq_true rfl) (by decide +kernel))
theorem dL_law_1415 : decode cL_law 1415 = .ok (.ifCond .eq 7, 3) := zy_s2 (b1 := 0) (b2 := 7) zK_153 (zrd_ch zl_eq zl_len 22 7 _ (Nat.le_of_ble_eq_true rfl) (by decide +kernel)) (by decide +kernel)
theorem dL_law_1418 : decode cL_law 1418 = .ok (.iconst 1, 1) := zy_0 zK_4 (zrd_ch zl_eq zl_len 22 10 _ (Nat.le_of_ble_eq_true rfl) (by decide +kernel))
theorem dL_law_1419 : decode cL_law 1419 = .ok (.goto 4, 3) := zy_s2 (b1 := 0) (b2 := 4) zK_167 (zrd_ch zl_eq zl_len 22 11 _ (Nat.le_of_ble_eq_true rfl) (by decide +kernel)) (by decide +kernel)
theorem dL_law_1422 : decode cL_law 1422 = .ok (.iconst 0, 1) := zy_0 zK_3 (zrd_ch zl_eq zl_len 22 14 _ (Nat.le_of_ble_eq_true rfl) (by decide +kernel))
theorem dL_law_1423 : decode cL_law 1423 = .ok (.invokevirtual 191, 3) := zy_u2 (b1 := 0) (b2 := 191) zK_182 (zrd_ch zl_eq zl_len 22 15 _ (Nat.le_of_ble_eq_true rfl) (by decide +kernel))
theorem dL_law_1426 : decode cL_law 1426 = .ok (.pop, 1) := zy_0 zK_87 (zrd_ch zl_eq zl_len 22 18 _ (Nat.le_of_ble_eq_true rfl) (by decide +kernel))
theorem dL_law_1427 : decode cL_law 1427 = .ok (.aload_n 2, 1) := zy_0 zK_44 (zrd_ch zl_eq zl_len 22 19 _ (Nat.le_of_ble_eq_true rfl) (by decide +kernel))
theorem dL_law_1428 : decode cL_law 1428 = .ok (.aload_n 0, 1) := zy_0 zK_42 (zrd_ch zl_eq zl_len 22 20 _ (Nat.le_of_ble_eq_true rfl) (by decide +kernel))
theorem dL_law_1429 : decode cL_law 1429 = .ok (.iload 4, 2) := zy_u1 (b1 := 4) zK_21 (zrd_ch zl_eq zl_len 22 21 _ (Nat.le_of_ble_eq_true rfl) (by decide +kernel))
theorem dL_law_1431 : decode cL_law 1431 = .ok (.iconst 1, 1) := zy_0 zK_4 (zrd_ch zl_eq zl_len 22 23 _ (Nat.le_of_ble_eq_true rfl) (by decide +kernel))
theorem dL_law_1432 : decode cL_law 1432 = .ok (.iadd, 1) := zy_0 zK_96 (zrd_ch zl_eq zl_len 22 24 _ (Nat.le_of_ble_eq_true rfl) (by decide +kernel))
theorem dL_law_1433 : decode cL_law 1433 = .ok (.iaload, 1) := zy_0 zK_46 (zrd_ch zl_eq zl_len 22 25 _ (Nat.le_of_ble_eq_true rfl) (by decide +kernel))
theorem dL_law_1434 : decode cL_law 1434 = .ok (.aload_n 0, 1) := zy_0 zK_42 (zrd_ch zl_eq zl_len 22 26 _ (Nat.le_of_ble_eq_true rfl) (by decide +kernel))
theorem dL_law_1435 : decode cL_law 1435 = .ok (.iload 4, 2) := zy_u1 (b1 := 4) zK_21 (zrd_ch zl_eq zl_len 22 27 _ (Nat.le_of_ble_eq_true rfl) (by decide +kernel))
theorem dL_law_1437 : decode cL_law 1437 = .ok (.iconst 2, 1) := zy_0 zK_5 (zrd_ch zl_eq zl_len 22 29 _ (Nat.le_of_ble_eq_true rfl) (by decide +kernel))
theorem dL_law_1438 : decode cL_law 1438 = .ok (.iadd, 1) := zy_0 zK_96 (zrd_ch zl_eq zl_len 22 30 _ (Nat.le_of_ble_eq_true rfl) (by decide +kernel))
theorem dL_law_1439 : decode cL_law 1439 = .ok (.iaload, 1) := zy_0 zK_46 (zrd_ch zl_eq zl_len 22 31 _ (Nat.le_of_ble_eq_true rfl) (by decide +kernel))
theorem dL_law_1440 : decode cL_law 1440 = .ok (.ifCond .eq 7, 3) := zy_s2 (b1 := 0) (b2 := 7) zK_153 (zrd_ch zl_eq zl_len 22 32 _ (Nat.le_of_ble_eq_true rfl) (by decide +kernel)) (by decide +kernel)
theorem dL_law_1443 : decode cL_law 1443 = .ok (.iconst 1, 1) := zy_0 zK_4 (zrd_ch zl_eq zl_len 22 35 _ (Nat.le_of_ble_eq_true rfl) (by decide +kernel))
theorem dL_law_1444 : decode cL_law 1444 = .ok (.goto 4, 3) := zy_s2 (b1 := 0) (b2 := 4) zK_167 (zrd_ch zl_eq zl_len 22 36 _ (Nat.le_of_ble_eq_true rfl) (by decide +kernel)) (by decide +kernel)
theorem dL_law_1447 : decode cL_law 1447 = .ok (.iconst 0, 1) := zy_0 zK_3 (zrd_ch zl_eq zl_len 22 39 _ (Nat.le_of_ble_eq_true rfl) (by decide +kernel))
theorem dL_law_1448 : decode cL_law 1448 = .ok (.aload_n 0, 1) := zy_0 zK_42 (zrd_ch zl_eq zl_len 22 40 _ (Nat.le_of_ble_eq_true rfl) (by decide +kernel))
theorem dL_law_1449 : decode cL_law 1449 = .ok (.iload 4, 2) := zy_u1 (b1 := 4) zK_21 (zrd_ch zl_eq zl_len 22 41 _ (Nat.le_of_ble_eq_true rfl) (by decide +kernel))
theorem dL_law_1451 : decode cL_law 1451 = .ok (.iconst 3, 1) := zy_0 zK_6 (zrd_ch zl_eq zl_len 22 43 _ (Nat.le_of_ble_eq_true rfl) (by decide +kernel))
theorem dL_law_1452 : decode cL_law 1452 = .ok (.iadd, 1) := zy_0 zK_96 (zrd_ch zl_eq zl_len 22 44 _ (Nat.le_of_ble_eq_true rfl) (by decide +kernel))
theorem dL_law_1453 : decode cL_law 1453 = .ok (.iaload, 1) := zy_0 zK_46 (zrd_ch zl_eq zl_len 22 45 _ (Nat.le_of_ble_eq_true rfl) (by decide +kernel))
theorem dL_law_1454 : decode cL_law 1454 = .ok (.ifCond .eq 7, 3) := zy_s2 (b1 := 0) (b2 := 7) zK_153 (zrd_ch zl_eq zl_len 22 46 _ (Nat.le_of_ble_eq_true rfl) (by decide +kernel)) (by decide +kernel)
theorem dL_law_1457 : decode cL_law 1457 = .ok (.iconst 1, 1) := zy_0 zK_4 (zrd_ch zl_eq zl_len 22 49 _ (Nat.le_of_ble_eq_true rfl) (by decide +kernel))
theorem dL_law_1458 : decode cL_law 1458 = .ok (.goto 4, 3) := zy_s2 (b1 := 0) (b2 := 4) zK_167 (zrd_ch zl_eq zl_len 22 50 _ (Nat.le_of_ble_eq_true rfl) (by decide +kernel)) (by decide +kernel)
theorem dL_law_1461 : decode cL_law 1461 = .ok (.iconst 0, 1) := zy_0 zK_3 (zrd_ch zl_eq zl_len 22 53 _ (Nat.le_of_ble_eq_true rfl) (by decide +kernel))
theorem dL_law_1462 : decode cL_law 1462 = .ok (.aload_n 0, 1) := zy_0 zK_42 (zrd_ch zl_eq zl_len 22 54 _ (Nat.le_of_ble_eq_true rfl) (by decide +kernel))
theorem dL_law_1463 : decode cL_law 1463 = .ok (.iload 4, 2) := zy_u1 (b1 := 4) zK_21 (zrd_ch zl_eq zl_len 22 55 _ (Nat.le_of_ble_eq_true rfl) (by decide +kernel))
theorem dL_law_1465 : decode cL_law 1465 = .ok (.iconst 4, 1) := zy_0 zK_7 (zrd_ch zl_eq zl_len 22 57 _ (Nat.le_of_ble_eq_true rfl) (by decide +kernel))
theorem dL_law_1466 : decode cL_law 1466 = .ok (.iadd, 1) := zy_0 zK_96 (zrd_ch zl_eq zl_len 22 58 _ (Nat.le_of_ble_eq_true rfl) (by decide +kernel))
theorem dL_law_1467 : decode cL_law 1467 = .ok (.iaload, 1) := zy_0 zK_46 (zrd_ch zl_eq zl_len 22 59 _ (Nat.le_of_ble_eq_true rfl) (by decide +kernel))
theorem dL_law_1468 : decode cL_law 1468 = .ok (.ifCond .eq 7, 3) := zy_s2 (b1 := 0) (b2 := 7) zK_153 (zrd_ch zl_eq zl_len 22 60 _ (Nat.le_of_ble_eq_true rfl) (by decide +kernel)) (by decide +kernel)
theorem dL_law_1471 : decode cL_law 1471 = .ok (.iconst 1, 1) := zy_0 zK_4 (zrd_ch zl_eq zl_len 22 63 _ (Nat.le_of_ble_eq_true rfl) (by decide +kernel))
theorem dL_law_1472 : decode cL_law 1472 = .ok (.goto 4, 3) := zy_s2 (b1 := 0) (b2 := 4) zK_167 (zrd_ch zl_eq zl_len 23 0 _ (Nat.le_of_ble_eq_true rfl) (by decide +kernel)) (by decide +kernel)
theorem dL_law_1475 : decode cL_law 1475 = .ok (.iconst 0, 1) := zy_0 zK_3 (zrd_ch zl_eq zl_len 23 3 _ (Nat.le_of_ble_eq_true rfl) (by decide +kernel))
theorem dL_law_1476 : decode cL_law 1476 = .ok (.invokevirtual 195, 3) := zy_u2 (b1 := 0) (b2 := 195) zK_182 (zrd_ch zl_eq zl_len 23 4 _ (Nat.le_of_ble_eq_true rfl) (by decide +kernel))
theorem dL_law_1479 : decode cL_law 1479 = .ok (.pop, 1) := zy_0 zK_87 (zrd_ch zl_eq zl_len 23 7 _ (Nat.le_of_ble_eq_true rfl) (by decide +kernel))
theorem dL_law_1480 : decode cL_law 1480 = .ok (.goto 461, 3) := zy_s2 (b1 := 1) (b2 := 205) zK_167 (zrd_ch zl_eq zl_len 23 8 _ (Nat.le_of_ble_eq_true rfl) (by decide +kernel)) (by decide +kernel)
theorem dL_law_1483 : decode cL_law 1483 = .ok (.aload_n 1, 1) := zy_0 zK_43 (zrd_ch zl_eq zl_len 23 11 _ (Nat.le_of_ble_eq_true rfl) (by decide +kernel))
theorem dL_law_1484 : decode cL_law 1484 = .ok (.aload_n 0, 1) := zy_0 zK_42 (zrd_ch zl_eq zl_len 23 12 _ (Nat.le_of_ble_eq_true rfl) (by decide +kernel))
theorem dL_law_1485 : decode cL_law 1485 = .ok (.iload 4, 2) := zy_u1 (b1 := 4) zK_21 (zrd_ch zl_eq zl_len 23 13 _ (Nat.le_of_ble_eq_true rfl) (by decide +kernel))
theorem dL_law_1487 : decode cL_law 1487 = .ok (.iconst 1, 1) := zy_0 zK_4 (zrd_ch zl_eq zl_len 23 15 _ (Nat.le_of_ble_eq_true rfl) (by decide +kernel))
theorem dL_law_1488 : decode cL_law 1488 = .ok (.iadd, 1) := zy_0 zK_96 (zrd_ch zl_eq zl_len 23 16 _ (Nat.le_of_ble_eq_true rfl) (by decide +kernel))
theorem dL_law_1489 : decode cL_law 1489 = .ok (.iaload, 1) := zy_0 zK_46 (zrd_ch zl_eq zl_len 23 17 _ (Nat.le_of_ble_eq_true rfl) (by decide +kernel))
theorem dL_law_1490 : decode cL_law 1490 = .ok (.invokevirtual 196, 3) := zy_u2 (b1 := 0) (b2 := 196) zK_182 (zrd_ch zl_eq zl_len 23 18 _ (Nat.le_of_ble_eq_true rfl) (by decide +kernel))
theorem dL_law_1493 : decode cL_law 1493 = .ok (.pop, 1) := zy_0 zK_87 (zrd_ch zl_eq zl_len 23 21 _ (Nat.le_of_ble_eq_true rfl) (by decide +kernel))
theorem dL_law_1494 : decode cL_law 1494 = .ok (.aload_n 2, 1) := zy_0 zK_44 (zrd_ch zl_eq zl_len 23 22 _ (Nat.le_of_ble_eq_true rfl) (by decide +kernel))
theorem dL_law_1495 : decode cL_law 1495 = .ok (.aload_n 0, 1) := zy_0 zK_42 (zrd_ch zl_eq zl_len 23 23 _ (Nat.le_of_ble_eq_true rfl) (by decide +kernel))
theorem dL_law_1496 : decode cL_law 1496 = .ok (.iload 4, 2) := zy_u1 (b1 := 4) zK_21 (zrd_ch zl_eq zl_len 23 24 _ (Nat.le_of_ble_eq_true rfl) (by decide +kernel))
theorem dL_law_1498 : decode cL_law 1498 = .ok (.iconst 1, 1) := zy_0 zK_4 (zrd_ch zl_eq zl_len 23 26 _ (Nat.le_of_ble_eq_true rfl) (by decide +kernel))
theorem dL_law_1499 : decode cL_law 1499 = .ok (.iadd, 1) := zy_0 zK_96 (zrd_ch zl_eq zl_len 23 27 _ (Nat.le_of_ble_eq_true rfl) (by decide +kernel))
theorem dL_law_1500 : decode cL_law 1500 = .ok (.iaload, 1) := zy_0 zK_46 (zrd_ch zl_eq zl_len 23 28 _ (Nat.le_of_ble_eq_true rfl) (by decide +kernel))
theorem dL_law_1501 : decode cL_law 1501 = .ok (.invokevirtual 199, 3) := zy_u2 (b1 := 0) (b2 := 199) zK_182 (zrd_ch zl_eq zl_len 23 29 _ (Nat.le_of_ble_eq_true rfl) (by decide +kernel))
theorem dL_law_1504 : decode cL_law 1504 = .ok (.pop, 1) := zy_0 zK_87 (zrd_ch zl_eq zl_len 23 32 _ (Nat.le_of_ble_eq_true rfl) (by decide +kernel))
theorem dL_law_1505 : decode cL_law 1505 = .ok (.goto 436, 3) := zy_s2 (b1 := 1) (b2 := 180) zK_167 (zrd_ch zl_eq zl_len 23 33 _ (Nat.le_of_ble_eq_true rfl) (by decide +kernel)) (by decide +kernel)
theorem dL_law_1508 : decode cL_law 1508 = .ok (.aload_n 1, 1) := zy_0 zK_43 (zrd_ch zl_eq zl_len 23 36 _ (Nat.le_of_ble_eq_true rfl) (by decide +kernel))
theorem dL_law_1509 : decode cL_law 1509 = .ok (.aload_n 0, 1) := zy_0 zK_42 (zrd_ch zl_eq zl_len 23 37 _ (Nat.le_of_ble_eq_true rfl) (by decide +kernel))
theorem dL_law_1510 : decode cL_law 1510 = .ok (.iload 4, 2) := zy_u1 (b1 := 4) zK_21 (zrd_ch zl_eq zl_len 23 38 _ (Nat.le_of_ble_eq_true rfl) (by decide +kernel))
theorem dL_law_1512 : decode cL_law 1512 = .ok (.iconst 1, 1) := zy_0 zK_4 (zrd_ch zl_eq zl_len 23 40 _ (Nat.le_of_ble_eq_true rfl) (by decide +kernel))
theorem dL_law_1513 : decode cL_law 1513 = .ok (.iadd, 1) := zy_0 zK_96 (zrd_ch zl_eq zl_len 23 41 _ (Nat.le_of_ble_eq_true rfl) (by decide +kernel))
theorem dL_law_1514 : decode cL_law 1514 = .ok (.iaload, 1) := zy_0 zK_46 (zrd_ch zl_eq zl_len 23 42 _ (Nat.le_of_ble_eq_true rfl) (by decide +kernel))
theorem dL_law_1515 : decode cL_law 1515 = .ok (.invokevirtual 200, 3) := zy_u2 (b1 := 0) (b2 := 200) zK_182 (zrd_ch zl_eq zl_len 23 43 _ (Nat.le_of_ble_eq_true rfl) (by decide +kernel))
theorem dL_law_1518 : decode cL_law 1518 = .ok (.pop, 1) := zy_0 zK_87 (zrd_ch zl_eq zl_len 23 46 _ (Nat.le_of_ble_eq_true rfl) (by decide +kernel))
theorem dL_law_1519 : decode cL_law 1519 = .ok (.aload_n 2, 1) := zy_0 zK_44 (zrd_ch zl_eq zl_len 23 47 _ (Nat.le_of_ble_eq_true rfl) (by decide +kernel))
theorem dL_law_1520 : decode cL_law 1520 = .ok (.aload_n 0, 1) := zy_0 zK_42 (zrd_ch zl_eq zl_len 23 48 _ (Nat.le_of_ble_eq_true rfl) (by decide +kernel))
theorem dL_law_1521 : decode cL_law 1521 = .ok (.iload 4, 2) := zy_u1 (b1 := 4) zK_21 (zrd_ch zl_eq zl_len 23 49 _ (Nat.le_of_ble_eq_true rfl) (by decide +kernel))
theorem dL_law_1523 : decode cL_law 1523 = .ok (.iconst 1, 1) := zy_0 zK_4 (zrd_ch zl_eq zl_len 23 51 _ (Nat.le_of_ble_eq_true rfl) (by decide +kernel))
theorem dL_law_1524 : decode cL_law 1524 = .ok (.iadd, 1) := zy_0 zK_96 (zrd_ch zl_eq zl_len 23 52 _ (Nat.le_of_ble_eq_true rfl) (by decide +kernel))
theorem dL_law_1525 : decode cL_law 1525 = .ok (.iaload, 1) := zy_0 zK_46 (zrd_ch zl_eq zl_len 23 53 _ (Nat.le_of_ble_eq_true rfl) (by decide +kernel))
theorem dL_law_1526 : decode cL_law 1526 = .ok (.invokevirtual 203, 3) := zy_u2 (b1 := 0) (b2 := 203) zK_182 (zrd_ch zl_eq zl_len 23 54 _ (Nat.le_of_ble_eq_true rfl) (by decide +kernel))
theorem dL_law_1529 : decode cL_law 1529 = .ok (.pop, 1) := zy_0 zK_87 (zrd_ch zl_eq zl_len 23 57 _ (Nat.le_of_ble_eq_true rfl) (by decide +kernel))
theorem dL_law_1530 : decode cL_law 1530 = .ok (.goto 411, 3) := zy_s2 (b1 := 1) (b2 := 155) zK_167 (zrd_ch zl_eq zl_len 23 58 _ (Nat.le_of_ble_eq_true rfl) (by decide +kernel)) (by decide +kernel)
theorem dL_law_1533 : decode cL_law 1533 = .ok (.aload_n 1, 1) := zy_0 zK_43 (zrd_ch zl_eq zl_len 23 61 _ (Nat.le_of_ble_eq_true rfl) (by decide +kernel))
theorem dL_law_1534 : decode cL_law 1534 = .ok (.aload_n 0, 1) := zy_0 zK_42 (zrd_ch zl_eq zl_len 23 62 _ (Nat.le_of_ble_eq_true rfl) (by decide +kernel))
theorem dL_law_1535 : decode cL_law 1535 = .ok (.iload 4, 2) := zy_u1 (b1 := 4) zK_21 (zrd_ch zl_eq zl_len 23 63 _ (Nat.le_of_ble_eq_true rfl) (by decide +kernel))
theorem dL_law_1537 : decode cL_law 1537 = .ok (.iconst 1, 1) := zy_0 zK_4 (zrd_ch zl_eq zl_len 24 1 _ (Nat.le_of_ble_eq_true rfl) (by decide +kernel))
theorem dL_law_1538 : decode cL_law 1538 = .ok (.iadd, 1) := zy_0 zK_96 (zrd_ch zl_eq zl_len 24 2 _ (Nat.le_of_ble_eq_true rfl) (by decide +kernel))
theorem dL_law_1539 : decode cL_law 1539 = .ok (.iaload, 1) := zy_0 zK_46 (zrd_ch zl_eq zl_len 24 3 _ (Nat.le_of_ble_eq_true rfl) (by decide +kernel))
theorem dL_law_1540 : decode cL_law 1540 = .ok (.aload_n 0, 1) := zy_0 zK_42 (zrd_ch zl_eq zl_len 24 4 _ (Nat.le_of_ble_eq_true rfl) (by decide +kernel))
theorem dL_law_1541 : decode cL_law 1541 = .ok (.iload 4, 2) := zy_u1 (b1 := 4) zK_21 (zrd_ch zl_eq zl_len 24 5 _ (Nat.le_of_ble_eq_true rfl) (by decide +kernel))
theorem dL_law_1543 : decode cL_law 1543 = .ok (.iconst 2, 1) := zy_0 zK_5 (zrd_ch zl_eq zl_len 24 7 _ (Nat.le_of_ble_eq_true rfl) (by decide +kernel))
theorem dL_law_1544 : decode cL_law 1544 = .ok (.iadd, 1) := zy_0 zK_96 (zrd_ch zl_eq zl_len 24 8 _ (Nat.le_of_ble_eq_true rfl) (by decide +kernel))
theorem dL_law_1545 : decode cL_law 1545 = .ok (.iaload, 1) := zy_0 zK_46 (zrd_ch zl_eq zl_len 24 9 _ (Nat.le_of_ble_eq_true rfl) (by decide +kernel))
theorem dL_law_1546 : decode cL_law 1546 = .ok (.aload_n 0, 1) := zy_0 zK_42 (zrd_ch zl_eq zl_len 24 10 _ (Nat.le_of_ble_eq_true rfl) (by decide +kernel))
theorem dL_law_1547 : decode cL_law 1547 = .ok (.iload 4, 2) := zy_u1 (b1 := 4) zK_21 (zrd_ch zl_eq zl_len 24 11 _ (Nat.le_of_ble_eq_true rfl) (by decide +kernel))
end P423_decode_2
section P423_decode_3
theorem dL_law_1549 : decode cL_law 1549 = .ok (.iconst 3, 1) := zy_0 zK_6 (zrd_ch zl_eq zl_len 24 13 _ (Nat.le_of_ble_eq_true rfl) (by decide +kernel))
theorem dL_law_1550 : decode cL_law 1550 = .ok (.iadd, 1) := zy_0 zK_96 (zrd_ch zl_eq zl_len 24 14 _ (Nat.le_of_ble_eq_true rfl) (by decide +kernel))
theorem dL_law_1551 : decode cL_law 1551 = .ok (.iaload, 1) := zy_0 zK_46 (zrd_ch zl_eq zl_len 24 15 _ (Nat.le_of_ble_eq_true rfl) (by decide +kernel))
theorem dL_law_1552 : decode cL_law 1552 = .ok (.ifCond .eq 7, 3) := zy_s2 (b1 := 0) (b2 := 7) zK_153 (zrd_ch zl_eq zl_len 24 16 _ (Nat.le_of_ble_eq_true rfl) (by decide +kernel)) (by decide +kernel)
theorem dL_law_1555 : decode cL_law 1555 = .ok (.iconst 1, 1) := zy_0 zK_4 (zrd_ch zl_eq zl_len 24 19 _ (Nat.le_of_ble_eq_true rfl) (by decide +kernel))
theorem dL_law_1556 : decode cL_law 1556 = .ok (.goto 4, 3) := zy_s2 (b1 := 0) (b2 := 4) zK_167 (zrd_ch zl_eq zl_len 24 20 _ (Nat.le_of_ble_eq_true rfl) (by decide +kernel)) (by decide +kernel)
theorem dL_law_1559 : decode cL_law 1559 = .ok (.iconst 0, 1) := zy_0 zK_3 (zrd_ch zl_eq zl_len 24 23 _ (Nat.le_of_ble_eq_true rfl) (by decide +kernel))
theorem dL_law_1560 : decode cL_law 1560 = .ok (.invokevirtual 204, 3) := zy_u2 (b1 := 0) (b2 := 204) zK_182 (zrd_ch zl_eq zl_len 24 24 _ (Nat.le_of_ble_eq_true rfl) (by decide +kernel))
theorem dL_law_1563 : decode cL_law 1563 = .ok (.pop2, 1) := by decide +kernel
theorem dL_law_1564 : decode cL_law 1564 = .ok (.aload_n 2, 1) := zy_0 zK_44 (zrd_ch zl_eq zl_len 24 28 _ (Nat.le_of_ble_eq_true rfl) (by decide +kernel))
theorem dL_law_1565 : decode cL_law 1565 = .ok (.aload_n 0, 1) := zy_0 zK_42 (zrd_ch zl_eq zl_len 24 29 _ (Nat.le_of_ble_eq_true rfl) (by decide +kernel))
theorem dL_law_1566 : decode cL_law 1566 = .ok (.iload 4, 2) := zy_u1 (b1 := 4) zK_21 (zrd_ch zl_eq zl_len 24 30 _ (Nat.le_of_ble_eq_true rfl) (by decide +kernel))
theorem dL_law_1568 : decode cL_law 1568 = .ok (.iconst 1, 1) := zy_0 zK_4 (zrd_ch zl_eq zl_len 24 32 _ (Nat.le_of_ble_eq_true rfl) (by decide +kernel))
theorem dL_law_1569 : decode cL_law 1569 = .ok (.iadd, 1) := zy_0 zK_96 (zrd_ch zl_eq zl_len 24 33 _ (Nat.le_of_ble_eq_true rfl) (by decide +kernel))
theorem dL_law_1570 : decode cL_law 1570 = .ok (.iaload, 1) := zy_0 zK_46 (zrd_ch zl_eq zl_len 24 34 _ (Nat.le_of_ble_eq_true rfl) (by decide +kernel))
theorem dL_law_1571 : decode cL_law 1571 = .ok (.aload_n 0, 1) := zy_0 zK_42 (zrd_ch zl_eq zl_len 24 35 _ (Nat.le_of_ble_eq_true rfl) (by decide +kernel))
theorem dL_law_1572 : decode cL_law 1572 = .ok (.iload 4, 2) := zy_u1 (b1 := 4) zK_21 (zrd_ch zl_eq zl_len 24 36 _ (Nat.le_of_ble_eq_true rfl) (by decide +kernel))
theorem dL_law_1574 : decode cL_law 1574 = .ok (.iconst 2, 1) := zy_0 zK_5 (zrd_ch zl_eq zl_len 24 38 _ (Nat.le_of_ble_eq_true rfl) (by decide +kernel))
theorem dL_law_1575 : decode cL_law 1575 = .ok (.iadd, 1) := zy_0 zK_96 (zrd_ch zl_eq zl_len 24 39 _ (Nat.le_of_ble_eq_true rfl) (by decide +kernel))
theorem dL_law_1576 : decode cL_law 1576 = .ok (.iaload, 1) := zy_0 zK_46 (zrd_ch zl_eq zl_len 24 40 _ (Nat.le_of_ble_eq_true rfl) (by decide +kernel))
theorem dL_law_1577 : decode cL_law 1577 = .ok (.aload_n 0, 1) := zy_0 zK_42 (zrd_ch zl_eq zl_len 24 41 _ (Nat.le_of_ble_eq_true rfl) (by decide +kernel))
theorem dL_law_1578 : decode cL_law 1578 = .ok (.iload 4, 2) := zy_u1 (b1 := 4) zK_21 (zrd_ch zl_eq zl_len 24 42 _ (Nat.le_of_ble_eq_true rfl) (by decide +kernel))
theorem dL_law_1580 : decode cL_law 1580 = .ok (.iconst 3, 1) := zy_0 zK_6 (zrd_ch zl_eq zl_len 24 44 _ (Nat.le_of_ble_eq_true rfl) (by decide +kernel))
theorem dL_law_1581 : decode cL_law 1581 = .ok (.iadd, 1) := zy_0 zK_96 (zrd_ch zl_eq zl_len 24 45 _ (Nat.le_of_ble_eq_true rfl) (by decide +kernel))
theorem dL_law_1582 : decode cL_law 1582 = .ok (.iaload, 1) := zy_0 zK_46 (zrd_ch zl_eq zl_len 24 46 _ (Nat.le_of_ble_eq_true rfl) (by decide +kernel))
theorem dL_law_1583 : decode cL_law 1583 = .ok (.ifCond .eq 7, 3) := zy_s2 (b1 := 0) (b2 := 7) zK_153 (zrd_ch zl_eq zl_len 24 47 _ (Nat.le_of_ble_eq_true rfl) (by decide +kernel)) (by decide +kernel)
theorem dL_law_1586 : decode cL_law 1586 = .ok (.iconst 1, 1) := zy_0 zK_4 (zrd_ch zl_eq zl_len 24 50 _ (Nat.le_of_ble_eq_true rfl) (by decide +kernel))
theorem dL_law_1587 : decode cL_law 1587 = .ok (.goto 4, 3) := zy_s2 (b1 := 0) (b2 := 4) zK_167 (zrd_ch zl_eq zl_len 24 51 _ (Nat.le_of_ble_eq_true rfl) (by decide +kernel)) (by decide +kernel)
theorem dL_law_1590 : decode cL_law 1590 = .ok (.iconst 0, 1) := zy_0 zK_3 (zrd_ch zl_eq zl_len 24 54 _ (Nat.le_of_ble_eq_true rfl) (by decide +kernel))
theorem dL_law_1591 : decode cL_law 1591 = .ok (.invokevirtual 208, 3) := zy_u2 (b1 := 0) (b2 := 208) zK_182 (zrd_ch zl_eq zl_len 24 55 _ (Nat.le_of_ble_eq_true rfl) (by decide +kernel))
theorem dL_law_1594 : decode cL_law 1594 = .ok (.pop2, 1) := by decide +kernel
theorem dL_law_1595 : decode cL_law 1595 = .ok (.goto 346, 3) := zy_s2 (b1 := 1) (b2 := 90) zK_167 (zrd_ch zl_eq zl_len 24 59 _ (Nat.le_of_ble_eq_true rfl) (by decide +kernel)) (by decide +kernel)
theorem dL_law_1598 : decode cL_law 1598 = .ok (.aload_n 1, 1) := zy_0 zK_43 (zrd_ch zl_eq zl_len 24 62 _ (Nat.le_of_ble_eq_true rfl) (by decide +kernel))
theorem dL_law_1599 : decode cL_law 1599 = .ok (.aload_n 0, 1) := zy_0 zK_42 (zrd_ch zl_eq zl_len 24 63 _ (Nat.le_of_ble_eq_true rfl) (by decide +kernel))
theorem dL_law_1600 : decode cL_law 1600 = .ok (.iload 4, 2) := zy_u1 (b1 := 4) zK_21 (zrd_ch zl_eq zl_len 25 0 _ (Nat.le_of_ble_eq_true rfl) (by decide +kernel))
theorem dL_law_1602 : decode cL_law 1602 = .ok (.iconst 1, 1) := zy_0 zK_4 (zrd_ch zl_eq zl_len 25 2 _ (Nat.le_of_ble_eq_true rfl) (by decide +kernel))
theorem dL_law_1603 : decode cL_law 1603 = .ok (.iadd, 1) := zy_0 zK_96 (zrd_ch zl_eq zl_len 25 3 _ (Nat.le_of_ble_eq_true rfl) (by decide +kernel))
theorem dL_law_1604 : decode cL_law 1604 = .ok (.iaload, 1) := zy_0 zK_46 (zrd_ch zl_eq zl_len 25 4 _ (Nat.le_of_ble_eq_true rfl) (by decide +kernel))
theorem dL_law_1605 : decode cL_law 1605 = .ok (.aload_n 0, 1) := zy_0 zK_42 (zrd_ch zl_eq zl_len 25 5 _ (Nat.le_of_ble_eq_true rfl) (by decide +kernel))
theorem dL_law_1606 : decode cL_law 1606 = .ok (.iload 4, 2) := zy_u1 (b1 := 4) zK_21 (zrd_ch zl_eq zl_len 25 6 _ (Nat.le_of_ble_eq_true rfl) (by decide +kernel))
theorem dL_law_1608 : decode cL_law 1608 = .ok (.iconst 2, 1) := zy_0 zK_5 (zrd_ch zl_eq zl_len 25 8 _ (Nat.le_of_ble_eq_true rfl) (by decide +kernel))
theorem dL_law_1609 : decode cL_law 1609 = .ok (.iadd, 1) := zy_0 zK_96 (zrd_ch zl_eq zl_len 25 9 _ (Nat.le_of_ble_eq_true rfl) (by decide +kernel))
theorem dL_law_1610 : decode cL_law 1610 = .ok (.iaload, 1) := zy_0 zK_46 (zrd_ch zl_eq zl_len 25 10 _ (Nat.le_of_ble_eq_true rfl) (by decide +kernel))
theorem dL_law_1611 : decode cL_law 1611 = .ok (.aload_n 0, 1) := zy_0 zK_42 (zrd_ch zl_eq zl_len 25 11 _ (Nat.le_of_ble_eq_true rfl) (by decide +kernel))
theorem dL_law_1612 : decode cL_law 1612 = .ok (.iload 4, 2) := zy_u1 (b1 := 4) zK_21 (zrd_ch zl_eq zl_len 25 12 _ (Nat.le_of_ble_eq_true rfl) (by decide +kernel))
theorem dL_law_1614 : decode cL_law 1614 = .ok (.iconst 3, 1) := zy_0 zK_6 (zrd_ch zl_eq zl_len 25 14 _ (Nat.le_of_ble_eq_true rfl) (by decide +kernel))
theorem dL_law_1615 : decode cL_law 1615 = .ok (.iadd, 1) := zy_0 zK_96 (zrd_ch zl_eq zl_len 25 15 _ (Nat.le_of_ble_eq_true rfl) (by decide +kernel))
theorem dL_law_1616 : decode cL_law 1616 = .ok (.iaload, 1) := zy_0 zK_46 (zrd_ch zl_eq zl_len 25 16 _ (Nat.le_of_ble_eq_true rfl) (by decide +kernel))
theorem dL_law_1617 : decode cL_law 1617 = .ok (.ifCond .eq 7, 3) := zy_s2 (b1 := 0) (b2 := 7) zK_153 (zrd_ch zl_eq zl_len 25 17 _ (Nat.le_of_ble_eq_true rfl) (by decide +kernel)) (by decide +kernel)
theorem dL_law_1620 : decode cL_law 1620 = .ok (.iconst 1, 1) := zy_0 zK_4 (zrd_ch zl_eq zl_len 25 20 _ (Nat.le_of_ble_eq_true rfl) (by decide +kernel))
theorem dL_law_1621 : decode cL_law 1621 = .ok (.goto 4, 3) := zy_s2 (b1 := 0) (b2 := 4) zK_167 (zrd_ch zl_eq zl_len 25 21 _ (Nat.le_of_ble_eq_true rfl) (by decide +kernel)) (by decide +kernel)
theorem dL_law_1624 : decode cL_law 1624 = .ok (.iconst 0, 1) := zy_0 zK_3 (zrd_ch zl_eq zl_len 25 24 _ (Nat.le_of_ble_eq_true rfl) (by decide +kernel))
theorem dL_law_1625 : decode cL_law 1625 = .ok (.invokevirtual 209, 3) := zy_u2 (b1 := 0) (b2 := 209) zK_182 (zrd_ch zl_eq zl_len 25 25 _ (Nat.le_of_ble_eq_true rfl) (by decide +kernel))
theorem dL_law_1628 : decode cL_law 1628 = .ok (.pop2, 1) := by decide +kernel
theorem dL_law_1629 : decode cL_law 1629 = .ok (.aload_n 2, 1) := zy_0 zK_44 (zrd_ch zl_eq zl_len 25 29 _ (Nat.le_of_ble_eq_true rfl) (by decide +kernel))
theorem dL_law_1630 : decode cL_law 1630 = .ok (.aload_n 0, 1) := zy_0 zK_42 (zrd_ch zl_eq zl_len 25 30 _ (Nat.le_of_ble_eq_true rfl) (by decide +kernel))
theorem dL_law_1631 : decode cL_law 1631 = .ok (.iload 4, 2) := zy_u1 (b1 := 4) zK_21 (zrd_ch zl_eq zl_len 25 31 _ (Nat.le_of_ble_eq_true rfl) (by decide +kernel))
theorem dL_law_1633 : decode cL_law 1633 = .ok (.iconst 1, 1) := zy_0 zK_4 (zrd_ch zl_eq zl_len 25 33 _ (Nat.le_of_ble_eq_true rfl) (by decide +kernel))
theorem dL_law_1634 : decode cL_law 1634 = .ok (.iadd, 1) := zy_0 zK_96 (zrd_ch zl_eq zl_len 25 34 _ (Nat.le_of_ble_eq_true rfl) (by decide +kernel))
theorem dL_law_1635 : decode cL_law 1635 = .ok (.iaload, 1) := zy_0 zK_46 (zrd_ch zl_eq zl_len 25 35 _ (Nat.le_of_ble_eq_true rfl) (by decide +kernel))
theorem dL_law_1636 : decode cL_law 1636 = .ok (.aload_n 0, 1) := zy_0 zK_42 (zrd_ch zl_eq zl_len 25 36 _ (Nat.le_of_ble_eq_true rfl) (by decide +kernel))
theorem dL_law_1637 : decode cL_law 1637 = .ok (.iload 4, 2) := zy_u1 (b1 := 4) zK_21 (zrd_ch zl_eq zl_len 25 37 _ (Nat.le_of_ble_eq_true rfl) (by decide +kernel))
theorem dL_law_1639 : decode cL_law 1639 = .ok (.iconst 2, 1) := zy_0 zK_5 (zrd_ch zl_eq zl_len 25 39 _ (Nat.le_of_ble_eq_true rfl) (by decide +kernel))
theorem dL_law_1640 : decode cL_law 1640 = .ok (.iadd, 1) := zy_0 zK_96 (zrd_ch zl_eq zl_len 25 40 _ (Nat.le_of_ble_eq_true rfl) (by decide +kernel))
theorem dL_law_1641 : decode cL_law 1641 = .ok (.iaload, 1) := zy_0 zK_46 (zrd_ch zl_eq zl_len 25 41 _ (Nat.le_of_ble_eq_true rfl) (by decide +kernel))
theorem dL_law_1642 : decode cL_law 1642 = .ok (.aload_n 0, 1) := zy_0 zK_42 (zrd_ch zl_eq zl_len 25 42 _ (Nat.le_of_ble_eq_true rfl) (by decide +kernel))
theorem dL_law_1643 : decode cL_law 1643 = .ok (.iload 4, 2) := zy_u1 (b1 := 4) zK_21 (zrd_ch zl_eq zl_len 25 43 _ (Nat.le_of_ble_eq_true rfl) (by decide +kernel))
theorem dL_law_1645 : decode cL_law 1645 = .ok (.iconst 3, 1) := zy_0 zK_6 (zrd_ch zl_eq zl_len 25 45 _ (Nat.le_of_ble_eq_true rfl) (by decide +kernel))
theorem dL_law_1646 : decode cL_law 1646 = .ok (.iadd, 1) := zy_0 zK_96 (zrd_ch zl_eq zl_len 25 46 _ (Nat.le_of_ble_eq_true rfl) (by decide +kernel))
theorem dL_law_1647 : decode cL_law 1647 = .ok (.iaload, 1) := zy_0 zK_46 (zrd_ch zl_eq zl_len 25 47 _ (Nat.le_of_ble_eq_true rfl) (by decide +kernel))
theorem dL_law_1648 : decode cL_law 1648 = .ok (.ifCond .eq 7, 3) := zy_s2 (b1 := 0) (b2 := 7) zK_153 (zrd_ch zl_eq zl_len 25 48 _ (Nat.le_of_ble_eq_true rfl) (by decide +kernel)) (by decide +kernel)
theorem dL_law_1651 : decode cL_law 1651 = .ok (.iconst 1, 1) := zy_0 zK_4 (zrd_ch zl_eq zl_len 25 51 _ (Nat.le_of_ble_eq_true rfl) (by decide +kernel))
theorem dL_law_1652 : decode cL_law 1652 = .ok (.goto 4, 3) := zy_s2 (b1 := 0) (b2 := 4) zK_167 (zrd_ch zl_eq zl_len 25 52 _ (Nat.le_of_ble_eq_true rfl) (by decide +kernel)) (by decide +kernel)
theorem dL_law_1655 : decode cL_law 1655 = .ok (.iconst 0, 1) := zy_0 zK_3 (zrd_ch zl_eq zl_len 25 55 _ (Nat.le_of_ble_eq_true rfl) (by decide +kernel))
theorem dL_law_1656 : decode cL_law 1656 = .ok (.invokevirtual 212, 3) := zy_u2 (b1 := 0) (b2 := 212) zK_182 (zrd_ch zl_eq zl_len 25 56 _ (Nat.le_of_ble_eq_true rfl) (by decide +kernel))
theorem dL_law_1659 : decode cL_law 1659 = .ok (.pop2, 1) := by decide +kernel
theorem dL_law_1660 : decode cL_law 1660 = .ok (.goto 281, 3) := zy_s2 (b1 := 1) (b2 := 25) zK_167 (zrd_ch zl_eq zl_len 25 60 _ (Nat.le_of_ble_eq_true rfl) (by decide +kernel)) (by decide +kernel)
theorem dL_law_1663 : decode cL_law 1663 = .ok (.aload_n 1, 1) := zy_0 zK_43 (zrd_ch zl_eq zl_len 25 63 _ (Nat.le_of_ble_eq_true rfl) (by decide +kernel))
theorem dL_law_1664 : decode cL_law 1664 = .ok (.aload_n 0, 1) := zy_0 zK_42 (zrd_ch zl_eq zl_len 26 0 _ (Nat.le_of_ble_eq_true rfl) (by decide +kernel))
theorem dL_law_1665 : decode cL_law 1665 = .ok (.iload 4, 2) := zy_u1 (b1 := 4) zK_21 (zrd_ch zl_eq zl_len 26 1 _ (Nat.le_of_ble_eq_true rfl) (by decide +kernel))
theorem dL_law_1667 : decode cL_law 1667 = .ok (.iconst 1, 1) := zy_0 zK_4 (zrd_ch zl_eq zl_len 26 3 _ (Nat.le_of_ble_eq_true rfl) (by decide +kernel))
theorem dL_law_1668 : decode cL_law 1668 = .ok (.iadd, 1) := zy_0 zK_96 (zrd_ch zl_eq zl_len 26 4 _ (Nat.le_of_ble_eq_true rfl) (by decide +kernel))
theorem dL_law_1669 : decode cL_law 1669 = .ok (.iaload, 1) := zy_0 zK_46 (zrd_ch zl_eq zl_len 26 5 _ (Nat.le_of_ble_eq_true rfl) (by decide +kernel))
theorem dL_law_1670 : decode cL_law 1670 = .ok (.aload_n 0, 1) := zy_0 zK_42 (zrd_ch zl_eq zl_len 26 6 _ (Nat.le_of_ble_eq_true rfl) (by decide +kernel))
theorem dL_law_1671 : decode cL_law 1671 = .ok (.iload 4, 2) := zy_u1 (b1 := 4) zK_21 (zrd_ch zl_eq zl_len 26 7 _ (Nat.le_of_ble_eq_true rfl) (by decide +kernel))
theorem dL_law_1673 : decode cL_law 1673 = .ok (.iconst 2, 1) := zy_0 zK_5 (zrd_ch zl_eq zl_len 26 9 _ (Nat.le_of_ble_eq_true rfl) (by decide +kernel))
theorem dL_law_1674 : decode cL_law 1674 = .ok (.iadd, 1) := zy_0 zK_96 (zrd_ch zl_eq zl_len 26 10 _ (Nat.le_of_ble_eq_true rfl) (by decide +kernel))
theorem dL_law_1675 : decode cL_law 1675 = .ok (.iaload, 1) := zy_0 zK_46 (zrd_ch zl_eq zl_len 26 11 _ (Nat.le_of_ble_eq_true rfl) (by decide +kernel))
theorem dL_law_1676 : decode cL_law 1676 = .ok (.aload_n 0, 1) := zy_0 zK_42 (zrd_ch zl_eq zl_len 26 12 _ (Nat.le_of_ble_eq_true rfl) (by decide +kernel))
theorem dL_law_1677 : decode cL_law 1677 = .ok (.iload 4, 2) := zy_u1 (b1 := 4) zK_21 (zrd_ch zl_eq zl_len 26 13 _ (Nat.le_of_ble_eq_true rfl) (by decide +kernel))
theorem dL_law_1679 : decode cL_law 1679 = .ok (.iconst 3, 1) := zy_0 zK_6 (zrd_ch zl_eq zl_len 26 15 _ (Nat.le_of_ble_eq_true rfl) (by decide +kernel))
theorem dL_law_1680 : decode cL_law 1680 = .ok (.iadd, 1) := zy_0 zK_96 (zrd_ch zl_eq zl_len 26 16 _ (Nat.le_of_ble_eq_true rfl) (by decide +kernel))
theorem dL_law_1681 : decode cL_law 1681 = .ok (.iaload, 1) := zy_0 zK_46 (zrd_ch zl_eq zl_len 26 17 _ (Nat.le_of_ble_eq_true rfl) (by decide +kernel))
theorem dL_law_1682 : decode cL_law 1682 = .ok (.invokevirtual 213, 3) := zy_u2 (b1 := 0) (b2 := 213) zK_182 (zrd_ch zl_eq zl_len 26 18 _ (Nat.le_of_ble_eq_true rfl) (by decide +kernel))
theorem dL_law_1685 : decode cL_law 1685 = .ok (.pop, 1) := zy_0 zK_87 (zrd_ch zl_eq zl_len 26 21 _ (Nat.le_of_ble_eq_true rfl) (by decide +kernel))
theorem dL_law_1686 : decode cL_law 1686 = .ok (.aload_n 2, 1) := zy_0 zK_44 (zrd_ch zl_eq zl_len 26 22 _ (Nat.le_of_ble_eq_true rfl) (by decide +kernel))
theorem dL_law_1687 : decode cL_law 1687 = .ok (.aload_n 0, 1) := zy_0 zK_42 (zrd_ch zl_eq zl_len 26 23 _ (Nat.le_of_ble_eq_true rfl) (by decide +kernel))
theorem dL_law_1688 : decode cL_law 1688 = .ok (.iload 4, 2) := zy_u1 (b1 := 4) zK_21 (zrd_ch zl_eq zl_len 26 24 _ (Nat.le_of_ble_eq_true rfl) (by decide +kernel))
theorem dL_law_1690 : decode cL_law 1690 = .ok (.iconst 1, 1) := zy_0 zK_4 (zrd_ch zl_eq zl_len 26 26 _ (Nat.le_of_ble_eq_true rfl) (by decide +kernel))
theorem dL_law_1691 : decode cL_law 1691 = .ok (.iadd, 1) := zy_0 zK_96 (zrd_ch zl_eq zl_len 26 27 _ (Nat.le_of_ble_eq_true rfl) (by decide +kernel))
theorem dL_law_1692 : decode cL_law 1692 = .ok (.iaload, 1) := zy_0 zK_46 (zrd_ch zl_eq zl_len 26 28 _ (Nat.le_of_ble_eq_true rfl) (by decide +kernel))
theorem dL_law_1693 : decode cL_law 1693 = .ok (.aload_n 0, 1) := zy_0 zK_42 (zrd_ch zl_eq zl_len 26 29 _ (Nat.le_of_ble_eq_true rfl) (by decide +kernel))
theorem dL_law_1694 : decode cL_law 1694 = .ok (.iload 4, 2) := zy_u1 (b1 := 4) zK_21 (zrd_ch zl_eq zl_len 26 30 _ (Nat.le_of_ble_eq_true rfl) (by decide +kernel))
theorem dL_law_1696 : decode cL_law 1696 = .ok (.iconst 2, 1) := zy_0 zK_5 (zrd_ch zl_eq zl_len 26 32 _ (Nat.le_of_ble_eq_true rfl) (by decide +kernel))
theorem dL_law_1697 : decode cL_law 1697 = .ok (.iadd, 1) := zy_0 zK_96 (zrd_ch zl_eq zl_len 26 33 _ (Nat.le_of_ble_eq_true rfl) (by decide +kernel))
theorem dL_law_1698 : decode cL_law 1698 = .ok (.iaload, 1) := zy_0 zK_46 (zrd_ch zl_eq zl_len 26 34 _ (Nat.le_of_ble_eq_true rfl) (by decide +kernel))
theorem dL_law_1699 : decode cL_law 1699 = .ok (.aload_n 0, 1) := zy_0 zK_42 (zrd_ch zl_eq zl_len 26 35 _ (Nat.le_of_ble_eq_true rfl) (by decide +kernel))
theorem dL_law_1700 : decode cL_law 1700 = .ok (.iload 4, 2) := zy_u1 (b1 := 4) zK_21 (zrd_ch zl_eq zl_len 26 36 _ (Nat.le_of_ble_eq_true rfl) (by decide +kernel))
theorem dL_law_1702 : decode cL_law 1702 = .ok (.iconst 3, 1) := zy_0 zK_6 (zrd_ch zl_eq zl_len 26 38 _ (Nat.le_of_ble_eq_true rfl) (by decide +kernel))
theorem dL_law_1703 : decode cL_law 1703 = .ok (.iadd, 1) := zy_0 zK_96 (zrd_ch zl_eq zl_len 26 39 _ (Nat.le_of_ble_eq_true rfl) (by decide +kernel))
theorem dL_law_1704 : decode cL_law 1704 = .ok (.iaload, 1) := zy_0 zK_46 (zrd_ch zl_eq zl_len 26 40 _ (Nat.le_of_ble_eq_true rfl) (by decide +kernel))
theorem dL_law_1705 : decode cL_law 1705 = .ok (.invokevirtual 216, 3) := zy_u2 (b1 := 0) (b2 := 216) zK_182 (zrd_ch zl_eq zl_len 26 41 _ (Nat.le_of_ble_eq_true rfl) (by decide +kernel))
theorem dL_law_1708 : decode cL_law 1708 = .ok (.pop, 1) := zy_0 zK_87 (zrd_ch zl_eq zl_len 26 44 _ (Nat.le_of_ble_eq_true rfl) (by decide +kernel))
theorem dL_law_1709 : decode cL_law 1709 = .ok (.goto 232, 3) := zy_s2 (b1 := 0) (b2 := 232) zK_167 (zrd_ch zl_eq zl_len 26 45 _ (Nat.le_of_ble_eq_true rfl) (by decide +kernel)) (by decide +kernel)
theorem dL_law_1712 : decode cL_law 1712 = .ok (.aload_n 1, 1) := zy_0 zK_43 (zrd_ch zl_eq zl_len 26 48 _ (Nat.le_of_ble_eq_true rfl) (by decide +kernel))
theorem dL_law_1713 : decode cL_law 1713 = .ok (.aload_n 0, 1) := zy_0 zK_42 (zrd_ch zl_eq zl_len 26 49 _ (Nat.le_of_ble_eq_true rfl) (by decide +kernel))
theorem dL_law_1714 : decode cL_law 1714 = .ok (.iload 4, 2) := zy_u1 (b1 := 4) zK_21 (zrd_ch zl_eq zl_len 26 50 _ (Nat.le_of_ble_eq_true rfl) (by decide +kernel))
theorem dL_law_1716 : decode cL_law 1716 = .ok (.iconst 1, 1) := zy_0 zK_4 (zrd_ch zl_eq zl_len 26 52 _ (Nat.le_of_ble_eq_true rfl) (by decide +kernel))
theorem dL_law_1717 : decode cL_law 1717 = .ok (.iadd, 1) := zy_0 zK_96 (zrd_ch zl_eq zl_len 26 53 _ (Nat.le_of_ble_eq_true rfl) (by decide +kernel))
theorem dL_law_1718 : decode cL_law 1718 = .ok (.iaload, 1) := zy_0 zK_46 (zrd_ch zl_eq zl_len 26 54 _ (Nat.le_of_ble_eq_true rfl) (by decide +kernel))
theorem dL_law_1719 : decode cL_law 1719 = .ok (.aload_n 0, 1) := zy_0 zK_42 (zrd_ch zl_eq zl_len 26 55 _ (Nat.le_of_ble_eq_true rfl) (by decide +kernel))
theorem dL_law_1720 : decode cL_law 1720 = .ok (.iload 4, 2) := zy_u1 (b1 := 4) zK_21 (zrd_ch zl_eq zl_len 26 56 _ (Nat.le_of_ble_eq_true rfl) (by decide +kernel))
theorem dL_law_1722 : decode cL_law 1722 = .ok (.iconst 2, 1) := zy_0 zK_5 (zrd_ch zl_eq zl_len 26 58 _ (Nat.le_of_ble_eq_true rfl) (by decide +kernel))
theorem dL_law_1723 : decode cL_law 1723 = .ok (.iadd, 1) := zy_0 zK_96 (zrd_ch zl_eq zl_len 26 59 _ (Nat.le_of_ble_eq_true rfl) (by decide +kernel))
theorem dL_law_1724 : decode cL_law 1724 = .ok (.iaload, 1) := zy_0 zK_46 (zrd_ch zl_eq zl_len 26 60 _ (Nat.le_of_ble_eq_true rfl) (by decide +kernel))
theorem dL_law_1725 : decode cL_law 1725 = .ok (.invokevirtual 217, 3) := zy_u2 (b1 := 0) (b2 := 217) zK_182 (zrd_ch zl_eq zl_len 26 61 _ (Nat.le_of_ble_eq_true rfl) (by decide +kernel))
theorem dL_law_1728 : decode cL_law 1728 = .ok (.pop, 1) := zy_0 zK_87 (zrd_ch zl_eq zl_len 27 0 _ (Nat.le_of_ble_eq_true rfl) (by decide +kernel))
theorem dL_law_1729 : decode cL_law 1729 = .ok (.aload_n 2, 1) := zy_0 zK_44 (zrd_ch zl_eq zl_len 27 1 _ (Nat.le_of_ble_eq_true rfl) (by decide +kernel))
theorem dL_law_1730 : decode cL_law 1730 = .ok (.aload_n 0, 1) := zy_0 zK_42 (zrd_ch zl_eq zl_len 27 2 _ (Nat.le_of_ble_eq_true rfl) (by decide +kernel))
theorem dL_law_1731 : decode cL_law 1731 = .ok (.iload 4, 2) := zy_u1 (b1 := 4) zK_21 (zrd_ch zl_eq zl_len 27 3 _ (Nat.le_of_ble_eq_true rfl) (by decide +kernel))
theorem dL_law_1733 : decode cL_law 1733 = .ok (.iconst 1, 1) := zy_0 zK_4 (zrd_ch zl_eq zl_len 27 5 _ (Nat.le_of_ble_eq_true rfl) (by decide +kernel))
theorem dL_law_1734 : decode cL_law 1734 = .ok (.iadd, 1) := zy_0 zK_96 (zrd_ch zl_eq zl_len 27 6 _ (Nat.le_of_ble_eq_true rfl) (by decide +kernel))
theorem dL_law_1735 : decode cL_law 1735 = .ok (.iaload, 1) := zy_0 zK_46 (zrd_ch zl_eq zl_len 27 7 _ (Nat.le_of_ble_eq_true rfl) (by decide +kernel))
theorem dL_law_1736 : decode cL_law 1736 = .ok (.aload_n 0, 1) := zy_0 zK_42 (zrd_ch zl_eq zl_len 27 8 _ (Nat.le_of_ble_eq_true rfl) (by decide +kernel))
theorem dL_law_1737 : decode cL_law 1737 = .ok (.iload 4, 2) := zy_u1 (b1 := 4) zK_21 (zrd_ch zl_eq zl_len 27 9 _ (Nat.le_of_ble_eq_true rfl) (by decide +kernel))
theorem dL_law_1739 : decode cL_law 1739 = .ok (.iconst 2, 1) := zy_0 zK_5 (zrd_ch zl_eq zl_len 27 11 _ (Nat.le_of_ble_eq_true rfl) (by decide +kernel))
theorem dL_law_1740 : decode cL_law 1740 = .ok (.iadd, 1) := zy_0 zK_96 (zrd_ch zl_eq zl_len 27 12 _ (Nat.le_of_ble_eq_true rfl) (by decide +kernel))
theorem dL_law_1741 : decode cL_law 1741 = .ok (.iaload, 1) := zy_0 zK_46 (zrd_ch zl_eq zl_len 27 13 _ (Nat.le_of_ble_eq_true rfl) (by decide +kernel))
theorem dL_law_1742 : decode cL_law 1742 = .ok (.invokevirtual 220, 3) := zy_u2 (b1 := 0) (b2 := 220) zK_182 (zrd_ch zl_eq zl_len 27 14 _ (Nat.le_of_ble_eq_true rfl) (by decide +kernel))
theorem dL_law_1745 : decode cL_law 1745 = .ok (.pop, 1) := zy_0 zK_87 (zrd_ch zl_eq zl_len 27 17 _ (Nat.le_of_ble_eq_true rfl) (by decide +kernel))
theorem dL_law_1746 : decode cL_law 1746 = .ok (.goto 195, 3) := zy_s2 (b1 := 0) (b2 := 195) zK_167 (zrd_ch zl_eq zl_len 27 18 _ (Nat.le_of_ble_eq_true rfl) (by decide +kernel)) (by decide +kernel)
theorem dL_law_1749 : decode cL_law 1749 = .ok (.aload_n 1, 1) := zy_0 zK_43 (zrd_ch zl_eq zl_len 27 21 _ (Nat.le_of_ble_eq_true rfl) (by decide +kernel))
theorem dL_law_1750 : decode cL_law 1750 = .ok (.aload_n 0, 1) := zy_0 zK_42 (zrd_ch zl_eq zl_len 27 22 _ (Nat.le_of_ble_eq_true rfl) (by decide +kernel))
theorem dL_law_1751 : decode cL_law 1751 = .ok (.iload 4, 2) := zy_u1 (b1 := 4) zK_21 (zrd_ch zl_eq zl_len 27 23 _ (Nat.le_of_ble_eq_true rfl) (by decide +kernel))
theorem dL_law_1753 : decode cL_law 1753 = .ok (.iconst 1, 1) := zy_0 zK_4 (zrd_ch zl_eq zl_len 27 25 _ (Nat.le_of_ble_eq_true rfl) (by decide +kernel))
theorem dL_law_1754 : decode cL_law 1754 = .ok (.iadd, 1) := zy_0 zK_96 (zrd_ch zl_eq zl_len 27 26 _ (Nat.le_of_ble_eq_true rfl) (by decide +kernel))
theorem dL_law_1755 : decode cL_law 1755 = .ok (.iaload, 1) := zy_0 zK_46 (zrd_ch zl_eq zl_len 27 27 _ (Nat.le_of_ble_eq_true rfl) (by decide +kernel))
theorem dL_law_1756 : decode cL_law 1756 = .ok (.invokevirtual 221, 3) := zy_u2 (b1 := 0) (b2 := 221) zK_182 (zrd_ch zl_eq zl_len 27 28 _ (Nat.le_of_ble_eq_true rfl) (by decide +kernel))
theorem dL_law_1759 : decode cL_law 1759 = .ok (.pop, 1) := zy_0 zK_87 (zrd_ch zl_eq zl_len 27 31 _ (Nat.le_of_ble_eq_true rfl) (by decide +kernel))
theorem dL_law_1760 : decode cL_law 1760 = .ok (.aload_n 2, 1) := zy_0 zK_44 (zrd_ch zl_eq zl_len 27 32 _ (Nat.le_of_ble_eq_true rfl) (by decide +kernel))
theorem dL_law_1761 : decode cL_law 1761 = .ok (.aload_n 0, 1) := zy_0 zK_42 (zrd_ch zl_eq zl_len 27 33 _ (Nat.le_of_ble_eq_true rfl) (by decide +kernel))
theorem dL_law_1762 : decode cL_law 1762 = .ok (.iload 4, 2) := zy_u1 (b1 := 4) zK_21 (zrd_ch zl_eq zl_len 27 34 _ (Nat.le_of_ble_eq_true rfl) (by decide +kernel))
theorem dL_law_1764 : decode cL_law 1764 = .ok (.iconst 1, 1) := zy_0 zK_4 (zrd_ch zl_eq zl_len 27 36 _ (Nat.le_of_ble_eq_true rfl) (by decide +kernel))
theorem dL_law_1765 : decode cL_law 1765 = .ok (.iadd, 1) := zy_0 zK_96 (zrd_ch zl_eq zl_len 27 37 _ (Nat.le_of_ble_eq_true rfl) (by decide +kernel))
theorem dL_law_1766 : decode cL_law 1766 = .ok (.iaload, 1) := zy_0 zK_46 (zrd_ch zl_eq zl_len 27 38 _ (Nat.le_of_ble_eq_true rfl) (by decide +kernel))
theorem dL_law_1767 : decode cL_law 1767 = .ok (.invokevirtual 224, 3) := zy_u2 (b1 := 0) (b2 := 224) zK_182 (zrd_ch zl_eq zl_len 27 39 _ (Nat.le_of_ble_eq_true rfl) (by decide +kernel))
theorem dL_law_1770 : decode cL_law 1770 = .ok (.pop, 1) := zy_0 zK_87 (zrd_ch zl_eq zl_len 27 42 _ (Nat.le_of_ble_eq_true rfl) (by decide +kernel))
theorem dL_law_1771 : decode cL_law 1771 = .ok (.goto 170, 3) := zy_s2 (b1 := 0) (b2 := 170) zK_167 (zrd_ch zl_eq zl_len 27 43 _ (Nat.le_of_ble_eq_true rfl) (by decide +kernel)) (by decide +kernel)
theorem dL_law_1774 : decode cL_law 1774 = .ok (.aload_n 1, 1) := zy_0 zK_43 (zrd_ch zl_eq zl_len 27 46 _ (Nat.le_of_ble_eq_true rfl) (by decide +kernel))
theorem dL_law_1775 : decode cL_law 1775 = .ok (.aload_n 0, 1) := zy_0 zK_42 (zrd_ch zl_eq zl_len 27 47 _ (Nat.le_of_ble_eq_true rfl) (by decide +kernel))
theorem dL_law_1776 : decode cL_law 1776 = .ok (.iload 4, 2) := zy_u1 (b1 := 4) zK_21 (zrd_ch zl_eq zl_len 27 48 _ (Nat.le_of_ble_eq_true rfl) (by decide +kernel))
theorem dL_law_1778 : decode cL_law 1778 = .ok (.iconst 1, 1) := zy_0 zK_4 (zrd_ch zl_eq zl_len 27 50 _ (Nat.le_of_ble_eq_true rfl) (by decide +kernel))
theorem dL_law_1779 : decode cL_law 1779 = .ok (.iadd, 1) := zy_0 zK_96 (zrd_ch zl_eq zl_len 27 51 _ (Nat.le_of_ble_eq_true rfl) (by decide +kernel))
theorem dL_law_1780 : decode cL_law 1780 = .ok (.iaload, 1) := zy_0 zK_46 (zrd_ch zl_eq zl_len 27 52 _ (Nat.le_of_ble_eq_true rfl) (by decide +kernel))
theorem dL_law_1781 : decode cL_law 1781 = .ok (.invokevirtual 225, 3) := zy_u2 (b1 := 0) (b2 := 225) zK_182 (zrd_ch zl_eq zl_len 27 53 _ (Nat.le_of_ble_eq_true rfl) (by decide +kernel))
theorem dL_law_1784 : decode cL_law 1784 = .ok (.pop, 1) := zy_0 zK_87 (zrd_ch zl_eq zl_len 27 56 _ (Nat.le_of_ble_eq_true rfl) (by decide +kernel))
theorem dL_law_1785 : decode cL_law 1785 = .ok (.aload_n 2, 1) := zy_0 zK_44 (zrd_ch zl_eq zl_len 27 57 _ (Nat.le_of_ble_eq_true rfl) (by decide +kernel))
theorem dL_law_1786 : decode cL_law 1786 = .ok (.aload_n 0, 1) := zy_0 zK_42 (zrd_ch zl_eq zl_len 27 58 _ (Nat.le_of_ble_eq_true rfl) (by decide +kernel))
theorem dL_law_1787 : decode cL_law 1787 = .ok (.iload 4, 2) := zy_u1 (b1 := 4) zK_21 (zrd_ch zl_eq zl_len 27 59 _ (Nat.le_of_ble_eq_true rfl) (by decide +kernel))
theorem dL_law_1789 : decode cL_law 1789 = .ok (.iconst 1, 1) := zy_0 zK_4 (zrd_ch zl_eq zl_len 27 61 _ (Nat.le_of_ble_eq_true rfl) (by decide +kernel))
theorem dL_law_1790 : decode cL_law 1790 = .ok (.iadd, 1) := zy_0 zK_96 (zrd_ch zl_eq zl_len 27 62 _ (Nat.le_of_ble_eq_true rfl) (by decide +kernel))
theorem dL_law_1791 : decode cL_law 1791 = .ok (.iaload, 1) := zy_0 zK_46 (zrd_ch zl_eq zl_len 27 63 _ (Nat.le_of_ble_eq_true rfl) (by decide +kernel))
theorem dL_law_1792 : decode cL_law 1792 = .ok (.invokevirtual 228, 3) := zy_u2 (b1 := 0) (b2 := 228) zK_182 (zrd_ch zl_eq zl_len 28 0 _ (Nat.le_of_ble_eq_true rfl) (by decide +kernel))
theorem dL_law_1795 : decode cL_law 1795 = .ok (.pop, 1) := zy_0 zK_87 (zrd_ch zl_eq zl_len 28 3 _ (Nat.le_of_ble_eq_true rfl) (by decide +kernel))
theorem dL_law_1796 : decode cL_law 1796 = .ok (.goto 145, 3) := zy_s2 (b1 := 0) (b2 := 145) zK_167 (zrd_ch zl_eq zl_len 28 4 _ (Nat.le_of_ble_eq_true rfl) (by decide +kernel)) (by decide +kernel)
theorem dL_law_1799 : decode cL_law 1799 = .ok (.aload_n 1, 1) := zy_0 zK_43 (zrd_ch zl_eq zl_len 28 7 _ (Nat.le_of_ble_eq_true rfl) (by decide +kernel))
theorem dL_law_1800 : decode cL_law 1800 = .ok (.aload_n 0, 1) := zy_0 zK_42 (zrd_ch zl_eq zl_len 28 8 _ (Nat.le_of_ble_eq_true rfl) (by decide +kernel))
theorem dL_law_1801 : decode cL_law 1801 = .ok (.iload 4, 2) := zy_u1 (b1 := 4) zK_21 (zrd_ch zl_eq zl_len 28 9 _ (Nat.le_of_ble_eq_true rfl) (by decide +kernel))
theorem dL_law_1803 : decode cL_law 1803 = .ok (.iconst 1, 1) := zy_0 zK_4 (zrd_ch zl_eq zl_len 28 11 _ (Nat.le_of_ble_eq_true rfl) (by decide +kernel))
theorem dL_law_1804 : decode cL_law 1804 = .ok (.iadd, 1) := zy_0 zK_96 (zrd_ch zl_eq zl_len 28 12 _ (Nat.le_of_ble_eq_true rfl) (by decide +kernel))
theorem dL_law_1805 : decode cL_law 1805 = .ok (.iaload, 1) := zy_0 zK_46 (zrd_ch zl_eq zl_len 28 13 _ (Nat.le_of_ble_eq_true rfl) (by decide +kernel))
theorem dL_law_1806 : decode cL_law 1806 = .ok (.invokevirtual 229, 3) := zy_u2 (b1 := 0) (b2 := 229) zK_182 (zrd_ch zl_eq zl_len 28 14 _ (Nat.le_of_ble_eq_true rfl) (by decide +kernel))
theorem dL_law_1809 : decode cL_law 1809 = .ok (.pop, 1) := zy_0 zK_87 (zrd_ch zl_eq zl_len 28 17 _ (Nat.le_of_ble_eq_true rfl) (by decide +kernel))
theorem dL_law_1810 : decode cL_law 1810 = .ok (.aload_n 2, 1) := zy_0 zK_44 (zrd_ch zl_eq zl_len 28 18 _ (Nat.le_of_ble_eq_true rfl) (by decide +kernel))
theorem dL_law_1811 : decode cL_law 1811 = .ok (.aload_n 0, 1) := zy_0 zK_42 (zrd_ch zl_eq zl_len 28 19 _ (Nat.le_of_ble_eq_true rfl) (by decide +kernel))
theorem dL_law_1812 : decode cL_law 1812 = .ok (.iload 4, 2) := zy_u1 (b1 := 4) zK_21 (zrd_ch zl_eq zl_len 28 20 _ (Nat.le_of_ble_eq_true rfl) (by decide +kernel))
theorem dL_law_1814 : decode cL_law 1814 = .ok (.iconst 1, 1) := zy_0 zK_4 (zrd_ch zl_eq zl_len 28 22 _ (Nat.le_of_ble_eq_true rfl) (by decide +kernel))
theorem dL_law_1815 : decode cL_law 1815 = .ok (.iadd, 1) := zy_0 zK_96 (zrd_ch zl_eq zl_len 28 23 _ (Nat.le_of_ble_eq_true rfl) (by decide +kernel))
theorem dL_law_1816 : decode cL_law 1816 = .ok (.iaload, 1) := zy_0 zK_46 (zrd_ch zl_eq zl_len 28 24 _ (Nat.le_of_ble_eq_true rfl) (by decide +kernel))
theorem dL_law_1817 : decode cL_law 1817 = .ok (.invokevirtual 232, 3) := zy_u2 (b1 := 0) (b2 := 232) zK_182 (zrd_ch zl_eq zl_len 28 25 _ (Nat.le_of_ble_eq_true rfl) (by decide +kernel))
theorem dL_law_1820 : decode cL_law 1820 = .ok (.pop, 1) := zy_0 zK_87 (zrd_ch zl_eq zl_len 28 28 _ (Nat.le_of_ble_eq_true rfl) (by decide +kernel))
theorem dL_law_1821 : decode cL_law 1821 = .ok (.goto 120, 3) := zy_s2 (b1 := 0) (b2 := 120) zK_167 (zrd_ch zl_eq zl_len 28 29 _ (Nat.le_of_ble_eq_true rfl) (by decide +kernel)) (by decide +kernel)
theorem dL_law_1824 : decode cL_law 1824 = .ok (.aload_n 1, 1) := zy_0 zK_43 (zrd_ch zl_eq zl_len 28 32 _ (Nat.le_of_ble_eq_true rfl) (by decide +kernel))
theorem dL_law_1825 : decode cL_law 1825 = .ok (.invokevirtual 233, 3) := zy_u2 (b1 := 0) (b2 := 233) zK_182 (zrd_ch zl_eq zl_len 28 33 _ (Nat.le_of_ble_eq_true rfl) (by decide +kernel))
theorem dL_law_1828 : decode cL_law 1828 = .ok (.pop, 1) := zy_0 zK_87 (zrd_ch zl_eq zl_len 28 36 _ (Nat.le_of_ble_eq_true rfl) (by decide +kernel))
theorem dL_law_1829 : decode cL_law 1829 = .ok (.aload_n 2, 1) := zy_0 zK_44 (zrd_ch zl_eq zl_len 28 37 _ (Nat.le_of_ble_eq_true rfl) (by decide +kernel))
theorem dL_law_1830 : decode cL_law 1830 = .ok (.invokevirtual 237, 3) := zy_u2 (b1 := 0) (b2 := 237) zK_182 (zrd_ch zl_eq zl_len 28 38 _ (Nat.le_of_ble_eq_true rfl) (by decide +kernel))
theorem dL_law_1833 : decode cL_law 1833 = .ok (.pop, 1) := zy_0 zK_87 (zrd_ch zl_eq zl_len 28 41 _ (Nat.le_of_ble_eq_true rfl) (by decide +kernel))
theorem dL_law_1834 : decode cL_law 1834 = .ok (.goto 107, 3) := zy_s2 (b1 := 0) (b2 := 107) zK_167 (zrd_ch zl_eq zl_len 28 42 _ (Nat.le_of_ble_eq_true rfl) (by decide +kernel)) (by decide +kernel)
theorem dL_law_1837 : decode cL_law 1837 = .ok (.aload_n 1, 1) := zy_0 zK_43 (zrd_ch zl_eq zl_len 28 45 _ (Nat.le_of_ble_eq_true rfl) (by decide +kernel))
theorem dL_law_1838 : decode cL_law 1838 = .ok (.invokevirtual 238, 3) := zy_u2 (b1 := 0) (b2 := 238) zK_182 (zrd_ch zl_eq zl_len 28 46 _ (Nat.le_of_ble_eq_true rfl) (by decide +kernel))
theorem dL_law_1841 : decode cL_law 1841 = .ok (.pop, 1) := zy_0 zK_87 (zrd_ch zl_eq zl_len 28 49 _ (Nat.le_of_ble_eq_true rfl) (by decide +kernel))
theorem dL_law_1842 : decode cL_law 1842 = .ok (.aload_n 2, 1) := zy_0 zK_44 (zrd_ch zl_eq zl_len 28 50 _ (Nat.le_of_ble_eq_true rfl) (by decide +kernel))
theorem dL_law_1843 : decode cL_law 1843 = .ok (.invokevirtual 241, 3) := zy_u2 (b1 := 0) (b2 := 241) zK_182 (zrd_ch zl_eq zl_len 28 51 _ (Nat.le_of_ble_eq_true rfl) (by decide +kernel))
theorem dL_law_1846 : decode cL_law 1846 = .ok (.pop, 1) := zy_0 zK_87 (zrd_ch zl_eq zl_len 28 54 _ (Nat.le_of_ble_eq_true rfl) (by decide +kernel))
theorem dL_law_1847 : decode cL_law 1847 = .ok (.goto 94, 3) := zy_s2 (b1 := 0) (b2 := 94) zK_167 (zrd_ch zl_eq zl_len 28 55 _ (Nat.le_of_ble_eq_true rfl) (by decide +kernel)) (by decide +kernel)
theorem dL_law_1850 : decode cL_law 1850 = .ok (.aload_n 1, 1) := zy_0 zK_43 (zrd_ch zl_eq zl_len 28 58 _ (Nat.le_of_ble_eq_true rfl) (by decide +kernel))
theorem dL_law_1851 : decode cL_law 1851 = .ok (.aload_n 0, 1) := zy_0 zK_42 (zrd_ch zl_eq zl_len 28 59 _ (Nat.le_of_ble_eq_true rfl) (by decide +kernel))
theorem dL_law_1852 : decode cL_law 1852 = .ok (.iload 4, 2) := zy_u1 (b1 := 4) zK_21 (zrd_ch zl_eq zl_len 28 60 _ (Nat.le_of_ble_eq_true rfl) (by decide +kernel))
theorem dL_law_1854 : decode cL_law 1854 = .ok (.iconst 1, 1) := zy_0 zK_4 (zrd_ch zl_eq zl_len 28 62 _ (Nat.le_of_ble_eq_true rfl) (by decide +kernel))
theorem dL_law_1855 : decode cL_law 1855 = .ok (.iadd, 1) := zy_0 zK_96 (zrd_ch zl_eq zl_len 28 63 _ (Nat.le_of_ble_eq_true rfl) (by decide +kernel))
theorem dL_law_1856 : decode cL_law 1856 = .ok (.iaload, 1) := zy_0 zK_46 (zrd_ch zl_eq zl_len 29 0 _ (Nat.le_of_ble_eq_true rfl) (by decide +kernel))
theorem dL_law_1857 : decode cL_law 1857 = .ok (.invokevirtual 242, 3) := zy_u2 (b1 := 0) (b2 := 242) zK_182 (zrd_ch zl_eq zl_len 29 1 _ (Nat.le_of_ble_eq_true rfl) (by decide +kernel))
theorem dL_law_1860 : decode cL_law 1860 = .ok (.pop, 1) := zy_0 zK_87 (zrd_ch zl_eq zl_len 29 4 _ (Nat.le_of_ble_eq_true rfl) (by decide +kernel))
theorem dL_law_1861 : decode cL_law 1861 = .ok (.aload_n 2, 1) := zy_0 zK_44 (zrd_ch zl_eq zl_len 29 5 _ (Nat.le_of_ble_eq_true rfl) (by decide +kernel))
theorem dL_law_1862 : decode cL_law 1862 = .ok (.aload_n 0, 1) := zy_0 zK_42 (zrd_ch zl_eq zl_len 29 6 _ (Nat.le_of_ble_eq_true rfl) (by decide +kernel))
theorem dL_law_1863 : decode cL_law 1863 = .ok (.iload 4, 2) := zy_u1 (b1 := 4) zK_21 (zrd_ch zl_eq zl_len 29 7 _ (Nat.le_of_ble_eq_true rfl) (by decide +kernel))
theorem dL_law_1865 : decode cL_law 1865 = .ok (.iconst 1, 1) := zy_0 zK_4 (zrd_ch zl_eq zl_len 29 9 _ (Nat.le_of_ble_eq_true rfl) (by decide +kernel))
theorem dL_law_1866 : decode cL_law 1866 = .ok (.iadd, 1) := zy_0 zK_96 (zrd_ch zl_eq zl_len 29 10 _ (Nat.le_of_ble_eq_true rfl) (by decide +kernel))
theorem dL_law_1867 : decode cL_law 1867 = .ok (.iaload, 1) := zy_0 zK_46 (zrd_ch zl_eq zl_len 29 11 _ (Nat.le_of_ble_eq_true rfl) (by decide +kernel))
theorem dL_law_1868 : decode cL_law 1868 = .ok (.invokevirtual 246, 3) := zy_u2 (b1 := 0) (b2 := 246) zK_182 (zrd_ch zl_eq zl_len 29 12 _ (Nat.le_of_ble_eq_true rfl) (by decide +kernel))
theorem dL_law_1871 : decode cL_law 1871 = .ok (.pop, 1) := zy_0 zK_87 (zrd_ch zl_eq zl_len 29 15 _ (Nat.le_of_ble_eq_true rfl) (by decide +kernel))
theorem dL_law_1872 : decode cL_law 1872 = .ok (.goto 69, 3) := zy_s2 (b1 := 0) (b2 := 69) zK_167 (zrd_ch zl_eq zl_len 29 16 _ (Nat.le_of_ble_eq_true rfl) (by decide +kernel)) (by decide +kernel)
theorem dL_law_1875 : decode cL_law 1875 = .ok (.aload_n 1, 1) := zy_0 zK_43 (zrd_ch zl_eq zl_len 29 19 _ (Nat.le_of_ble_eq_true rfl) (by decide +kernel))
theorem dL_law_1876 : decode cL_law 1876 = .ok (.aload_n 0, 1) := zy_0 zK_42 (zrd_ch zl_eq zl_len 29 20 _ (Nat.le_of_ble_eq_true rfl) (by decide +kernel))
theorem dL_law_1877 : decode cL_law 1877 = .ok (.iload 4, 2) := zy_u1 (b1 := 4) zK_21 (zrd_ch zl_eq zl_len 29 21 _ (Nat.le_of_ble_eq_true rfl) (by decide +kernel))
theorem dL_law_1879 : decode cL_law 1879 = .ok (.iconst 1, 1) := zy_0 zK_4 (zrd_ch zl_eq zl_len 29 23 _ (Nat.le_of_ble_eq_true rfl) (by decide +kernel))
theorem dL_law_1880 : decode cL_law 1880 = .ok (.iadd, 1) := zy_0 zK_96 (zrd_ch zl_eq zl_len 29 24 _ (Nat.le_of_ble_eq_true rfl) (by decide +kernel))
theorem dL_law_1881 : decode cL_law 1881 = .ok (.iaload, 1) := zy_0 zK_46 (zrd_ch zl_eq zl_len 29 25 _ (Nat.le_of_ble_eq_true rfl) (by decide +kernel))
theorem dL_law_1882 : decode cL_law 1882 = .ok (.aload_n 3, 1) := zy_0 zK_45 (zrd_ch zl_eq zl_len 29 26 _ (Nat.le_of_ble_eq_true rfl) (by decide +kernel))
theorem dL_law_1883 : decode cL_law 1883 = .ok (.invokestatic 247, 3) := zy_u2 (b1 := 0) (b2 := 247) zK_184 (zrd_ch zl_eq zl_len 29 27 _ (Nat.le_of_ble_eq_true rfl) (by decide +kernel))
theorem dL_law_1886 : decode cL_law 1886 = .ok (.istore 5, 2) := zy_u1 (b1 := 5) zK_54 (zrd_ch zl_eq zl_len 29 30 _ (Nat.le_of_ble_eq_true rfl) (by decide +kernel))
theorem dL_law_1888 : decode cL_law 1888 = .ok (.aload_n 2, 1) := zy_0 zK_44 (zrd_ch zl_eq zl_len 29 32 _ (Nat.le_of_ble_eq_true rfl) (by decide +kernel))
theorem dL_law_1889 : decode cL_law 1889 = .ok (.aload_n 0, 1) := zy_0 zK_42 (zrd_ch zl_eq zl_len 29 33 _ (Nat.le_of_ble_eq_true rfl) (by decide +kernel))
theorem dL_law_1890 : decode cL_law 1890 = .ok (.iload 4, 2) := zy_u1 (b1 := 4) zK_21 (zrd_ch zl_eq zl_len 29 34 _ (Nat.le_of_ble_eq_true rfl) (by decide +kernel))
theorem dL_law_1892 : decode cL_law 1892 = .ok (.iconst 1, 1) := zy_0 zK_4 (zrd_ch zl_eq zl_len 29 36 _ (Nat.le_of_ble_eq_true rfl) (by decide +kernel))
theorem dL_law_1893 : decode cL_law 1893 = .ok (.iadd, 1) := zy_0 zK_96 (zrd_ch zl_eq zl_len 29 37 _ (Nat.le_of_ble_eq_true rfl) (by decide +kernel))
theorem dL_law_1894 : decode cL_law 1894 = .ok (.iaload, 1) := zy_0 zK_46 (zrd_ch zl_eq zl_len 29 38 _ (Nat.le_of_ble_eq_true rfl) (by decide +kernel))
theorem dL_law_1895 : decode cL_law 1895 = .ok (.invokevirtual 252, 3) := zy_u2 (b1 := 0) (b2 := 252) zK_182 (zrd_ch zl_eq zl_len 29 39 _ (Nat.le_of_ble_eq_true rfl) (by decide +kernel))
theorem dL_law_1898 : decode cL_law 1898 = .ok (.istore 6, 2) := zy_u1 (b1 := 6) zK_54 (zrd_ch zl_eq zl_len 29 42 _ (Nat.le_of_ble_eq_true rfl) (by decide +kernel))
theorem dL_law_1900 : decode cL_law 1900 = .ok (.goto 41, 3) := zy_s2 (b1 := 0) (b2 := 41) zK_167 (zrd_ch zl_eq zl_len 29 44 _ (Nat.le_of_ble_eq_true rfl) (by decide +kernel)) (by decide +kernel)
theorem dL_law_1903 : decode cL_law 1903 = .ok (.aload_n 1, 1) := zy_0 zK_43 (zrd_ch zl_eq zl_len 29 47 _ (Nat.le_of_ble_eq_true rfl) (by decide +kernel))
theorem dL_law_1904 : decode cL_law 1904 = .ok (.aload_n 0, 1) := zy_0 zK_42 (zrd_ch zl_eq zl_len 29 48 _ (Nat.le_of_ble_eq_true rfl) (by decide +kernel))
theorem dL_law_1905 : decode cL_law 1905 = .ok (.iload 4, 2) := zy_u1 (b1 := 4) zK_21 (zrd_ch zl_eq zl_len 29 49 _ (Nat.le_of_ble_eq_true rfl) (by decide +kernel))
theorem dL_law_1907 : decode cL_law 1907 = .ok (.iconst 1, 1) := zy_0 zK_4 (zrd_ch zl_eq zl_len 29 51 _ (Nat.le_of_ble_eq_true rfl) (by decide +kernel))
theorem dL_law_1908 : decode cL_law 1908 = .ok (.iadd, 1) := zy_0 zK_96 (zrd_ch zl_eq zl_len 29 52 _ (Nat.le_of_ble_eq_true rfl) (by decide +kernel))
theorem dL_law_1909 : decode cL_law 1909 = .ok (.iaload, 1) := zy_0 zK_46 (zrd_ch zl_eq zl_len 29 53 _ (Nat.le_of_ble_eq_true rfl) (by decide +kernel))
theorem dL_law_1910 : decode cL_law 1910 = .ok (.invokevirtual 253, 3) := zy_u2 (b1 := 0) (b2 := 253) zK_182 (zrd_ch zl_eq zl_len 29 54 _ (Nat.le_of_ble_eq_true rfl) (by decide +kernel))
theorem dL_law_1913 : decode cL_law 1913 = .ok (.pop, 1) := zy_0 zK_87 (zrd_ch zl_eq zl_len 29 57 _ (Nat.le_of_ble_eq_true rfl) (by decide +kernel))
theorem dL_law_1914 : decode cL_law 1914 = .ok (.aload_n 2, 1) := zy_0 zK_44 (zrd_ch zl_eq zl_len 29 58 _ (Nat.le_of_ble_eq_true rfl) (by decide +kernel))
theorem dL_law_1915 : decode cL_law 1915 = .ok (.aload_n 0, 1) := zy_0 zK_42 (zrd_ch zl_eq zl_len 29 59 _ (Nat.le_of_ble_eq_true rfl) (by decide +kernel))
theorem dL_law_1916 : decode cL_law 1916 = .ok (.iload 4, 2) := zy_u1 (b1 := 4) zK_21 (zrd_ch zl_eq zl_len 29 60 _ (Nat.le_of_ble_eq_true rfl) (by decide +kernel))
theorem dL_law_1918 : decode cL_law 1918 = .ok (.iconst 1, 1) := zy_0 zK_4 (zrd_ch zl_eq zl_len 29 62 _ (Nat.le_of_ble_eq_true rfl) (by decide +kernel))
theorem dL_law_1919 : decode cL_law 1919 = .ok (.iadd, 1) := zy_0 zK_96 (zrd_ch zl_eq zl_len 29 63 _ (Nat.le_of_ble_eq_true rfl) (by decide +kernel))
theorem dL_law_1920 : decode cL_law 1920 = .ok (.iaload, 1) := zy_0 zK_46 (zrd_ch zl_eq zl_len 30 0 _ (Nat.le_of_ble_eq_true rfl) (by decide +kernel))
theorem dL_law_1921 : decode cL_law 1921 = .ok (.invokevirtual 256, 3) := zy_u2 (b1 := 1) (b2 := 0) zK_182 (zrd_ch zl_eq zl_len 30 1 _ (Nat.le_of_ble_eq_true rfl) (by decide +kernel))
theorem dL_law_1924 : decode cL_law 1924 = .ok (.pop, 1) := zy_0 zK_87 (zrd_ch zl_eq zl_len 30 4 _ (Nat.le_of_ble_eq_true rfl) (by decide +kernel))
theorem dL_law_1925 : decode cL_law 1925 = .ok (.goto 16, 3) := zy_s2 (b1 := 0) (b2 := 16) zK_167 (zrd_ch zl_eq zl_len 30 5 _ (Nat.le_of_ble_eq_true rfl) (by decide +kernel)) (by decide +kernel)
theorem dL_law_1928 : decode cL_law 1928 = .ok (.aload_n 1, 1) := zy_0 zK_43 (zrd_ch zl_eq zl_len 30 8 _ (Nat.le_of_ble_eq_true rfl) (by decide +kernel))
theorem dL_law_1929 : decode cL_law 1929 = .ok (.invokevirtual 257, 3) := zy_u2 (b1 := 1) (b2 := 1) zK_182 (zrd_ch zl_eq zl_len 30 9 _ (Nat.le_of_ble_eq_true rfl) (by decide +kernel))
theorem dL_law_1932 : decode cL_law 1932 = .ok (.pop, 1) := zy_0 zK_87 (zrd_ch zl_eq zl_len 30 12 _ (Nat.le_of_ble_eq_true rfl) (by decide +kernel))
theorem dL_law_1933 : decode cL_law 1933 = .ok (.aload_n 2, 1) := zy_0 zK_44 (zrd_ch zl_eq zl_len 30 13 _ (Nat.le_of_ble_eq_true rfl) (by decide +kernel))
theorem dL_law_1934 : decode cL_law 1934 = .ok (.invokevirtual 260, 3) := zy_u2 (b1 := 1) (b2 := 4) zK_182 (zrd_ch zl_eq zl_len 30 14 _ (Nat.le_of_ble_eq_true rfl) (by decide +kernel))
theorem dL_law_1937 : decode cL_law 1937 = .ok (.pop, 1) := zy_0 zK_87 (zrd_ch zl_eq zl_len 30 17 _ (Nat.le_of_ble_eq_true rfl) (by decide +kernel))
theorem dL_law_1938 : decode cL_law 1938 = .ok (.goto 3, 3) := zy_s2 (b1 := 0) (b2 := 3) zK_167 (zrd_ch zl_eq zl_len 30 18 _ (Nat.le_of_ble_eq_true rfl) (by decide +kernel)) (by decide +kernel)
theorem dL_law_1941 : decode cL_law 1941 = .ok (.iinc 4 6, 3) := zy_ii (b1 := 4) (b2 := 6) zK_132 (zrd_ch zl_eq zl_len 30 21 _ (Nat.le_of_ble_eq_true rfl) (by decide +kernel)) (by decide +kernel)
theorem dL_law_1944 : decode cL_law 1944 = .ok (.goto (-1921), 3) := zy_s2 (b1 := 248) (b2 := 127) zK_167 (zrd_ch zl_eq zl_len 30 24 _ (Nat.le_of_ble_eq_true rfl) (by decide +kernel)) (by decide +kernel)
theorem dL_law_1947 : decode cL_law 1947 = .ok (.iconst 1, 1) := zy_0 zK_4 (zrd_ch zl_eq zl_len 30 27 _ (Nat.le_of_ble_eq_true rfl) (by decide +kernel))
theorem dL_law_1948 : decode cL_law 1948 = .ok (.ireturn, 1) := zy_0 zK_172 (zrd_ch zl_eq zl_len 30 28 _ (Nat.le_of_ble_eq_true rfl) (by decide +kernel))
end P423_decode_3
section P425_lgood
set_option maxRecDepth 20000 in
theorem ggL_led_X7_led : GoodIn wsL_led wsX7_led := goodIn_ca (goodIn_r _ [6, 7, 8, 9, 10, 11, 12, 13, 14, 15, 16, 17, 18, 19, 20, 21, 22, 23, 24, 25, 26, 27, 28, 29, 30, 31, 32, 33, 34, 35, 36, 37, 38, 39, 40, 41, 42, 43, 44, 45] (by decide +kernel) (by decide +kernel)) (goodIn_sub (fun _ h => List.mem_cons_of_mem _ (List.mem_append_right _ h)) (by decide +kernel))
set_option maxRecDepth 20000 in
theorem gL_led_X7_led : GoodIn wsL_led (wsV RL 7 RX7 yX7_led wsX7_led) := goodIn_app (goodIn_of _ (by decide +kernel)) ggL_led_X7_led
end P425_lgood
section P426_gd
set_option maxRecDepth 20000 in
theorem gd_X7_init : GoodIn wlT (wsX7_init) := gd_s [(0, 9, 42), (0, 6, 1), (2, 3, 48), (60, 0, 14), (58, 0, 11), (61, 0, 41)] rfl (by decide +kernel)
set_option maxRecDepth 20000 in
theorem gd_X8_init : GoodIn wlT (wsX8_init) := gd_s [(4, 5, 2), (0, 11, 2), (2, 10, 1), (4, 7, 16), (59, 0, 40)] rfl (by decide +kernel)
set_option maxRecDepth 20000 in
theorem gd_X7_feed : GoodIn wlT (wsV RL 19 RX7 yX7_feed wsX7_feed) := gd_s [(4, 23, 3), (0, 2, 1), (5, 2, 1), (0, 16, 1), (5, 3, 4), (0, 15, 1), (5, 7, 2), (2, 2, 1), (58, 0, 11), (60, 0, 14)] rfl (by decide +kernel)
set_option maxRecDepth 20000 in
theorem gd_X8_feed : GoodIn wlT (wsV RL 23 RX8 yX8_feed wsX8_feed) := gd_s [(5, 9, 3), (0, 5, 1), (5, 12, 3), (4, 7, 1), (59, 0, 40)] rfl (by decide +kernel)
set_option maxRecDepth 20000 in
theorem gd_X7_gallery : GoodIn wlT (wsV RL 24 RX7 yX7_gallery wsX7_gallery) := gd_s [(5, 15, 3), (0, 2, 1), (5, 18, 1), (0, 16, 1), (5, 3, 1), (5, 19, 1), (1, 19, 1), (5, 20, 1), (1, 20, 1), (1, 17, 1), (0, 20, 1), (5, 21, 1), (1, 5, 1), (1, 9, 1), (5, 22, 3), (0, 2, 1), (6, 1, 5), (1, 18, 1), (6, 6, 3), (0, 15, 1), (6, 9, 1), (5, 8, 1), (6, 10, 5), (2, 5, 1), (6, 15, 9), (1, 16, 1), (7, 0, 5), (2, 16, 1), (7, 5, 1), (2, 11, 2), (7, 6, 4), (2, 2, 1), (7, 10, 115), (2, 3, 1), (12, 5, 17), (1, 0, 1), (12, 22, 2), (2, 21, 2), (13, 0, 8), (2, 14, 1), (13, 8, 4), (2, 13, 1), (13, 12, 7), (0, 19, 1), (13, 19, 4), (3, 3, 2), (13, 23, 9), (1, 4, 1), (14, 8, 6), (1, 8, 1), (14, 14, 7), (58, 0, 11), (60, 0, 14), (66, 0, 15), (62, 0, 4), (61, 0, 7), (63, 0, 12)] rfl (by decide +kernel)
set_option maxRecDepth 20000 in
theorem gd_X8_gallery : GoodIn wlT (wsV RL 27 RX8 yX8_gallery wsX8_gallery) := gd_s [(14, 21, 3), (0, 5, 1), (15, 0, 1), (5, 14, 1), (15, 1, 2), (4, 11, 1), (15, 3, 4), (4, 10, 1), (4, 12, 1), (15, 7, 6), (0, 5, 1), (15, 13, 1), (5, 13, 1), (15, 14, 14), (4, 9, 1), (16, 4, 4), (4, 7, 1), (16, 8, 15), (8, 11, 11), (16, 23, 1), (8, 23, 36), (17, 0, 8), (4, 8, 1), (17, 8, 59), (59, 0, 40)] rfl (by decide +kernel)
set_option maxRecDepth 20000 in
theorem gd_X7_fault : GoodIn wlT (wsV RL 28 RX7 yX7_fault wsX7_fault) := gd_s [(19, 19, 3), (0, 2, 1), (19, 22, 1), (1, 19, 1), (58, 0, 11)] rfl (by decide +kernel)
set_option maxRecDepth 20000 in
theorem gd_X8_fault : GoodIn wlT (wsV RL 32 RX8 yX8_fault wsX8_fault) := gd_s [(19, 23, 3), (0, 5, 1), (20, 2, 1), (5, 13, 1), (15, 1, 1), (59, 0, 40)] rfl (by decide +kernel)
set_option maxRecDepth 20000 in
theorem gd_X7_where : GoodIn wlT (wsV RL 33 RX7 yX7_where wsX7_where) := gd_s [(20, 3, 3), (0, 2, 1), (20, 6, 1), (1, 18, 1), (1, 20, 1), (58, 0, 11)] rfl (by decide +kernel)
set_option maxRecDepth 20000 in
theorem gd_X8_where : GoodIn wlT (wsV RL 36 RX8 yX8_where wsX8_where) := gd_s [(20, 7, 3), (0, 5, 1), (20, 10, 1), (5, 13, 1), (15, 14, 1), (4, 8, 1), (59, 0, 40)] rfl (by decide +kernel)
set_option maxRecDepth 20000 in
theorem gd_X7_figure : GoodIn wlT (wsV RL 37 RX7 yX7_figure wsX7_figure) := gd_s [(20, 11, 3), (0, 2, 1), (20, 14, 1), (1, 17, 1), (20, 15, 2), (0, 20, 1), (20, 17, 5), (0, 2, 1), (20, 22, 1), (5, 22, 8), (1, 18, 1), (14, 17, 4), (20, 23, 3), (0, 19, 1), (21, 2, 1), (13, 21, 1), (12, 9, 2), (58, 0, 11), (66, 0, 15), (61, 0, 7)] rfl (by decide +kernel)
set_option maxRecDepth 20000 in
theorem gd_X8_figure : GoodIn wlT (wsV RL 41 RX8 yX8_figure wsX8_figure) := gd_s [(21, 3, 3), (0, 5, 1), (21, 6, 1), (4, 10, 1), (4, 12, 1), (15, 10, 3), (0, 5, 1), (15, 13, 1), (5, 13, 1), (15, 14, 1), (21, 7, 4), (15, 7, 1), (15, 15, 7), (59, 0, 40)] rfl (by decide +kernel)
set_option maxRecDepth 20000 in
theorem gd_X7_watcher : GoodIn wlT (wsV RL 42 RX7 yX7_watcher wsX7_watcher) := gd_s [(21, 11, 3), (0, 2, 1), (21, 14, 1), (1, 17, 1), (21, 15, 3), (0, 20, 1), (21, 18, 4), (0, 2, 1), (21, 22, 2), (5, 23, 7), (1, 18, 1), (14, 17, 4), (22, 0, 3), (1, 0, 1), (22, 3, 1), (2, 22, 1), (2, 21, 1), (58, 0, 11), (66, 0, 15), (62, 0, 4), (61, 0, 7)] rfl (by decide +kernel)
set_option maxRecDepth 20000 in
theorem gd_X8_watcher : GoodIn wlT (wsV RL 45 RX8 yX8_watcher wsX8_watcher) := gd_s [(22, 4, 3), (0, 5, 1), (22, 7, 1), (4, 10, 1), (4, 12, 1), (15, 10, 3), (0, 5, 1), (15, 13, 1), (5, 13, 1), (15, 14, 1), (22, 8, 4), (15, 7, 1), (15, 15, 7), (22, 12, 4), (4, 16, 2), (22, 16, 5), (59, 0, 40)] rfl (by decide +kernel)
set_option maxRecDepth 20000 in
theorem gd_X7_alive : GoodIn wlT (wsV RL 46 RX7 yX7_alive wsX7_alive) := gd_s [(22, 21, 3), (0, 2, 1), (23, 0, 1), (0, 20, 1), (23, 1, 4), (0, 2, 1), (23, 5, 1), (1, 17, 1), (5, 22, 1), (6, 2, 4), (1, 18, 1), (14, 17, 4), (58, 0, 11), (61, 0, 7), (66, 0, 15)] rfl (by decide +kernel)
set_option maxRecDepth 20000 in
theorem gd_X8_alive : GoodIn wlT (wsV RL 49 RX8 yX8_alive wsX8_alive) := gd_s [(23, 6, 3), (0, 5, 1), (23, 9, 1), (15, 7, 1), (4, 12, 1), (15, 10, 3), (0, 5, 1), (15, 13, 1), (5, 13, 1), (15, 14, 1), (15, 18, 4), (59, 0, 40)] rfl (by decide +kernel)
set_option maxRecDepth 20000 in
theorem gd_X7_left : GoodIn wlT (wsV RL 50 RX7 yX7_left wsX7_left) := gd_s [(23, 10, 3), (0, 2, 1), (23, 13, 1), (1, 17, 1), (23, 14, 1), (0, 20, 1), (23, 15, 1), (23, 2, 3), (0, 2, 1), (23, 5, 1), (5, 22, 1), (6, 2, 4), (1, 18, 1), (14, 17, 4), (58, 0, 11), (66, 0, 15), (61, 0, 7)] rfl (by decide +kernel)
set_option maxRecDepth 20000 in
theorem gd_X8_left : GoodIn wlT (wsV RL 53 RX8 yX8_left wsX8_left) := gd_s [(23, 16, 3), (0, 5, 1), (23, 19, 1), (15, 7, 1), (4, 10, 1), (4, 12, 1), (15, 10, 3), (0, 5, 1), (15, 13, 1), (5, 13, 1), (15, 14, 1), (15, 18, 4), (59, 0, 40)] rfl (by decide +kernel)
set_option maxRecDepth 20000 in
theorem gd_X7_caught : GoodIn wlT (wsV RL 54 RX7 yX7_caught wsX7_caught) := gd_s [(23, 20, 3), (0, 2, 1), (23, 23, 1), (0, 20, 1), (24, 0, 1), (23, 2, 3), (0, 2, 1), (23, 5, 1), (1, 17, 1), (5, 22, 1), (6, 2, 4), (1, 18, 1), (14, 17, 4), (58, 0, 11), (61, 0, 7), (66, 0, 15)] rfl (by decide +kernel)
set_option maxRecDepth 20000 in
theorem gd_X8_caught : GoodIn wlT (wsV RL 57 RX8 yX8_caught wsX8_caught) := gd_s [(24, 1, 3), (0, 5, 1), (24, 4, 1), (15, 7, 1), (4, 12, 1), (15, 10, 3), (0, 5, 1), (15, 13, 1), (5, 13, 1), (15, 14, 1), (15, 18, 4), (59, 0, 40)] rfl (by decide +kernel)
set_option maxRecDepth 20000 in
theorem gd_X7_turnOf : GoodIn wlT (wsV RL 58 RX7 yX7_turnOf wsX7_turnOf) := gd_s [(24, 5, 3), (0, 2, 1), (24, 8, 2), (23, 2, 3), (0, 2, 1), (23, 5, 1), (1, 17, 1), (5, 22, 1), (6, 2, 4), (1, 18, 1), (5, 23, 3), (24, 10, 6), (0, 20, 1), (23, 1, 1), (24, 16, 3), (14, 17, 4), (58, 0, 11), (66, 0, 15), (61, 0, 7)] rfl (by decide +kernel)
set_option maxRecDepth 20000 in
theorem gd_X8_turnOf : GoodIn wlT (wsV RL 61 RX8 yX8_turnOf wsX8_turnOf) := gd_s [(24, 19, 3), (0, 5, 1), (24, 22, 1), (15, 7, 1), (24, 23, 1), (15, 10, 3), (0, 5, 1), (15, 13, 1), (5, 13, 1), (15, 14, 4), (25, 0, 4), (15, 18, 4), (25, 4, 4), (4, 12, 1), (25, 8, 1), (4, 18, 1), (25, 9, 5), (4, 10, 1), (25, 14, 4), (59, 0, 40)] rfl (by decide +kernel)
set_option maxRecDepth 20000 in
theorem gd_X7_turnIn : GoodIn wlT (wsV RL 62 RX7 yX7_turnIn wsX7_turnIn) := gd_s [(25, 18, 3), (0, 2, 1), (25, 21, 1), (0, 20, 1), (23, 1, 1), (1, 17, 1), (5, 22, 1), (20, 19, 3), (0, 2, 1), (20, 22, 1), (5, 23, 7), (1, 18, 1), (14, 17, 4), (25, 22, 3), (1, 16, 1), (26, 1, 1), (7, 1, 1), (26, 2, 2), (58, 0, 11), (61, 0, 7), (66, 0, 15)] rfl (by decide +kernel)
set_option maxRecDepth 20000 in
theorem gd_X8_turnIn : GoodIn wlT (wsV RL 65 RX8 yX8_turnIn wsX8_turnIn) := gd_s [(26, 4, 3), (0, 5, 1), (26, 7, 1), (25, 8, 2), (4, 18, 1), (15, 10, 3), (0, 5, 1), (15, 13, 1), (5, 13, 1), (15, 14, 1), (21, 7, 4), (15, 7, 1), (4, 10, 1), (15, 15, 7), (25, 4, 4), (4, 12, 1), (25, 10, 4), (59, 0, 40)] rfl (by decide +kernel)
set_option maxRecDepth 20000 in
theorem gd_X7_settles : GoodIn wlT (wsV RL 66 RX7 yX7_settles wsX7_settles) := gd_s [(26, 8, 3), (0, 2, 1), (26, 11, 1), (1, 17, 1), (5, 22, 1), (23, 2, 3), (0, 2, 1), (23, 5, 1), (6, 2, 4), (1, 18, 1), (26, 12, 4), (24, 10, 6), (0, 20, 1), (23, 1, 1), (24, 16, 3), (25, 22, 3), (1, 16, 1), (26, 1, 1), (7, 1, 1), (26, 2, 2), (14, 17, 4), (58, 0, 11), (66, 0, 15), (61, 0, 7)] rfl (by decide +kernel)
set_option maxRecDepth 20000 in
theorem gd_X8_settles : GoodIn wlT (wsV RL 69 RX8 yX8_settles wsX8_settles) := gd_s [(26, 16, 3), (0, 5, 1), (26, 19, 1), (15, 7, 1), (25, 8, 1), (15, 10, 3), (0, 5, 1), (15, 13, 1), (5, 13, 1), (15, 14, 1), (15, 18, 4), (25, 4, 4), (4, 12, 1), (4, 18, 1), (25, 9, 5), (4, 10, 1), (59, 0, 40)] rfl (by decide +kernel)
set_option maxRecDepth 20000 in
theorem gd_X7_round : GoodIn wlT (wsV RL 70 RX7 yX7_round wsX7_round) := gd_s [(26, 20, 3), (0, 2, 1), (26, 23, 1), (23, 2, 3), (0, 2, 1), (23, 5, 1), (1, 17, 1), (5, 22, 1), (6, 2, 4), (1, 18, 1), (26, 12, 4), (24, 10, 6), (0, 20, 1), (23, 1, 1), (24, 16, 3), (25, 22, 3), (1, 16, 1), (26, 1, 1), (7, 1, 1), (26, 2, 2), (14, 17, 4), (58, 0, 11), (66, 0, 15), (61, 0, 7)] rfl (by decide +kernel)
set_option maxRecDepth 20000 in
theorem gd_X8_round : GoodIn wlT (wsV RL 73 RX8 yX8_round wsX8_round) := gd_s [(27, 0, 3), (0, 5, 1), (27, 3, 1), (15, 7, 1), (25, 9, 1), (15, 10, 3), (0, 5, 1), (15, 13, 1), (5, 13, 1), (15, 14, 1), (15, 18, 4), (25, 4, 4), (4, 12, 1), (25, 8, 1), (4, 18, 1), (25, 10, 4), (4, 10, 1), (59, 0, 40)] rfl (by decide +kernel)
set_option maxRecDepth 20000 in
theorem gd_X7_called : GoodIn wlT (wsV RL 74 RX7 yX7_called wsX7_called) := gd_s [(27, 4, 3), (0, 2, 1), (27, 7, 1), (0, 20, 1), (23, 1, 1), (1, 17, 1), (5, 22, 1), (23, 2, 3), (0, 2, 1), (23, 5, 1), (6, 2, 4), (1, 18, 1), (25, 22, 3), (1, 16, 1), (26, 1, 1), (7, 1, 1), (26, 2, 2), (14, 17, 4), (58, 0, 11), (61, 0, 7), (66, 0, 15)] rfl (by decide +kernel)
set_option maxRecDepth 20000 in
theorem gd_X8_called : GoodIn wlT (wsV RL 77 RX8 yX8_called wsX8_called) := gd_s [(27, 8, 3), (0, 5, 1), (27, 11, 1), (15, 7, 1), (25, 8, 2), (4, 18, 1), (15, 10, 3), (0, 5, 1), (15, 13, 1), (5, 13, 1), (15, 14, 1), (15, 18, 4), (25, 4, 4), (4, 12, 1), (25, 10, 4), (4, 10, 1), (59, 0, 40)] rfl (by decide +kernel)
set_option maxRecDepth 20000 in
theorem gd_X7_minutesOf : GoodIn wlT (wsV RL 78 RX7 yX7_minutesOf wsX7_minutesOf) := gd_s [(27, 12, 3), (0, 2, 1), (27, 15, 1), (0, 20, 1), (23, 1, 1), (23, 15, 1), (1, 17, 1), (23, 14, 1), (20, 19, 3), (0, 2, 1), (20, 22, 1), (5, 22, 8), (1, 18, 1), (25, 22, 3), (1, 16, 1), (26, 1, 1), (7, 1, 1), (26, 2, 2), (14, 17, 4), (58, 0, 11), (61, 0, 7), (66, 0, 15)] rfl (by decide +kernel)
set_option maxRecDepth 20000 in
theorem gd_X8_minutesOf : GoodIn wlT (wsV RL 81 RX8 yX8_minutesOf wsX8_minutesOf) := gd_s [(27, 16, 3), (0, 5, 1), (27, 19, 1), (4, 12, 1), (4, 10, 1), (15, 10, 3), (0, 5, 1), (15, 13, 1), (5, 13, 1), (15, 14, 1), (21, 7, 4), (15, 7, 1), (15, 15, 3), (25, 0, 4), (15, 18, 4), (25, 4, 5), (4, 18, 1), (25, 9, 9), (59, 0, 40)] rfl (by decide +kernel)
set_option maxRecDepth 20000 in
theorem gd_X7_place : GoodIn wlT (wsV RL 82 RX7 yX7_place wsX7_place) := gd_s [(27, 20, 3), (0, 2, 1), (27, 23, 1), (0, 21, 1), (20, 17, 1), (28, 0, 3), (0, 2, 1), (28, 3, 1), (20, 19, 4), (1, 17, 1), (5, 22, 8), (1, 18, 1), (28, 4, 4), (0, 20, 1), (28, 8, 3), (0, 19, 1), (28, 11, 1), (13, 20, 1), (14, 3, 2), (13, 21, 2), (3, 3, 2), (28, 12, 4), (21, 15, 1), (28, 16, 3), (1, 16, 1), (28, 19, 11), (2, 11, 2), (29, 6, 8), (21, 0, 3), (12, 9, 2), (29, 14, 7), (1, 0, 1), (29, 21, 2), (12, 23, 1), (29, 23, 1), (22, 1, 3), (2, 22, 1), (2, 21, 1), (30, 0, 8), (25, 23, 3), (7, 1, 1), (26, 2, 2), (30, 8, 1), (14, 0, 3), (14, 17, 4), (58, 0, 11), (61, 0, 7), (66, 0, 15), (62, 0, 4)] rfl (by decide +kernel)
set_option maxRecDepth 20000 in
theorem gd_X8_place : GoodIn wlT (wsV RL 85 RX8 yX8_place wsX8_place) := gd_s [(30, 9, 3), (0, 5, 1), (30, 12, 1), (4, 13, 1), (15, 10, 3), (0, 5, 1), (15, 13, 1), (5, 13, 1), (15, 14, 1), (21, 7, 4), (15, 7, 1), (4, 10, 1), (15, 15, 3), (30, 13, 4), (25, 0, 4), (15, 18, 4), (30, 17, 8), (4, 12, 1), (22, 12, 4), (4, 16, 2), (22, 16, 1), (19, 16, 3), (31, 1, 18), (22, 17, 4), (31, 19, 4), (25, 10, 4), (59, 0, 40)] rfl (by decide +kernel)
set_option maxRecDepth 20000 in
theorem gd_X7_watch : GoodIn wlT (wsV RL 86 RX7 yX7_watch wsX7_watch) := gd_s [(31, 23, 3), (0, 2, 1), (32, 2, 1), (1, 17, 1), (21, 15, 1), (0, 20, 1), (21, 18, 4), (0, 2, 1), (21, 22, 2), (5, 23, 7), (1, 18, 1), (22, 0, 3), (1, 0, 1), (22, 3, 1), (2, 22, 1), (2, 21, 1), (14, 17, 4), (58, 0, 11), (66, 0, 15), (61, 0, 11)] rfl (by decide +kernel)
set_option maxRecDepth 20000 in
theorem gd_X8_watch : GoodIn wlT (wsV RL 89 RX8 yX8_watch wsX8_watch) := gd_s [(32, 3, 3), (0, 5, 1), (32, 6, 1), (4, 12, 1), (15, 10, 3), (0, 5, 1), (15, 13, 1), (5, 13, 1), (15, 14, 1), (22, 8, 4), (15, 7, 1), (4, 10, 1), (15, 15, 3), (30, 13, 4), (25, 0, 4), (15, 18, 4), (22, 12, 4), (4, 16, 2), (22, 16, 5), (59, 0, 40)] rfl (by decide +kernel)
set_option maxRecDepth 20000 in
theorem gd_X7_gone : GoodIn wlT (wsV RL 90 RX7 yX7_gone wsX7_gone) := gd_s [(32, 7, 3), (0, 2, 1), (32, 10, 1), (0, 21, 1), (32, 11, 4), (0, 2, 1), (32, 15, 1), (23, 2, 4), (1, 17, 1), (5, 22, 8), (1, 18, 1), (28, 4, 4), (0, 20, 1), (28, 8, 3), (0, 19, 1), (28, 11, 1), (13, 20, 1), (14, 3, 2), (13, 21, 2), (3, 3, 2), (28, 12, 4), (21, 15, 1), (28, 16, 3), (1, 16, 1), (28, 19, 11), (2, 11, 2), (29, 6, 8), (21, 0, 3), (12, 9, 2), (29, 14, 7), (1, 0, 1), (29, 21, 2), (12, 23, 1), (29, 23, 1), (22, 1, 3), (2, 22, 1), (2, 21, 1), (30, 0, 8), (25, 23, 3), (7, 1, 1), (26, 2, 2), (30, 8, 1), (14, 0, 3), (14, 17, 4), (58, 0, 11), (61, 0, 7), (66, 0, 15), (62, 0, 4)] rfl (by decide +kernel)
set_option maxRecDepth 20000 in
theorem gd_X8_gone : GoodIn wlT (wsV RL 93 RX8 yX8_gone wsX8_gone) := gd_s [(32, 16, 3), (0, 5, 1), (32, 19, 1), (15, 7, 1), (4, 13, 1), (15, 10, 3), (0, 5, 1), (15, 13, 1), (5, 13, 1), (15, 14, 1), (30, 13, 4), (15, 15, 3), (25, 0, 4), (15, 18, 4), (30, 17, 8), (4, 12, 1), (22, 12, 4), (4, 10, 1), (4, 16, 2), (22, 16, 1), (19, 16, 3), (31, 1, 18), (22, 17, 4), (31, 19, 4), (25, 10, 4), (59, 0, 40)] rfl (by decide +kernel)
set_option maxRecDepth 20000 in
theorem gd_X7_stairs : GoodIn wlT (wsV RL 94 RX7 yX7_stairs wsX7_stairs) := gd_s [(32, 20, 3), (0, 2, 1), (32, 23, 1), (0, 21, 1), (0, 20, 1), (1, 17, 1), (21, 15, 1), (23, 2, 3), (0, 2, 1), (23, 5, 1), (5, 22, 1), (6, 2, 4), (1, 18, 1), (28, 8, 3), (0, 19, 1), (28, 11, 1), (13, 20, 1), (14, 3, 2), (13, 21, 2), (3, 3, 2), (33, 0, 4), (32, 11, 1), (28, 16, 3), (1, 16, 1), (28, 19, 11), (2, 11, 2), (6, 0, 2), (29, 6, 8), (21, 0, 3), (12, 9, 2), (29, 14, 7), (1, 0, 1), (29, 21, 2), (12, 23, 1), (29, 23, 1), (22, 1, 3), (2, 22, 1), (2, 21, 1), (30, 0, 8), (25, 23, 3), (7, 1, 1), (26, 2, 2), (30, 8, 1), (14, 0, 3), (14, 17, 4), (58, 0, 11), (66, 0, 15), (61, 0, 11)] rfl (by decide +kernel)
set_option maxRecDepth 20000 in
theorem gd_X8_stairs : GoodIn wlT (wsV RL 97 RX8 yX8_stairs wsX8_stairs) := gd_s [(33, 4, 3), (0, 5, 1), (33, 7, 1), (15, 7, 1), (15, 10, 3), (0, 5, 1), (15, 13, 1), (5, 13, 1), (15, 14, 1), (15, 18, 4), (30, 21, 4), (4, 12, 2), (22, 12, 4), (4, 10, 1), (4, 16, 2), (22, 16, 1), (19, 16, 3), (33, 8, 4), (31, 1, 18), (22, 17, 4), (31, 19, 4), (25, 10, 4), (59, 0, 40)] rfl (by decide +kernel)
set_option maxRecDepth 20000 in
theorem gd_X7_catches : GoodIn wlT (wsV RL 98 RX7 yX7_catches wsX7_catches) := gd_s [(33, 12, 3), (0, 2, 1), (33, 15, 1), (0, 21, 1), (24, 0, 1), (0, 20, 1), (32, 12, 3), (0, 2, 1), (32, 15, 1), (23, 2, 4), (1, 17, 1), (5, 22, 8), (1, 18, 1), (28, 4, 7), (0, 19, 1), (28, 11, 1), (13, 20, 1), (14, 3, 2), (13, 21, 2), (3, 3, 2), (28, 12, 4), (21, 15, 1), (28, 16, 3), (1, 16, 1), (28, 19, 11), (2, 11, 2), (29, 6, 8), (21, 0, 3), (12, 9, 2), (29, 14, 7), (1, 0, 1), (29, 21, 2), (12, 23, 1), (29, 23, 1), (22, 1, 3), (2, 22, 1), (2, 21, 1), (30, 0, 8), (25, 23, 3), (7, 1, 1), (26, 2, 2), (30, 8, 1), (14, 0, 3), (14, 17, 4), (58, 0, 11), (61, 0, 7), (66, 0, 15), (62, 0, 4)] rfl (by decide +kernel)
set_option maxRecDepth 20000 in
theorem gd_X8_catches : GoodIn wlT (wsV RL 101 RX8 yX8_catches wsX8_catches) := gd_s [(33, 16, 3), (0, 5, 1), (33, 19, 1), (15, 7, 1), (4, 13, 1), (4, 12, 1), (15, 10, 3), (0, 5, 1), (15, 13, 1), (5, 13, 1), (15, 14, 1), (30, 13, 4), (15, 15, 3), (25, 0, 4), (15, 18, 4), (30, 17, 8), (22, 12, 4), (4, 10, 1), (4, 16, 2), (22, 16, 1), (19, 16, 3), (31, 1, 18), (22, 17, 4), (31, 19, 4), (25, 10, 4), (59, 0, 40)] rfl (by decide +kernel)
set_option maxRecDepth 20000 in
theorem gd_X7_heard : GoodIn wlT (wsV RL 102 RX7 yX7_heard wsX7_heard) := gd_s [(33, 20, 3), (0, 2, 1), (33, 23, 1), (0, 21, 1), (0, 20, 1), (20, 18, 1), (28, 0, 3), (0, 2, 1), (28, 3, 1), (20, 19, 4), (1, 17, 1), (5, 22, 8), (1, 18, 1), (28, 8, 3), (0, 19, 1), (28, 11, 1), (13, 20, 1), (14, 3, 2), (13, 21, 2), (3, 3, 2), (28, 12, 4), (21, 15, 1), (28, 16, 3), (1, 16, 1), (28, 19, 11), (2, 11, 2), (29, 6, 8), (21, 0, 3), (12, 9, 2), (29, 14, 7), (1, 0, 1), (29, 21, 2), (12, 23, 1), (29, 23, 1), (22, 1, 3), (2, 22, 1), (2, 21, 1), (30, 0, 8), (25, 23, 3), (7, 1, 1), (26, 2, 2), (30, 8, 1), (14, 0, 3), (14, 17, 4), (58, 0, 11), (61, 0, 7), (66, 0, 15), (62, 0, 4)] rfl (by decide +kernel)
set_option maxRecDepth 20000 in
theorem gd_X8_heard : GoodIn wlT (wsV RL 105 RX8 yX8_heard wsX8_heard) := gd_s [(34, 0, 3), (0, 5, 1), (34, 3, 1), (4, 13, 1), (15, 10, 3), (0, 5, 1), (15, 13, 1), (5, 13, 1), (15, 14, 1), (21, 7, 4), (15, 7, 1), (4, 10, 1), (15, 15, 3), (30, 13, 4), (25, 0, 4), (15, 18, 4), (30, 21, 4), (4, 12, 1), (22, 12, 4), (4, 16, 2), (22, 16, 1), (19, 16, 3), (31, 1, 18), (22, 17, 4), (31, 19, 4), (25, 10, 4), (59, 0, 40)] rfl (by decide +kernel)
set_option maxRecDepth 20000 in
theorem gd_X7_allIn : GoodIn wlT (wsV RL 106 RX7 yX7_allIn wsX7_allIn) := gd_s [(34, 4, 3), (0, 2, 1), (34, 7, 1), (1, 17, 1), (20, 15, 2), (0, 21, 1), (0, 20, 1), (20, 18, 1), (21, 15, 1), (20, 19, 3), (0, 2, 1), (20, 22, 1), (5, 22, 8), (1, 18, 1), (14, 17, 4), (28, 8, 3), (0, 19, 1), (28, 11, 1), (13, 20, 1), (14, 3, 2), (13, 21, 2), (3, 3, 2), (28, 16, 3), (1, 16, 1), (28, 19, 11), (2, 11, 2), (29, 6, 8), (21, 0, 3), (12, 9, 2), (29, 14, 7), (1, 0, 1), (29, 21, 2), (12, 23, 1), (29, 23, 1), (22, 1, 3), (2, 22, 1), (2, 21, 1), (30, 0, 8), (25, 23, 3), (7, 1, 1), (26, 2, 2), (30, 8, 1), (14, 0, 3), (58, 0, 11), (66, 0, 15), (61, 0, 11)] rfl (by decide +kernel)
set_option maxRecDepth 20000 in
theorem gd_X8_allIn : GoodIn wlT (wsV RL 109 RX8 yX8_allIn wsX8_allIn) := gd_s [(34, 8, 3), (0, 5, 1), (34, 11, 1), (4, 10, 1), (4, 13, 1), (15, 10, 3), (0, 5, 1), (15, 13, 1), (5, 13, 1), (15, 14, 1), (21, 7, 4), (15, 7, 1), (15, 15, 7), (30, 21, 4), (4, 12, 1), (22, 12, 4), (4, 16, 2), (22, 16, 1), (19, 16, 3), (31, 1, 18), (22, 17, 4), (31, 19, 4), (25, 10, 4), (59, 0, 40)] rfl (by decide +kernel)
set_option maxRecDepth 20000 in
theorem gd_X7_meets : GoodIn wlT (wsV RL 110 RX7 yX7_meets wsX7_meets) := gd_s [(34, 12, 3), (0, 2, 1), (34, 15, 1), (0, 21, 1), (0, 20, 1), (1, 17, 1), (21, 15, 1), (21, 18, 4), (0, 2, 1), (21, 22, 2), (5, 23, 7), (1, 18, 1), (28, 8, 3), (0, 19, 1), (28, 11, 1), (13, 20, 1), (14, 3, 2), (13, 21, 2), (3, 3, 2), (22, 0, 3), (1, 0, 1), (22, 3, 1), (2, 22, 1), (2, 21, 1), (34, 16, 4), (23, 1, 1), (20, 17, 1), (28, 16, 3), (1, 16, 1), (28, 19, 11), (2, 11, 2), (29, 6, 8), (21, 0, 3), (12, 9, 2), (29, 14, 9), (12, 23, 1), (29, 23, 9), (25, 23, 3), (7, 1, 1), (26, 2, 2), (30, 8, 1), (14, 0, 3), (20, 23, 1), (14, 17, 4), (58, 0, 11), (66, 0, 15), (61, 0, 11)] rfl (by decide +kernel)
set_option maxRecDepth 20000 in
theorem gd_X8_meets : GoodIn wlT (wsV RL 113 RX8 yX8_meets wsX8_meets) := gd_s [(34, 20, 3), (0, 5, 1), (34, 23, 1), (4, 13, 1), (31, 7, 1), (15, 10, 3), (0, 5, 1), (15, 13, 1), (5, 13, 1), (15, 14, 1), (22, 8, 4), (15, 7, 1), (4, 10, 1), (15, 15, 7), (30, 21, 4), (4, 12, 1), (22, 12, 4), (4, 16, 2), (22, 16, 1), (19, 16, 3), (22, 17, 4), (31, 1, 6), (31, 8, 15), (25, 10, 4), (59, 0, 40)] rfl (by decide +kernel)
set_option maxRecDepth 20000 in
theorem gd_X7_crowd : GoodIn wlT (wsV RL 114 RX7 yX7_crowd wsX7_crowd) := gd_s [(35, 0, 3), (0, 2, 1), (35, 3, 1), (1, 17, 1), (5, 22, 1), (32, 12, 3), (0, 2, 1), (32, 15, 1), (23, 2, 4), (5, 23, 7), (1, 18, 1), (28, 4, 4), (0, 21, 1), (0, 20, 1), (28, 8, 3), (0, 19, 1), (28, 11, 1), (13, 20, 1), (14, 3, 2), (13, 21, 2), (3, 3, 2), (28, 12, 4), (21, 15, 1), (28, 16, 3), (1, 16, 1), (28, 19, 11), (2, 11, 2), (29, 6, 8), (21, 0, 3), (12, 9, 2), (29, 14, 7), (1, 0, 1), (29, 21, 2), (12, 23, 1), (29, 23, 1), (22, 1, 3), (2, 22, 1), (2, 21, 1), (30, 0, 8), (25, 23, 3), (7, 1, 1), (26, 2, 2), (30, 8, 1), (14, 0, 3), (35, 4, 4), (20, 17, 1), (20, 23, 1), (14, 17, 4), (58, 0, 11), (66, 0, 15), (61, 0, 11)] rfl (by decide +kernel)
set_option maxRecDepth 20000 in
theorem gd_X8_crowd : GoodIn wlT (wsV RL 117 RX8 yX8_crowd wsX8_crowd) := gd_s [(35, 8, 3), (0, 5, 1), (35, 11, 1), (15, 7, 1), (4, 10, 1), (4, 13, 1), (15, 10, 3), (0, 5, 1), (15, 13, 1), (5, 13, 1), (15, 14, 1), (30, 13, 4), (15, 15, 3), (25, 0, 4), (15, 18, 4), (30, 17, 8), (4, 12, 1), (22, 12, 4), (4, 16, 2), (22, 16, 1), (19, 16, 3), (31, 1, 18), (22, 17, 4), (31, 19, 4), (25, 10, 4), (59, 0, 40)] rfl (by decide +kernel)
set_option maxRecDepth 20000 in
theorem gd_X7_farthest : GoodIn wlT (wsV RL 118 RX7 yX7_farthest wsX7_farthest) := gd_s [(35, 12, 3), (0, 2, 1), (35, 15, 1), (1, 17, 1), (5, 22, 1), (0, 21, 1), (20, 17, 1), (35, 16, 2), (6, 12, 1), (35, 18, 1), (32, 12, 3), (0, 2, 1), (32, 15, 1), (23, 2, 4), (5, 23, 7), (1, 18, 1), (28, 4, 4), (0, 20, 1), (28, 8, 3), (0, 19, 1), (28, 11, 1), (13, 20, 1), (14, 3, 2), (13, 21, 2), (3, 3, 2), (28, 12, 4), (21, 15, 1), (28, 16, 3), (1, 16, 1), (28, 19, 11), (2, 11, 2), (29, 6, 8), (21, 0, 3), (12, 9, 2), (29, 14, 7), (1, 0, 1), (29, 21, 2), (12, 23, 1), (29, 23, 1), (22, 1, 3), (2, 22, 1), (2, 21, 1), (30, 0, 8), (25, 23, 3), (7, 1, 1), (26, 2, 2), (30, 8, 1), (14, 0, 3), (14, 17, 4), (58, 0, 11), (66, 0, 15), (61, 0, 11)] rfl (by decide +kernel)
set_option maxRecDepth 20000 in
theorem gd_X8_farthest : GoodIn wlT (wsV RL 121 RX8 yX8_farthest wsX8_farthest) := gd_s [(35, 19, 3), (0, 5, 1), (35, 22, 1), (15, 7, 1), (4, 10, 1), (4, 13, 1), (15, 10, 3), (0, 5, 1), (15, 13, 1), (5, 13, 1), (15, 14, 1), (30, 13, 4), (15, 15, 3), (25, 0, 4), (15, 18, 4), (30, 17, 8), (4, 12, 1), (22, 12, 4), (4, 16, 2), (22, 16, 1), (19, 16, 3), (31, 1, 18), (22, 17, 4), (31, 19, 4), (25, 10, 4), (35, 23, 3), (59, 0, 40)] rfl (by decide +kernel)
set_option maxRecDepth 20000 in
theorem gd_X7_nearBy : GoodIn wlT (wsV RL 122 RX7 yX7_nearBy wsX7_nearBy) := gd_s [(36, 2, 3), (0, 2, 1), (36, 5, 1), (0, 21, 1), (0, 20, 1), (1, 17, 1), (21, 15, 1), (21, 18, 1), (20, 17, 1), (28, 0, 3), (0, 2, 1), (28, 3, 1), (20, 19, 4), (5, 22, 8), (1, 18, 1), (28, 8, 3), (0, 19, 1), (28, 11, 1), (13, 20, 1), (14, 3, 2), (13, 21, 2), (3, 3, 2), (36, 6, 1), (29, 19, 2), (1, 0, 1), (29, 21, 2), (12, 23, 1), (29, 23, 1), (22, 1, 3), (2, 22, 1), (2, 21, 1), (28, 16, 3), (1, 16, 1), (28, 19, 11), (2, 11, 2), (29, 6, 8), (21, 0, 3), (12, 9, 2), (29, 14, 5), (30, 0, 8), (25, 23, 3), (7, 1, 1), (26, 2, 2), (30, 8, 1), (14, 0, 3), (20, 23, 1), (36, 7, 1), (14, 17, 4), (58, 0, 11), (66, 0, 15), (61, 0, 11)] rfl (by decide +kernel)
set_option maxRecDepth 20000 in
theorem gd_X8_nearBy : GoodIn wlT (wsV RL 125 RX8 yX8_nearBy wsX8_nearBy) := gd_s [(36, 8, 3), (0, 5, 1), (36, 11, 1), (4, 13, 1), (15, 10, 3), (0, 5, 1), (15, 13, 1), (5, 13, 1), (15, 14, 1), (21, 7, 4), (15, 7, 1), (4, 10, 1), (15, 15, 3), (30, 13, 4), (25, 0, 4), (15, 18, 4), (30, 21, 4), (4, 12, 1), (22, 12, 4), (4, 16, 2), (22, 16, 1), (19, 16, 3), (31, 1, 18), (22, 17, 4), (31, 19, 4), (25, 10, 4), (59, 0, 40)] rfl (by decide +kernel)
set_option maxRecDepth 20000 in
theorem gd_X7_spoken : GoodIn wlT (wsV RL 126 RX7 yX7_spoken wsX7_spoken) := gd_s [(36, 12, 3), (0, 2, 1), (36, 15, 1), (0, 21, 1), (0, 20, 1), (23, 1, 1), (1, 17, 1), (23, 15, 1), (21, 15, 1), (28, 0, 3), (0, 2, 1), (28, 3, 1), (20, 19, 4), (5, 22, 8), (1, 18, 1), (28, 8, 3), (0, 19, 1), (28, 11, 1), (13, 20, 1), (14, 3, 2), (13, 21, 2), (3, 3, 2), (36, 16, 1), (30, 1, 2), (1, 16, 1), (30, 3, 1), (2, 11, 2), (28, 16, 22), (21, 0, 3), (12, 9, 2), (29, 14, 7), (1, 0, 1), (29, 21, 2), (12, 23, 1), (29, 23, 1), (22, 1, 3), (2, 22, 1), (2, 21, 1), (30, 0, 1), (30, 4, 4), (25, 23, 3), (7, 1, 1), (26, 2, 2), (30, 8, 1), (14, 0, 3), (14, 17, 4), (58, 0, 11), (61, 0, 7), (66, 0, 15), (62, 0, 4)] rfl (by decide +kernel)
set_option maxRecDepth 20000 in
theorem gd_X8_spoken : GoodIn wlT (wsV RL 129 RX8 yX8_spoken wsX8_spoken) := gd_s [(36, 17, 3), (0, 5, 1), (36, 20, 1), (4, 13, 1), (31, 6, 1), (31, 5, 1), (15, 10, 3), (0, 5, 1), (15, 13, 1), (5, 13, 1), (15, 14, 1), (21, 7, 4), (15, 7, 1), (4, 10, 1), (15, 15, 3), (30, 13, 4), (25, 0, 4), (15, 18, 4), (30, 21, 4), (4, 12, 1), (22, 12, 4), (4, 16, 2), (22, 16, 1), (19, 16, 3), (31, 1, 4), (31, 7, 12), (22, 17, 4), (31, 19, 4), (25, 10, 4), (59, 0, 40)] rfl (by decide +kernel)
set_option maxRecDepth 20000 in
theorem gd_X7_route : GoodIn wlT (wsV RL 130 RX7 yX7_route wsX7_route) := gd_s [(36, 21, 3), (0, 2, 1), (37, 0, 1), (1, 13, 1), (37, 1, 3), (0, 2, 1), (37, 4, 1), (1, 17, 1), (5, 22, 8), (1, 18, 1), (37, 5, 4), (0, 21, 1), (0, 20, 1), (28, 8, 3), (0, 19, 1), (28, 11, 1), (13, 20, 1), (14, 3, 2), (13, 21, 2), (3, 3, 2), (34, 16, 4), (23, 1, 1), (21, 15, 1), (20, 17, 1), (28, 16, 3), (1, 16, 1), (28, 19, 11), (2, 11, 2), (29, 6, 8), (21, 0, 3), (12, 9, 2), (29, 14, 7), (1, 0, 1), (29, 21, 2), (12, 23, 1), (29, 23, 1), (22, 1, 3), (2, 22, 1), (2, 21, 1), (30, 0, 8), (25, 23, 3), (7, 1, 1), (26, 2, 2), (30, 8, 1), (14, 0, 3), (20, 23, 1), (37, 9, 3), (1, 12, 1), (37, 12, 1), (4, 0, 1), (37, 13, 5), (6, 11, 3), (37, 18, 1), (4, 1, 1), (37, 19, 12), (14, 17, 4), (58, 0, 11), (66, 0, 15), (61, 0, 11), (65, 0, 3)] rfl (by decide +kernel)
set_option maxRecDepth 20000 in
theorem gd_X8_route : GoodIn wlT (wsV RL 133 RX8 yX8_route wsX8_route) := gd_s [(38, 7, 3), (0, 5, 1), (38, 10, 1), (4, 20, 1), (15, 10, 3), (0, 5, 1), (15, 13, 1), (5, 13, 1), (15, 14, 1), (38, 11, 4), (21, 7, 4), (15, 7, 1), (4, 10, 1), (15, 15, 3), (25, 0, 4), (15, 18, 4), (38, 15, 4), (4, 13, 1), (4, 19, 1), (31, 7, 1), (30, 21, 4), (4, 12, 1), (22, 12, 4), (4, 16, 2), (22, 16, 1), (19, 16, 3), (31, 1, 6), (31, 8, 11), (22, 17, 4), (31, 19, 4), (25, 10, 4), (38, 19, 4), (59, 0, 40)] rfl (by decide +kernel)
set_option maxRecDepth 20000 in
theorem gd_X7_routeAt : GoodIn wlT (wsV RL 134 RX7 yX7_routeAt wsX7_routeAt) := gd_s [(38, 23, 3), (0, 2, 1), (39, 2, 1), (1, 13, 1), (37, 1, 3), (0, 2, 1), (37, 4, 1), (1, 17, 1), (5, 22, 8), (1, 18, 1), (37, 5, 4), (0, 21, 1), (0, 20, 1), (28, 8, 3), (0, 19, 1), (28, 11, 1), (13, 20, 1), (14, 3, 2), (13, 21, 2), (3, 3, 2), (34, 16, 4), (23, 1, 1), (21, 15, 1), (20, 17, 1), (28, 16, 3), (1, 16, 1), (28, 19, 11), (2, 11, 2), (29, 6, 8), (21, 0, 3), (12, 9, 2), (29, 14, 7), (1, 0, 1), (29, 21, 2), (12, 23, 1), (29, 23, 1), (22, 1, 3), (2, 22, 1), (2, 21, 1), (30, 0, 8), (25, 23, 3), (7, 1, 1), (26, 2, 2), (30, 8, 1), (14, 0, 3), (20, 23, 1), (37, 9, 3), (1, 12, 1), (37, 12, 1), (4, 0, 1), (37, 13, 5), (6, 11, 3), (37, 18, 1), (4, 1, 1), (37, 19, 8), (39, 3, 4), (14, 17, 4), (58, 0, 11), (66, 0, 15), (61, 0, 11), (65, 0, 3)] rfl (by decide +kernel)
set_option maxRecDepth 20000 in
theorem gd_X8_routeAt : GoodIn wlT (wsV RL 138 RX8 yX8_routeAt wsX8_routeAt) := gd_s [(39, 7, 3), (0, 5, 1), (39, 10, 1), (15, 10, 3), (0, 5, 1), (15, 13, 1), (5, 13, 1), (15, 14, 1), (38, 11, 4), (21, 7, 4), (15, 7, 1), (4, 10, 1), (15, 15, 3), (25, 0, 4), (15, 18, 4), (38, 15, 4), (4, 13, 1), (4, 19, 1), (31, 7, 1), (4, 20, 1), (30, 21, 4), (4, 12, 1), (22, 12, 4), (4, 16, 2), (22, 16, 1), (19, 16, 3), (31, 1, 6), (31, 8, 11), (22, 17, 4), (31, 19, 4), (25, 10, 4), (38, 19, 4), (59, 0, 40)] rfl (by decide +kernel)
set_option maxRecDepth 20000 in
theorem gd_X7_stand : GoodIn wlT (wsV RL 139 RX7 yX7_stand wsX7_stand) := gd_s [(39, 11, 3), (0, 2, 1), (39, 14, 1), (1, 17, 1), (5, 22, 1), (1, 13, 1), (32, 12, 3), (0, 2, 1), (32, 15, 1), (23, 2, 4), (5, 23, 7), (1, 18, 1), (37, 5, 4), (0, 21, 1), (0, 20, 1), (28, 8, 3), (0, 19, 1), (28, 11, 1), (13, 20, 1), (14, 3, 2), (13, 21, 2), (3, 3, 2), (34, 16, 4), (23, 1, 1), (21, 15, 1), (20, 17, 1), (28, 16, 3), (1, 16, 1), (28, 19, 11), (2, 11, 2), (29, 6, 8), (21, 0, 3), (12, 9, 2), (29, 14, 7), (1, 0, 1), (29, 21, 2), (12, 23, 1), (29, 23, 1), (22, 1, 3), (2, 22, 1), (2, 21, 1), (30, 0, 8), (25, 23, 3), (7, 1, 1), (26, 2, 2), (30, 8, 1), (14, 0, 3), (20, 23, 1), (37, 9, 3), (1, 12, 1), (37, 12, 1), (4, 0, 1), (37, 13, 5), (6, 11, 3), (37, 18, 1), (4, 1, 1), (37, 19, 12), (14, 17, 4), (58, 0, 11), (66, 0, 15), (61, 0, 11), (65, 0, 3)] rfl (by decide +kernel)
set_option maxRecDepth 20000 in
theorem gd_X8_stand : GoodIn wlT (wsV RL 142 RX8 yX8_stand wsX8_stand) := gd_s [(39, 15, 3), (0, 5, 1), (39, 18, 1), (15, 7, 1), (4, 10, 1), (4, 20, 1), (15, 10, 3), (0, 5, 1), (15, 13, 1), (5, 13, 1), (15, 14, 4), (25, 0, 4), (15, 18, 4), (38, 15, 4), (4, 13, 1), (4, 19, 1), (31, 7, 1), (30, 21, 4), (4, 12, 1), (22, 12, 4), (4, 16, 2), (22, 16, 1), (19, 16, 3), (31, 1, 6), (31, 8, 11), (22, 17, 4), (31, 19, 4), (25, 10, 4), (38, 19, 4), (59, 0, 40)] rfl (by decide +kernel)
set_option maxRecDepth 20000 in
theorem gd_X7_guard : GoodIn wlT (wsV RL 143 RX7 yX7_guard wsX7_guard) := gd_s [(39, 19, 3), (0, 2, 1), (39, 22, 1), (1, 1, 1), (1, 17, 1), (21, 15, 1), (5, 22, 1), (32, 12, 3), (0, 2, 1), (32, 15, 1), (23, 2, 4), (5, 23, 7), (1, 18, 1), (39, 23, 3), (1, 0, 1), (40, 2, 1), (12, 23, 1), (29, 22, 1), (2, 21, 2), (40, 3, 5), (0, 21, 1), (0, 20, 1), (28, 8, 3), (0, 19, 1), (28, 11, 1), (13, 20, 1), (14, 3, 2), (13, 21, 2), (3, 3, 2), (33, 0, 4), (32, 11, 1), (28, 16, 3), (1, 16, 1), (28, 19, 11), (2, 11, 2), (29, 6, 8), (21, 0, 3), (12, 9, 2), (29, 14, 8), (29, 23, 1), (22, 1, 3), (30, 0, 8), (25, 23, 3), (7, 1, 1), (26, 2, 2), (30, 8, 1), (14, 0, 3), (14, 17, 4), (58, 0, 11), (66, 0, 15), (62, 0, 4), (61, 0, 7)] rfl (by decide +kernel)
set_option maxRecDepth 20000 in
theorem gd_X8_guard : GoodIn wlT (wsV RL 146 RX8 yX8_guard wsX8_guard) := gd_s [(40, 8, 3), (0, 5, 1), (40, 11, 1), (15, 7, 1), (4, 10, 1), (22, 16, 1), (4, 13, 1), (4, 12, 1), (15, 10, 3), (0, 5, 1), (15, 13, 1), (5, 13, 1), (15, 14, 4), (25, 0, 4), (15, 18, 4), (40, 12, 3), (30, 21, 4), (22, 12, 4), (4, 16, 2), (19, 16, 3), (31, 1, 18), (22, 17, 4), (31, 19, 4), (25, 10, 4), (59, 0, 40)] rfl (by decide +kernel)
set_option maxRecDepth 20000 in
theorem gd_X7_windBest : GoodIn wlT (wsV RL 147 RX7 yX7_windBest wsX7_windBest) := gd_s [(40, 15, 3), (0, 2, 1), (40, 18, 1), (1, 17, 1), (5, 22, 1), (0, 21, 1), (0, 20, 1), (21, 15, 1), (23, 2, 3), (0, 2, 1), (23, 5, 1), (6, 2, 4), (1, 18, 1), (28, 8, 3), (0, 19, 1), (28, 11, 1), (13, 20, 1), (14, 3, 2), (13, 21, 2), (3, 3, 2), (40, 19, 1), (14, 0, 3), (33, 0, 4), (32, 11, 1), (28, 16, 3), (1, 16, 1), (28, 19, 11), (2, 11, 2), (6, 0, 2), (29, 6, 8), (21, 0, 3), (12, 9, 2), (29, 14, 7), (1, 0, 1), (29, 21, 2), (12, 23, 1), (29, 23, 1), (22, 1, 3), (2, 22, 1), (2, 21, 1), (30, 0, 8), (25, 23, 3), (7, 1, 1), (26, 2, 2), (30, 8, 1), (14, 17, 4), (58, 0, 11), (66, 0, 15), (61, 0, 11)] rfl (by decide +kernel)
set_option maxRecDepth 20000 in
theorem gd_X8_windBest : GoodIn wlT (wsV RL 150 RX8 yX8_windBest wsX8_windBest) := gd_s [(40, 20, 3), (0, 5, 1), (40, 23, 1), (15, 7, 1), (4, 10, 1), (4, 13, 1), (15, 10, 3), (0, 5, 1), (15, 13, 1), (5, 13, 1), (15, 14, 1), (15, 18, 4), (30, 21, 4), (4, 12, 1), (22, 12, 4), (4, 16, 2), (22, 16, 1), (19, 16, 3), (33, 8, 4), (31, 1, 18), (22, 17, 4), (31, 19, 4), (25, 10, 4), (59, 0, 40)] rfl (by decide +kernel)
set_option maxRecDepth 20000 in
theorem gd_X7_patrol : GoodIn wlT (wsV RL 151 RX7 yX7_patrol wsX7_patrol) := gd_s [(41, 0, 3), (0, 2, 1), (41, 3, 1), (1, 1, 1), (1, 17, 1), (21, 15, 1), (5, 22, 1), (21, 16, 2), (0, 21, 1), (32, 11, 1), (24, 0, 1), (21, 19, 3), (0, 2, 1), (21, 22, 2), (5, 23, 7), (1, 18, 1), (39, 23, 3), (1, 0, 1), (40, 2, 1), (12, 23, 1), (29, 22, 1), (2, 21, 2), (41, 4, 4), (0, 20, 1), (28, 8, 3), (0, 19, 1), (28, 11, 1), (13, 20, 1), (14, 3, 2), (13, 21, 2), (3, 3, 2), (28, 16, 3), (1, 16, 1), (28, 19, 11), (2, 11, 2), (29, 6, 8), (21, 0, 3), (12, 9, 2), (29, 14, 8), (29, 23, 1), (22, 1, 3), (30, 0, 8), (25, 23, 3), (7, 1, 1), (26, 2, 2), (30, 8, 1), (14, 0, 3), (41, 8, 1), (11, 15, 6), (14, 17, 4), (58, 0, 11), (66, 0, 15), (62, 0, 4), (61, 0, 7)] rfl (by decide +kernel)
set_option maxRecDepth 20000 in
theorem gd_X8_patrol : GoodIn wlT (wsV RL 154 RX8 yX8_patrol wsX8_patrol) := gd_s [(41, 9, 3), (0, 5, 1), (41, 12, 2), (4, 10, 1), (4, 16, 2), (4, 13, 1), (15, 10, 3), (0, 5, 1), (15, 13, 1), (5, 13, 1), (15, 14, 1), (22, 8, 4), (15, 7, 1), (15, 15, 3), (25, 0, 4), (15, 18, 4), (30, 21, 4), (4, 12, 1), (22, 12, 5), (19, 16, 3), (31, 1, 18), (22, 17, 4), (31, 19, 4), (25, 10, 4), (40, 12, 3), (59, 0, 40)] rfl (by decide +kernel)
set_option maxRecDepth 20000 in
theorem gd_X7_fits : GoodIn wlT (wsV RL 155 RX7 yX7_fits wsX7_fits) := gd_s [(41, 14, 3), (0, 2, 1), (41, 17, 1), (1, 9, 1), (1, 17, 1), (41, 18, 1), (23, 2, 3), (0, 2, 1), (23, 5, 1), (5, 22, 1), (6, 2, 4), (1, 18, 1), (41, 19, 3), (1, 8, 1), (41, 22, 1), (14, 15, 1), (41, 23, 9), (3, 18, 1), (42, 8, 3), (1, 16, 1), (42, 11, 1), (29, 1, 1), (7, 1, 1), (24, 17, 2), (14, 17, 4), (58, 0, 11), (64, 0, 7), (66, 0, 15)] rfl (by decide +kernel)
set_option maxRecDepth 20000 in
theorem gd_X8_fits : GoodIn wlT (wsV RL 158 RX8 yX8_fits wsX8_fits) := gd_s [(42, 12, 3), (0, 5, 1), (42, 15, 1), (15, 7, 1), (15, 10, 3), (0, 5, 1), (15, 13, 1), (5, 13, 1), (15, 14, 1), (15, 18, 4), (42, 16, 4), (4, 10, 1), (42, 20, 12), (4, 21, 1), (59, 0, 40)] rfl (by decide +kernel)
set_option maxRecDepth 20000 in
theorem gd_X7_fitAt : GoodIn wlT (wsV RL 159 RX7 yX7_fitAt wsX7_fitAt) := gd_s [(43, 8, 3), (0, 2, 1), (43, 11, 1), (1, 9, 1), (1, 17, 1), (41, 18, 1), (43, 12, 1), (23, 2, 3), (0, 2, 1), (23, 5, 1), (5, 22, 1), (6, 2, 4), (1, 18, 1), (41, 19, 3), (1, 8, 1), (41, 22, 1), (14, 15, 1), (41, 23, 9), (3, 18, 1), (42, 8, 3), (1, 16, 1), (42, 11, 1), (29, 1, 1), (7, 1, 1), (24, 17, 2), (5, 23, 3), (14, 17, 4), (58, 0, 11), (64, 0, 7), (66, 0, 15)] rfl (by decide +kernel)
set_option maxRecDepth 20000 in
theorem gd_X8_fitAt : GoodIn wlT (wsV RL 162 RX8 yX8_fitAt wsX8_fitAt) := gd_s [(43, 13, 3), (0, 5, 1), (43, 16, 1), (15, 7, 1), (15, 10, 3), (0, 5, 1), (15, 13, 1), (5, 13, 1), (15, 14, 1), (15, 18, 4), (42, 16, 4), (4, 10, 1), (42, 20, 12), (4, 21, 1), (43, 17, 4), (59, 0, 40)] rfl (by decide +kernel)
set_option maxRecDepth 20000 in
theorem gd_X7_could : GoodIn wlT (wsV RL 163 RX7 yX7_could wsX7_could) := gd_s [(43, 21, 3), (0, 2, 1), (44, 0, 1), (1, 9, 1), (1, 17, 1), (41, 18, 1), (43, 12, 1), (32, 12, 3), (0, 2, 1), (32, 15, 1), (23, 2, 4), (5, 22, 8), (1, 18, 1), (41, 19, 3), (1, 8, 1), (41, 22, 1), (14, 15, 1), (41, 23, 9), (3, 18, 1), (42, 8, 3), (1, 16, 1), (42, 11, 1), (29, 1, 1), (7, 1, 1), (24, 17, 2), (44, 1, 1), (14, 17, 4), (58, 0, 11), (64, 0, 7), (66, 0, 15)] rfl (by decide +kernel)
set_option maxRecDepth 20000 in
theorem gd_X8_could : GoodIn wlT (wsV RL 166 RX8 yX8_could wsX8_could) := gd_s [(44, 2, 3), (0, 5, 1), (44, 5, 1), (15, 7, 1), (4, 10, 1), (4, 22, 1), (15, 10, 3), (0, 5, 1), (15, 13, 1), (5, 13, 1), (15, 14, 4), (25, 0, 4), (15, 18, 4), (44, 6, 4), (42, 16, 16), (4, 21, 1), (59, 0, 40)] rfl (by decide +kernel)
set_option maxRecDepth 20000 in
theorem gd_X7_aliveBy : GoodIn wlT (wsV RL 167 RX7 yX7_aliveBy wsX7_aliveBy) := gd_s [(44, 10, 3), (0, 2, 1), (44, 13, 1), (1, 9, 1), (1, 17, 1), (41, 18, 1), (43, 12, 1), (28, 0, 3), (0, 2, 1), (28, 3, 1), (20, 19, 4), (5, 22, 8), (1, 18, 1), (41, 19, 3), (1, 8, 1), (41, 22, 1), (14, 15, 1), (41, 23, 9), (3, 18, 1), (42, 8, 3), (1, 16, 1), (42, 11, 1), (29, 1, 1), (7, 1, 1), (24, 17, 2), (44, 1, 1), (14, 17, 4), (58, 0, 11), (64, 0, 7), (66, 0, 15)] rfl (by decide +kernel)
set_option maxRecDepth 20000 in
theorem gd_X8_aliveBy : GoodIn wlT (wsV RL 170 RX8 yX8_aliveBy wsX8_aliveBy) := gd_s [(44, 14, 3), (0, 5, 1), (44, 17, 1), (4, 10, 1), (4, 22, 1), (15, 10, 3), (0, 5, 1), (15, 13, 1), (5, 13, 1), (15, 14, 1), (21, 7, 4), (15, 7, 1), (15, 15, 3), (25, 0, 4), (15, 18, 4), (44, 6, 4), (42, 16, 16), (4, 21, 1), (59, 0, 40)] rfl (by decide +kernel)
set_option maxRecDepth 20000 in
theorem gd_X7_look : GoodIn wlT (wsV RL 171 RX7 yX7_look wsX7_look) := gd_s [(44, 18, 3), (0, 2, 1), (44, 21, 1), (1, 9, 1), (1, 17, 1), (44, 22, 1), (23, 2, 3), (0, 2, 1), (23, 5, 1), (5, 22, 1), (6, 2, 4), (1, 18, 1), (44, 23, 3), (1, 8, 1), (45, 2, 1), (14, 16, 1), (45, 3, 2), (41, 23, 1), (45, 5, 1), (42, 0, 1), (45, 6, 1), (41, 20, 3), (14, 15, 1), (42, 1, 7), (3, 18, 1), (42, 8, 3), (1, 16, 1), (42, 11, 1), (29, 1, 1), (7, 1, 1), (24, 17, 2), (45, 7, 4), (3, 19, 1), (45, 11, 6), (6, 12, 1), (45, 17, 1), (14, 17, 4), (58, 0, 11), (64, 0, 7), (66, 0, 15)] rfl (by decide +kernel)
set_option maxRecDepth 20000 in
theorem gd_X8_look : GoodIn wlT (wsV RL 174 RX8 yX8_look wsX8_look) := gd_s [(45, 18, 3), (0, 5, 1), (45, 21, 1), (15, 7, 1), (15, 10, 3), (0, 5, 1), (15, 13, 1), (5, 13, 1), (15, 14, 1), (45, 22, 5), (4, 10, 1), (4, 22, 1), (44, 6, 4), (42, 16, 16), (4, 21, 1), (15, 18, 4), (59, 0, 40)] rfl (by decide +kernel)
set_option maxRecDepth 20000 in
theorem gd_X7_lookLeaves : GoodIn wlT (wsV RL 175 RX7 yX7_lookLeaves wsX7_lookLeaves) := gd_s [(46, 3, 3), (0, 2, 1), (46, 6, 1), (1, 9, 1), (1, 17, 1), (46, 7, 1), (23, 2, 3), (0, 2, 1), (23, 5, 1), (5, 22, 1), (6, 2, 4), (1, 18, 1), (44, 23, 3), (1, 8, 1), (45, 2, 1), (14, 16, 1), (45, 3, 2), (41, 23, 1), (45, 5, 1), (42, 0, 1), (45, 6, 1), (41, 20, 3), (14, 15, 1), (42, 1, 7), (3, 18, 1), (42, 8, 3), (1, 16, 1), (42, 11, 1), (29, 1, 1), (7, 1, 1), (24, 17, 2), (45, 7, 4), (3, 19, 1), (45, 11, 6), (6, 12, 1), (45, 17, 1), (14, 17, 4), (58, 0, 11), (64, 0, 7), (66, 0, 15)] rfl (by decide +kernel)
set_option maxRecDepth 20000 in
theorem gd_X8_lookLeaves : GoodIn wlT (wsV RL 178 RX8 yX8_lookLeaves wsX8_lookLeaves) := gd_s [(46, 8, 3), (0, 5, 1), (46, 11, 1), (15, 7, 1), (46, 2, 1), (15, 10, 3), (0, 5, 1), (15, 13, 1), (5, 13, 1), (15, 14, 1), (15, 18, 4), (45, 22, 4), (4, 10, 1), (4, 22, 1), (44, 6, 4), (42, 16, 16), (4, 21, 1), (59, 0, 40)] rfl (by decide +kernel)
set_option maxRecDepth 20000 in
theorem gd_X7_lawsLike : GoodIn wlT (wsV RL 179 RX7 yX7_lawsLike wsX7_lawsLike) := gd_s [(46, 12, 3), (0, 2, 1), (46, 15, 1), (1, 17, 1), (5, 22, 1), (23, 2, 3), (0, 2, 1), (23, 5, 1), (6, 2, 4), (1, 18, 1), (46, 16, 3), (1, 16, 1), (46, 19, 2), (7, 1, 1), (30, 7, 1), (25, 23, 5), (14, 17, 4), (58, 0, 11), (66, 0, 15)] rfl (by decide +kernel)
set_option maxRecDepth 20000 in
theorem gd_X8_lawsLike : GoodIn wlT (wsV RL 182 RX8 yX8_lawsLike wsX8_lawsLike) := gd_s [(46, 21, 3), (0, 5, 1), (47, 0, 1), (15, 7, 1), (4, 10, 1), (15, 10, 3), (0, 5, 1), (15, 13, 1), (5, 13, 1), (15, 14, 1), (15, 18, 4), (42, 16, 4), (43, 0, 8), (4, 21, 1), (59, 0, 40)] rfl (by decide +kernel)
set_option maxRecDepth 20000 in
theorem gd_X7_lawFor : GoodIn wlT (wsV RL 183 RX7 yX7_lawFor wsX7_lawFor) := gd_s [(47, 1, 3), (0, 2, 1), (47, 4, 1), (28, 0, 3), (0, 2, 1), (28, 3, 1), (20, 19, 4), (1, 17, 1), (5, 22, 8), (1, 18, 1), (14, 17, 4), (58, 0, 11), (66, 0, 15)] rfl (by decide +kernel)
set_option maxRecDepth 20000 in
theorem gd_X8_lawFor : GoodIn wlT (wsV RL 186 RX8 yX8_lawFor wsX8_lawFor) := gd_s [(47, 5, 3), (0, 5, 1), (47, 8, 1), (15, 10, 3), (0, 5, 1), (15, 13, 1), (5, 13, 1), (15, 14, 1), (21, 7, 4), (15, 7, 1), (4, 10, 1), (15, 15, 3), (25, 0, 4), (15, 18, 4), (43, 0, 8), (4, 21, 1), (43, 17, 4), (59, 0, 40)] rfl (by decide +kernel)
set_option maxRecDepth 20000 in
theorem gd_X7_judge : GoodIn wlT (wsV RL 187 RX7 yX7_judge wsX7_judge) := gd_s [(47, 9, 3), (0, 2, 1), (47, 12, 1), (1, 17, 1), (24, 14, 2), (5, 21, 1), (47, 13, 3), (23, 2, 3), (0, 2, 1), (23, 5, 1), (5, 22, 1), (6, 2, 4), (1, 18, 1), (44, 1, 1), (42, 9, 2), (1, 16, 1), (42, 11, 1), (29, 1, 1), (7, 1, 1), (24, 17, 2), (14, 17, 4), (58, 0, 11), (66, 0, 15)] rfl (by decide +kernel)
set_option maxRecDepth 20000 in
theorem gd_X8_judge : GoodIn wlT (wsV RL 190 RX8 yX8_judge wsX8_judge) := gd_s [(47, 16, 3), (0, 5, 1), (47, 19, 1), (15, 7, 1), (4, 10, 1), (15, 10, 3), (0, 5, 1), (15, 13, 1), (5, 13, 1), (15, 14, 1), (15, 18, 4), (43, 4, 4), (4, 21, 1), (59, 0, 40)] rfl (by decide +kernel)
set_option maxRecDepth 20000 in
theorem gd_X7_dares : GoodIn wlT (wsV RL 191 RX7 yX7_dares wsX7_dares) := gd_s [(47, 20, 3), (0, 2, 1), (47, 23, 1), (1, 18, 1), (32, 12, 3), (0, 2, 1), (32, 15, 1), (23, 2, 4), (1, 17, 1), (5, 22, 4), (48, 0, 6), (14, 17, 4), (58, 0, 11), (66, 0, 15)] rfl (by decide +kernel)
set_option maxRecDepth 20000 in
theorem gd_X8_dares : GoodIn wlT (wsV RL 195 RX8 yX8_dares wsX8_dares) := gd_s [(48, 6, 3), (0, 5, 1), (48, 9, 1), (15, 7, 1), (15, 14, 1), (15, 10, 3), (0, 5, 1), (15, 13, 1), (5, 13, 1), (15, 15, 3), (25, 0, 4), (48, 10, 6), (59, 0, 40)] rfl (by decide +kernel)
set_option maxRecDepth 20000 in
theorem gd_X7_rests : GoodIn wlT (wsV RL 196 RX7 yX7_rests wsX7_rests) := gd_s [(48, 16, 3), (0, 2, 1), (48, 19, 1), (32, 12, 3), (0, 2, 1), (32, 15, 1), (23, 2, 4), (1, 17, 1), (5, 22, 8), (1, 18, 1), (48, 20, 3), (48, 3, 3), (48, 0, 3), (14, 17, 4), (58, 0, 11), (66, 0, 15)] rfl (by decide +kernel)
set_option maxRecDepth 20000 in
theorem gd_X8_rests : GoodIn wlT (wsV RL 199 RX8 yX8_rests wsX8_rests) := gd_s [(48, 23, 3), (0, 5, 1), (49, 2, 1), (15, 7, 1), (15, 10, 3), (0, 5, 1), (15, 13, 1), (5, 13, 1), (15, 14, 4), (25, 0, 4), (15, 18, 4), (49, 3, 5), (48, 13, 3), (48, 10, 3), (59, 0, 40)] rfl (by decide +kernel)
set_option maxRecDepth 20000 in
theorem gd_X7_rest : GoodIn wlT (wsV RL 200 RX7 yX7_rest wsX7_rest) := gd_s [(49, 8, 3), (0, 2, 1), (49, 11, 1), (32, 12, 3), (0, 2, 1), (32, 15, 1), (23, 2, 4), (1, 17, 1), (5, 22, 8), (1, 18, 1), (48, 20, 3), (48, 3, 3), (48, 0, 3), (14, 17, 4), (58, 0, 11), (66, 0, 15)] rfl (by decide +kernel)
set_option maxRecDepth 20000 in
theorem gd_X8_rest : GoodIn wlT (wsV RL 203 RX8 yX8_rest wsX8_rest) := gd_s [(49, 12, 3), (0, 5, 1), (49, 15, 1), (15, 7, 1), (49, 7, 1), (15, 10, 3), (0, 5, 1), (15, 13, 1), (5, 13, 1), (15, 14, 4), (25, 0, 4), (15, 18, 4), (49, 3, 4), (48, 13, 3), (48, 10, 3), (59, 0, 40)] rfl (by decide +kernel)
set_option maxRecDepth 20000 in
theorem gd_X7_odds : GoodIn wlT (wsV RL 204 RX7 yX7_odds wsX7_odds) := gd_s [(49, 16, 3), (0, 2, 1), (49, 19, 2), (1, 17, 1), (49, 21, 1), (1, 18, 1), (28, 0, 3), (0, 2, 1), (28, 3, 1), (20, 19, 4), (5, 22, 8), (49, 22, 4), (0, 20, 1), (23, 1, 1), (25, 22, 3), (1, 16, 1), (26, 1, 1), (7, 1, 1), (26, 2, 2), (50, 2, 3), (58, 0, 11), (66, 0, 15), (61, 0, 7)] rfl (by decide +kernel)
set_option maxRecDepth 20000 in
theorem gd_X8_odds : GoodIn wlT (wsV RL 208 RX8 yX8_odds wsX8_odds) := gd_s [(50, 5, 3), (0, 5, 1), (50, 8, 2), (4, 10, 1), (15, 10, 3), (0, 5, 1), (15, 13, 1), (5, 13, 1), (15, 14, 1), (21, 7, 4), (15, 7, 1), (15, 15, 3), (25, 0, 4), (15, 18, 4), (50, 10, 4), (25, 4, 4), (4, 12, 1), (25, 8, 1), (4, 18, 1), (25, 9, 9), (50, 14, 3), (59, 0, 40)] rfl (by decide +kernel)
set_option maxRecDepth 20000 in
theorem gd_X7_mean : GoodIn wlT (wsV RL 209 RX7 yX7_mean wsX7_mean) := gd_s [(50, 17, 3), (0, 2, 1), (50, 20, 1), (1, 18, 1), (1, 17, 1), (49, 21, 1), (49, 20, 1), (28, 0, 3), (0, 2, 1), (28, 3, 1), (20, 19, 4), (5, 22, 8), (49, 22, 4), (0, 20, 1), (23, 1, 1), (25, 22, 3), (1, 16, 1), (26, 1, 1), (7, 1, 1), (26, 2, 2), (50, 2, 3), (58, 0, 11), (66, 0, 15), (61, 0, 7)] rfl (by decide +kernel)
set_option maxRecDepth 20000 in
theorem gd_X8_mean : GoodIn wlT (wsV RL 212 RX8 yX8_mean wsX8_mean) := gd_s [(50, 21, 3), (0, 5, 1), (51, 0, 1), (4, 10, 1), (50, 9, 1), (15, 10, 3), (0, 5, 1), (15, 13, 1), (5, 13, 1), (15, 14, 1), (21, 7, 4), (15, 7, 1), (15, 15, 3), (25, 0, 4), (15, 18, 4), (50, 10, 4), (25, 4, 4), (4, 12, 1), (25, 8, 1), (4, 18, 1), (25, 9, 9), (50, 14, 3), (59, 0, 40)] rfl (by decide +kernel)
set_option maxRecDepth 20000 in
theorem gd_X7_drawn : GoodIn wlT (wsV RL 213 RX7 yX7_drawn wsX7_drawn) := gd_s [(51, 1, 3), (0, 2, 1), (51, 4, 2), (0, 20, 1), (23, 1, 1), (1, 17, 1), (20, 19, 3), (0, 2, 1), (20, 22, 1), (5, 22, 8), (1, 18, 1), (51, 6, 4), (25, 22, 3), (1, 16, 1), (26, 1, 1), (7, 1, 1), (26, 2, 2), (51, 10, 4), (49, 21, 1), (14, 17, 4), (58, 0, 11), (61, 0, 7), (66, 0, 15)] rfl (by decide +kernel)
set_option maxRecDepth 20000 in
theorem gd_X8_drawn : GoodIn wlT (wsV RL 216 RX8 yX8_drawn wsX8_drawn) := gd_s [(51, 14, 3), (0, 5, 1), (51, 17, 2), (15, 10, 3), (0, 5, 1), (15, 13, 1), (5, 13, 1), (15, 14, 1), (21, 7, 4), (15, 7, 1), (4, 10, 1), (15, 15, 3), (51, 19, 7), (25, 0, 8), (4, 12, 1), (25, 8, 1), (4, 18, 1), (25, 9, 9), (15, 18, 4), (59, 0, 40)] rfl (by decide +kernel)
set_option maxRecDepth 20000 in
theorem gd_X7_firstShut : GoodIn wlT (wsV RL 217 RX7 yX7_firstShut wsX7_firstShut) := gd_s [(52, 2, 3), (0, 2, 1), (52, 5, 1), (51, 5, 1), (23, 2, 3), (0, 2, 1), (23, 5, 1), (1, 17, 1), (5, 22, 1), (6, 2, 4), (1, 18, 1), (5, 23, 3), (51, 6, 8), (49, 21, 1), (14, 17, 4), (58, 0, 11), (66, 0, 15)] rfl (by decide +kernel)
set_option maxRecDepth 20000 in
theorem gd_X8_firstShut : GoodIn wlT (wsV RL 220 RX8 yX8_firstShut wsX8_firstShut) := gd_s [(52, 6, 3), (0, 5, 1), (52, 9, 1), (15, 7, 1), (52, 0, 1), (15, 10, 3), (0, 5, 1), (15, 13, 1), (5, 13, 1), (15, 14, 1), (51, 19, 5), (51, 18, 1), (52, 1, 1), (4, 10, 1), (15, 15, 3), (25, 0, 8), (4, 12, 1), (25, 8, 1), (4, 18, 1), (25, 9, 9), (15, 18, 4), (59, 0, 40)] rfl (by decide +kernel)
set_option maxRecDepth 20000 in
theorem gd_X7_go : GoodIn wlT (wsV RL 221 RX7 yX7_go wsX7_go) := gd_s [(52, 10, 3), (0, 2, 1), (52, 13, 1), (0, 20, 1), (21, 18, 1), (1, 5, 1), (32, 11, 1), (1, 17, 1), (21, 15, 1), (32, 12, 3), (0, 2, 1), (32, 15, 1), (23, 2, 4), (5, 22, 8), (1, 18, 1), (52, 14, 3), (1, 4, 1), (52, 17, 2), (3, 11, 1), (14, 9, 1), (52, 19, 1), (6, 11, 3), (52, 20, 1), (28, 9, 2), (0, 19, 1), (28, 11, 1), (13, 20, 1), (14, 3, 2), (13, 21, 2), (3, 3, 2), (28, 16, 3), (1, 16, 1), (28, 19, 11), (2, 11, 2), (29, 6, 8), (21, 0, 3), (12, 9, 2), (29, 14, 7), (1, 0, 1), (29, 21, 2), (12, 23, 1), (29, 23, 1), (22, 1, 3), (2, 22, 1), (2, 21, 1), (30, 0, 8), (25, 23, 3), (7, 1, 1), (26, 2, 2), (30, 8, 1), (14, 0, 3), (14, 17, 4), (58, 0, 11), (61, 0, 7), (66, 0, 15), (63, 0, 5), (62, 0, 4)] rfl (by decide +kernel)
set_option maxRecDepth 20000 in
theorem gd_X8_go : GoodIn wlT (wsV RL 224 RX8 yX8_go wsX8_go) := gd_s [(52, 21, 3), (0, 5, 1), (53, 0, 1), (15, 7, 1), (4, 12, 1), (15, 10, 3), (0, 5, 1), (15, 13, 1), (5, 13, 1), (15, 14, 4), (25, 0, 4), (15, 18, 4), (53, 1, 4), (15, 8, 1), (4, 14, 1), (19, 16, 3), (22, 12, 4), (4, 10, 1), (4, 16, 2), (22, 16, 1), (31, 1, 18), (22, 17, 4), (31, 19, 4), (25, 10, 4), (59, 0, 40)] rfl (by decide +kernel)
set_option maxRecDepth 20000 in
theorem gd_X7_put : GoodIn wlT (wsV RL 225 RX7 yX7_put wsX7_put) := gd_s [(53, 5, 3), (0, 2, 1), (53, 8, 1), (0, 20, 1), (20, 17, 1), (1, 5, 1), (20, 19, 3), (0, 2, 1), (20, 22, 1), (1, 17, 1), (5, 22, 8), (1, 18, 1), (20, 23, 3), (0, 19, 1), (21, 2, 1), (13, 21, 1), (12, 9, 2), (52, 14, 3), (1, 4, 1), (52, 17, 2), (3, 11, 1), (14, 9, 1), (52, 19, 1), (6, 11, 3), (52, 20, 1), (28, 9, 3), (13, 20, 1), (14, 3, 2), (13, 22, 1), (3, 3, 2), (14, 17, 4), (58, 0, 11), (61, 0, 7), (66, 0, 15), (63, 0, 5)] rfl (by decide +kernel)
set_option maxRecDepth 20000 in
theorem gd_X8_put : GoodIn wlT (wsV RL 228 RX8 yX8_put wsX8_put) := gd_s [(53, 9, 3), (0, 5, 1), (53, 12, 1), (4, 12, 1), (15, 10, 3), (0, 5, 1), (15, 13, 1), (5, 13, 1), (15, 14, 1), (21, 7, 4), (15, 7, 1), (4, 10, 1), (15, 15, 7), (31, 8, 3), (53, 1, 4), (15, 8, 1), (4, 14, 1), (19, 16, 3), (59, 0, 40)] rfl (by decide +kernel)
set_option maxRecDepth 20000 in
theorem gd_X7_wind : GoodIn wlT (wsV RL 229 RX7 yX7_wind wsX7_wind) := gd_s [(53, 13, 3), (0, 2, 1), (53, 16, 1), (0, 20, 1), (23, 1, 1), (23, 15, 1), (1, 5, 1), (20, 19, 3), (0, 2, 1), (20, 22, 1), (1, 17, 1), (5, 22, 8), (1, 18, 1), (52, 14, 3), (1, 4, 1), (52, 17, 2), (3, 11, 1), (14, 9, 1), (52, 19, 1), (6, 11, 3), (52, 20, 1), (28, 9, 2), (0, 19, 1), (28, 11, 1), (13, 20, 1), (14, 3, 2), (13, 21, 2), (3, 3, 2), (40, 19, 1), (14, 0, 3), (14, 17, 4), (58, 0, 11), (61, 0, 7), (66, 0, 15), (63, 0, 5)] rfl (by decide +kernel)
set_option maxRecDepth 20000 in
theorem gd_X8_wind : GoodIn wlT (wsV RL 232 RX8 yX8_wind wsX8_wind) := gd_s [(53, 17, 3), (0, 5, 1), (53, 20, 1), (4, 12, 1), (15, 10, 3), (0, 5, 1), (15, 13, 1), (5, 13, 1), (15, 14, 1), (21, 7, 4), (15, 7, 1), (4, 10, 1), (15, 15, 7), (53, 1, 4), (15, 8, 1), (4, 14, 1), (19, 16, 3), (59, 0, 40)] rfl (by decide +kernel)
set_option maxRecDepth 20000 in
theorem gd_X7_undo : GoodIn wlT (wsV RL 233 RX7 yX7_undo wsX7_undo) := gd_s [(53, 21, 3), (0, 2, 1), (54, 0, 1), (1, 5, 1), (0, 20, 1), (1, 18, 1), (54, 1, 3), (1, 4, 1), (54, 4, 1), (14, 9, 1), (3, 11, 1), (52, 18, 1), (52, 20, 1), (28, 9, 2), (0, 19, 1), (28, 11, 1), (13, 20, 1), (14, 3, 2), (13, 21, 2), (3, 3, 2), (58, 0, 11), (63, 0, 5), (61, 0, 7)] rfl (by decide +kernel)
set_option maxRecDepth 20000 in
theorem gd_X8_undo : GoodIn wlT (wsV RL 237 RX8 yX8_undo wsX8_undo) := gd_s [(54, 5, 3), (0, 5, 1), (54, 8, 1), (15, 8, 1), (4, 14, 1), (4, 12, 1), (15, 10, 3), (0, 5, 1), (15, 13, 1), (5, 13, 1), (15, 14, 1), (54, 9, 4), (19, 16, 3), (59, 0, 40)] rfl (by decide +kernel)
set_option maxRecDepth 20000 in
theorem gd_X7_image : GoodIn wlT (wsV RL 238 RX7 yX7_image wsX7_image) := gd_s [(54, 13, 3), (0, 2, 1), (54, 16, 1), (1, 5, 1), (54, 17, 1), (0, 20, 1), (23, 2, 3), (0, 2, 1), (23, 5, 1), (1, 17, 1), (5, 22, 1), (6, 2, 4), (1, 18, 1), (54, 18, 3), (1, 4, 1), (54, 21, 1), (14, 10, 1), (3, 12, 1), (52, 20, 1), (28, 9, 2), (0, 19, 1), (28, 11, 1), (13, 20, 1), (14, 3, 2), (13, 21, 2), (3, 3, 2), (14, 17, 4), (58, 0, 11), (63, 0, 5), (66, 0, 15), (61, 0, 7)] rfl (by decide +kernel)
set_option maxRecDepth 20000 in
theorem gd_X8_image : GoodIn wlT (wsV RL 241 RX8 yX8_image wsX8_image) := gd_s [(54, 22, 3), (0, 5, 1), (55, 1, 1), (15, 7, 1), (15, 9, 1), (4, 12, 1), (4, 15, 1), (15, 10, 3), (0, 5, 1), (15, 13, 1), (5, 13, 1), (15, 14, 1), (15, 18, 4), (19, 16, 3), (59, 0, 40)] rfl (by decide +kernel)
set_option maxRecDepth 20000 in
theorem gd_X7_back : GoodIn wlT (wsV RL 242 RX7 yX7_back wsX7_back) := gd_s [(55, 2, 3), (0, 2, 1), (55, 5, 1), (1, 5, 1), (0, 20, 1), (1, 18, 1), (55, 6, 3), (1, 4, 1), (55, 9, 1), (14, 10, 1), (3, 12, 1), (14, 9, 1), (6, 0, 1), (0, 2, 1), (6, 1, 1), (52, 20, 1), (28, 9, 2), (0, 19, 1), (28, 11, 1), (13, 20, 1), (14, 3, 2), (13, 21, 2), (3, 3, 2), (58, 0, 11), (63, 0, 5), (61, 0, 7)] rfl (by decide +kernel)
set_option maxRecDepth 20000 in
theorem gd_X8_back : GoodIn wlT (wsV RL 246 RX8 yX8_back wsX8_back) := gd_s [(55, 10, 3), (0, 5, 1), (55, 13, 1), (15, 9, 1), (4, 15, 1), (4, 12, 1), (15, 8, 1), (15, 10, 3), (0, 5, 1), (15, 13, 1), (5, 13, 1), (15, 14, 4), (54, 9, 4), (19, 16, 3), (59, 0, 40)] rfl (by decide +kernel)
set_option maxRecDepth 20000 in
theorem gd_L_led : GoodIn wlT (va_wsS RL 247 yL_led wsL_led) := goodIn_app (gd_s [(55, 14, 3)] rfl (by decide +kernel)) (goodIn_ca (gd_s [(55, 17, 5), (0, 2, 1), (55, 22, 3), (1, 17, 1), (5, 22, 1), (0, 20, 1), (20, 17, 1), (58, 0, 11), (66, 0, 15), (61, 0, 7)] rfl (by decide +kernel)) gd_x)
set_option maxRecDepth 20000 in
theorem gd_X8_led : GoodIn wlT (wsV RL 252 RX8 yX8_led wsX8_led) := gd_s [(56, 1, 3), (0, 5, 1), (56, 4, 1), (15, 7, 1), (4, 10, 1), (4, 12, 1), (5, 13, 1), (59, 0, 40)] rfl (by decide +kernel)
set_option maxRecDepth 20000 in
theorem gd_X7_size : GoodIn wlT (wsV RL 253 RX7 yX7_size wsX7_size) := gd_s [(56, 5, 3), (0, 2, 1), (56, 8, 1), (0, 20, 1), (21, 18, 1), (1, 5, 1), (56, 9, 1), (54, 17, 1), (0, 16, 1), (5, 3, 1), (1, 17, 1), (56, 10, 3), (1, 16, 1), (56, 13, 1), (7, 1, 1), (29, 1, 1), (29, 11, 1), (56, 14, 1), (7, 3, 1), (2, 16, 1), (7, 5, 1), (7, 4, 1), (26, 2, 2), (46, 20, 1), (56, 15, 1), (11, 15, 6), (58, 0, 11), (61, 0, 7), (63, 0, 5), (60, 0, 14), (66, 0, 15), (62, 0, 4)] rfl (by decide +kernel)
set_option maxRecDepth 20000 in
theorem gd_X8_size : GoodIn wlT (wsV RL 256 RX8 yX8_size wsX8_size) := gd_s [(56, 16, 3), (0, 5, 1), (56, 19, 1), (5, 13, 2), (15, 7, 1), (4, 10, 1), (4, 12, 1), (15, 8, 2), (15, 15, 2), (0, 5, 1), (15, 17, 1), (59, 0, 40)] rfl (by decide +kernel)
set_option maxRecDepth 20000 in
theorem gd_X7_trouble : GoodIn wlT (wsV RL 257 RX7 yX7_trouble wsX7_trouble) := gd_s [(56, 20, 3), (0, 2, 1), (56, 23, 1), (1, 18, 1), (58, 0, 11)] rfl (by decide +kernel)
set_option maxRecDepth 20000 in
theorem gd_X8_trouble : GoodIn wlT (wsV RL 260 RX8 yX8_trouble wsX8_trouble) := gd_s [(57, 0, 3), (0, 5, 1), (57, 3, 1), (5, 13, 1), (15, 14, 1), (59, 0, 40)] rfl (by decide +kernel)
end P426_gd
section P430_led
/-- what a throw of NoSuchElementException rests on beside the tables' good words -/
def ax_EL (A : Nat → Prop) (sa : Nat) (U : State) : Prop :=
  va_Nw (.declares (Bundle.initS "java/lang/RuntimeException")) U ∧ va_Nw (.declares (Bundle.initS "java/lang/Exception")) U ∧ va_Nw (.declares (Bundle.initS Bundle.tN)) U ∧ va_Nw (.castable "java/util/NoSuchElementException" "java/util/NoSuchElementException") U ∧ vk_R RX7 350 "no such figure is led away" sa U ∧ vx_Zq Bundle.tN "UNASSIGNED_STACK" Bundle.steD A U U.heap ∧ vx_Zq Bundle.tN "SUPPRESSED_SENTINEL" Bundle.listD A U U.heap
theorem ax_EL_same {A : Nat → Prop} {sa : Nat} (a : Array Value) (U : State) (g : JFrame) (mk : MethodId) (h : ax_EL A sa U) : ax_EL A sa (U.calling g mk a) :=
  ⟨va_Nw.same rfl rfl h.1, va_Nw.same rfl rfl h.2.1, va_Nw.same rfl rfl h.2.2.1, va_Nw.same rfl rfl h.2.2.2.1, vk_R.same rfl h.2.2.2.2.1, vx_Zq.moved (u := U) (U := U.calling g mk a) (Vm.Alike.refl U.vm) h.2.2.2.2.2.1, vx_Zq.moved (u := U) (U := U.calling g mk a) (Vm.Alike.refl U.vm) h.2.2.2.2.2.2⟩
theorem ax_EL_to {A B : Nat → Prop} {sa : Nat} {s U : State} {H : Heap} (h : ax_EL A sa s) (hq : ∀ a : Nat, a < s.heap.size → ¬ A a → H[a]? = s.heap[a]?) (hAB : ∀ q, B q → A q) (hU : U.heap = H) (hW : s.WarmedH U.vm) : ax_EL B sa U := by
  subst hU
  exact ⟨va_Nw.warmD hW h.1, va_Nw.warmD hW h.2.1, va_Nw.warmD hW h.2.2.1, va_Nw.warmC hW h.2.2.2.1, vk_R.warm hW h.2.2.2.2.1, ((h.2.2.2.2.2.1.kept hq).moved hW.alike).narrow hAB, ((h.2.2.2.2.2.2.kept hq).moved hW.alike).narrow hAB⟩
theorem ax_vxat : ∀ w ∈ Cond.classLink RX7 348 "java/util/NoSuchElementException" :: Cond.initialized "java/util/NoSuchElementException" :: ax_atX RX7 352 "java/util/NoSuchElementException" 13 ax_rx13 "java/lang/RuntimeException" ["java/lang/Exception"], vx_ot w = true := by decide +kernel
theorem ax_vxno : ∀ w ∈ (ax_atX RX7 352 "java/util/NoSuchElementException" 13 ax_rx13 "java/lang/RuntimeException" ["java/lang/Exception"]).filter (fun w => !goodWord w), w ∈ [Cond.declares (Bundle.initS "java/lang/RuntimeException"), Cond.declares (Bundle.initS "java/lang/Exception"), Cond.declares (Bundle.initS Bundle.tN), Cond.castable "java/util/NoSuchElementException" "java/util/NoSuchElementException"] := by decide +kernel
set_option maxHeartbeats 4000000 in
set_option maxRecDepth 100000 in
theorem c_X7_led (l : Launch) (hl0 : l.stackTraces = false) (sa : Nat) (dC : Nat → ClassId) (dI : Nat → Nat → Nat) (sz : Nat) (a0 : Nat) (a1 : Int32) (a0g_0 a0g_2 a0g_3 a0g_4 a0g_5 a0g_6 a0g_8 a0g_9 a0g_10 : Value) (a0_1 : Nat) (a0_7 : Nat) (a0_7_0 : Int32) (a0_7g_1 a0_7g_2 a0_7g_3 a0_7g_4 a0_7g_5 a0_7g_6 a0_7g_7 a0_7g_8 a0_7g_9 a0_7g_10 a0_7g_11 a0_7g_12 a0_7g_13 a0_7g_14 : Value) (a0_1g_0 a0_1g_1 a0_1g_2 a0_1g_3 a0_1g_4 a0_1g_6 : Value) (a0_1_5 : Nat) (ka0_1_5 : ClassId) (fa0_1_5 : Nat → Int32) (ba0_7_0_l : (0 : Int) ≤ a0_7_0.toInt) (ba0_7_0_u : a0_7_0.toInt ≤ (9 : Int)) : vx_Met l yX7_led wsX7_led ({ frames := 6, cells := 1, slots := 6, locals := 82 }) (va_Pc [.ref a0, .int a1] (ax_C dC dI sz [(a0, .inr (7, [a0g_0, .ref a0_1, a0g_2, a0g_3, a0g_4, a0g_5, a0g_6, .ref a0_7, a0g_8, a0g_9, a0g_10])), (a0_7, .inr (0, [.int a0_7_0, a0_7g_1, a0_7g_2, a0_7g_3, a0_7g_4, a0_7g_5, a0_7g_6, a0_7g_7, a0_7g_8, a0_7g_9, a0_7g_10, a0_7g_11, a0_7g_12, a0_7g_13, a0_7g_14])), (a0_1, .inr (5, [a0_1g_0, a0_1g_1, a0_1g_2, a0_1g_3, a0_1g_4, .ref a0_1_5, a0_1g_6])), (a0_1_5, .inl (ka0_1_5, 9, .inl (fa0_1_5)))] [(ka0_1_5, .int)] (ax_EL (va_A [(a0, .inr (7, [a0g_0, .ref a0_1, a0g_2, a0g_3, a0g_4, a0g_5, a0g_6, .ref a0_7, a0g_8, a0g_9, a0g_10])), (a0_7, .inr (0, [.int a0_7_0, a0_7g_1, a0_7g_2, a0_7g_3, a0_7g_4, a0_7g_5, a0_7g_6, a0_7g_7, a0_7g_8, a0_7g_9, a0_7g_10, a0_7g_11, a0_7g_12, a0_7g_13, a0_7g_14])), (a0_1, .inr (5, [a0_1g_0, a0_1g_1, a0_1g_2, a0_1g_3, a0_1g_4, .ref a0_1_5, a0_1g_6])), (a0_1_5, .inl (ka0_1_5, 9, .inl (fa0_1_5)))] sz) sa))) (va_Qi (fun (_ : Int32) (_ : Unit) => True) (fun (_ : Unit) (t : State) => ax_B dC dI (va_A [(a0, .inr (7, [a0g_0, .ref a0_1, a0g_2, a0g_3, a0g_4, a0g_5, a0g_6, .ref a0_7, a0g_8, a0g_9, a0g_10])), (a0_7, .inr (0, [.int a0_7_0, a0_7g_1, a0_7g_2, a0_7g_3, a0_7g_4, a0_7g_5, a0_7g_6, a0_7g_7, a0_7g_8, a0_7g_9, a0_7g_10, a0_7g_11, a0_7g_12, a0_7g_13, a0_7g_14])), (a0_1, .inr (5, [a0_1g_0, a0_1g_1, a0_1g_2, a0_1g_3, a0_1g_4, .ref a0_1_5, a0_1g_6])), (a0_1_5, .inl (ka0_1_5, 9, .inl (fa0_1_5)))] sz) [(a0, .inr (7, [a0g_0, .ref a0_1, a0g_2, a0g_3, a0g_4, a0g_5, a0g_6, .ref a0_7, a0g_8, a0g_9, a0g_10])), (a0_7, .inr (0, [.int a0_7_0, a0_7g_1, a0_7g_2, a0_7g_3, a0_7g_4, a0_7g_5, a0_7g_6, a0_7g_7, a0_7g_8, a0_7g_9, a0_7g_10, a0_7g_11, a0_7g_12, a0_7g_13, a0_7g_14])), (a0_1, .inr (5, [a0_1g_0, a0_1g_1, a0_1g_2, a0_1g_3, a0_1g_4, .ref a0_1_5, a0_1g_6])), (a0_1_5, .inl (ka0_1_5, 9, .inl (fa0_1_5)))] [(ka0_1_5, .int)] t) (va_A [(a0, .inr (7, [a0g_0, .ref a0_1, a0g_2, a0g_3, a0g_4, a0g_5, a0g_6, .ref a0_7, a0g_8, a0g_9, a0g_10])), (a0_7, .inr (0, [.int a0_7_0, a0_7g_1, a0_7g_2, a0_7g_3, a0_7g_4, a0_7g_5, a0_7g_6, a0_7g_7, a0_7g_8, a0_7g_9, a0_7g_10, a0_7g_11, a0_7g_12, a0_7g_13, a0_7g_14])), (a0_1, .inr (5, [a0_1g_0, a0_1g_1, a0_1g_2, a0_1g_3, a0_1g_4, .ref a0_1_5, a0_1g_6])), (a0_1_5, .inl (ka0_1_5, 9, .inl (fa0_1_5)))] sz)) (vx_X (fun (_ : Unit) => True) (fun (E : String) (_ : Unit) (t : State) => E = "java/util/NoSuchElementException" ∧ ax_B dC dI (va_A [(a0, .inr (7, [a0g_0, .ref a0_1, a0g_2, a0g_3, a0g_4, a0g_5, a0g_6, .ref a0_7, a0g_8, a0g_9, a0g_10])), (a0_7, .inr (0, [.int a0_7_0, a0_7g_1, a0_7g_2, a0_7g_3, a0_7g_4, a0_7g_5, a0_7g_6, a0_7g_7, a0_7g_8, a0_7g_9, a0_7g_10, a0_7g_11, a0_7g_12, a0_7g_13, a0_7g_14])), (a0_1, .inr (5, [a0_1g_0, a0_1g_1, a0_1g_2, a0_1g_3, a0_1g_4, .ref a0_1_5, a0_1g_6])), (a0_1_5, .inl (ka0_1_5, 9, .inl (fa0_1_5)))] sz) [(a0, .inr (7, [a0g_0, .ref a0_1, a0g_2, a0g_3, a0g_4, a0g_5, a0g_6, .ref a0_7, a0g_8, a0g_9, a0g_10])), (a0_7, .inr (0, [.int a0_7_0, a0_7g_1, a0_7g_2, a0_7g_3, a0_7g_4, a0_7g_5, a0_7g_6, a0_7g_7, a0_7g_8, a0_7g_9, a0_7g_10, a0_7g_11, a0_7g_12, a0_7g_13, a0_7g_14])), (a0_1, .inr (5, [a0_1g_0, a0_1g_1, a0_1g_2, a0_1g_3, a0_1g_4, .ref a0_1_5, a0_1g_6])), (a0_1_5, .inl (ka0_1_5, 9, .inl (fa0_1_5)))] [(ka0_1_5, .int)] t) (va_A [(a0, .inr (7, [a0g_0, .ref a0_1, a0g_2, a0g_3, a0g_4, a0g_5, a0g_6, .ref a0_7, a0g_8, a0g_9, a0g_10])), (a0_7, .inr (0, [.int a0_7_0, a0_7g_1, a0_7g_2, a0_7g_3, a0_7g_4, a0_7g_5, a0_7g_6, a0_7g_7, a0_7g_8, a0_7g_9, a0_7g_10, a0_7g_11, a0_7g_12, a0_7g_13, a0_7g_14])), (a0_1, .inr (5, [a0_1g_0, a0_1g_1, a0_1g_2, a0_1g_3, a0_1g_4, .ref a0_1_5, a0_1g_6])), (a0_1_5, .inl (ka0_1_5, 9, .inl (fa0_1_5)))] sz)) 1 6 (va_A [(a0, .inr (7, [a0g_0, .ref a0_1, a0g_2, a0g_3, a0g_4, a0g_5, a0g_6, .ref a0_7, a0g_8, a0g_9, a0g_10])), (a0_7, .inr (0, [.int a0_7_0, a0_7g_1, a0_7g_2, a0_7g_3, a0_7g_4, a0_7g_5, a0_7g_6, a0_7g_7, a0_7g_8, a0_7g_9, a0_7g_10, a0_7g_11, a0_7g_12, a0_7g_13, a0_7g_14])), (a0_1, .inr (5, [a0_1g_0, a0_1g_1, a0_1g_2, a0_1g_3, a0_1g_4, .ref a0_1_5, a0_1g_6])), (a0_1_5, .inl (ka0_1_5, 9, .inl (fa0_1_5)))] sz) := by
  refine vx_ofW (cc := cX7_led) (maxL := 4) (ret := some .int) (by decide) rfl ?_
  intro p e s m args below meth c s₁ B hml hex hv
  obtain ⟨rfl, hsz, hP, hK, hD0, hE⟩ := hv
  have hx := B.exec
  have hb := B.bytes
  have hr := B.returns
  have hts := atoms_spec (ws := wsX7_led) B.pre
  have hown : s.vm.findClass RX7 = some m.cls := findClass_of_methodNamed B.named
  have hlocks := B.notSynchronized
  subst hsz
  have hD := hD0.self (sz := s.heap.size)
  generalize hAe : va_A [(a0, .inr (7, [a0g_0, .ref a0_1, a0g_2, a0g_3, a0g_4, a0g_5, a0g_6, .ref a0_7, a0g_8, a0g_9, a0g_10])), (a0_7, .inr (0, [.int a0_7_0, a0_7g_1, a0_7g_2, a0_7g_3, a0_7g_4, a0_7g_5, a0_7g_6, a0_7g_7, a0_7g_8, a0_7g_9, a0_7g_10, a0_7g_11, a0_7g_12, a0_7g_13, a0_7g_14])), (a0_1, .inr (5, [a0_1g_0, a0_1g_1, a0_1g_2, a0_1g_3, a0_1g_4, .ref a0_1_5, a0_1g_6])), (a0_1_5, .inl (ka0_1_5, 9, .inl (fa0_1_5)))] s.heap.size = A at hD hE ⊢
  have hA : ∀ q : Nat, s.heap.size ≤ q → A q := fun q h => by rw [← hAe]; exact Or.inr h
  have hS : va_S A s.heap s.heap [] := va_S.rf
  have hP : va_P (dC, dI) vwCl [(a0, .inr (7, [a0g_0, .ref a0_1, a0g_2, a0g_3, a0g_4, a0g_5, a0g_6, .ref a0_7, a0g_8, a0g_9, a0g_10])), (a0_7, .inr (0, [.int a0_7_0, a0_7g_1, a0_7g_2, a0_7g_3, a0_7g_4, a0_7g_5, a0_7g_6, a0_7g_7, a0_7g_8, a0_7g_9, a0_7g_10, a0_7g_11, a0_7g_12, a0_7g_13, a0_7g_14])), (a0_1, .inr (5, [a0_1g_0, a0_1g_1, a0_1g_2, a0_1g_3, a0_1g_4, .ref a0_1_5, a0_1g_6])), (a0_1_5, .inl (ka0_1_5, 9, .inl (fa0_1_5)))] s.heap := hP
  have hl := lv_entry ([.ref a0, .int a1]) (n := 4) (Nat.le_of_ble_eq_true rfl)
  rw [lg_entry_eq]
  generalize (lg_sl ([.ref a0, .int a1]) ++ List.replicate (4 - (lg_sl ([.ref a0, .int a1])).length) Slot.unset).toArray = ls at hl ⊢
  have hl : lv_has ls 4 [(0, .ref a0), (1, .int a1)] := hl
  refine ai_open (fun K hK0 => ?_)
  refine (hK0 _ _ _).mpr ?_
  refine lv_iconst (v := 0) hx hb dX7_led_0 zk_iconst_0 ?_
  refine lv_istore_n (lv' := [(2, .int 0), (0, .ref a0), (1, .int a1)]) hx hb dX7_led_1 rfl hl (by decide) rfl (fun ls hl => ?_)
  refine lv_iconst (v := 0) hx hb dX7_led_2 zk_iconst_0 ?_
  refine lv_istore_n (lv' := [(3, .int 0), (2, .int 0), (0, .ref a0), (1, .int a1)]) hx hb dX7_led_3 rfl hl (by decide) rfl (fun ls hl => ?_)
  have J4 : ∀ (n : Nat) (j4l3 : Int32) (j4l2 : Int32) (H : Heap) (locs : List Loc) (ls : Array Slot), (10 : Int) - j4l3.toInt ≤ (n : Int) → (0 : Int) ≤ j4l3.toInt → j4l3.toInt ≤ (9 : Int) → va_P (dC, dI) vwCl [(a0, .inr (7, [a0g_0, .ref a0_1, a0g_2, a0g_3, a0g_4, a0g_5, a0g_6, .ref a0_7, a0g_8, a0g_9, a0g_10])), (a0_7, .inr (0, [.int a0_7_0, a0_7g_1, a0_7g_2, a0_7g_3, a0_7g_4, a0_7g_5, a0_7g_6, a0_7g_7, a0_7g_8, a0_7g_9, a0_7g_10, a0_7g_11, a0_7g_12, a0_7g_13, a0_7g_14])), (a0_1, .inr (5, [a0_1g_0, a0_1g_1, a0_1g_2, a0_1g_3, a0_1g_4, .ref a0_1_5, a0_1g_6])), (a0_1_5, .inl (ka0_1_5, 9, .inl (fa0_1_5)))] H → va_D A [(a0, .inr (7, [a0g_0, .ref a0_1, a0g_2, a0g_3, a0g_4, a0g_5, a0g_6, .ref a0_7, a0g_8, a0g_9, a0g_10])), (a0_7, .inr (0, [.int a0_7_0, a0_7g_1, a0_7g_2, a0_7g_3, a0_7g_4, a0_7g_5, a0_7g_6, a0_7g_7, a0_7g_8, a0_7g_9, a0_7g_10, a0_7g_11, a0_7g_12, a0_7g_13, a0_7g_14])), (a0_1, .inr (5, [a0_1g_0, a0_1g_1, a0_1g_2, a0_1g_3, a0_1g_4, .ref a0_1_5, a0_1g_6])), (a0_1_5, .inl (ka0_1_5, 9, .inl (fa0_1_5)))] → va_S A s.heap H locs → lv_has ls 4 [(0, .ref a0), (1, .int a1), (2, .int j4l2), (3, .int j4l3)] → K H locs (F0 m 4 ls []) := by
    intro n
    induction n with
    | zero =>
      intro j4l3 j4l2 H locs ls hm bj4l3_l bj4l3_u hP hD hS hl
      have h8 := ai_min j4l3
      have h9 := ai_max j4l3
      exact absurd hm (by omega)
    | succ n ih4 =>
      intro j4l3 j4l2 H locs ls hm bj4l3_l bj4l3_u hP hD hS hl
      refine (hK0 _ _ _).mpr ?_
      have hm4 := hm
      refine lv_iload_n hx hb dX7_led_4 rfl (lv_at hl 3 rfl) ?_
      refine lv_aload_n hx hb dX7_led_5 rfl (lv_at hl 0 rfl) ?_
      refine va_get (D := (dC, dI)) (ci := 7) (v := .ref a0_7) (C := RX7) (T := TX7) (N := 11) hx hb hts (by decide +kernel) hown hK hP 0 rfl rfl 7 (by decide) (hts (.fieldLink RX7 57 "WaxTurns" "hall" "LWaxTurns$Hall;") (by decide +kernel)) (fun _ h9 => h9) rfl dX7_led_6 ?_
      refine va_get (D := (dC, dI)) (ci := 0) (v := .int a0_7_0) (C := RX0) (T := TX0) (N := 15) hx hb hts (by decide +kernel) hown hK hP 1 rfl rfl 0 (by decide) (hts (.fieldLink RX7 110 "WaxTurns$Hall" "figures" "I") (by decide +kernel)) (fun _ h9 => h9) rfl dX7_led_9 ?_
      refine lv_icmp_ge (tgt := 44) hx hb dX7_led_12 (by decide) (fun c12 => ?_) (fun c12 => ?_)
      · have gc12 := ai_le c12
        have u12t_a0_7_0 : a0_7_0.toInt ≤ (9 : Int) := ba0_7_0_u
        have l12t_j4l3 : (0 : Int) ≤ j4l3.toInt := bj4l3_l
        refine ax_throwSWX (names := ["java/lang/Exception"]) (cls := "java/util/NoSuchElementException") (text := "no such figure is led away") (Y0 := "java/lang/RuntimeException") (ix := 13) (rx := ax_rx13) (sa := sa) (A := A) hx hb hl0 (by decide +kernel) (by decide +kernel) (by decide +kernel) (by decide +kernel) (by decide +kernel) hown (by decide +kernel) (by decide +kernel) (hts (.classLink RX7 348 "java/util/NoSuchElementException") (by decide +kernel)) (hts (.initialized "java/util/NoSuchElementException") (by decide +kernel)) hE.2.2.2.2.1 (vx_hat (fun w hw => hts w (List.mem_cons_of_mem _ (List.mem_append_right _ hw))) ax_vxno (vx_c (va_Nw.use rfl hE.1) (vx_c (va_Nw.use rfl hE.2.1) (vx_c (va_Nw.use rfl hE.2.2.1) (vx_c (va_Nw.use rfl hE.2.2.2.1) vx_n))))) ax_vxat hE.2.2.2.2.2.1 hE.2.2.2.2.2.2 hS (by rw [hml]; exact hl.1) dX7_led_44 dX7_led_47 dX7_led_48 dX7_led_51 dX7_led_54 (fun z hz => (hex z hz).elim) (Nat.le_of_ble_eq_true rfl) (Nat.le_of_ble_eq_true rfl) (Nat.le_of_ble_eq_true rfl) (Nat.le_of_ble_eq_true rfl) hlocks (fun t hvm h1 h2 => ⟨(), trivial, ⟨rfl, hP.kept (fun k q hk => h2 q.1 (vx_lt hP hk)), va_K.moved hvm hK, hD⟩, Nat.le_trans hS.1 h1, fun q a1 b1 => (h2 q (Nat.lt_of_lt_of_le a1 hS.1)).trans (hS.2.1 q a1 b1)⟩) hS.2.2 (Nat.le_of_ble_eq_true rfl) (Nat.le_of_ble_eq_true rfl)
      · have gc12 := ai_nle c12
        have u12f_j4l3 : j4l3.toInt ≤ (8 : Int) := ai_lthi gc12 ba0_7_0_u
        have l12f_a0_7_0 : (1 : Int) ≤ a0_7_0.toInt := ai_ltlo gc12 bj4l3_l
        refine lv_aload_n hx hb dX7_led_15 rfl (lv_at hl 0 rfl) ?_
        refine va_get (D := (dC, dI)) (ci := 7) (v := .ref a0_1) (C := RX7) (T := TX7) (N := 11) hx hb hts (by decide +kernel) hown hK hP 0 rfl rfl 1 (by decide) (hts (.fieldLink RX7 19 "WaxTurns" "now" "LWaxTurns$Scene;") (by decide +kernel)) (fun _ h9 => h9) rfl dX7_led_16 ?_
        refine va_get (D := (dC, dI)) (ci := 5) (v := .ref a0_1_5) (C := RX5) (T := TX5) (N := 7) hx hb hts (by decide +kernel) hown hK hP 2 rfl rfl 5 (by decide) (hts (.fieldLink RX7 126 "WaxTurns$Scene" "places" "[I") (by decide +kernel)) (fun _ h9 => h9) rfl dX7_led_19 ?_
        refine lv_iload_n hx hb dX7_led_22 rfl (lv_at hl 3 rfl) ?_
        refine va_iald hx hb hK hP 3 0 rfl rfl (ai_in bj4l3_l u12f_j4l3 (by decide) (by decide)) dX7_led_23 ?_
        refine lv_topi (fun x23 ex23 => ?_)
        refine lv_iload_n hx hb dX7_led_24 rfl (lv_at hl 3 rfl) ?_
        have J38 : ∀ (j38l2 : Int32) (H : Heap) (locs : List Loc) (ls : Array Slot), va_P (dC, dI) vwCl [(a0, .inr (7, [a0g_0, .ref a0_1, a0g_2, a0g_3, a0g_4, a0g_5, a0g_6, .ref a0_7, a0g_8, a0g_9, a0g_10])), (a0_7, .inr (0, [.int a0_7_0, a0_7g_1, a0_7g_2, a0_7g_3, a0_7g_4, a0_7g_5, a0_7g_6, a0_7g_7, a0_7g_8, a0_7g_9, a0_7g_10, a0_7g_11, a0_7g_12, a0_7g_13, a0_7g_14])), (a0_1, .inr (5, [a0_1g_0, a0_1g_1, a0_1g_2, a0_1g_3, a0_1g_4, .ref a0_1_5, a0_1g_6])), (a0_1_5, .inl (ka0_1_5, 9, .inl (fa0_1_5)))] H → va_D A [(a0, .inr (7, [a0g_0, .ref a0_1, a0g_2, a0g_3, a0g_4, a0g_5, a0g_6, .ref a0_7, a0g_8, a0g_9, a0g_10])), (a0_7, .inr (0, [.int a0_7_0, a0_7g_1, a0_7g_2, a0_7g_3, a0_7g_4, a0_7g_5, a0_7g_6, a0_7g_7, a0_7g_8, a0_7g_9, a0_7g_10, a0_7g_11, a0_7g_12, a0_7g_13, a0_7g_14])), (a0_1, .inr (5, [a0_1g_0, a0_1g_1, a0_1g_2, a0_1g_3, a0_1g_4, .ref a0_1_5, a0_1g_6])), (a0_1_5, .inl (ka0_1_5, 9, .inl (fa0_1_5)))] → va_S A s.heap H locs → lv_has ls 4 [(0, .ref a0), (1, .int a1), (2, .int j38l2), (3, .int j4l3)] → K H locs (F0 m 38 ls []) := by
          intro j38l2 H locs ls   hP hD hS hl
          refine (hK0 _ _ _).mpr ?_
          obtain ⟨x38, ex38⟩ : ∃ y : Int32, y = j4l3 + Int32.ofInt 1 := ⟨_, rfl⟩
          have qx38 : x38.toInt = j4l3.toInt + 1 := ai_inc ex38 (by decide) (by decide) u12f_j4l3 (by decide)
          have bx38 : (1 : Int) ≤ x38.toInt ∧ x38.toInt ≤ 9 := ⟨by rw [qx38]; exact Int.add_le_add bj4l3_l (Int.le_refl _), by rw [qx38]; exact Int.add_le_add u12f_j4l3 (Int.le_refl _)⟩
          refine lv_iinc (v := x38) (lv' := [(3, .int x38), (0, .ref a0), (1, .int a1), (2, .int j38l2)]) hx hb dX7_led_38 hl (k := 3) rfl ex38.symm (by decide) rfl (fun ls hl => ?_)
          refine lv_goto (tgt := 4) hx hb dX7_led_41 (by decide) ?_
          exact (hK0 _ _ _).mp (ih4 x38 j38l2 _ _ _ (by have h0 := qx38; omega) (Int.le_trans zq4 bx38.1) bx38.2 hP hD hS (lv_sub hl [1, 2, 3, 0] rfl))
        refine lv_icmp_eq (tgt := 38) hx hb dX7_led_25 (by decide) (fun c25 => ?_) (fun c25 => ?_)
        · have gc25 := ai_eq c25
          have u25t_x23 : x23.toInt ≤ (8 : Int) := Int.le_trans (Int.le_of_eq gc25) u12f_j4l3
          have l25t_x23 : (0 : Int) ≤ x23.toInt := Int.le_trans bj4l3_l (Int.le_of_eq gc25.symm)
          exact (hK0 _ _ _).mp (J38 j4l2 _ _ _   hP hD hS (lv_sub hl [0, 1, 2, 3] rfl))
        · have gc25 := ai_ne c25
          refine lv_iload_n hx hb dX7_led_28 rfl (lv_at hl 2 rfl) ?_
          refine lv_iload_n hx hb dX7_led_29 rfl (lv_at hl 1 rfl) ?_
          refine lv_icmp_ne (tgt := 35) hx hb dX7_led_30 (by decide) (fun c30 => ?_) (fun c30 => ?_)
          · have gc30 := ai_ne c30
            obtain ⟨x35, ex35⟩ : ∃ y : Int32, y = j4l2 + Int32.ofInt 1 := ⟨_, rfl⟩
            refine lv_iinc (v := x35) (lv' := [(2, .int x35), (0, .ref a0), (1, .int a1), (3, .int j4l3)]) hx hb dX7_led_35 hl (k := 2) rfl ex35.symm (by decide) rfl (fun ls hl => ?_)
            exact (hK0 _ _ _).mp (J38 x35 _ _ _   hP hD hS (lv_sub hl [1, 2, 0, 3] rfl))
          · have gc30 := ai_eq c30
            refine lv_iload_n hx hb dX7_led_33 rfl (lv_at hl 3 rfl) ?_
            refine W.widen (k := 1) (n := 6) (Nat.le_of_ble_eq_true rfl) (Nat.le_of_ble_eq_true rfl) ?_
            refine vx_ret ?_
            exact W.iret (v := j4l3) hx hb hr (fun t ht hW => ⟨⟨j4l3, (), rfl, trivial, by rw [ht]; exact hP, va_K.moved hW.alike hK, hD⟩, hS.F ht⟩) hS.2.2 dX7_led_34
  exact (hK0 _ _ _).mp (J4 10 0 0 _ _ _ (by have h1 : (0 : Int) ≤ (0 : Int32).toInt := zq5; have h2 : (0 : Int32).toInt ≤ (0 : Int) := zq6; omega) zq5 (Int.le_trans zq6 zq7) hP hD hS (lv_sub hl [2, 3, 1, 0] rfl))
set_option maxHeartbeats 4000000 in
set_option maxRecDepth 100000 in
theorem c_L_led (l : Launch) (hl0 : l.stackTraces = false) (sa oa : Nat) (ko : ClassId) (fo : Nat → Int64) (dC : Nat → ClassId) (dI : Nat → Nat → Nat) (sz : Nat) (a0 : Nat) (a1 : Int32) (a0g_0 a0g_2 a0g_3 a0g_4 a0g_5 a0g_6 a0g_8 a0g_9 a0g_10 : Value) (a0_1 : Nat) (a0_7 : Nat) (a0_7_0 : Int32) (a0_7g_1 a0_7g_2 a0_7g_3 a0_7g_4 a0_7g_5 a0_7g_6 a0_7g_7 a0_7g_8 a0_7g_9 a0_7g_10 a0_7g_11 a0_7g_12 a0_7g_13 a0_7g_14 : Value) (a0_1g_0 a0_1g_1 a0_1g_2 a0_1g_3 a0_1g_4 a0_1g_6 : Value) (a0_1_5 : Nat) (ka0_1_5 : ClassId) (fa0_1_5 : Nat → Int32) (ba0_7_0_l : (0 : Int) ≤ a0_7_0.toInt) (ba0_7_0_u : a0_7_0.toInt ≤ (9 : Int)) : vx_Met l yL_led wsL_led ({ frames := 7, cells := 1, slots := 6, locals := 105 }) (va_Pc [.ref a0, .int a1, .ref oa] (ax_C dC dI sz [(a0, .inr (7, [a0g_0, .ref a0_1, a0g_2, a0g_3, a0g_4, a0g_5, a0g_6, .ref a0_7, a0g_8, a0g_9, a0g_10])), (a0_7, .inr (0, [.int a0_7_0, a0_7g_1, a0_7g_2, a0_7g_3, a0_7g_4, a0_7g_5, a0_7g_6, a0_7g_7, a0_7g_8, a0_7g_9, a0_7g_10, a0_7g_11, a0_7g_12, a0_7g_13, a0_7g_14])), (a0_1, .inr (5, [a0_1g_0, a0_1g_1, a0_1g_2, a0_1g_3, a0_1g_4, .ref a0_1_5, a0_1g_6])), (a0_1_5, .inl (ka0_1_5, 9, .inl (fa0_1_5))), (oa, .inl (ko, 1, .inr (.inl (fo))))] [(ka0_1_5, .int), (ko, .long)] (ax_EL (va_A [(a0, .inr (7, [a0g_0, .ref a0_1, a0g_2, a0g_3, a0g_4, a0g_5, a0g_6, .ref a0_7, a0g_8, a0g_9, a0g_10])), (a0_7, .inr (0, [.int a0_7_0, a0_7g_1, a0_7g_2, a0_7g_3, a0_7g_4, a0_7g_5, a0_7g_6, a0_7g_7, a0_7g_8, a0_7g_9, a0_7g_10, a0_7g_11, a0_7g_12, a0_7g_13, a0_7g_14])), (a0_1, .inr (5, [a0_1g_0, a0_1g_1, a0_1g_2, a0_1g_3, a0_1g_4, .ref a0_1_5, a0_1g_6])), (a0_1_5, .inl (ka0_1_5, 9, .inl (fa0_1_5))), (oa, .inl (ko, 1, .inr (.inl (fo))))] sz) sa))) (va_Qi (fun (_ : Int32) (_ : Unit) => True) (fun (_ : Unit) (t : State) => ∃ f9 : Nat → Int64, ax_B dC dI (va_A [(a0, .inr (7, [a0g_0, .ref a0_1, a0g_2, a0g_3, a0g_4, a0g_5, a0g_6, .ref a0_7, a0g_8, a0g_9, a0g_10])), (a0_7, .inr (0, [.int a0_7_0, a0_7g_1, a0_7g_2, a0_7g_3, a0_7g_4, a0_7g_5, a0_7g_6, a0_7g_7, a0_7g_8, a0_7g_9, a0_7g_10, a0_7g_11, a0_7g_12, a0_7g_13, a0_7g_14])), (a0_1, .inr (5, [a0_1g_0, a0_1g_1, a0_1g_2, a0_1g_3, a0_1g_4, .ref a0_1_5, a0_1g_6])), (a0_1_5, .inl (ka0_1_5, 9, .inl (fa0_1_5))), (oa, .inl (ko, 1, .inr (.inl (fo))))] sz) [(a0, .inr (7, [a0g_0, .ref a0_1, a0g_2, a0g_3, a0g_4, a0g_5, a0g_6, .ref a0_7, a0g_8, a0g_9, a0g_10])), (a0_7, .inr (0, [.int a0_7_0, a0_7g_1, a0_7g_2, a0_7g_3, a0_7g_4, a0_7g_5, a0_7g_6, a0_7g_7, a0_7g_8, a0_7g_9, a0_7g_10, a0_7g_11, a0_7g_12, a0_7g_13, a0_7g_14])), (a0_1, .inr (5, [a0_1g_0, a0_1g_1, a0_1g_2, a0_1g_3, a0_1g_4, .ref a0_1_5, a0_1g_6])), (a0_1_5, .inl (ka0_1_5, 9, .inl (fa0_1_5))), (oa, .inl (ko, 1, .inr (.inl (f9))))] [(ka0_1_5, .int), (ko, .long)] t) (va_A [(a0, .inr (7, [a0g_0, .ref a0_1, a0g_2, a0g_3, a0g_4, a0g_5, a0g_6, .ref a0_7, a0g_8, a0g_9, a0g_10])), (a0_7, .inr (0, [.int a0_7_0, a0_7g_1, a0_7g_2, a0_7g_3, a0_7g_4, a0_7g_5, a0_7g_6, a0_7g_7, a0_7g_8, a0_7g_9, a0_7g_10, a0_7g_11, a0_7g_12, a0_7g_13, a0_7g_14])), (a0_1, .inr (5, [a0_1g_0, a0_1g_1, a0_1g_2, a0_1g_3, a0_1g_4, .ref a0_1_5, a0_1g_6])), (a0_1_5, .inl (ka0_1_5, 9, .inl (fa0_1_5))), (oa, .inl (ko, 1, .inr (.inl (fo))))] sz)) (vx_X (fun (_ : Unit) => False) (fun (_ : String) (_ : Unit) (_ : State) => True) (fun _ => False)) 1 6 (va_A [(a0, .inr (7, [a0g_0, .ref a0_1, a0g_2, a0g_3, a0g_4, a0g_5, a0g_6, .ref a0_7, a0g_8, a0g_9, a0g_10])), (a0_7, .inr (0, [.int a0_7_0, a0_7g_1, a0_7g_2, a0_7g_3, a0_7g_4, a0_7g_5, a0_7g_6, a0_7g_7, a0_7g_8, a0_7g_9, a0_7g_10, a0_7g_11, a0_7g_12, a0_7g_13, a0_7g_14])), (a0_1, .inr (5, [a0_1g_0, a0_1g_1, a0_1g_2, a0_1g_3, a0_1g_4, .ref a0_1_5, a0_1g_6])), (a0_1_5, .inl (ka0_1_5, 9, .inl (fa0_1_5))), (oa, .inl (ko, 1, .inr (.inl (fo))))] sz) := by
  refine vx_ofWH (hh := [(0, 9, 12, 13)]) (cc := cL_led) (maxL := 4) (ret := some .int) (by decide) rfl ?_
  intro p e s m args below meth c s₁ B hml hv
  have htab : c.exceptionTable.toList = tableOf [(0, 9, 12, 13)] := vx_table (x := yL_led) B (atoms_spec (ws := wsL_led) B.pre _ List.mem_cons_self)
  obtain ⟨rfl, hsz, hP, hK, hD0, hE⟩ := hv
  have hx := B.exec
  have hb := B.bytes
  have hr := B.returns
  have hts := atoms_spec (ws := wsL_led) B.pre
  have hown : s.vm.findClass RL = some m.cls := findClass_of_methodNamed B.named
  have hlocks := B.notSynchronized
  subst hsz
  have hD := hD0.self (sz := s.heap.size)
  generalize hAe : va_A [(a0, .inr (7, [a0g_0, .ref a0_1, a0g_2, a0g_3, a0g_4, a0g_5, a0g_6, .ref a0_7, a0g_8, a0g_9, a0g_10])), (a0_7, .inr (0, [.int a0_7_0, a0_7g_1, a0_7g_2, a0_7g_3, a0_7g_4, a0_7g_5, a0_7g_6, a0_7g_7, a0_7g_8, a0_7g_9, a0_7g_10, a0_7g_11, a0_7g_12, a0_7g_13, a0_7g_14])), (a0_1, .inr (5, [a0_1g_0, a0_1g_1, a0_1g_2, a0_1g_3, a0_1g_4, .ref a0_1_5, a0_1g_6])), (a0_1_5, .inl (ka0_1_5, 9, .inl (fa0_1_5))), (oa, .inl (ko, 1, .inr (.inl (fo))))] s.heap.size = A at hD hE ⊢
  have hA : ∀ q : Nat, s.heap.size ≤ q → A q := fun q h => by rw [← hAe]; exact Or.inr h
  have hS : va_S A s.heap s.heap [] := va_S.rf
  have hP : va_P (dC, dI) vwCl [(a0, .inr (7, [a0g_0, .ref a0_1, a0g_2, a0g_3, a0g_4, a0g_5, a0g_6, .ref a0_7, a0g_8, a0g_9, a0g_10])), (a0_7, .inr (0, [.int a0_7_0, a0_7g_1, a0_7g_2, a0_7g_3, a0_7g_4, a0_7g_5, a0_7g_6, a0_7g_7, a0_7g_8, a0_7g_9, a0_7g_10, a0_7g_11, a0_7g_12, a0_7g_13, a0_7g_14])), (a0_1, .inr (5, [a0_1g_0, a0_1g_1, a0_1g_2, a0_1g_3, a0_1g_4, .ref a0_1_5, a0_1g_6])), (a0_1_5, .inl (ka0_1_5, 9, .inl (fa0_1_5))), (oa, .inl (ko, 1, .inr (.inl (fo))))] s.heap := hP
  have hl := lv_entry ([.ref a0, .int a1, .ref oa]) (n := 4) (Nat.le_of_ble_eq_true rfl)
  rw [lg_entry_eq]
  generalize (lg_sl ([.ref a0, .int a1, .ref oa]) ++ List.replicate (4 - (lg_sl ([.ref a0, .int a1, .ref oa])).length) Slot.unset).toArray = ls at hl ⊢
  have hl : lv_has ls 4 [(0, .ref a0), (1, .int a1), (2, .ref oa)] := hl
  refine lv_aload_n hx hb dL_led_0 rfl (lv_at hl 2 rfl) ?_
  refine lv_iconst (v := 0) hx hb dL_led_1 zk_iconst_0 ?_
  refine lv_aload_n hx hb dL_led_2 rfl (lv_at hl 0 rfl) ?_
  refine lv_iload_n hx hb dL_led_3 rfl (lv_at hl 1 rfl) ?_
  obtain ⟨hPc, hDc, hFc, hCc⟩ := zc_cut (wc := [(a0, .inr (7, [a0g_0, .ref a0_1, a0g_2, a0g_3, a0g_4, a0g_5, a0g_6, .ref a0_7, a0g_8, a0g_9, a0g_10])), (a0_7, .inr (0, [.int a0_7_0, a0_7g_1, a0_7g_2, a0_7g_3, a0_7g_4, a0_7g_5, a0_7g_6, a0_7g_7, a0_7g_8, a0_7g_9, a0_7g_10, a0_7g_11, a0_7g_12, a0_7g_13, a0_7g_14])), (a0_1, .inr (5, [a0_1g_0, a0_1g_1, a0_1g_2, a0_1g_3, a0_1g_4, .ref a0_1_5, a0_1g_6])), (a0_1_5, .inl (ka0_1_5, 9, .inl (fa0_1_5)))]) hP hD hS hA [0, 1, 2, 3] (by decide +kernel) rfl
  have hKc := hK.sub (tys' := [(ka0_1_5, .int)]) [0] rfl
  refine vx_calli (vx_runV (As := [.int a1]) (rest := [.int 0, .ref oa]) ⟨hx, hb, hml, hown, hts⟩ (c_X7_led l hl0 sa dC dI s.heap.size a0 a1 a0g_0 a0g_2 a0g_3 a0g_4 a0g_5 a0g_6 a0g_8 a0g_9 a0g_10 a0_1 a0_7 a0_7_0 a0_7g_1 a0_7g_2 a0_7g_3 a0_7g_4 a0_7g_5 a0_7g_6 a0_7g_7 a0_7g_8 a0_7g_9 a0_7g_10 a0_7g_11 a0_7g_12 a0_7g_13 a0_7g_14 a0_1g_0 a0_1g_1 a0_1g_2 a0_1g_3 a0_1g_4 a0_1g_6 a0_1_5 ka0_1_5 fa0_1_5 ba0_7_0_l ba0_7_0_u) (cwV 1 hts gL_led_X7_led rfl rfl rfl (by decide +kernel) ⟨Nat.le_of_ble_eq_true rfl, Nat.le_of_ble_eq_true rfl⟩) ⟨ax_blind ax_EL_same, zr_7 hKc hPc (q0 := 0) rfl, ax_preE hPc hKc hDc (fun U hU hW => ax_EL_to hE (fun _ _ _ => rfl) hFc hU hW)⟩ rfl rfl hl.1 rfl (lv_room (Nat.le_of_ble_eq_true rfl)) dL_led_4 ⟨Nat.le_of_ble_eq_true rfl, Nat.le_of_ble_eq_true rfl⟩) hS (fun q _ h => hFc q h) hFc (fun q _ h => hFc q h) (fun E ce q9 u t H1 locs ht hvm _ hB hz1 hk1 hS hce hcv hcl => ?_) (fun r u t H1 locs ht hvm hw hB hz1 hk1 hS => ?_)
  · obtain ⟨hEn, hP1, hK1, hD1⟩ := hB
    subst hEn
    rw [ht] at hP1
    refine vx_catch (name := "java/util/NoSuchElementException") hown [] ⟨0, 9, 12, 13⟩ [] (by rw [htab]; rfl) (fun _ h => nomatch h) (by decide +kernel) (by decide +kernel) (hts (.classLink RL 13 "java/util/NoSuchElementException") (by decide +kernel)) (va_Nw.use rfl hE.2.2.2.1) hce hcv hcl ?_
    refine lv_astore_n (lv' := [(3, .ref q9), (0, .ref a0), (1, .int a1), (2, .ref oa)]) hx hb dL_led_12 rfl hl (by decide) rfl (fun ls hl => ?_)
    refine lv_iconst (v := 1) hx hb dL_led_13 zk_iconst_1 ?_
    refine vx_ret ?_
    obtain ⟨hP, hD⟩ := va_join (wr := [(oa, .inl (ko, 1, .inr (.inl (fo))))]) (w1 := [(a0, .inr (7, [a0g_0, .ref a0_1, a0g_2, a0g_3, a0g_4, a0g_5, a0g_6, .ref a0_7, a0g_8, a0g_9, a0g_10])), (a0_7, .inr (0, [.int a0_7_0, a0_7g_1, a0_7g_2, a0_7g_3, a0_7g_4, a0_7g_5, a0_7g_6, a0_7g_7, a0_7g_8, a0_7g_9, a0_7g_10, a0_7g_11, a0_7g_12, a0_7g_13, a0_7g_14])), (a0_1, .inr (5, [a0_1g_0, a0_1g_1, a0_1g_2, a0_1g_3, a0_1g_4, .ref a0_1_5, a0_1g_6])), (a0_1_5, .inl (ka0_1_5, 9, .inl (fa0_1_5)))]) hP hD [0, 1, 2, 3] [4] rfl rfl (by decide) (by decide) hk1 hFc hP1 hD1
    have hP : va_P (dC, dI) vwCl [(a0, .inr (7, [a0g_0, .ref a0_1, a0g_2, a0g_3, a0g_4, a0g_5, a0g_6, .ref a0_7, a0g_8, a0g_9, a0g_10])), (a0_7, .inr (0, [.int a0_7_0, a0_7g_1, a0_7g_2, a0_7g_3, a0_7g_4, a0_7g_5, a0_7g_6, a0_7g_7, a0_7g_8, a0_7g_9, a0_7g_10, a0_7g_11, a0_7g_12, a0_7g_13, a0_7g_14])), (a0_1, .inr (5, [a0_1g_0, a0_1g_1, a0_1g_2, a0_1g_3, a0_1g_4, .ref a0_1_5, a0_1g_6])), (a0_1_5, .inl (ka0_1_5, 9, .inl (fa0_1_5))), (oa, .inl (ko, 1, .inr (.inl (fo))))] H1 := hP.sub [1, 2, 3, 4, 0] rfl
    have hD : va_D A [(a0, .inr (7, [a0g_0, .ref a0_1, a0g_2, a0g_3, a0g_4, a0g_5, a0g_6, .ref a0_7, a0g_8, a0g_9, a0g_10])), (a0_7, .inr (0, [.int a0_7_0, a0_7g_1, a0_7g_2, a0_7g_3, a0_7g_4, a0_7g_5, a0_7g_6, a0_7g_7, a0_7g_8, a0_7g_9, a0_7g_10, a0_7g_11, a0_7g_12, a0_7g_13, a0_7g_14])), (a0_1, .inr (5, [a0_1g_0, a0_1g_1, a0_1g_2, a0_1g_3, a0_1g_4, .ref a0_1_5, a0_1g_6])), (a0_1_5, .inl (ka0_1_5, 9, .inl (fa0_1_5))), (oa, .inl (ko, 1, .inr (.inl (fo))))] := hD.sub [1, 2, 3, 4, 0] (by decide) rfl
    exact W.iret (v := 1) hx hb hr (fun t ht hW => ⟨⟨1, (), rfl, trivial, fo, by rw [ht]; exact hP, va_K.moved hW.alike hK, hD⟩, hS.F ht⟩) hS.2.2 dL_led_14
  · obtain ⟨hP1, hK1, hD1⟩ := hB
    rw [ht] at hP1
    obtain ⟨hP, hD⟩ := va_join (wr := [(oa, .inl (ko, 1, .inr (.inl (fo))))]) (w1 := [(a0, .inr (7, [a0g_0, .ref a0_1, a0g_2, a0g_3, a0g_4, a0g_5, a0g_6, .ref a0_7, a0g_8, a0g_9, a0g_10])), (a0_7, .inr (0, [.int a0_7_0, a0_7g_1, a0_7g_2, a0_7g_3, a0_7g_4, a0_7g_5, a0_7g_6, a0_7g_7, a0_7g_8, a0_7g_9, a0_7g_10, a0_7g_11, a0_7g_12, a0_7g_13, a0_7g_14])), (a0_1, .inr (5, [a0_1g_0, a0_1g_1, a0_1g_2, a0_1g_3, a0_1g_4, .ref a0_1_5, a0_1g_6])), (a0_1_5, .inl (ka0_1_5, 9, .inl (fa0_1_5)))]) hP hD [0, 1, 2, 3] [4] rfl rfl (by decide) (by decide) hk1 hFc hP1 hD1
    have hP : va_P (dC, dI) vwCl [(a0, .inr (7, [a0g_0, .ref a0_1, a0g_2, a0g_3, a0g_4, a0g_5, a0g_6, .ref a0_7, a0g_8, a0g_9, a0g_10])), (a0_7, .inr (0, [.int a0_7_0, a0_7g_1, a0_7g_2, a0_7g_3, a0_7g_4, a0_7g_5, a0_7g_6, a0_7g_7, a0_7g_8, a0_7g_9, a0_7g_10, a0_7g_11, a0_7g_12, a0_7g_13, a0_7g_14])), (a0_1, .inr (5, [a0_1g_0, a0_1g_1, a0_1g_2, a0_1g_3, a0_1g_4, .ref a0_1_5, a0_1g_6])), (a0_1_5, .inl (ka0_1_5, 9, .inl (fa0_1_5))), (oa, .inl (ko, 1, .inr (.inl (fo))))] H1 := hP.sub [1, 2, 3, 4, 0] rfl
    have hD : va_D A [(a0, .inr (7, [a0g_0, .ref a0_1, a0g_2, a0g_3, a0g_4, a0g_5, a0g_6, .ref a0_7, a0g_8, a0g_9, a0g_10])), (a0_7, .inr (0, [.int a0_7_0, a0_7g_1, a0_7g_2, a0_7g_3, a0_7g_4, a0_7g_5, a0_7g_6, a0_7g_7, a0_7g_8, a0_7g_9, a0_7g_10, a0_7g_11, a0_7g_12, a0_7g_13, a0_7g_14])), (a0_1, .inr (5, [a0_1g_0, a0_1g_1, a0_1g_2, a0_1g_3, a0_1g_4, .ref a0_1_5, a0_1g_6])), (a0_1_5, .inl (ka0_1_5, 9, .inl (fa0_1_5))), (oa, .inl (ko, 1, .inr (.inl (fo))))] := hD.sub [1, 2, 3, 4, 0] (by decide) rfl
    obtain ⟨y9, ey9⟩ : ∃ y : Int64, y = (r : Int32).toInt64 := ⟨_, rfl⟩
    refine lv_i2l (v := y9) hx hb dL_led_7 ey9.symm ?_
    refine va_last hx hb hK hP hD hS 4 1 rfl rfl (by unfold vp_in; decide +kernel) dL_led_8 (fun H locs hP hD hS => ?_)
    obtain ⟨f9, hP, hD⟩ : ∃ f9 : Nat → Int64, va_P (dC, dI) vwCl [(a0, .inr (7, [a0g_0, .ref a0_1, a0g_2, a0g_3, a0g_4, a0g_5, a0g_6, .ref a0_7, a0g_8, a0g_9, a0g_10])), (a0_7, .inr (0, [.int a0_7_0, a0_7g_1, a0_7g_2, a0_7g_3, a0_7g_4, a0_7g_5, a0_7g_6, a0_7g_7, a0_7g_8, a0_7g_9, a0_7g_10, a0_7g_11, a0_7g_12, a0_7g_13, a0_7g_14])), (a0_1, .inr (5, [a0_1g_0, a0_1g_1, a0_1g_2, a0_1g_3, a0_1g_4, .ref a0_1_5, a0_1g_6])), (a0_1_5, .inl (ka0_1_5, 9, .inl (fa0_1_5))), (oa, .inl (ko, 1, .inr (.inl (f9))))] H ∧ va_D A [(a0, .inr (7, [a0g_0, .ref a0_1, a0g_2, a0g_3, a0g_4, a0g_5, a0g_6, .ref a0_7, a0g_8, a0g_9, a0g_10])), (a0_7, .inr (0, [.int a0_7_0, a0_7g_1, a0_7g_2, a0_7g_3, a0_7g_4, a0_7g_5, a0_7g_6, a0_7g_7, a0_7g_8, a0_7g_9, a0_7g_10, a0_7g_11, a0_7g_12, a0_7g_13, a0_7g_14])), (a0_1, .inr (5, [a0_1g_0, a0_1g_1, a0_1g_2, a0_1g_3, a0_1g_4, .ref a0_1_5, a0_1g_6])), (a0_1_5, .inl (ka0_1_5, 9, .inl (fa0_1_5))), (oa, .inl (ko, 1, .inr (.inl (f9))))] := ⟨_, hP, hD⟩
    refine lv_goto (tgt := 15) hx hb dL_led_9 (by decide) ?_
    refine lv_iconst (v := 0) hx hb dL_led_15 zk_iconst_0 ?_
    refine vx_ret ?_
    exact W.iret (v := 0) hx hb hr (fun t ht hW => ⟨⟨0, (), rfl, trivial, f9, by rw [ht]; exact hP, va_K.moved hW.alike hK, hD⟩, hS.F ht⟩) hS.2.2 dL_led_16
end P430_led
section P440_lawhead
/-! THE CLAIM OUT OF ONE WALK OF THE LAW'S BODY. Your part is whole_start (and what it stands on); all else here is the same for every law, but numbers. -/
def R_law : String := "WaxTurnsLaw"
def lw_P (b : Addr) (xs : List Int32) (args : Array Value) (s : State) : Prop := args = #[.ref b] ∧ s.IntsAt b xs ∧ xs.length ≤ 3072 ∧ (Jvm.Cond.and given_1 narrow_1).before args s = true
def lw_Q (_ : Array Value) (s : State) (o : Outcome) (t : State) : Prop := o = .returned (some (.int 1)) ∧ Framed s o t [] 601024 7293034
def lw_Z (below : List Frame) (a : Array Value) (s : State) : State → Prop := fun t => ∃ o, t.status = .running ∧ Ended t below o ∧ lw_Q a s o t
/-- the law's own end, with 1 on the stack, nothing written that was there before, its room as the claim has it -/
theorem lw_ret {p : Program} {l : Launch} {e : Env} {s : State} {m : MethodId} {below : List Frame} {meth : Method} {c : Code} {b : Nat} (hx : p.tables.exec = Jvm.exec) (hb : c.code = code) (hr : meth.sig.returnType = ret) (hlocks : meth.locks = false) {pc : Nat} {H : Heap} {ls : Array Slot} (hdg : decode code pc = .ok (.ireturn, 1)) : W p l e room_1 s m #[Value.ref b] below meth c H [] 601024 7293034 (lw_Z below #[Value.ref b] s) (F0 m pc ls [.int 1]) := by
  intro T hT X
  obtain ⟨fs, hret, hrun, hended, hW, hframe⟩ := X.leave (v := some (.int 1)) (hlocks := hlocks) (fun h => by rw [hr] at h; cases h)
  have hmeth' : T.vm.method? m = some meth := X.method'
  refine ⟨T.setFrames fs, ?_, .returned (some (.int 1)), hrun, hended, rfl, ⟨_, rfl⟩, hW, hframe⟩
  jvm_step X.here [X.here.top, hx, hb, hdg, hmeth', hr, ret, narrow_b1]
  (try refine ⟨rfl, ?_⟩); (try refine ⟨rfl, ?_⟩)
  first | (intro acts; rw [hret _ acts rfl rfl rfl]) | rw [hret _ _ rfl rfl rfl]
  exact Steps.refl _
/-- what holds at the law's entry: the machine, the code, the tables' words (any of lw_tbl by 'hts w (by decide +kernel)'), the script of L ints xs at the cell b, what the Statement gives of the start (any of its parts by flat_of_before) -/
def lw_At (p : Program) (s : State) (m : MethodId) (meth : Method) (c : Code) (b L : Nat) (xs : Nat → Int32) : Prop :=
  p.tables.exec = Jvm.exec ∧ c.code = code ∧ meth.sig.returnType = ret ∧ c.maxLocals = 7 ∧ s.vm.findClass R_law = some m.cls ∧ (∀ w ∈ lw_tbl, w.before #[Value.ref b] s = true) ∧ va_X b L xs s s.heap ∧ b < s.heap.size ∧ meth.locks = false ∧ (Jvm.Cond.and given_1 narrow_1).before #[Value.ref b] s = true
section LG
def dj (wa wb : va_W) : Prop := ∀ (i j : Nat) (p q : Nat × va_E), wa[i]? = some p → wb[j]? = some q → p.1 ≠ q.1
theorem dj_symm {wa wb : va_W} (h : dj wa wb) : dj wb wa := fun i j p q a b z => h j i q p b a z.symm
theorem lg_step {D : va_G} {cl : List vw_C} {wa wa' wb : va_W} {H H1 : Heap} (hPb : va_P D cl wb H) (hj : dj wa wb) (hk : ∀ q : Nat, q < H.size → ¬ va_A wa H.size q → H1[q]? = H[q]?) (hD1 : va_D (va_A wa H.size) wa') : va_P D cl wb H1 ∧ dj wa' wb := by
  have out : ∀ (k : Nat) (q : Nat × va_E), wb[k]? = some q → q.1 < H.size ∧ ¬ va_A wa H.size q.1 := by
    intro k q h
    have hl := (hPb k q h).lt
    refine ⟨hl, fun z => ?_⟩
    rcases z with ⟨j, e, z⟩ | z
    · exact hj j k (q.1, e) q z h rfl
    · omega
  exact ⟨fun k q h => (hPb k q h).kept (hk q.1 (out k q h).1 (out k q h).2), fun i k p q a b z => (out k q b).2 (by rw [← z]; exact hD1.2 i p a)⟩
theorem lg_free {A : Nat → Prop} {w : va_W} {H0 H : Heap} {locs : List Loc} (hD : va_D A w) (hS : va_S A H0 H locs) (hA : ∀ q, H0.size ≤ q → A q) : ∀ q, va_A w H.size q → A q := by
  intro q h
  rcases h with ⟨k, e, h⟩ | h
  · exact hD.2 k _ h
  · exact hA q (Nat.le_trans hS.1 h)
theorem ix_recv {x : Nat} {tp : Int32} {vi : Nat → Int32} {vf : Nat → Nat → Int32} {w : va_W} {ts : List (ClassId × FieldType)} (h : IXv x tp vi vf w ts) : ∃ fs, w[0]? = some (x, .inr (7, fs)) := by
  obtain ⟨ad, kc, vl, fl, rfl, rfl, -⟩ := h
  exact ⟨_, rfl⟩
theorem im_recv {x : Nat} {tp : Int32} {vi : Nat → Int32} {vf : Nat → Nat → Int32} {w : va_W} {ts : List (ClassId × FieldType)} (h : IMv x tp vi vf w ts) : ∃ fs, w[0]? = some (x, .inr (8, fs)) := by
  obtain ⟨ad, kc, rfl, rfl, -⟩ := h
  exact ⟨_, rfl⟩
/-- the law's world between two calls: the two objects with tapes alike, and its row of one long -/
def lg_S (dC : Nat → ClassId) (dI : Nat → Nat → Nat) (A : Nat → Prop) (s : State) (x mo oa : Nat) (ko : ClassId) (H : Heap) : Prop := ∃ (tp : Int32) (wx wm : va_W) (tx tm : List (ClassId × FieldType)) (fo : Nat → Int64) (vi : Nat → Int32) (vf : Nat → Nat → Int32) (vm : Nat → Int32) (vn : Nat → Nat → Int32),
  IXv x tp vi vf wx tx ∧ IMv mo tp vm vn wm tm ∧ (lr_R tp vi vf vm vn ∧ lr_5 vi vm) ∧ va_K (dC, dI) vwCl tx s ∧ va_K (dC, dI) vwCl tm s ∧ va_P (dC, dI) vwCl wx H ∧ va_P (dC, dI) vwCl wm H ∧ va_P (dC, dI) vwCl [(oa, .inl (ko, 1, .inr (.inl fo)))] H ∧ va_D A wx ∧ va_D A wm ∧ va_D A [(oa, .inl (ko, 1, .inr (.inl fo)))] ∧ dj wx wm ∧ dj wx [(oa, .inl (ko, 1, .inr (.inl fo)))] ∧ dj wm [(oa, .inl (ko, 1, .inr (.inl fo)))]
/-- what the calls rest on beside the tables -/
def lg_E (A : Nat → Prop) (sd : Nat → Nat) (sa : Nat) (s : State) : Prop := sxc_T sd A s ∧ ax_EL A sa s ∧ va_Nw (.methodLinkNest RX5 38 yX7_hasBit RX7) s ∧ va_Nw (.methodLinkNest RX0 118 yX7_within RX7) s ∧ va_Nw (.methodLinkNest RX0 129 yX7_hasBit RX7) s ∧ va_Nw (.methodLinkNest RX4 18 yX7_within RX7) s ∧ va_Nw (.methodLinkNest RX0 72 yX7_laterTurn RX7) s ∧ va_Nw (.methodLinkNest RX1 41 yX7_within RX7) s ∧ va_Nw (.methodLinkNest RX3 223 yX7_within RX7) s ∧ va_Nw (.methodLinkNest RX3 196 yX7_hasBit RX7) s
theorem dj_o {w : va_W} {oa : Nat} {ko : ClassId} {fo fp : Nat → Int64} (h : dj w [(oa, .inl (ko, 1, .inr (.inl fo)))]) : dj w [(oa, .inl (ko, 1, .inr (.inl fp)))] := by
  intro i j p q a b
  cases j with
  | zero =>
    have e := Option.some.inj b
    rw [← e]; exact h i 0 p (oa, .inl (ko, 1, .inr (.inl fo))) a rfl
  | succ j => exact absurd b (by simp)
theorem va_D_o {A : Nat → Prop} {oa : Nat} {ko : ClassId} {fo fp : Nat → Int64} (h : va_D A [(oa, .inl (ko, 1, .inr (.inl fo)))]) : va_D A [(oa, .inl (ko, 1, .inr (.inl fp)))] := by
  refine ⟨fun i j p q a b z => ?_, fun k q a => ?_⟩
  · cases i with
    | zero => cases j with
      | zero => rfl
      | succ j => exact absurd b (by simp)
    | succ i => exact absurd a (by simp)
  · cases k with
    | zero =>
      have e := Option.some.inj a
      rw [← e]; exact h.2 0 (oa, .inl (ko, 1, .inr (.inl fo))) rfl
    | succ k => exact absurd a (by simp)
theorem ix_tp {x : Nat} {tp : Int32} {vi : Nat → Int32} {vf : Nat → Nat → Int32} {w : va_W} {ts : List (ClassId × FieldType)} (h : IXv x tp vi vf w ts) : (0 : Int) ≤ tp.toInt ∧ tp.toInt ≤ 900 := by
  obtain ⟨ad, kc, vl, fl, -, -, F0, F1, F2, F3, F4, F5, F6, F7, F8, F9, F10, F11, F12, F13, F14, F15, F16, F17, F18, F19, F20, F21, F22, F23, F24, F25, F26, F27, F28, F29, F30, F31, F32, F33, F34, F35, F36, F37, F38, F39, F40, F41, F42, F43, F44, F45, F46, F47, F48, F49, F50, F51, F52, F53, F54, F55, F56, F57⟩ := h
  exact F0
end LG
theorem dj_sub {wa wc wb : va_W} {is : List Nat} (hC : is.map (fun i => wa[i]?) = wc.map some) (h : dj wa wb) : dj wc wb := by
  intro i j p q a b
  have hj : ∃ z, is[i]? = some z := by
    have hlt : i < wc.length := (List.getElem?_eq_some_iff.mp a).1
    rw [← fr_len hC] at hlt
    exact ⟨is[i], List.getElem?_eq_getElem hlt⟩
  obtain ⟨z, hz⟩ := hj
  obtain ⟨p2, g1, g2⟩ := fr_at hC hz
  rw [a] at g1
  have e1 := Option.some.inj g1
  subst e1
  exact h z j p q g2 b
theorem dj_app {wa wb wc : va_W} (h1 : dj wa wc) (h2 : dj wb wc) : dj (wa ++ wb) wc := by
  intro i j p q a b
  by_cases hi : i < wa.length
  · rw [List.getElem?_append_left hi] at a; exact h1 i j p q a b
  · rw [List.getElem?_append_right (by omega)] at a; exact h2 _ j p q a b
/-- behind led: the cells stand as they stood -/
theorem lg_led {D : va_G} {cl : List vw_C} {A : Nat → Prop} {w wc wo : va_W} {H H1 : Heap} (is : List Nat) (hC : is.map (fun i => w[i]?) = wc.map some) (hP : va_P D cl w H) (hD : va_D A w) (hj : dj w wo) (hk : ∀ q : Nat, q < H.size → ¬ va_A (wc ++ wo) H.size q → H1[q]? = H[q]?) (hP1 : va_P D cl wc H1) : va_P D cl w H1 := by
  intro k q h
  have hq := hP k q h
  by_cases hin : va_A wc H.size q.1
  · rcases hin with ⟨j, e, hj2⟩ | h9
    · have hx : ∃ z, is[j]? = some z := by
        have hlt : j < wc.length := (List.getElem?_eq_some_iff.mp hj2).1
        rw [← fr_len hC] at hlt
        exact ⟨is[j], List.getElem?_eq_getElem hlt⟩
      obtain ⟨z, hz⟩ := hx
      obtain ⟨p2, g1, g2⟩ := fr_at hC hz
      rw [hj2] at g1
      have e1 := Option.some.inj g1
      have e2 := hD.1 k z q p2 h g2 (by rw [← e1])
      subst e2
      rw [h] at g2
      have e3 := Option.some.inj g2
      rw [e3, ← e1]
      exact hP1 j _ hj2
    · have := hq.lt; omega
  · refine hq.kept (hk q.1 hq.lt (fun h9 => ?_))
    rcases h9 with ⟨j, e, h9⟩ | h9
    · by_cases hlt : j < wc.length
      · rw [List.getElem?_append_left hlt] at h9; exact hin (Or.inl ⟨j, e, h9⟩)
      · rw [List.getElem?_append_right (by omega)] at h9; exact hj k _ q _ h h9 rfl
    · have := hq.lt; omega
theorem lc_tb {w : Cond} {i : Nat} (h : tables_1[i]? = some w) : w ∈ lw_tbl := List.mem_append_right _ (List.mem_of_getElem? h)
theorem va_P_l {D : va_G} {cl : List vw_C} {wa wb : va_W} {H : Heap} (h : va_P D cl (wa ++ wb) H) : va_P D cl wa H := fun k q a => h k q (by rw [List.getElem?_append_left (List.getElem?_eq_some_iff.mp a).1]; exact a)
theorem va_P_r {D : va_G} {cl : List vw_C} {wa wb : va_W} {H : Heap} (h : va_P D cl (wa ++ wb) H) : va_P D cl wb H := fun k q a => h (wa.length + k) q (by rw [List.getElem?_append_right (by omega)]; rw [Nat.add_sub_cancel_left]; exact a)
theorem va_D_l {A : Nat → Prop} {wa wb : va_W} (h : va_D A (wa ++ wb)) : va_D A wa := ⟨fun i j p q a b => h.1 i j p q (by rw [List.getElem?_append_left (List.getElem?_eq_some_iff.mp a).1]; exact a) (by rw [List.getElem?_append_left (List.getElem?_eq_some_iff.mp b).1]; exact b), fun k q a => h.2 k q (by rw [List.getElem?_append_left (List.getElem?_eq_some_iff.mp a).1]; exact a)⟩
theorem va_D_r {A : Nat → Prop} {wa wb : va_W} (h : va_D A (wa ++ wb)) : va_D A wb := ⟨fun i j p q a b z => by
    have := h.1 (wa.length + i) (wa.length + j) p q (by rw [List.getElem?_append_right (by omega), Nat.add_sub_cancel_left]; exact a) (by rw [List.getElem?_append_right (by omega), Nat.add_sub_cancel_left]; exact b) z
    omega, fun k q a => h.2 (wa.length + k) q (by rw [List.getElem?_append_right (by omega), Nat.add_sub_cancel_left]; exact a)⟩
theorem va_D_j {A : Nat → Prop} {wa wb : va_W} (h : va_D A (wa ++ wb)) : dj wa wb := fun i j p q a b z => by
  have hl := (List.getElem?_eq_some_iff.mp a).1
  have := h.1 i (wa.length + j) p q (by rw [List.getElem?_append_left hl]; exact a) (by rw [List.getElem?_append_right (by omega), Nat.add_sub_cancel_left]; exact b) z
  omega
end P440_lawhead
section P441_strs
theorem sxc_of {args : Array Value} {s : State} {own : String} {k n : Nat} {byt : List Int32} {A : Nat → Prop} (hz : sx_Z A s) (hn : n ≤ 8) (hex : (Cond.exactly (.string own k) "java/lang/String").before args s = true) (hco : (Cond.eq (.field (.string own k) "java/lang/String" "code\x72" "B") (.int 0)).before args s = true)
    (har : (Cond.arrayOf (.field (.string own k) "java/lang/String" "value" "[B") .byte).before args s = true) (hle : (Cond.eq (.length (.field (.string own k) "java/lang/String" "value" "[B")) (.int (Int32.ofNat n))).before args s = true)
    (hel : ∀ j : Nat, j < n → (Cond.eq (.elem (.field (.string own k) "java/lang/String" "value" "[B") (.int (Int32.ofNat j))) (.int (byt.getD j 0))).before args s = true) (hbd : ∀ j : Nat, j < n → (0 : Int) ≤ (byt.getD j 0).toInt ∧ (byt.getD j 0).toInt ≤ 127) (hA : ∀ a : Nat, a < s.heap.size → ¬ A a) : ∃ w : Nat, (Term.string own k).eval args s none [] s = some (.ref w) ∧ sxc_W w n (fun j => byt.getD j 0) A s := by
  obtain ⟨adK, adV, h1, h2⟩ := vk_Sof (args := args) (s := s) (N := 1) (tm := fun _ => .string own k) (len := [n]) (byt := [byt]) (A := A)
    (fun i hi => by have e : i = 0 := (by omega); subst e; show n < 2 ^ 31; omega) (fun i hi => hex) (fun i hi => hco) (fun i hi => har) (fun i hi => by have e : i = 0 := (by omega); subst e; exact hle) (fun i hi j hj => by have e : i = 0 := (by omega); subst e; exact hel j hj) (fun i j hi hj hne => absurd (show i = j by omega) hne) hA
  have h := h1.1 0 (by omega)
  exact ⟨adK 0, h2 0 (by omega), hz, hn, h.1, h.2.1, hbd, adV 0, h.2.2.1, h.2.2.2⟩
/-- what the start says of a String -/
def sx_ck (own : String) (k n : Nat) (byt : List Int32) : List Cond := Cond.exactly (.string own k) "java/lang/String" :: Cond.eq (.field (.string own k) "java/lang/String" "code\x72" "B") (.int 0) :: Cond.arrayOf (.field (.string own k) "java/lang/String" "value" "[B") .byte :: Cond.eq (.length (.field (.string own k) "java/lang/String" "value" "[B")) (.int (Int32.ofNat n)) :: (List.range n).map (fun j => Cond.eq (.elem (.field (.string own k) "java/lang/String" "value" "[B") (.int (Int32.ofNat j))) (.int (byt.getD j 0)))
theorem sxc_of2 {args : Array Value} {s : State} {own : String} {k n : Nat} {byt : List Int32} {A : Nat → Prop} {T : Cond} (hz : sx_Z A s) (hn : n ≤ 8) (hsn : ∀ c ∈ flatC T, c.before args s = true) (i : Nat) (hc : ((flatC T).drop i).take (n + 4) = sx_ck own k n byt) (hbd : ∀ j : Nat, j < n → (0 : Int) ≤ (byt.getD j 0).toInt ∧ (byt.getD j 0).toInt ≤ 127) (hA : ∀ a : Nat, a < s.heap.size → ¬ A a) : ∃ w : Nat, (Term.string own k).eval args s none [] s = some (.ref w) ∧ sxc_W w n (fun j => byt.getD j 0) A s := by
  have hm : ∀ c ∈ sx_ck own k n byt, c.before args s = true := fun c h => hsn c (by rw [← hc] at h; exact List.mem_of_mem_drop (List.mem_of_mem_take h))
  unfold sx_ck at hm
  exact sxc_of hz hn (hm _ List.mem_cons_self) (hm _ (List.mem_cons_of_mem _ List.mem_cons_self)) (hm _ (List.mem_cons_of_mem _ (List.mem_cons_of_mem _ List.mem_cons_self))) (hm _ (List.mem_cons_of_mem _ (List.mem_cons_of_mem _ (List.mem_cons_of_mem _ List.mem_cons_self)))) (fun j hj => hm _ (List.mem_cons_of_mem _ (List.mem_cons_of_mem _ (List.mem_cons_of_mem _ (List.mem_cons_of_mem _ (List.mem_map.mpr ⟨j, List.mem_range.mpr hj, rfl⟩)))))) hbd hA
set_option maxHeartbeats 4000000 in
set_option maxRecDepth 100000 in
theorem lg_s0 {s : State} {b : Nat} {A : Nat → Prop} (hz : sx_Z A s) (hgv : (Jvm.Cond.and given_1 narrow_1).before #[Value.ref b] s = true) (hA3 : ∀ a : Nat, a < s.heap.size → ¬ A a) : ∃ w : Nat, (Term.string RX3 98).eval #[Value.ref b] s none [] s = some (.ref w) ∧ sxc_W w 7 (sxc 0) A s := by
  exact sxc_of2 (own := RX3) (k := 98) (n := 7) (byt := [103, 97, 108, 108, 101, 114, 121]) hz (by decide) (flat_of_before _ hgv) 20 (by decide +kernel) (by decide) hA3

set_option maxHeartbeats 4000000 in
set_option maxRecDepth 100000 in
theorem lg_s1 {s : State} {b : Nat} {A : Nat → Prop} (hz : sx_Z A s) (hgv : (Jvm.Cond.and given_1 narrow_1).before #[Value.ref b] s = true) (hA3 : ∀ a : Nat, a < s.heap.size → ¬ A a) : ∃ w : Nat, (Term.string RX3 110).eval #[Value.ref b] s none [] s = some (.ref w) ∧ sxc_W w 3 (sxc 1) A s := by
  exact sxc_of2 (own := RX3) (k := 110) (n := 3) (byt := [108, 97, 119]) hz (by decide) (flat_of_before _ hgv) 68 (by decide +kernel) (by decide) hA3

set_option maxHeartbeats 4000000 in
set_option maxRecDepth 100000 in
theorem lg_s2 {s : State} {b : Nat} {A : Nat → Prop} (hz : sx_Z A s) (hgv : (Jvm.Cond.and given_1 narrow_1).before #[Value.ref b] s = true) (hA3 : ∀ a : Nat, a < s.heap.size → ¬ A a) : ∃ w : Nat, (Term.string RX3 112).eval #[Value.ref b] s none [] s = some (.ref w) ∧ sxc_W w 6 (sxc 2) A s := by
  exact sxc_of2 (own := RX3) (k := 112) (n := 6) (byt := [102, 105, 103, 117, 114, 101]) hz (by decide) (flat_of_before _ hgv) 75 (by decide +kernel) (by decide) hA3

set_option maxHeartbeats 4000000 in
set_option maxRecDepth 100000 in
theorem lg_s3 {s : State} {b : Nat} {A : Nat → Prop} (hz : sx_Z A s) (hgv : (Jvm.Cond.and given_1 narrow_1).before #[Value.ref b] s = true) (hA3 : ∀ a : Nat, a < s.heap.size → ¬ A a) : ∃ w : Nat, (Term.string RX3 114).eval #[Value.ref b] s none [] s = some (.ref w) ∧ sxc_W w 7 (sxc 3) A s := by
  exact sxc_of2 (own := RX3) (k := 114) (n := 7) (byt := [119, 97, 116, 99, 104, 101, 114]) hz (by decide) (flat_of_before _ hgv) 85 (by decide +kernel) (by decide) hA3

set_option maxHeartbeats 4000000 in
set_option maxRecDepth 100000 in
theorem lg_s4 {s : State} {b : Nat} {A : Nat → Prop} (hz : sx_Z A s) (hgv : (Jvm.Cond.and given_1 narrow_1).before #[Value.ref b] s = true) (hA3 : ∀ a : Nat, a < s.heap.size → ¬ A a) : ∃ w : Nat, (Term.string RX3 116).eval #[Value.ref b] s none [] s = some (.ref w) ∧ sxc_W w 4 (sxc 4) A s := by
  exact sxc_of2 (own := RX3) (k := 116) (n := 4) (byt := [115, 101, 101, 110]) hz (by decide) (flat_of_before _ hgv) 96 (by decide +kernel) (by decide) hA3

set_option maxHeartbeats 4000000 in
set_option maxRecDepth 100000 in
theorem lg_s5 {s : State} {b : Nat} {A : Nat → Prop} (hz : sx_Z A s) (hgv : (Jvm.Cond.and given_1 narrow_1).before #[Value.ref b] s = true) (hA3 : ∀ a : Nat, a < s.heap.size → ¬ A a) : ∃ w : Nat, (Term.string RX3 151).eval #[Value.ref b] s none [] s = some (.ref w) ∧ sxc_W w 7 (sxc 5) A s := by
  exact sxc_of2 (own := RX3) (k := 151) (n := 7) (byt := [102, 105, 103, 117, 114, 101, 115]) hz (by decide) (flat_of_before _ hgv) 31 (by decide +kernel) (by decide) hA3

set_option maxHeartbeats 4000000 in
set_option maxRecDepth 100000 in
theorem lg_s6 {s : State} {b : Nat} {A : Nat → Prop} (hz : sx_Z A s) (hgv : (Jvm.Cond.and given_1 narrow_1).before #[Value.ref b] s = true) (hA3 : ∀ a : Nat, a < s.heap.size → ¬ A a) : ∃ w : Nat, (Term.string RX3 159).eval #[Value.ref b] s none [] s = some (.ref w) ∧ sxc_W w 4 (sxc 6) A s := by
  exact sxc_of2 (own := RX3) (k := 159) (n := 4) (byt := [115, 112, 97, 110]) hz (by decide) (flat_of_before _ hgv) 42 (by decide +kernel) (by decide) hA3

set_option maxHeartbeats 4000000 in
set_option maxRecDepth 100000 in
theorem lg_s7 {s : State} {b : Nat} {A : Nat → Prop} (hz : sx_Z A s) (hgv : (Jvm.Cond.and given_1 narrow_1).before #[Value.ref b] s = true) (hA3 : ∀ a : Nat, a < s.heap.size → ¬ A a) : ∃ w : Nat, (Term.string RX3 163).eval #[Value.ref b] s none [] s = some (.ref w) ∧ sxc_W w 6 (sxc 7) A s := by
  exact sxc_of2 (own := RX3) (k := 163) (n := 6) (byt := [115, 116, 97, 105, 114, 115]) hz (by decide) (flat_of_before _ hgv) 50 (by decide +kernel) (by decide) hA3

set_option maxHeartbeats 4000000 in
set_option maxRecDepth 100000 in
theorem lg_s8 {s : State} {b : Nat} {A : Nat → Prop} (hz : sx_Z A s) (hgv : (Jvm.Cond.and given_1 narrow_1).before #[Value.ref b] s = true) (hA3 : ∀ a : Nat, a < s.heap.size → ¬ A a) : ∃ w : Nat, (Term.string RX3 168).eval #[Value.ref b] s none [] s = some (.ref w) ∧ sxc_W w 4 (sxc 8) A s := by
  exact sxc_of2 (own := RX3) (k := 168) (n := 4) (byt := [115, 104, 117, 116]) hz (by decide) (flat_of_before _ hgv) 60 (by decide +kernel) (by decide) hA3

set_option maxHeartbeats 4000000 in
set_option maxRecDepth 100000 in
theorem lg_s9 {s : State} {b : Nat} {A : Nat → Prop} (hz : sx_Z A s) (hgv : (Jvm.Cond.and given_1 narrow_1).before #[Value.ref b] s = true) (hA3 : ∀ a : Nat, a < s.heap.size → ¬ A a) : ∃ w : Nat, (Term.string RX3 172).eval #[Value.ref b] s none [] s = some (.ref w) ∧ sxc_W w 5 (sxc 9) A s := by
  exact sxc_of2 (own := RX3) (k := 172) (n := 5) (byt := [116, 105, 109, 101, 115]) hz (by decide) (flat_of_before _ hgv) 104 (by decide +kernel) (by decide) hA3

set_option maxHeartbeats 4000000 in
set_option maxRecDepth 100000 in
theorem lg_s10 {s : State} {b : Nat} {A : Nat → Prop} (hz : sx_Z A s) (hgv : (Jvm.Cond.and given_1 narrow_1).before #[Value.ref b] s = true) (hA3 : ∀ a : Nat, a < s.heap.size → ¬ A a) : ∃ w : Nat, (Term.string RX3 176).eval #[Value.ref b] s none [] s = some (.ref w) ∧ sxc_W w 4 (sxc 10) A s := by
  exact sxc_of2 (own := RX3) (k := 176) (n := 4) (byt := [112, 108, 117, 115]) hz (by decide) (flat_of_before _ hgv) 113 (by decide +kernel) (by decide) hA3

set_option maxHeartbeats 4000000 in
set_option maxRecDepth 100000 in
theorem lg_s11 {s : State} {b : Nat} {A : Nat → Prop} (hz : sx_Z A s) (hgv : (Jvm.Cond.and given_1 narrow_1).before #[Value.ref b] s = true) (hA3 : ∀ a : Nat, a < s.heap.size → ¬ A a) : ∃ w : Nat, (Term.string RX3 180).eval #[Value.ref b] s none [] s = some (.ref w) ∧ sxc_W w 5 (sxc 11) A s := by
  exact sxc_of2 (own := RX3) (k := 180) (n := 5) (byt := [102, 105, 114, 115, 116]) hz (by decide) (flat_of_before _ hgv) 121 (by decide +kernel) (by decide) hA3

set_option maxHeartbeats 4000000 in
set_option maxRecDepth 100000 in
theorem lg_s12 {s : State} {b : Nat} {A : Nat → Prop} (hz : sx_Z A s) (hgv : (Jvm.Cond.and given_1 narrow_1).before #[Value.ref b] s = true) (hA3 : ∀ a : Nat, a < s.heap.size → ¬ A a) : ∃ w : Nat, (Term.string RX3 187).eval #[Value.ref b] s none [] s = some (.ref w) ∧ sxc_W w 2 (sxc 12) A s := by
  exact sxc_of2 (own := RX3) (k := 187) (n := 2) (byt := [105, 115]) hz (by decide) (flat_of_before _ hgv) 130 (by decide +kernel) (by decide) hA3

set_option maxHeartbeats 4000000 in
set_option maxRecDepth 100000 in
theorem lg_s13 {s : State} {b : Nat} {A : Nat → Prop} (hz : sx_Z A s) (hgv : (Jvm.Cond.and given_1 narrow_1).before #[Value.ref b] s = true) (hA3 : ∀ a : Nat, a < s.heap.size → ¬ A a) : ∃ w : Nat, (Term.string RX3 199).eval #[Value.ref b] s none [] s = some (.ref w) ∧ sxc_W w 5 (sxc 13) A s := by
  exact sxc_of2 (own := RX3) (k := 199) (n := 5) (byt := [119, 97, 108, 107, 115]) hz (by decide) (flat_of_before _ hgv) 136 (by decide +kernel) (by decide) hA3

set_option maxHeartbeats 4000000 in
set_option maxRecDepth 100000 in
theorem lg_s14 {s : State} {b : Nat} {A : Nat → Prop} (hz : sx_Z A s) (hgv : (Jvm.Cond.and given_1 narrow_1).before #[Value.ref b] s = true) (hA3 : ∀ a : Nat, a < s.heap.size → ¬ A a) : ∃ w : Nat, (Term.string RX3 201).eval #[Value.ref b] s none [] s = some (.ref w) ∧ sxc_W w 6 (sxc 14) A s := by
  exact sxc_of2 (own := RX3) (k := 201) (n := 6) (byt := [115, 112, 101, 97, 107, 115]) hz (by decide) (flat_of_before _ hgv) 145 (by decide +kernel) (by decide) hA3

set_option maxHeartbeats 4000000 in
set_option maxRecDepth 100000 in
theorem lg_s15 {s : State} {b : Nat} {A : Nat → Prop} (hz : sx_Z A s) (hgv : (Jvm.Cond.and given_1 narrow_1).before #[Value.ref b] s = true) (hA3 : ∀ a : Nat, a < s.heap.size → ¬ A a) : ∃ w : Nat, (Term.string RX3 207).eval #[Value.ref b] s none [] s = some (.ref w) ∧ sxc_W w 4 (sxc 15) A s := by
  exact sxc_of2 (own := RX3) (k := 207) (n := 4) (byt := [102, 114, 111, 109]) hz (by decide) (flat_of_before _ hgv) 155 (by decide +kernel) (by decide) hA3

set_option maxHeartbeats 4000000 in
set_option maxRecDepth 100000 in
theorem lg_s16 {s : State} {b : Nat} {A : Nat → Prop} (hz : sx_Z A s) (hgv : (Jvm.Cond.and given_1 narrow_1).before #[Value.ref b] s = true) (hA3 : ∀ a : Nat, a < s.heap.size → ¬ A a) : ∃ w : Nat, (Term.string RX3 209).eval #[Value.ref b] s none [] s = some (.ref w) ∧ sxc_W w 2 (sxc 16) A s := by
  exact sxc_of2 (own := RX3) (k := 209) (n := 2) (byt := [116, 111]) hz (by decide) (flat_of_before _ hgv) 163 (by decide +kernel) (by decide) hA3

set_option maxHeartbeats 4000000 in
set_option maxRecDepth 100000 in
theorem lg_s17 {s : State} {b : Nat} {A : Nat → Prop} (hz : sx_Z A s) (hgv : (Jvm.Cond.and given_1 narrow_1).before #[Value.ref b] s = true) (hA3 : ∀ a : Nat, a < s.heap.size → ¬ A a) : ∃ w : Nat, (Term.string RX3 215).eval #[Value.ref b] s none [] s = some (.ref w) ∧ sxc_W w 2 (sxc 17) A s := by
  exact sxc_of2 (own := RX3) (k := 215) (n := 2) (byt := [97, 116]) hz (by decide) (flat_of_before _ hgv) 169 (by decide +kernel) (by decide) hA3
end P441_strs
