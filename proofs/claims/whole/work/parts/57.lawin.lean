/-! the law's words among the tables', by two numbers -/
def lwT : List (List Cond) := [k2_sels lw_privs, tables_1_1, tables_1_2, tables_1_3, tables_1_4, tables_1_5, tables_1_6]
theorem lwT_in : ∀ w ∈ lwT.flatten, w ∈ lw_tbl := by
  intro w h
  simp only [lwT, List.flatten_cons, List.flatten_nil, List.append_nil] at h
  exact h
theorem lwt2 (ws : List Cond) (ps : List (Nat × Nat)) (hp : ws = ps.filterMap (fun q => (lwT[q.1]?).bind (fun r => r[q.2]?))) : ∀ w ∈ ws, w ∈ lw_tbl := by
  intro w hw
  rw [hp] at hw
  obtain ⟨q, -, hq⟩ := List.mem_filterMap.mp hw
  obtain ⟨r, hr, hq⟩ := Option.bind_eq_some_iff.mp hq
  exact lwT_in w (List.mem_flatten.mpr ⟨r, List.mem_of_getElem? hr, List.mem_of_getElem? hq⟩)
set_option maxRecDepth 100000 in
theorem lwi_wsL_law_r1 : ∀ w ∈ wsL_law_r1, w ∈ lw_tbl := lwt2 _ [(1, 19), (1, 20), (1, 1), (4, 189), (4, 190), (1, 11), (6, 175), (1, 21), (1, 22), (1, 23), (1, 24), (1, 25), (1, 26), (1, 27), (1, 29), (1, 2), (1, 35), (1, 36), (1, 3), (1, 42), (1, 43), (1, 4), (1, 49), (1, 50)] rfl
set_option maxRecDepth 100000 in
theorem lwi_wsL_law_r2 : ∀ w ∈ wsL_law_r2, w ∈ lw_tbl := lwt2 _ [(1, 5), (1, 56), (1, 57), (1, 6), (1, 63), (1, 64), (1, 7), (1, 204), (1, 70), (1, 71), (1, 8), (1, 205), (1, 206), (1, 207), (1, 208), (1, 131), (1, 132), (1, 9), (1, 209), (1, 130), (1, 210), (1, 211), (1, 155), (1, 156)] rfl
set_option maxRecDepth 100000 in
theorem lwi_wsL_law_r3 : ∀ w ∈ wsL_law_r3, w ∈ lw_tbl := lwt2 _ [(1, 10), (1, 212), (1, 202), (1, 213), (1, 214), (1, 215), (1, 216), (1, 31), (1, 32), (1, 33), (1, 38), (1, 39), (1, 45), (1, 46), (1, 52), (1, 53), (1, 59), (1, 60), (1, 66), (1, 67), (1, 72), (1, 73), (1, 74), (1, 75)] rfl
set_option maxRecDepth 100000 in
theorem lwi_wsL_law_r4 : ∀ w ∈ wsL_law_r4, w ∈ lw_tbl := lwt2 _ [(1, 83), (1, 86), (1, 89), (1, 92), (1, 94), (1, 96), (1, 98), (1, 105), (1, 82), (1, 76), (1, 77), (1, 78), (1, 79), (1, 100), (1, 103), (1, 134), (1, 135), (1, 136), (1, 154), (1, 137), (1, 138), (1, 140), (1, 141), (1, 142)] rfl
set_option maxRecDepth 100000 in
theorem lwi_wsL_law_r5 : ∀ w ∈ wsL_law_r5, w ∈ lw_tbl := lwt2 _ [(1, 158), (1, 159), (1, 160), (1, 161), (1, 167), (1, 171), (1, 175), (1, 183), (4, 191), (4, 192), (4, 193), (4, 194), (4, 198), (4, 199), (4, 200), (4, 201), (4, 203), (4, 204), (5, 31), (4, 206), (4, 211), (4, 213), (4, 214), (4, 215)] rfl
set_option maxRecDepth 100000 in
theorem lwi_wsL_law_r6 : ∀ w ∈ wsL_law_r6, w ∈ lw_tbl := lwt2 _ [(4, 216), (4, 217), (4, 218), (4, 195), (4, 196), (4, 197), (2, 4), (2, 5), (2, 6), (2, 7), (1, 139), (2, 8), (2, 9), (2, 10), (2, 11), (2, 12), (2, 13), (2, 14), (5, 32), (5, 33), (5, 34), (5, 35), (4, 205), (5, 39)] rfl
set_option maxRecDepth 100000 in
theorem lwi_wsL_law_r7 : ∀ w ∈ wsL_law_r7, w ∈ lw_tbl := lwt2 _ [(5, 36), (5, 37), (5, 38), (2, 15), (2, 16), (2, 17), (2, 18), (1, 106), (1, 101), (2, 19), (2, 20), (2, 21), (2, 22), (2, 23), (2, 24), (2, 26), (0, 0), (2, 27), (2, 28), (2, 30), (0, 1), (2, 31), (2, 32), (2, 34)] rfl
set_option maxRecDepth 100000 in
theorem lwi_wsL_law_r8 : ∀ w ∈ wsL_law_r8, w ∈ lw_tbl := lwt2 _ [(0, 2), (2, 35), (1, 87), (1, 90), (2, 36), (2, 38), (0, 3), (2, 39), (2, 41), (2, 43), (0, 4), (2, 44), (2, 45), (2, 46), (2, 47), (1, 12), (2, 48), (6, 190), (2, 49), (2, 50), (2, 51), (2, 52), (2, 53), (6, 191)] rfl
set_option maxRecDepth 100000 in
theorem lwi_wsL_law_r9 : ∀ w ∈ wsL_law_r9, w ∈ lw_tbl := lwt2 _ [(2, 55), (2, 56), (2, 57), (2, 58), (2, 59), (2, 60), (2, 61), (2, 62), (2, 63), (2, 64), (1, 13), (2, 65), (2, 66), (2, 67), (2, 68), (2, 69), (2, 71), (2, 72), (1, 14), (2, 73), (2, 74), (2, 75), (1, 15), (2, 76)] rfl
set_option maxRecDepth 100000 in
theorem lwi_wsL_law_r10 : ∀ w ∈ wsL_law_r10, w ∈ lw_tbl := lwt2 _ [(2, 77), (2, 78), (2, 79), (2, 80), (2, 81), (2, 82), (2, 83), (2, 84), (2, 85), (2, 86), (2, 87), (2, 89), (2, 91), (2, 98), (2, 100), (0, 5), (2, 101), (1, 102), (2, 103), (2, 105), (0, 6), (2, 106), (2, 108), (2, 110)] rfl
set_option maxRecDepth 100000 in
theorem lwi_wsL_law_r11 : ∀ w ∈ wsL_law_r11, w ∈ lw_tbl := lwt2 _ [(0, 7), (2, 111), (2, 112), (2, 113), (2, 114), (2, 115), (2, 117), (2, 119), (0, 8), (2, 120), (2, 123), (2, 125), (0, 9), (2, 126), (2, 131), (2, 133), (0, 10), (2, 134), (1, 85), (2, 137), (2, 138), (2, 139), (2, 140), (2, 141)] rfl
set_option maxRecDepth 100000 in
theorem lwi_wsL_law_r12 : ∀ w ∈ wsL_law_r12, w ∈ lw_tbl := lwt2 _ [(2, 142), (2, 143), (2, 144), (5, 40), (5, 41), (5, 42), (5, 43), (4, 207), (4, 209), (4, 208), (4, 212), (5, 44), (5, 46), (0, 16), (5, 47), (5, 48), (5, 50), (0, 17), (5, 51), (5, 52), (5, 54), (0, 18), (5, 55), (5, 56)] rfl
set_option maxRecDepth 100000 in
theorem lwi_wsL_law_r13 : ∀ w ∈ wsL_law_r13, w ∈ lw_tbl := lwt2 _ [(5, 58), (0, 19), (5, 59), (5, 60), (5, 62), (0, 20), (5, 63), (4, 210), (5, 64), (5, 66), (0, 21), (5, 67), (5, 68), (5, 70), (0, 22), (5, 71), (5, 72), (5, 74), (0, 23), (5, 75), (5, 76), (5, 78), (0, 24), (5, 79)] rfl
set_option maxRecDepth 100000 in
theorem lwi_wsL_law_r14 : ∀ w ∈ wsL_law_r14, w ∈ lw_tbl := lwt2 _ [(5, 80), (5, 82), (0, 25), (5, 83), (5, 84), (5, 86), (0, 26), (5, 87), (5, 88), (5, 89), (5, 90), (2, 145), (2, 146), (2, 147), (2, 148), (2, 149), (1, 84), (5, 91), (5, 92), (5, 93), (5, 94), (5, 95), (5, 96), (5, 97)] rfl
set_option maxRecDepth 100000 in
theorem lwi_wsL_law_r15 : ∀ w ∈ wsL_law_r15, w ∈ lw_tbl := lwt2 _ [(5, 98), (5, 100), (0, 27), (5, 101), (2, 150), (2, 151), (2, 152), (2, 153), (5, 102), (5, 103), (5, 104), (5, 105), (2, 154), (2, 155), (2, 156), (2, 157), (1, 88), (1, 91), (2, 158), (2, 159), (2, 160), (5, 106), (5, 107), (5, 108)] rfl
set_option maxRecDepth 100000 in
theorem lwi_wsL_law_r16 : ∀ w ∈ wsL_law_r16, w ∈ lw_tbl := lwt2 _ [(5, 109), (5, 110), (5, 111), (5, 112), (2, 161), (2, 162), (2, 163), (2, 164), (5, 113), (5, 114), (5, 115), (5, 116), (2, 165), (2, 166), (2, 167), (2, 168), (2, 169), (2, 170), (2, 171), (2, 172), (5, 117), (5, 118), (5, 119), (5, 120)] rfl
set_option maxRecDepth 100000 in
theorem lwi_wsL_law_r17 : ∀ w ∈ wsL_law_r17, w ∈ lw_tbl := lwt2 _ [(5, 121), (5, 123), (0, 28), (5, 124), (2, 173), (2, 174), (2, 175), (2, 176), (1, 93), (1, 95), (1, 97), (1, 99), (2, 177), (2, 178), (2, 179), (2, 180), (2, 181), (2, 182), (2, 183), (2, 184), (2, 185), (2, 186), (2, 187), (2, 188)] rfl
set_option maxRecDepth 100000 in
theorem lwi_wsL_law_r18 : ∀ w ∈ wsL_law_r18, w ∈ lw_tbl := lwt2 _ [(2, 189), (2, 190), (2, 191), (2, 192), (2, 194), (2, 195), (2, 196), (2, 197), (1, 16), (2, 198), (2, 199), (2, 202), (2, 200), (2, 203), (2, 204), (2, 205), (2, 222), (2, 206), (2, 207), (2, 208), (2, 209), (1, 41), (2, 200), (2, 199)] rfl
set_option maxRecDepth 100000 in
theorem lwi_wsL_law_r19 : ∀ w ∈ wsL_law_r19, w ∈ lw_tbl := lwt2 _ [(2, 201), (2, 210), (2, 211), (2, 212), (2, 213), (1, 48), (2, 214), (2, 215), (2, 216), (2, 217), (6, 176), (1, 55), (2, 218), (2, 219), (2, 220), (2, 221), (6, 177), (1, 62), (5, 125), (5, 126), (5, 127), (5, 128), (5, 129), (5, 131)] rfl
set_option maxRecDepth 100000 in
theorem lwi_wsL_law_r20 : ∀ w ∈ wsL_law_r20, w ∈ lw_tbl := lwt2 _ [(0, 29), (5, 132), (5, 133), (5, 135), (0, 30), (5, 136), (5, 137), (5, 139), (0, 31), (5, 140), (5, 141), (5, 143), (0, 32), (5, 144), (5, 145), (5, 147), (0, 33), (5, 148), (5, 149), (5, 151), (0, 34), (5, 152), (5, 153), (5, 155)] rfl
set_option maxRecDepth 100000 in
theorem lwi_wsL_law_r21 : ∀ w ∈ wsL_law_r21, w ∈ lw_tbl := lwt2 _ [(0, 35), (5, 156), (2, 223), (2, 224), (2, 225), (2, 226), (1, 104), (2, 227), (2, 228), (2, 229), (2, 229), (2, 230), (2, 233), (2, 231), (2, 234), (2, 235), (2, 236), (2, 237), (1, 69), (2, 231), (3, 14), (2, 238), (2, 239), (3, 0)] rfl
set_option maxRecDepth 100000 in
theorem lwi_wsL_law_r22 : ∀ w ∈ wsL_law_r22, w ∈ lw_tbl := lwt2 _ [(3, 1), (2, 230), (2, 232), (3, 2), (3, 3), (3, 4), (3, 5), (3, 6), (3, 7), (3, 8), (3, 9), (6, 178), (3, 10), (3, 11), (3, 12), (3, 13), (6, 179), (3, 15), (3, 18), (3, 16), (3, 19), (3, 20), (3, 21), (3, 22)] rfl
set_option maxRecDepth 100000 in
theorem lwi_wsL_law_r23 : ∀ w ∈ wsL_law_r23, w ∈ lw_tbl := lwt2 _ [(3, 16), (3, 39), (3, 23), (3, 24), (3, 25), (3, 26), (3, 15), (3, 17), (3, 27), (3, 28), (3, 29), (3, 30), (3, 31), (3, 32), (3, 33), (3, 34), (6, 180), (3, 35), (3, 36), (3, 37), (3, 38), (6, 181), (3, 40), (3, 41)] rfl
set_option maxRecDepth 100000 in
theorem lwi_wsL_law_r24 : ∀ w ∈ wsL_law_r24, w ∈ lw_tbl := lwt2 _ [(3, 44), (3, 42), (3, 45), (3, 46), (3, 47), (3, 48), (3, 42), (3, 64), (3, 49), (3, 50), (3, 51), (3, 52), (3, 41), (3, 43), (3, 53), (3, 54), (3, 55), (3, 56), (3, 57), (6, 182), (3, 58), (3, 59), (3, 60), (5, 157)] rfl
set_option maxRecDepth 100000 in
theorem lwi_wsL_law_r25 : ∀ w ∈ wsL_law_r25, w ∈ lw_tbl := lwt2 _ [(5, 158), (5, 159), (5, 160), (5, 161), (5, 163), (0, 36), (5, 164), (5, 165), (5, 167), (0, 37), (5, 168), (5, 169), (5, 171), (0, 38), (5, 172), (3, 65), (3, 66), (3, 67), (3, 68), (5, 173), (5, 174), (5, 175), (5, 176), (3, 69)] rfl
set_option maxRecDepth 100000 in
theorem lwi_wsL_law_r26 : ∀ w ∈ wsL_law_r26, w ∈ lw_tbl := lwt2 _ [(3, 70), (3, 71), (3, 72), (5, 177), (5, 178), (5, 179), (5, 180), (3, 73), (3, 74), (3, 75), (3, 76), (5, 181), (5, 182), (5, 183), (5, 184), (3, 77), (3, 78), (3, 79), (3, 80), (3, 81), (3, 82), (3, 83), (3, 84), (3, 85)] rfl
set_option maxRecDepth 100000 in
theorem lwi_wsL_law_r27 : ∀ w ∈ wsL_law_r27, w ∈ lw_tbl := lwt2 _ [(3, 86), (3, 87), (3, 88), (3, 99), (3, 94), (1, 16), (3, 95), (3, 101), (3, 97), (3, 98), (3, 89), (3, 89), (3, 91), (3, 92), (3, 93), (3, 96), (3, 100), (3, 100), (3, 102), (3, 102), (3, 103), (3, 104), (3, 105), (3, 106)] rfl
set_option maxRecDepth 100000 in
theorem lwi_wsL_law_r28 : ∀ w ∈ wsL_law_r28, w ∈ lw_tbl := lwt2 _ [(3, 107), (3, 108), (1, 17), (3, 109), (3, 110), (3, 111), (3, 112), (5, 185), (5, 186), (5, 187), (5, 188), (5, 189), (5, 191), (0, 39), (5, 192), (5, 193), (5, 195), (0, 40), (5, 196), (5, 197), (5, 199), (0, 41), (5, 200), (5, 201)] rfl
set_option maxRecDepth 100000 in
theorem lwi_wsL_law_r29 : ∀ w ∈ wsL_law_r29, w ∈ lw_tbl := lwt2 _ [(5, 202), (5, 203), (5, 204), (5, 206), (0, 42), (5, 207), (5, 208), (5, 209), (5, 210), (3, 113), (3, 114), (3, 115), (3, 116), (5, 211), (5, 212), (5, 213), (5, 214), (3, 117), (3, 118), (3, 119), (3, 120), (3, 121), (3, 122), (3, 123)] rfl
set_option maxRecDepth 100000 in
theorem lwi_wsL_law_r30 : ∀ w ∈ wsL_law_r30, w ∈ lw_tbl := lwt2 _ [(3, 124), (3, 125), (3, 126), (3, 127), (3, 128), (3, 129), (3, 130), (5, 215), (5, 216), (5, 217), (5, 218), (5, 219), (5, 221), (0, 43), (5, 222), (5, 223), (5, 225), (0, 44), (5, 226), (5, 227), (3, 131), (3, 132), (3, 133), (3, 134)] rfl
set_option maxRecDepth 100000 in
theorem lwi_wsL_law_r31 : ∀ w ∈ wsL_law_r31, w ∈ lw_tbl := lwt2 _ [(3, 135), (3, 136), (3, 137), (3, 138), (5, 228), (5, 229), (5, 230), (5, 231), (5, 232), (5, 234), (0, 45), (5, 235), (3, 139), (3, 140), (3, 141), (3, 142), (3, 143), (3, 144), (3, 145), (3, 146), (3, 147), (3, 148), (3, 149), (3, 150)] rfl
set_option maxRecDepth 100000 in
theorem lwi_wsL_law_r32 : ∀ w ∈ wsL_law_r32, w ∈ lw_tbl := lwt2 _ [(3, 151), (5, 236), (5, 237), (5, 238), (5, 239), (3, 152), (3, 153), (3, 154), (3, 155), (3, 156), (3, 157), (3, 158), (3, 159), (6, 0), (6, 1), (6, 2), (6, 3), (3, 160), (3, 161), (3, 162), (3, 163), (3, 164), (3, 166), (0, 11)] rfl
set_option maxRecDepth 100000 in
theorem lwi_wsL_law_r33 : ∀ w ∈ wsL_law_r33, w ∈ lw_tbl := lwt2 _ [(3, 167), (3, 168), (6, 4), (6, 5), (6, 6), (6, 7), (6, 8), (6, 10), (0, 46), (6, 11), (3, 169), (3, 170), (3, 171), (3, 172), (3, 173), (3, 175), (0, 12), (3, 176), (6, 12), (6, 13), (6, 14), (6, 15), (6, 16), (6, 18)] rfl
set_option maxRecDepth 100000 in
theorem lwi_wsL_law_r34 : ∀ w ∈ wsL_law_r34, w ∈ lw_tbl := lwt2 _ [(0, 47), (6, 19), (3, 177), (3, 178), (3, 179), (3, 180), (6, 20), (6, 21), (6, 22), (6, 23), (3, 181), (3, 182), (3, 183), (3, 184), (3, 185), (3, 186), (3, 187), (3, 188), (3, 189), (6, 24), (6, 25), (6, 26), (6, 27), (6, 28)] rfl
set_option maxRecDepth 100000 in
theorem lwi_wsL_law_r35 : ∀ w ∈ wsL_law_r35, w ∈ lw_tbl := lwt2 _ [(6, 30), (0, 48), (6, 31), (3, 190), (3, 191), (3, 192), (3, 193), (6, 32), (6, 33), (6, 34), (6, 35), (3, 194), (3, 195), (3, 196), (3, 197), (3, 198), (6, 36), (6, 37), (6, 38), (6, 39), (6, 40), (6, 42), (0, 49), (6, 43)] rfl
set_option maxRecDepth 100000 in
theorem lwi_wsL_law_r36 : ∀ w ∈ wsL_law_r36, w ∈ lw_tbl := lwt2 _ [(3, 199), (3, 200), (3, 201), (3, 202), (6, 44), (6, 45), (6, 46), (6, 47), (3, 203), (3, 204), (3, 205), (3, 206), (6, 48), (6, 49), (6, 50), (6, 51), (3, 207), (3, 208), (3, 209), (3, 210), (3, 211), (3, 213), (0, 13), (3, 214)] rfl
set_option maxRecDepth 100000 in
theorem lwi_wsL_law_r37 : ∀ w ∈ wsL_law_r37, w ∈ lw_tbl := lwt2 _ [(6, 52), (6, 53), (6, 54), (6, 55), (3, 215), (3, 216), (3, 217), (3, 218), (4, 47), (3, 219), (3, 220), (3, 221), (3, 222), (3, 223), (3, 224), (3, 225), (6, 56), (6, 57), (6, 58), (6, 59), (6, 60), (6, 61), (6, 62), (6, 63)] rfl
set_option maxRecDepth 100000 in
theorem lwi_wsL_law_r38 : ∀ w ∈ wsL_law_r38, w ∈ lw_tbl := lwt2 _ [(6, 65), (0, 50), (6, 66), (3, 226), (3, 227), (3, 228), (3, 229), (3, 230), (3, 231), (3, 232), (3, 233), (3, 234), (3, 235), (3, 236), (3, 237), (3, 238), (3, 239), (4, 0), (6, 67), (6, 68), (6, 69), (6, 70), (6, 71), (6, 72)] rfl
set_option maxRecDepth 100000 in
theorem lwi_wsL_law_r39 : ∀ w ∈ wsL_law_r39, w ∈ lw_tbl := lwt2 _ [(6, 73), (6, 74), (6, 75), (4, 1), (4, 2), (4, 3), (4, 4), (6, 76), (6, 77), (6, 78), (6, 79), (4, 5), (4, 6), (4, 7), (4, 8), (4, 9), (4, 10), (4, 11), (4, 12), (4, 13), (6, 80), (6, 81), (6, 82), (6, 83)] rfl
set_option maxRecDepth 100000 in
theorem lwi_wsL_law_r40 : ∀ w ∈ wsL_law_r40, w ∈ lw_tbl := lwt2 _ [(6, 84), (6, 86), (0, 51), (6, 87), (4, 14), (4, 15), (4, 16), (4, 17), (4, 18), (4, 20), (0, 14), (4, 21), (6, 88), (6, 89), (6, 90), (6, 91), (6, 92), (6, 94), (0, 52), (6, 95), (4, 22), (4, 23), (4, 24), (4, 25)] rfl
set_option maxRecDepth 100000 in
theorem lwi_wsL_law_r41 : ∀ w ∈ wsL_law_r41, w ∈ lw_tbl := lwt2 _ [(6, 96), (6, 97), (6, 98), (6, 99), (4, 26), (4, 27), (4, 28), (4, 29), (6, 100), (6, 101), (6, 102), (6, 103), (4, 30), (4, 31), (4, 32), (4, 33), (4, 45), (4, 34), (6, 104), (6, 105), (6, 106), (6, 107), (4, 35), (4, 36)] rfl
set_option maxRecDepth 100000 in
theorem lwi_wsL_law_r42 : ∀ w ∈ wsL_law_r42, w ∈ lw_tbl := lwt2 _ [(4, 37), (4, 38), (4, 39), (1, 18), (4, 40), (4, 41), (4, 42), (4, 43), (4, 44), (4, 46), (6, 108), (6, 109), (6, 110), (6, 111), (4, 53), (4, 54), (4, 55), (4, 56), (4, 57), (4, 58), (4, 59), (4, 60), (6, 112), (6, 113)] rfl
set_option maxRecDepth 100000 in
theorem lwi_wsL_law_r43 : ∀ w ∈ wsL_law_r43, w ∈ lw_tbl := lwt2 _ [(6, 114), (6, 115), (4, 61), (4, 62), (4, 63), (4, 64), (6, 116), (6, 117), (6, 118), (6, 119), (4, 65), (4, 66), (4, 67), (4, 68), (4, 69), (4, 70), (4, 71), (6, 120), (6, 121), (6, 122), (6, 123), (4, 72), (4, 73), (4, 74)] rfl
set_option maxRecDepth 100000 in
theorem lwi_wsL_law_r44 : ∀ w ∈ wsL_law_r44, w ∈ lw_tbl := lwt2 _ [(4, 75), (4, 80), (4, 76), (4, 78), (0, 15), (4, 79), (6, 124), (6, 125), (6, 126), (6, 127), (6, 128), (6, 130), (0, 53), (6, 131), (6, 132), (6, 133), (6, 134), (4, 82), (4, 83), (4, 84), (4, 85), (1, 182), (1, 174), (1, 166)] rfl
set_option maxRecDepth 100000 in
theorem lwi_wsL_law_r45 : ∀ w ∈ wsL_law_r45, w ∈ lw_tbl := lwt2 _ [(1, 170), (4, 86), (4, 89), (4, 90), (4, 87), (4, 106), (1, 177), (1, 185), (1, 162), (4, 91), (4, 86), (4, 88), (4, 87), (4, 92), (4, 93), (4, 94), (1, 176), (1, 184), (4, 95), (4, 96), (4, 97), (4, 98), (1, 178), (1, 186)] rfl
set_option maxRecDepth 100000 in
theorem lwi_wsL_law_r46 : ∀ w ∈ wsL_law_r46, w ∈ lw_tbl := lwt2 _ [(4, 102), (4, 103), (4, 104), (1, 179), (1, 187), (4, 105), (6, 183), (4, 107), (4, 110), (4, 111), (4, 108), (4, 125), (1, 168), (4, 126), (4, 126), (4, 108), (4, 112), (4, 113), (4, 114), (1, 180), (1, 188), (4, 115), (4, 107), (4, 109)] rfl
set_option maxRecDepth 100000 in
theorem lwi_wsL_law_r47 : ∀ w ∈ wsL_law_r47, w ∈ lw_tbl := lwt2 _ [(4, 116), (4, 117), (4, 118), (4, 119), (4, 120), (1, 169), (4, 124), (6, 184), (4, 127), (4, 130), (4, 128), (4, 131), (4, 132), (4, 133), (1, 181), (1, 189), (1, 172), (1, 164), (4, 134), (4, 128), (4, 147), (1, 173), (4, 135), (4, 136)] rfl
set_option maxRecDepth 100000 in
theorem lwi_wsL_law_r48 : ∀ w ∈ wsL_law_r48, w ∈ lw_tbl := lwt2 _ [(4, 137), (4, 138), (4, 127), (4, 129), (4, 139), (4, 140), (4, 141), (4, 142), (1, 165), (4, 146), (4, 148), (4, 151), (4, 149), (4, 152), (4, 153), (4, 154), (4, 155), (4, 149), (4, 167), (4, 168), (4, 168), (4, 156), (4, 148), (4, 150)] rfl
set_option maxRecDepth 100000 in
theorem lwi_wsL_law_r49 : ∀ w ∈ wsL_law_r49, w ∈ lw_tbl := lwt2 _ [(4, 157), (4, 158), (4, 159), (1, 163), (4, 160), (4, 161), (4, 162), (4, 163), (4, 164), (4, 165), (4, 166), (6, 135), (6, 136), (6, 137), (6, 138), (4, 219), (4, 220), (4, 221), (6, 139), (6, 141), (0, 54), (6, 142), (6, 143), (6, 145)] rfl
set_option maxRecDepth 100000 in
theorem lwi_wsL_law_r50 : ∀ w ∈ wsL_law_r50, w ∈ lw_tbl := lwt2 _ [(0, 55), (6, 146), (6, 147), (6, 149), (0, 56), (6, 150), (6, 151), (6, 153), (0, 57), (6, 154), (6, 155), (6, 157), (0, 58), (6, 158), (4, 169), (4, 170), (4, 171), (4, 172), (1, 190), (6, 159), (6, 160), (6, 161), (6, 162), (4, 173)] rfl
set_option maxRecDepth 100000 in
theorem lwi_wsL_law_r51 : ∀ w ∈ wsL_law_r51, w ∈ lw_tbl := lwt2 _ [(4, 174), (4, 175), (4, 176), (4, 177), (4, 178), (4, 179), (4, 180), (6, 163), (6, 164), (6, 165), (6, 166), (4, 181), (4, 182), (4, 183), (4, 184), (6, 167), (6, 168), (6, 169), (6, 170), (4, 202), (4, 185), (4, 186), (4, 187), (4, 188)] rfl
set_option maxRecDepth 100000 in
theorem lwi_wsL_law_r52 : ∀ w ∈ wsL_law_r52, w ∈ lw_tbl := lwt2 _ [(6, 171), (6, 172), (6, 173), (6, 174)] rfl
set_option maxRecDepth 100000 in
theorem lwi_wsX100 : ∀ w ∈ wsX100, w ∈ lw_tbl := lwt2 _ [(1, 217), (1, 219), (1, 221), (1, 223), (1, 225), (1, 227), (1, 229), (1, 231), (1, 233), (1, 235), (1, 237), (1, 239), (2, 1)] rfl
set_option maxRecDepth 100000 in
theorem lwi_wsX110 : ∀ w ∈ wsX110, w ∈ lw_tbl := lwt2 _ [(4, 222), (4, 224), (4, 226), (4, 228), (4, 230), (4, 232), (4, 234), (4, 236), (4, 238), (5, 0), (5, 2), (5, 4), (5, 6), (5, 8), (5, 10), (5, 12), (5, 14), (5, 16), (5, 18), (5, 20), (5, 22), (5, 24), (5, 26), (5, 28)] rfl
set_option maxRecDepth 100000 in
theorem lwi_wsX40 : ∀ w ∈ wsX40, w ∈ lw_tbl := lwt2 _ [] rfl
set_option maxRecDepth 100000 in
theorem lwi_wsX20 : ∀ w ∈ wsX20, w ∈ lw_tbl := lwt2 _ [] rfl
set_option maxRecDepth 100000 in
theorem lwi_wsX50 : ∀ w ∈ wsX50, w ∈ lw_tbl := lwt2 _ [] rfl
set_option maxRecDepth 100000 in
theorem lwi_wsX60 : ∀ w ∈ wsX60, w ∈ lw_tbl := lwt2 _ [] rfl
set_option maxRecDepth 100000 in
theorem lwi_wsX90 : ∀ w ∈ wsX90, w ∈ lw_tbl := lwt2 _ [] rfl
set_option maxRecDepth 100000 in
theorem lwi_wsX10 : ∀ w ∈ wsX10, w ∈ lw_tbl := lwt2 _ [] rfl
set_option maxRecDepth 100000 in
theorem lwi_wsX80 : ∀ w ∈ wsX80, w ∈ lw_tbl := lwt2 _ [(1, 107), (1, 109), (1, 111), (1, 113), (1, 115), (1, 117), (1, 119), (1, 121), (1, 123), (1, 125), (1, 127)] rfl
set_option maxRecDepth 100000 in
theorem lwi_wsX70 : ∀ w ∈ wsX70, w ∈ lw_tbl := lwt2 _ [(1, 143), (1, 145), (1, 147), (1, 149), (1, 151)] rfl
set_option maxRecDepth 100000 in
theorem lwi_wsX00 : ∀ w ∈ wsX00, w ∈ lw_tbl := lwt2 _ [(1, 191), (1, 193), (1, 195), (1, 197), (1, 199)] rfl
set_option maxRecDepth 100000 in
theorem lwi_wsX30 : ∀ w ∈ wsX30, w ∈ lw_tbl := lwt2 _ [(4, 48), (4, 50)] rfl
theorem lwi_nil : ∀ w ∈ ([] : List Cond), w ∈ lw_tbl := fun w h => by cases h
theorem wsL_law_in : ∀ w ∈ wsL_law, w ∈ lw_tbl := by
  show ∀ w ∈ (wsL_law_r1 ++ (wsL_law_r2 ++ (wsL_law_r3 ++ (wsL_law_r4 ++ (wsL_law_r5 ++ (wsL_law_r6 ++ (wsL_law_r7 ++ (wsL_law_r8 ++ (wsL_law_r9 ++ (wsL_law_r10 ++ (wsL_law_r11 ++ (wsL_law_r12 ++ (wsL_law_r13 ++ (wsL_law_r14 ++ (wsL_law_r15 ++ (wsL_law_r16 ++ (wsL_law_r17 ++ (wsL_law_r18 ++ (wsL_law_r19 ++ (wsL_law_r20 ++ (wsL_law_r21 ++ (wsL_law_r22 ++ (wsL_law_r23 ++ (wsL_law_r24 ++ (wsL_law_r25 ++ (wsL_law_r26 ++ (wsL_law_r27 ++ (wsL_law_r28 ++ (wsL_law_r29 ++ (wsL_law_r30 ++ (wsL_law_r31 ++ (wsL_law_r32 ++ (wsL_law_r33 ++ (wsL_law_r34 ++ (wsL_law_r35 ++ (wsL_law_r36 ++ (wsL_law_r37 ++ (wsL_law_r38 ++ (wsL_law_r39 ++ (wsL_law_r40 ++ (wsL_law_r41 ++ (wsL_law_r42 ++ (wsL_law_r43 ++ (wsL_law_r44 ++ (wsL_law_r45 ++ (wsL_law_r46 ++ (wsL_law_r47 ++ (wsL_law_r48 ++ (wsL_law_r49 ++ (wsL_law_r50 ++ (wsL_law_r51 ++ wsL_law_r52))))))))))))))))))))))))))))))))))))))))))))))))))) ++ wsX100 ++ wsX110 ++ wsX40 ++ wsX20 ++ wsX50 ++ wsX60 ++ wsX90 ++ wsX10 ++ wsX80 ++ wsX70 ++ wsX00 ++ wsX30 ++ ([] : List Cond), w ∈ lw_tbl
  exact (fun w h => (List.mem_append.mp h).elim ((fun w h => (List.mem_append.mp h).elim ((fun w h => (List.mem_append.mp h).elim ((fun w h => (List.mem_append.mp h).elim ((fun w h => (List.mem_append.mp h).elim ((fun w h => (List.mem_append.mp h).elim ((fun w h => (List.mem_append.mp h).elim ((fun w h => (List.mem_append.mp h).elim ((fun w h => (List.mem_append.mp h).elim ((fun w h => (List.mem_append.mp h).elim ((fun w h => (List.mem_append.mp h).elim ((fun w h => (List.mem_append.mp h).elim ((fun w h => (List.mem_append.mp h).elim ((fun w h => (List.mem_append.mp h).elim (lwi_wsL_law_r1 w) ((fun w h => (List.mem_append.mp h).elim (lwi_wsL_law_r2 w) ((fun w h => (List.mem_append.mp h).elim (lwi_wsL_law_r3 w) ((fun w h => (List.mem_append.mp h).elim (lwi_wsL_law_r4 w) ((fun w h => (List.mem_append.mp h).elim (lwi_wsL_law_r5 w) ((fun w h => (List.mem_append.mp h).elim (lwi_wsL_law_r6 w) ((fun w h => (List.mem_append.mp h).elim (lwi_wsL_law_r7 w) ((fun w h => (List.mem_append.mp h).elim (lwi_wsL_law_r8 w) ((fun w h => (List.mem_append.mp h).elim (lwi_wsL_law_r9 w) ((fun w h => (List.mem_append.mp h).elim (lwi_wsL_law_r10 w) ((fun w h => (List.mem_append.mp h).elim (lwi_wsL_law_r11 w) ((fun w h => (List.mem_append.mp h).elim (lwi_wsL_law_r12 w) ((fun w h => (List.mem_append.mp h).elim (lwi_wsL_law_r13 w) ((fun w h => (List.mem_append.mp h).elim (lwi_wsL_law_r14 w) ((fun w h => (List.mem_append.mp h).elim (lwi_wsL_law_r15 w) ((fun w h => (List.mem_append.mp h).elim (lwi_wsL_law_r16 w) ((fun w h => (List.mem_append.mp h).elim (lwi_wsL_law_r17 w) ((fun w h => (List.mem_append.mp h).elim (lwi_wsL_law_r18 w) ((fun w h => (List.mem_append.mp h).elim (lwi_wsL_law_r19 w) ((fun w h => (List.mem_append.mp h).elim (lwi_wsL_law_r20 w) ((fun w h => (List.mem_append.mp h).elim (lwi_wsL_law_r21 w) ((fun w h => (List.mem_append.mp h).elim (lwi_wsL_law_r22 w) ((fun w h => (List.mem_append.mp h).elim (lwi_wsL_law_r23 w) ((fun w h => (List.mem_append.mp h).elim (lwi_wsL_law_r24 w) ((fun w h => (List.mem_append.mp h).elim (lwi_wsL_law_r25 w) ((fun w h => (List.mem_append.mp h).elim (lwi_wsL_law_r26 w) ((fun w h => (List.mem_append.mp h).elim (lwi_wsL_law_r27 w) ((fun w h => (List.mem_append.mp h).elim (lwi_wsL_law_r28 w) ((fun w h => (List.mem_append.mp h).elim (lwi_wsL_law_r29 w) ((fun w h => (List.mem_append.mp h).elim (lwi_wsL_law_r30 w) ((fun w h => (List.mem_append.mp h).elim (lwi_wsL_law_r31 w) ((fun w h => (List.mem_append.mp h).elim (lwi_wsL_law_r32 w) ((fun w h => (List.mem_append.mp h).elim (lwi_wsL_law_r33 w) ((fun w h => (List.mem_append.mp h).elim (lwi_wsL_law_r34 w) ((fun w h => (List.mem_append.mp h).elim (lwi_wsL_law_r35 w) ((fun w h => (List.mem_append.mp h).elim (lwi_wsL_law_r36 w) ((fun w h => (List.mem_append.mp h).elim (lwi_wsL_law_r37 w) ((fun w h => (List.mem_append.mp h).elim (lwi_wsL_law_r38 w) ((fun w h => (List.mem_append.mp h).elim (lwi_wsL_law_r39 w) ((fun w h => (List.mem_append.mp h).elim (lwi_wsL_law_r40 w) ((fun w h => (List.mem_append.mp h).elim (lwi_wsL_law_r41 w) ((fun w h => (List.mem_append.mp h).elim (lwi_wsL_law_r42 w) ((fun w h => (List.mem_append.mp h).elim (lwi_wsL_law_r43 w) ((fun w h => (List.mem_append.mp h).elim (lwi_wsL_law_r44 w) ((fun w h => (List.mem_append.mp h).elim (lwi_wsL_law_r45 w) ((fun w h => (List.mem_append.mp h).elim (lwi_wsL_law_r46 w) ((fun w h => (List.mem_append.mp h).elim (lwi_wsL_law_r47 w) ((fun w h => (List.mem_append.mp h).elim (lwi_wsL_law_r48 w) ((fun w h => (List.mem_append.mp h).elim (lwi_wsL_law_r49 w) ((fun w h => (List.mem_append.mp h).elim (lwi_wsL_law_r50 w) ((fun w h => (List.mem_append.mp h).elim (lwi_wsL_law_r51 w) (lwi_wsL_law_r52 w)) w)) w)) w)) w)) w)) w)) w)) w)) w)) w)) w)) w)) w)) w)) w)) w)) w)) w)) w)) w)) w)) w)) w)) w)) w)) w)) w)) w)) w)) w)) w)) w)) w)) w)) w)) w)) w)) w)) w)) w)) w)) w)) w)) w)) w)) w)) w)) w)) w)) w)) w) (lwi_wsX100 w)) w) (lwi_wsX110 w)) w) (lwi_wsX40 w)) w) (lwi_wsX20 w)) w) (lwi_wsX50 w)) w) (lwi_wsX60 w)) w) (lwi_wsX90 w)) w) (lwi_wsX10 w)) w) (lwi_wsX80 w)) w) (lwi_wsX70 w)) w) (lwi_wsX00 w)) w) (lwi_wsX30 w)) w) (lwi_nil w))
