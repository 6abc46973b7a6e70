noncomputable def wsl_sel : List (List Cond) := [k2_sels lw_privs, tables_1_1, tables_1_2, tables_1_3, tables_1_4, tables_1_5, tables_1_6, tables_1_7]
theorem wsl_all : ∀ L ∈ wsl_sel, ∀ w ∈ L, w ∈ lw_tbl := (List.forall_mem_cons.mpr ⟨fun w h => List.mem_append_left _ h, (List.forall_mem_cons.mpr ⟨fun w h => List.mem_append_right _ (List.mem_append_left _ h), (List.forall_mem_cons.mpr ⟨fun w h => List.mem_append_right _ (List.mem_append_right _ (List.mem_append_left _ h)), (List.forall_mem_cons.mpr ⟨fun w h => List.mem_append_right _ (List.mem_append_right _ (List.mem_append_right _ (List.mem_append_left _ h))), (List.forall_mem_cons.mpr ⟨fun w h => List.mem_append_right _ (List.mem_append_right _ (List.mem_append_right _ (List.mem_append_right _ (List.mem_append_left _ h)))), (List.forall_mem_cons.mpr ⟨fun w h => List.mem_append_right _ (List.mem_append_right _ (List.mem_append_right _ (List.mem_append_right _ (List.mem_append_right _ (List.mem_append_left _ h))))), (List.forall_mem_cons.mpr ⟨fun w h => List.mem_append_right _ (List.mem_append_right _ (List.mem_append_right _ (List.mem_append_right _ (List.mem_append_right _ (List.mem_append_right _ (List.mem_append_left _ h)))))), (List.forall_mem_cons.mpr ⟨fun w h => List.mem_append_right _ (List.mem_append_right _ (List.mem_append_right _ (List.mem_append_right _ (List.mem_append_right _ (List.mem_append_right _ (List.mem_append_right _ h)))))), (fun _ h => absurd h List.not_mem_nil)⟩)⟩)⟩)⟩)⟩)⟩)⟩)⟩)
theorem wsl_in {ws : List Cond} (qs : List (Nat × Nat)) (hp : ws = qs.filterMap (fun q => ((wsl_sel[q.1]?).getD [])[q.2]?)) : ∀ w ∈ ws, w ∈ lw_tbl := fun w hw => by
  rw [hp] at hw
  obtain ⟨q, -, hq⟩ := List.mem_filterMap.mp hw
  have hm : w ∈ (wsl_sel[q.1]?).getD [] := by first | exact List.mem_of_getElem? hq | exact List.getElem?_mem hq
  cases e : wsl_sel[q.1]? with
  | none => rw [e] at hm; exact absurd hm List.not_mem_nil
  | some L => rw [e] at hm; exact wsl_all L (by first | exact List.mem_of_getElem? e | exact List.getElem?_mem e) w hm
set_option maxRecDepth 100000 in
theorem in_wsL_law_r1 : ∀ w ∈ wsL_law_r1, w ∈ lw_tbl := wsl_in [(1, 17), (1, 18), (1, 1), (5, 59), (5, 60), (1, 12), (7, 97), (1, 19), (1, 20), (1, 21), (1, 22), (1, 23), (1, 24), (1, 25), (1, 26), (1, 2), (2, 176), (2, 177), (2, 27), (2, 28), (1, 8), (2, 178), (2, 48), (1, 59)] (by decide +kernel)
set_option maxRecDepth 100000 in
theorem in_wsL_law_r2 : ∀ w ∈ wsL_law_r2, w ∈ lw_tbl := wsl_in [(1, 4), (2, 179), (2, 50), (1, 187), (1, 7), (2, 180), (2, 52), (2, 54), (1, 9), (2, 181), (2, 75), (2, 77), (1, 10), (2, 182), (1, 229), (2, 183), (2, 142), (2, 143), (1, 11), (2, 184), (1, 28), (1, 29), (1, 30), (1, 31)] (by decide +kernel)
set_option maxRecDepth 100000 in
theorem in_wsL_law_r3 : ∀ w ∈ wsL_law_r3, w ∈ lw_tbl := wsl_in [(1, 32), (1, 3), (1, 230), (1, 58), (1, 232), (1, 90), (1, 92), (1, 5), (1, 234), (1, 149), (1, 150), (1, 6), (1, 236), (1, 185), (1, 238), (1, 57), (2, 0), (2, 2), (1, 34), (1, 35), (1, 36), (1, 37), (1, 39), (1, 43)] (by decide +kernel)
set_option maxRecDepth 100000 in
theorem in_wsL_law_r4 : ∀ w ∈ wsL_law_r4, w ∈ lw_tbl := wsl_in [(1, 47), (1, 61), (1, 62), (1, 63), (1, 64), (1, 66), (1, 68), (1, 70), (1, 72), (1, 94), (1, 95), (1, 96), (1, 97), (1, 100), (1, 103), (1, 106), (1, 108), (1, 110), (1, 112), (1, 121), (1, 152), (1, 153), (1, 154), (1, 155)] (by decide +kernel)
set_option maxRecDepth 100000 in
theorem in_wsL_law_r5 : ∀ w ∈ wsL_law_r5, w ∈ lw_tbl := wsl_in [(1, 157), (1, 159), (1, 161), (1, 163), (1, 165), (1, 189), (1, 190), (1, 191), (1, 192), (1, 194), (1, 196), (1, 199), (1, 202), (1, 205), (2, 30), (2, 31), (2, 32), (2, 33), (2, 56), (2, 57), (2, 58), (2, 59), (2, 79), (2, 80)] (by decide +kernel)
set_option maxRecDepth 100000 in
theorem in_wsL_law_r6 : ∀ w ∈ wsL_law_r6, w ∈ lw_tbl := wsl_in [(2, 81), (2, 84), (2, 87), (2, 89), (2, 90), (2, 91), (2, 92), (2, 93), (2, 82), (2, 141), (2, 94), (2, 95), (2, 96), (2, 98), (2, 99), (2, 100), (2, 145), (2, 146), (2, 147), (2, 148), (2, 149), (2, 150), (2, 151), (2, 152)] (by decide +kernel)
set_option maxRecDepth 100000 in
theorem in_wsL_law_r7 : ∀ w ∈ wsL_law_r7, w ∈ lw_tbl := wsl_in [(2, 153), (2, 154), (5, 61), (5, 62), (5, 63), (5, 64), (5, 65), (5, 66), (5, 70), (5, 73), (5, 74), (5, 75), (5, 76), (5, 77), (5, 78), (5, 79), (5, 81), (5, 82), (5, 83), (5, 86), (5, 87), (5, 89), (5, 90), (5, 91)] (by decide +kernel)
set_option maxRecDepth 100000 in
theorem in_wsL_law_r8 : ∀ w ∈ wsL_law_r8, w ∈ lw_tbl := wsl_in [(5, 92), (2, 207), (2, 208), (2, 209), (2, 210), (1, 231), (1, 41), (2, 211), (2, 212), (2, 213), (2, 214), (2, 215), (2, 216), (2, 217), (2, 218), (2, 219), (5, 150), (5, 151), (5, 152), (5, 153), (5, 154), (5, 155), (5, 156), (5, 157)] (by decide +kernel)
set_option maxRecDepth 100000 in
theorem in_wsL_law_r9 : ∀ w ∈ wsL_law_r9, w ∈ lw_tbl := wsl_in [(5, 158), (5, 159), (5, 160), (5, 161), (5, 162), (5, 163), (5, 164), (5, 165), (5, 166), (2, 221), (2, 222), (2, 223), (2, 224), (2, 60), (2, 225), (2, 226), (2, 227), (2, 228), (2, 229), (2, 230), (2, 231), (2, 64), (2, 61), (2, 62)] (by decide +kernel)
set_option maxRecDepth 100000 in
theorem in_wsL_law_r10 : ∀ w ∈ wsL_law_r10, w ∈ lw_tbl := wsl_in [(7, 84), (7, 85), (7, 86), (7, 87), (6, 54), (7, 88), (6, 212), (6, 213), (6, 214), (6, 215), (6, 216), (6, 218), (0, 72), (6, 219), (2, 232), (2, 233), (2, 234), (2, 235), (1, 45), (1, 48), (5, 167), (5, 168), (5, 169), (5, 170)] (by decide +kernel)
set_option maxRecDepth 100000 in
theorem in_wsL_law_r11 : ∀ w ∈ wsL_law_r11, w ∈ lw_tbl := wsl_in [(5, 171), (2, 236), (2, 237), (2, 238), (2, 239), (3, 0), (3, 1), (3, 2), (3, 3), (3, 4), (3, 5), (1, 13), (3, 6), (5, 172), (5, 173), (5, 174), (5, 175), (5, 176), (5, 178), (0, 34), (5, 179), (3, 7), (3, 8), (3, 9)] (by decide +kernel)
set_option maxRecDepth 100000 in
theorem in_wsL_law_r12 : ∀ w ∈ wsL_law_r12, w ∈ lw_tbl := wsl_in [(3, 10), (3, 11), (3, 12), (3, 13), (3, 14), (3, 15), (5, 180), (5, 181), (5, 182), (5, 183), (5, 184), (5, 186), (0, 35), (5, 187), (3, 16), (3, 17), (3, 18), (3, 19), (2, 35), (2, 34), (3, 20), (3, 21), (3, 22), (5, 200)] (by decide +kernel)
set_option maxRecDepth 100000 in
theorem in_wsL_law_r13 : ∀ w ∈ wsL_law_r13, w ∈ lw_tbl := wsl_in [(5, 201), (5, 202), (5, 203), (5, 204), (5, 205), (5, 206), (5, 207), (5, 67), (3, 23), (3, 24), (3, 25), (3, 26), (1, 233), (1, 76), (3, 27), (3, 28), (3, 29), (3, 30), (2, 37), (2, 38), (1, 75), (3, 31), (3, 33), (0, 0)] (by decide +kernel)
set_option maxRecDepth 100000 in
theorem in_wsL_law_r14 : ∀ w ∈ wsL_law_r14, w ∈ lw_tbl := wsl_in [(3, 34), (1, 67), (1, 65), (3, 35), (3, 37), (0, 1), (3, 38), (3, 39), (3, 41), (0, 2), (3, 42), (2, 36), (3, 43), (3, 45), (0, 3), (3, 46), (1, 69), (1, 71), (1, 73), (3, 47), (3, 49), (0, 4), (3, 50), (3, 51)] (by decide +kernel)
set_option maxRecDepth 100000 in
theorem in_wsL_law_r15 : ∀ w ∈ wsL_law_r15, w ∈ lw_tbl := wsl_in [(3, 53), (0, 5), (3, 54), (3, 55), (3, 57), (0, 6), (3, 58), (3, 60), (3, 61), (3, 62), (3, 63), (3, 65), (0, 7), (3, 66), (3, 67), (3, 68), (3, 69), (3, 70), (1, 74), (3, 72), (3, 73), (3, 74), (3, 75), (3, 77)] (by decide +kernel)
set_option maxRecDepth 100000 in
theorem in_wsL_law_r16 : ∀ w ∈ wsL_law_r16, w ∈ lw_tbl := wsl_in [(3, 76), (1, 14), (5, 208), (5, 209), (5, 210), (5, 211), (5, 68), (5, 69), (5, 212), (5, 214), (0, 38), (5, 215), (5, 216), (5, 218), (0, 39), (5, 219), (5, 238), (5, 220), (5, 222), (0, 40), (5, 223), (5, 224), (5, 226), (0, 41)] (by decide +kernel)
set_option maxRecDepth 100000 in
theorem in_wsL_law_r17 : ∀ w ∈ wsL_law_r17, w ∈ lw_tbl := wsl_in [(5, 227), (5, 228), (5, 230), (0, 42), (5, 231), (5, 232), (5, 234), (0, 43), (5, 235), (5, 236), (5, 237), (3, 78), (3, 79), (3, 80), (3, 81), (3, 82), (3, 83), (3, 84), (3, 85), (1, 44), (1, 40), (3, 86), (3, 87), (3, 89)] (by decide +kernel)
set_option maxRecDepth 100000 in
theorem in_wsL_law_r18 : ∀ w ∈ wsL_law_r18, w ∈ lw_tbl := wsl_in [(0, 8), (3, 90), (3, 91), (3, 92), (1, 15), (3, 93), (5, 188), (5, 189), (5, 190), (5, 191), (5, 192), (5, 194), (0, 36), (5, 195), (5, 196), (5, 198), (0, 37), (5, 199), (3, 94), (3, 95), (3, 96), (3, 97), (3, 98), (3, 100)] (by decide +kernel)
set_option maxRecDepth 100000 in
theorem in_wsL_law_r19 : ∀ w ∈ wsL_law_r19, w ∈ lw_tbl := wsl_in [(0, 9), (3, 101), (7, 89), (7, 90), (7, 91), (7, 92), (7, 93), (7, 95), (0, 85), (7, 96), (3, 102), (3, 103), (3, 104), (3, 105), (1, 235), (1, 237), (1, 117), (3, 106), (3, 107), (3, 108), (3, 109), (3, 110), (3, 111), (3, 112)] (by decide +kernel)
set_option maxRecDepth 100000 in
theorem in_wsL_law_r20 : ∀ w ∈ wsL_law_r20, w ∈ lw_tbl := wsl_in [(1, 114), (1, 119), (1, 124), (1, 49), (1, 46), (1, 42), (3, 113), (3, 114), (3, 115), (3, 116), (3, 117), (3, 118), (3, 119), (3, 120), (3, 121), (3, 122), (1, 167), (3, 123), (3, 124), (3, 125), (3, 126), (6, 11), (6, 12), (6, 13)] (by decide +kernel)
set_option maxRecDepth 100000 in
theorem in_wsL_law_r21 : ∀ w ∈ wsL_law_r21, w ∈ lw_tbl := wsl_in [(6, 14), (6, 15), (6, 16), (6, 17), (6, 18), (6, 20), (0, 46), (6, 21), (6, 22), (6, 24), (0, 47), (6, 25), (6, 26), (6, 28), (0, 48), (6, 29), (6, 30), (6, 32), (0, 49), (6, 33), (6, 34), (6, 36), (0, 50), (6, 37)] (by decide +kernel)
set_option maxRecDepth 100000 in
theorem in_wsL_law_r22 : ∀ w ∈ wsL_law_r22, w ∈ lw_tbl := wsl_in [(3, 127), (3, 128), (3, 129), (3, 130), (1, 125), (1, 105), (3, 131), (3, 133), (0, 10), (3, 134), (3, 135), (3, 136), (3, 137), (3, 138), (6, 38), (6, 39), (6, 40), (6, 41), (6, 42), (6, 44), (0, 51), (6, 45), (6, 46), (6, 48)] (by decide +kernel)
set_option maxRecDepth 100000 in
theorem in_wsL_law_r23 : ∀ w ∈ wsL_law_r23, w ∈ lw_tbl := wsl_in [(0, 52), (6, 49), (3, 139), (3, 140), (3, 141), (3, 142), (3, 143), (6, 50), (6, 51), (6, 52), (6, 53), (6, 55), (6, 56), (3, 144), (3, 145), (3, 146), (3, 147), (3, 148), (3, 149), (3, 150), (3, 151), (3, 152), (3, 153), (3, 154)] (by decide +kernel)
set_option maxRecDepth 100000 in
theorem in_wsL_law_r24 : ∀ w ∈ wsL_law_r24, w ∈ lw_tbl := wsl_in [(3, 155), (6, 57), (6, 58), (6, 59), (6, 60), (3, 156), (3, 157), (3, 158), (3, 159), (1, 99), (1, 102), (6, 61), (6, 62), (6, 63), (6, 64), (6, 65), (6, 67), (0, 53), (6, 68), (3, 160), (3, 161), (3, 162), (3, 163), (1, 123)] (by decide +kernel)
set_option maxRecDepth 100000 in
theorem in_wsL_law_r25 : ∀ w ∈ wsL_law_r25, w ∈ lw_tbl := wsl_in [(6, 69), (6, 70), (6, 71), (6, 72), (3, 164), (3, 165), (3, 166), (3, 167), (1, 120), (3, 168), (3, 169), (3, 170), (3, 171), (6, 73), (6, 74), (6, 75), (6, 76), (3, 172), (3, 173), (3, 174), (3, 175), (1, 169), (3, 176), (6, 77)] (by decide +kernel)
set_option maxRecDepth 100000 in
theorem in_wsL_law_r26 : ∀ w ∈ wsL_law_r26, w ∈ lw_tbl := wsl_in [(6, 78), (6, 79), (6, 80), (3, 177), (3, 178), (3, 179), (3, 180), (1, 166), (1, 156), (6, 81), (6, 82), (6, 83), (6, 84), (3, 181), (3, 182), (3, 183), (3, 184), (2, 5), (2, 7), (3, 185), (3, 186), (3, 187), (3, 188), (3, 189)] (by decide +kernel)
set_option maxRecDepth 100000 in
theorem in_wsL_law_r27 : ∀ w ∈ wsL_law_r27, w ∈ lw_tbl := wsl_in [(3, 190), (3, 191), (3, 192), (3, 193), (6, 85), (6, 86), (6, 87), (6, 88), (6, 89), (6, 91), (0, 54), (6, 92), (3, 194), (3, 195), (3, 196), (3, 197), (3, 198), (3, 199), (2, 107), (3, 200), (3, 202), (0, 11), (3, 203), (3, 204)] (by decide +kernel)
set_option maxRecDepth 100000 in
theorem in_wsL_law_r28 : ∀ w ∈ wsL_law_r28, w ∈ lw_tbl := wsl_in [(3, 205), (3, 206), (3, 207), (3, 208), (3, 210), (0, 12), (3, 211), (3, 212), (3, 213), (3, 214), (3, 215), (1, 122), (2, 101), (1, 118), (1, 168), (3, 216), (3, 218), (0, 13), (3, 219), (2, 104), (1, 116), (3, 220), (3, 221), (3, 223)] (by decide +kernel)
set_option maxRecDepth 100000 in
theorem in_wsL_law_r29 : ∀ w ∈ wsL_law_r29, w ∈ lw_tbl := wsl_in [(0, 14), (3, 224), (1, 113), (1, 109), (1, 111), (1, 107), (3, 225), (3, 226), (3, 228), (0, 15), (3, 229), (1, 158), (1, 160), (1, 164), (1, 162), (3, 230), (3, 231), (3, 232), (3, 233), (3, 234), (2, 106), (3, 235), (3, 236), (1, 16)] (by decide +kernel)
set_option maxRecDepth 100000 in
theorem in_wsL_law_r30 : ∀ w ∈ wsL_law_r30, w ∈ lw_tbl := wsl_in [(3, 237), (3, 238), (3, 239), (4, 0), (4, 1), (4, 2), (4, 3), (4, 4), (4, 5), (4, 6), (4, 7), (4, 8), (4, 9), (4, 11), (0, 16), (4, 12), (4, 13), (4, 14), (4, 15), (4, 16), (4, 17), (4, 19), (0, 17), (4, 20)] (by decide +kernel)
set_option maxRecDepth 100000 in
theorem in_wsL_law_r31 : ∀ w ∈ wsL_law_r31, w ∈ lw_tbl := wsl_in [(4, 21), (4, 23), (0, 18), (4, 24), (6, 93), (6, 94), (6, 95), (6, 96), (6, 97), (6, 98), (5, 80), (6, 99), (6, 101), (0, 55), (6, 102), (6, 103), (6, 105), (0, 56), (6, 106), (6, 107), (6, 109), (0, 57), (6, 110), (6, 111)] (by decide +kernel)
set_option maxRecDepth 100000 in
theorem in_wsL_law_r32 : ∀ w ∈ wsL_law_r32, w ∈ lw_tbl := wsl_in [(6, 113), (0, 58), (6, 114), (5, 71), (5, 72), (6, 115), (6, 116), (6, 118), (0, 59), (6, 119), (6, 120), (6, 122), (0, 60), (6, 123), (6, 124), (6, 126), (0, 61), (6, 127), (6, 128), (6, 130), (0, 62), (6, 131), (6, 132), (6, 133)] (by decide +kernel)
set_option maxRecDepth 100000 in
theorem in_wsL_law_r33 : ∀ w ∈ wsL_law_r33, w ∈ lw_tbl := wsl_in [(6, 134), (6, 135), (6, 137), (0, 63), (6, 138), (6, 139), (6, 141), (0, 64), (6, 142), (4, 26), (4, 27), (4, 28), (4, 29), (2, 88), (4, 30), (4, 31), (4, 32), (4, 33), (4, 34), (4, 35), (4, 36), (4, 37), (4, 38), (4, 40)] (by decide +kernel)
set_option maxRecDepth 100000 in
theorem in_wsL_law_r34 : ∀ w ∈ wsL_law_r34, w ∈ lw_tbl := wsl_in [(0, 19), (4, 41), (6, 143), (6, 144), (6, 145), (6, 146), (6, 147), (6, 149), (0, 65), (6, 150), (6, 151), (6, 153), (0, 66), (6, 154), (6, 155), (6, 157), (0, 67), (6, 158), (4, 42), (4, 43), (4, 44), (4, 45), (4, 46), (4, 47)] (by decide +kernel)
set_option maxRecDepth 100000 in
theorem in_wsL_law_r35 : ∀ w ∈ wsL_law_r35, w ∈ lw_tbl := wsl_in [(4, 48), (4, 49), (4, 50), (4, 51), (4, 55), (4, 56), (4, 57), (4, 52), (4, 53), (4, 54), (6, 159), (6, 160), (6, 161), (6, 162), (6, 163), (6, 164), (6, 165), (6, 166), (6, 167), (6, 168), (4, 58), (4, 59), (4, 60), (4, 61)] (by decide +kernel)
set_option maxRecDepth 100000 in
theorem in_wsL_law_r36 : ∀ w ∈ wsL_law_r36, w ∈ lw_tbl := wsl_in [(4, 62), (4, 64), (0, 20), (4, 65), (4, 66), (4, 67), (4, 68), (4, 69), (4, 70), (4, 72), (0, 21), (4, 73), (4, 74), (4, 75), (4, 76), (4, 77), (6, 169), (6, 170), (6, 171), (6, 172), (6, 173), (6, 175), (0, 68), (6, 176)] (by decide +kernel)
set_option maxRecDepth 100000 in
theorem in_wsL_law_r37 : ∀ w ∈ wsL_law_r37, w ∈ lw_tbl := wsl_in [(6, 177), (6, 179), (0, 69), (6, 180), (4, 78), (4, 79), (4, 80), (4, 81), (2, 97), (6, 181), (6, 182), (6, 183), (6, 184), (4, 82), (4, 83), (4, 84), (4, 85), (2, 105), (2, 86), (4, 86), (4, 87), (4, 88), (4, 89), (4, 90)] (by decide +kernel)
set_option maxRecDepth 100000 in
theorem in_wsL_law_r38 : ∀ w ∈ wsL_law_r38, w ∈ lw_tbl := wsl_in [(6, 185), (6, 186), (6, 187), (6, 188), (6, 189), (6, 191), (0, 70), (6, 192), (4, 91), (4, 92), (4, 93), (4, 94), (4, 95), (4, 96), (4, 97), (4, 98), (4, 99), (4, 100), (6, 193), (6, 194), (6, 195), (6, 196), (6, 197), (6, 198)] (by decide +kernel)
set_option maxRecDepth 100000 in
theorem in_wsL_law_r39 : ∀ w ∈ wsL_law_r39, w ∈ lw_tbl := wsl_in [(6, 199), (6, 200), (6, 202), (0, 71), (6, 203), (4, 101), (4, 102), (4, 103), (4, 104), (4, 105), (4, 107), (0, 22), (4, 108), (6, 204), (6, 205), (6, 206), (6, 207), (4, 109), (4, 110), (4, 111), (4, 112), (4, 113), (4, 114), (4, 115)] (by decide +kernel)
set_option maxRecDepth 100000 in
theorem in_wsL_law_r40 : ∀ w ∈ wsL_law_r40, w ∈ lw_tbl := wsl_in [(4, 116), (4, 117), (4, 119), (0, 23), (4, 120), (6, 208), (6, 209), (6, 210), (6, 211), (4, 121), (4, 122), (4, 123), (4, 124), (4, 125), (4, 127), (0, 24), (4, 128), (6, 220), (6, 221), (6, 222), (6, 223), (6, 224), (5, 85), (6, 229)] (by decide +kernel)
set_option maxRecDepth 100000 in
theorem in_wsL_law_r41 : ∀ w ∈ wsL_law_r41, w ∈ lw_tbl := wsl_in [(6, 225), (6, 227), (0, 73), (6, 228), (5, 84), (6, 230), (6, 232), (0, 74), (6, 233), (4, 129), (4, 130), (4, 131), (4, 132), (6, 234), (6, 235), (6, 236), (6, 237), (4, 133), (4, 134), (4, 135), (4, 136), (1, 239), (4, 137), (4, 138)] (by decide +kernel)
set_option maxRecDepth 100000 in
theorem in_wsL_law_r42 : ∀ w ∈ wsL_law_r42, w ∈ lw_tbl := wsl_in [(4, 139), (4, 140), (1, 211), (1, 209), (4, 141), (4, 143), (0, 25), (4, 144), (1, 206), (1, 193), (1, 198), (1, 201), (1, 204), (4, 145), (4, 147), (0, 26), (4, 148), (1, 195), (4, 149), (4, 150), (4, 151), (4, 152), (1, 207), (1, 210)] (by decide +kernel)
set_option maxRecDepth 100000 in
theorem in_wsL_law_r43 : ∀ w ∈ wsL_law_r43, w ∈ lw_tbl := wsl_in [(5, 239), (6, 0), (6, 1), (6, 2), (6, 3), (6, 5), (0, 44), (6, 6), (6, 7), (6, 9), (0, 45), (6, 10), (4, 154), (4, 155), (4, 156), (4, 157), (4, 158), (4, 160), (0, 27), (4, 161), (4, 162), (4, 163), (4, 164), (4, 165)] (by decide +kernel)
set_option maxRecDepth 100000 in
theorem in_wsL_law_r44 : ∀ w ∈ wsL_law_r44, w ∈ lw_tbl := wsl_in [(2, 103), (2, 155), (2, 156), (4, 166), (4, 168), (0, 28), (4, 169), (2, 85), (1, 197), (1, 200), (4, 170), (4, 171), (4, 172), (2, 102), (1, 208), (1, 203), (4, 178), (4, 173), (4, 174), (4, 175), (4, 176), (1, 101), (1, 98), (4, 177)] (by decide +kernel)
set_option maxRecDepth 100000 in
theorem in_wsL_law_r45 : ∀ w ∈ wsL_law_r45, w ∈ lw_tbl := wsl_in [(4, 180), (4, 181), (4, 182), (4, 183), (4, 184), (4, 185), (4, 186), (4, 188), (0, 29), (4, 189), (4, 190), (4, 192), (0, 30), (4, 193), (4, 194), (4, 195), (4, 197), (0, 31), (4, 198), (4, 199), (4, 201), (0, 32), (4, 202), (4, 203)] (by decide +kernel)
set_option maxRecDepth 100000 in
theorem in_wsL_law_r46 : ∀ w ∈ wsL_law_r46, w ∈ lw_tbl := wsl_in [(4, 204), (4, 205), (4, 207), (0, 33), (4, 208), (4, 209), (4, 210), (4, 211), (4, 212), (6, 238), (6, 239), (7, 0), (7, 1), (7, 2), (7, 4), (0, 75), (7, 5), (7, 6), (7, 8), (0, 76), (7, 9), (7, 10), (7, 12), (0, 77)] (by decide +kernel)
set_option maxRecDepth 100000 in
theorem in_wsL_law_r47 : ∀ w ∈ wsL_law_r47, w ∈ lw_tbl := wsl_in [(7, 13), (7, 14), (7, 16), (0, 78), (7, 17), (7, 18), (7, 20), (0, 79), (7, 21), (7, 22), (7, 23), (7, 24), (7, 25), (7, 27), (0, 80), (7, 28), (7, 29), (7, 31), (0, 81), (7, 32), (7, 33), (7, 35), (0, 82), (7, 36)] (by decide +kernel)
set_option maxRecDepth 100000 in
theorem in_wsL_law_r48 : ∀ w ∈ wsL_law_r48, w ∈ lw_tbl := wsl_in [(7, 37), (7, 39), (0, 83), (7, 40), (4, 213), (4, 214), (4, 215), (4, 216), (4, 217), (4, 218), (4, 219), (4, 220), (1, 115), (1, 104), (4, 221), (4, 223), (7, 41), (7, 42), (7, 43), (7, 44), (4, 224), (4, 225), (4, 226), (4, 227)] (by decide +kernel)
set_option maxRecDepth 100000 in
theorem in_wsL_law_r49 : ∀ w ∈ wsL_law_r49, w ∈ lw_tbl := wsl_in [(4, 228), (4, 229), (4, 230), (4, 231), (4, 232), (7, 45), (7, 46), (7, 47), (7, 48), (7, 49), (4, 233), (4, 234), (4, 235), (4, 236), (2, 1), (2, 3), (7, 50), (7, 51), (7, 52), (7, 53), (7, 54), (7, 55), (4, 237), (4, 238)] (by decide +kernel)
set_option maxRecDepth 100000 in
theorem in_wsL_law_r50 : ∀ w ∈ wsL_law_r50, w ∈ lw_tbl := wsl_in [(4, 239), (5, 0), (5, 1), (5, 2), (5, 3), (5, 4), (2, 6), (7, 56), (7, 57), (7, 58), (7, 59), (7, 60), (7, 62), (0, 84), (7, 63), (5, 6), (5, 7), (5, 8), (5, 9), (2, 185), (5, 10), (5, 11), (5, 12), (5, 13)] (by decide +kernel)
set_option maxRecDepth 100000 in
theorem in_wsL_law_r51 : ∀ w ∈ wsL_law_r51, w ∈ lw_tbl := wsl_in [(2, 4), (5, 14), (5, 15), (5, 16), (5, 17), (5, 19), (5, 20), (5, 21), (5, 22), (5, 23), (5, 25), (5, 26), (5, 27), (5, 28), (5, 30), (7, 64), (7, 65), (7, 66), (7, 67), (5, 88), (5, 32), (5, 33), (5, 34), (5, 35)] (by decide +kernel)
set_option maxRecDepth 100000 in
theorem in_wsL_law_r52 : ∀ w ∈ wsL_law_r52, w ∈ lw_tbl := wsl_in [(7, 68), (7, 69), (7, 70), (7, 71), (5, 36), (5, 37), (5, 38), (5, 39), (5, 40), (5, 41), (5, 42), (5, 43), (5, 44), (5, 45), (5, 46), (7, 72), (7, 73), (7, 74), (7, 75), (5, 47), (5, 48), (5, 49), (5, 50), (2, 65)] (by decide +kernel)
set_option maxRecDepth 100000 in
theorem in_wsL_law_r53 : ∀ w ∈ wsL_law_r53, w ∈ lw_tbl := wsl_in [(2, 63), (7, 76), (7, 77), (7, 78), (7, 79), (5, 51), (5, 52), (5, 53), (5, 54), (5, 55), (5, 56), (5, 57), (5, 58), (7, 80), (7, 81), (7, 82), (7, 83)] (by decide +kernel)
set_option maxRecDepth 100000 in
theorem in_wsX100 : ∀ w ∈ wsX100, w ∈ lw_tbl := wsl_in [(2, 186), (2, 188), (2, 190), (2, 192), (2, 194), (2, 196), (2, 198), (2, 200), (2, 202), (2, 204)] (by decide +kernel)
set_option maxRecDepth 100000 in
theorem in_wsX110 : ∀ w ∈ wsX110, w ∈ lw_tbl := wsl_in [(5, 93), (5, 95), (5, 97), (5, 99), (5, 101), (5, 103), (5, 105), (5, 107), (5, 109), (5, 111), (5, 113), (5, 115), (5, 117), (5, 119), (5, 121), (5, 123), (5, 125), (5, 127), (5, 129), (5, 131), (5, 133), (5, 135), (5, 137), (5, 139), (5, 141), (5, 143), (5, 145), (5, 147)] (by decide +kernel)
set_option maxRecDepth 100000 in
theorem in_wsX80 : ∀ w ∈ wsX80, w ∈ lw_tbl := wsl_in [(2, 8), (2, 10), (2, 12), (2, 14), (2, 16), (2, 18), (2, 20), (2, 22), (2, 24)] (by decide +kernel)
set_option maxRecDepth 100000 in
theorem in_wsX60 : ∀ w ∈ wsX60, w ∈ lw_tbl := wsl_in [(2, 39), (2, 41), (2, 43), (2, 45)] (by decide +kernel)
set_option maxRecDepth 100000 in
theorem in_wsX40 : ∀ w ∈ wsX40, w ∈ lw_tbl := wsl_in [(1, 77), (1, 79), (1, 81), (1, 83), (1, 85), (1, 87)] (by decide +kernel)
set_option maxRecDepth 100000 in
theorem in_wsX10 : ∀ w ∈ wsX10, w ∈ lw_tbl := wsl_in [(1, 212), (1, 214), (1, 216), (1, 218), (1, 220), (1, 222), (1, 224), (1, 226)] (by decide +kernel)
set_option maxRecDepth 100000 in
theorem in_wsX70 : ∀ w ∈ wsX70, w ∈ lw_tbl := wsl_in [(2, 66), (2, 68), (2, 70), (2, 72)] (by decide +kernel)
set_option maxRecDepth 100000 in
theorem in_wsX90 : ∀ w ∈ wsX90, w ∈ lw_tbl := wsl_in [(2, 108), (2, 110), (2, 112), (2, 114), (2, 116), (2, 118), (2, 120), (2, 122), (2, 124), (2, 126), (2, 128), (2, 130), (2, 132), (2, 134), (2, 136), (2, 138)] (by decide +kernel)
set_option maxRecDepth 100000 in
theorem in_wsX50 : ∀ w ∈ wsX50, w ∈ lw_tbl := wsl_in [(2, 157), (2, 159), (2, 161), (2, 163), (2, 165), (2, 167), (2, 169), (2, 171), (2, 173)] (by decide +kernel)
set_option maxRecDepth 100000 in
theorem in_wsX30 : ∀ w ∈ wsX30, w ∈ lw_tbl := wsl_in [(1, 50), (1, 52), (1, 54)] (by decide +kernel)
set_option maxRecDepth 100000 in
theorem in_wsX00 : ∀ w ∈ wsX00, w ∈ lw_tbl := wsl_in [(1, 126), (1, 128), (1, 130), (1, 132), (1, 134), (1, 136), (1, 138), (1, 140), (1, 142), (1, 144), (1, 146)] (by decide +kernel)
set_option maxRecDepth 100000 in
theorem in_wsX20 : ∀ w ∈ wsX20, w ∈ lw_tbl := wsl_in [(1, 170), (1, 172), (1, 174), (1, 176), (1, 178), (1, 180), (1, 182)] (by decide +kernel)
