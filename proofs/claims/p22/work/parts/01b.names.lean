theorem mem_places {big ws : List Cond} (ps : List Nat) (h : ws = ps.filterMap (fun i => big[i]?)) : ∀ w ∈ ws, w ∈ big := by
  intro w hw
  rw [h] at hw
  obtain ⟨i, -, hi⟩ := List.mem_filterMap.mp hw
  exact List.mem_of_getElem? hi
def lwT : Nat → List Cond
  | 0 => k2_sels lw_privs
  | 1 => tables_1_1
  | 2 => tables_1_2
  | 3 => tables_1_3
  | 4 => tables_1_4
  | 5 => tables_1_5
  | _ => []
theorem lwT_in : ∀ (k : Nat) (w : Cond), w ∈ lwT k → w ∈ k2_sels lw_privs ++ (tables_1_1 ++ (tables_1_2 ++ (tables_1_3 ++ (tables_1_4 ++ tables_1_5))))
  | 0, _, h => List.mem_append_left _ h
  | 1, _, h => List.mem_append_right _ (List.mem_append_left _ h)
  | 2, _, h => List.mem_append_right _ (List.mem_append_right _ (List.mem_append_left _ h))
  | 3, _, h => List.mem_append_right _ (List.mem_append_right _ (List.mem_append_right _ (List.mem_append_left _ h)))
  | 4, _, h => List.mem_append_right _ (List.mem_append_right _ (List.mem_append_right _ (List.mem_append_right _ (List.mem_append_left _ h))))
  | 5, _, h => List.mem_append_right _ (List.mem_append_right _ (List.mem_append_right _ (List.mem_append_right _ (List.mem_append_right _ (h)))))
  | _ + 6, _, h => absurd h List.not_mem_nil
theorem lwT_tb (k : Nat) (w : Cond) (h : w ∈ lwT k) : w ∈ lw_tbl := lwT_in k w h
theorem mem_places2 {ws : List Cond} (ps : List (Nat × Nat)) (h : ws = ps.filterMap (fun q => (lwT q.1)[q.2]?)) : ∀ w ∈ ws, w ∈ lw_tbl := by
  intro w hw
  rw [h] at hw
  obtain ⟨q, -, hq⟩ := List.mem_filterMap.mp hw
  exact lwT_tb q.1 w (List.mem_of_getElem? hq)
set_option maxRecDepth 20000 in
theorem lin_wsL_law_r1 : ∀ w ∈ wsL_law_r1, w ∈ lw_tbl := mem_places2 [(1, 16), (1, 17), (1, 1), (4, 8), (4, 9), (1, 8), (1, 18), (1, 19), (1, 20), (1, 21), (1, 22), (1, 23), (1, 24), (1, 25), (1, 2), (1, 176), (1, 60), (1, 61), (1, 4), (1, 177), (1, 178), (1, 121), (1, 122), (1, 5)] rfl
set_option maxRecDepth 20000 in
theorem lin_wsL_law_r2 : ∀ w ∈ wsL_law_r2, w ∈ lw_tbl := mem_places2 [(1, 179), (1, 180), (1, 132), (1, 133), (1, 6), (1, 181), (1, 27), (1, 28), (1, 29), (1, 30), (1, 31), (1, 3), (1, 46), (1, 33), (1, 34), (1, 35), (1, 45), (1, 36), (1, 63), (1, 64), (1, 65), (1, 120), (1, 90), (1, 92)] rfl
set_option maxRecDepth 20000 in
theorem lin_wsL_law_r3 : ∀ w ∈ wsL_law_r3, w ∈ lw_tbl := mem_places2 [(1, 94), (1, 96), (1, 124), (1, 125), (1, 126), (1, 131), (1, 127), (1, 135), (1, 136), (1, 137), (1, 157), (1, 158), (1, 159), (1, 138), (1, 139), (1, 7), (1, 160), (1, 141), (1, 142), (1, 143), (1, 144), (1, 146), (4, 10), (4, 11)] rfl
set_option maxRecDepth 20000 in
theorem lin_wsL_law_r4 : ∀ w ∈ wsL_law_r4, w ∈ lw_tbl := mem_places2 [(4, 12), (4, 13), (4, 14), (4, 15), (4, 16), (4, 17), (4, 63), (4, 21), (4, 22), (4, 23), (4, 25), (4, 26), (1, 204), (1, 205), (1, 206), (1, 207), (1, 47), (1, 38), (1, 208), (1, 210), (0, 0), (1, 211), (1, 182), (1, 183)] rfl
set_option maxRecDepth 20000 in
theorem lin_wsL_law_r5 : ∀ w ∈ wsL_law_r5, w ∈ lw_tbl := mem_places2 [(1, 184), (1, 212), (1, 213), (1, 214), (1, 215), (1, 37), (4, 64), (4, 65), (4, 66), (4, 67), (4, 18), (4, 68), (4, 69), (4, 70), (4, 71), (4, 73), (0, 34), (4, 74), (1, 216), (1, 217), (1, 218), (1, 219), (4, 75), (4, 76)] rfl
set_option maxRecDepth 20000 in
theorem lin_wsL_law_r6 : ∀ w ∈ wsL_law_r6, w ∈ lw_tbl := mem_places2 [(4, 77), (4, 78), (1, 220), (1, 221), (1, 222), (1, 223), (1, 224), (1, 225), (1, 226), (1, 227), (1, 49), (1, 50), (1, 48), (1, 228), (1, 230), (0, 1), (1, 231), (1, 39), (1, 232), (1, 233), (1, 234), (1, 235), (1, 236), (1, 237)] rfl
set_option maxRecDepth 20000 in
theorem lin_wsL_law_r7 : ∀ w ∈ wsL_law_r7, w ∈ lw_tbl := mem_places2 [(1, 238), (1, 239), (2, 1), (0, 2), (2, 2), (2, 4), (2, 6), (0, 3), (2, 7), (2, 8), (2, 10), (0, 4), (2, 11), (2, 12), (2, 13), (2, 14), (1, 9), (2, 15), (5, 62), (2, 16), (2, 17), (2, 18), (2, 19), (2, 20)] rfl
set_option maxRecDepth 20000 in
theorem lin_wsL_law_r8 : ∀ w ∈ wsL_law_r8, w ∈ lw_tbl := mem_places2 [(5, 63), (2, 22), (2, 23), (2, 24), (2, 25), (2, 26), (2, 27), (2, 28), (2, 29), (2, 30), (2, 31), (1, 10), (2, 32), (2, 33), (2, 34), (2, 35), (2, 36), (2, 38), (2, 39), (1, 11), (2, 40), (2, 41), (2, 42), (1, 12)] rfl
set_option maxRecDepth 20000 in
theorem lin_wsL_law_r9 : ∀ w ∈ wsL_law_r9, w ∈ lw_tbl := mem_places2 [(2, 43), (2, 44), (2, 45), (2, 46), (2, 47), (2, 48), (2, 49), (2, 50), (2, 51), (2, 52), (2, 53), (2, 54), (2, 56), (2, 58), (2, 60), (2, 62), (0, 5), (2, 63), (2, 64), (2, 65), (2, 66), (2, 67), (1, 66), (1, 69)] rfl
set_option maxRecDepth 20000 in
theorem lin_wsL_law_r10 : ∀ w ∈ wsL_law_r10, w ∈ lw_tbl := mem_places2 [(1, 73), (1, 77), (2, 68), (2, 70), (0, 6), (2, 71), (2, 72), (2, 74), (0, 7), (2, 75), (2, 77), (2, 79), (0, 8), (2, 80), (2, 81), (2, 83), (0, 9), (2, 84), (2, 85), (2, 86), (2, 87), (2, 96), (2, 97), (2, 98)] rfl
set_option maxRecDepth 20000 in
theorem lin_wsL_law_r11 : ∀ w ∈ wsL_law_r11, w ∈ lw_tbl := mem_places2 [(2, 99), (2, 100), (2, 101), (2, 102), (2, 103), (2, 105), (2, 106), (2, 107), (2, 108), (2, 110), (0, 10), (2, 111), (2, 113), (2, 114), (2, 115), (2, 116), (2, 117), (2, 119), (0, 11), (2, 120), (1, 71), (2, 122), (2, 124), (0, 12)] rfl
set_option maxRecDepth 20000 in
theorem lin_wsL_law_r12 : ∀ w ∈ wsL_law_r12, w ∈ lw_tbl := mem_places2 [(2, 125), (2, 126), (2, 127), (2, 128), (2, 133), (2, 134), (2, 135), (2, 136), (1, 81), (1, 84), (1, 87), (2, 137), (2, 138), (2, 139), (2, 140), (2, 141), (2, 142), (2, 143), (2, 144), (2, 145), (2, 147), (2, 148), (2, 149), (2, 150)] rfl
set_option maxRecDepth 20000 in
theorem lin_wsL_law_r13 : ∀ w ∈ wsL_law_r13, w ∈ lw_tbl := mem_places2 [(2, 151), (2, 152), (2, 153), (2, 154), (2, 155), (2, 156), (2, 157), (2, 158), (2, 159), (2, 160), (2, 161), (2, 162), (2, 163), (2, 164), (2, 166), (0, 13), (2, 167), (1, 76), (2, 168), (2, 169), (2, 170), (2, 171), (1, 68), (2, 172)] rfl
set_option maxRecDepth 20000 in
theorem lin_wsL_law_r14 : ∀ w ∈ wsL_law_r14, w ∈ lw_tbl := mem_places2 [(1, 74), (2, 174), (2, 175), (2, 177), (0, 14), (2, 178), (2, 185), (2, 179), (2, 180), (2, 182), (0, 15), (2, 183), (2, 184), (2, 186), (2, 187), (2, 188), (2, 189), (1, 161), (1, 162), (4, 79), (4, 80), (4, 81), (4, 82), (4, 19)] rfl
set_option maxRecDepth 20000 in
theorem lin_wsL_law_r15 : ∀ w ∈ wsL_law_r15, w ∈ lw_tbl := mem_places2 [(4, 83), (4, 85), (0, 35), (4, 86), (4, 20), (4, 87), (4, 89), (0, 36), (4, 90), (4, 91), (4, 93), (0, 37), (4, 94), (4, 95), (4, 97), (0, 38), (4, 98), (4, 99), (4, 101), (0, 39), (4, 102), (4, 103), (4, 105), (0, 40)] rfl
set_option maxRecDepth 20000 in
theorem lin_wsL_law_r16 : ∀ w ∈ wsL_law_r16, w ∈ lw_tbl := mem_places2 [(4, 106), (4, 107), (4, 108), (4, 109), (4, 110), (4, 112), (0, 41), (4, 113), (4, 114), (4, 116), (0, 42), (4, 117), (4, 118), (4, 120), (0, 43), (4, 121), (4, 122), (4, 124), (0, 44), (4, 125), (2, 190), (2, 191), (2, 192), (2, 193)] rfl
set_option maxRecDepth 20000 in
theorem lin_wsL_law_r17 : ∀ w ∈ wsL_law_r17, w ∈ lw_tbl := mem_places2 [(1, 91), (2, 194), (2, 196), (0, 16), (2, 197), (1, 67), (2, 198), (2, 199), (2, 200), (2, 201), (2, 202), (2, 204), (0, 17), (2, 205), (2, 206), (2, 207), (4, 126), (4, 127), (4, 128), (4, 129), (4, 130), (4, 132), (0, 45), (4, 133)] rfl
set_option maxRecDepth 20000 in
theorem lin_wsL_law_r18 : ∀ w ∈ wsL_law_r18, w ∈ lw_tbl := mem_places2 [(4, 134), (4, 136), (0, 46), (4, 137), (4, 138), (4, 140), (0, 47), (4, 141), (2, 208), (2, 209), (2, 210), (2, 211), (1, 93), (1, 95), (2, 212), (2, 214), (0, 18), (2, 215), (2, 216), (2, 218), (0, 19), (2, 219), (1, 72), (2, 220)] rfl
set_option maxRecDepth 20000 in
theorem lin_wsL_law_r19 : ∀ w ∈ wsL_law_r19, w ∈ lw_tbl := mem_places2 [(4, 142), (4, 143), (4, 144), (4, 145), (2, 221), (2, 222), (2, 223), (2, 224), (2, 225), (2, 226), (2, 227), (2, 228), (2, 229), (2, 230), (4, 146), (4, 147), (4, 148), (4, 149), (2, 231), (2, 232), (2, 233), (2, 234), (1, 83), (1, 86)] rfl
set_option maxRecDepth 20000 in
theorem lin_wsL_law_r20 : ∀ w ∈ wsL_law_r20, w ∈ lw_tbl := mem_places2 [(1, 89), (2, 235), (2, 237), (0, 20), (2, 238), (1, 80), (2, 239), (4, 150), (4, 151), (4, 152), (4, 153), (3, 0), (3, 1), (3, 2), (3, 3), (3, 4), (3, 5), (3, 6), (3, 7), (4, 154), (4, 155), (4, 156), (4, 157), (4, 158)] rfl
set_option maxRecDepth 20000 in
theorem lin_wsL_law_r21 : ∀ w ∈ wsL_law_r21, w ∈ lw_tbl := mem_places2 [(4, 160), (0, 48), (4, 161), (4, 162), (4, 163), (4, 164), (4, 165), (4, 167), (0, 49), (4, 168), (3, 8), (3, 9), (3, 10), (3, 11), (3, 12), (3, 13), (3, 14), (3, 15), (3, 16), (3, 20), (3, 21), (3, 17), (3, 18), (3, 19)] rfl
set_option maxRecDepth 20000 in
theorem lin_wsL_law_r22 : ∀ w ∈ wsL_law_r22, w ∈ lw_tbl := mem_places2 [(4, 169), (4, 170), (4, 171), (4, 172), (4, 173), (4, 174), (4, 175), (4, 176), (4, 177), (4, 178), (4, 179), (4, 180), (3, 22), (3, 23), (3, 24), (3, 25), (3, 26), (3, 28), (0, 21), (3, 29), (3, 30), (3, 31), (3, 32), (3, 33)] rfl
set_option maxRecDepth 20000 in
theorem lin_wsL_law_r23 : ∀ w ∈ wsL_law_r23, w ∈ lw_tbl := mem_places2 [(1, 79), (3, 34), (3, 35), (3, 36), (3, 37), (3, 38), (3, 39), (3, 40), (3, 41), (3, 42), (4, 181), (4, 182), (4, 183), (4, 184), (4, 185), (4, 187), (0, 50), (4, 188), (4, 189), (4, 191), (0, 51), (4, 192), (4, 193), (4, 195)] rfl
set_option maxRecDepth 20000 in
theorem lin_wsL_law_r24 : ∀ w ∈ wsL_law_r24, w ∈ lw_tbl := mem_places2 [(0, 52), (4, 196), (4, 197), (4, 198), (4, 199), (4, 200), (4, 202), (0, 53), (4, 203), (3, 43), (3, 44), (3, 45), (3, 46), (3, 47), (3, 49), (0, 22), (3, 50), (3, 51), (3, 52), (4, 204), (4, 205), (4, 206), (4, 207), (3, 53)] rfl
set_option maxRecDepth 20000 in
theorem lin_wsL_law_r25 : ∀ w ∈ wsL_law_r25, w ∈ lw_tbl := mem_places2 [(3, 54), (3, 55), (3, 56), (3, 57), (3, 58), (3, 59), (3, 60), (3, 61), (3, 63), (0, 23), (3, 64), (3, 65), (3, 66), (3, 67), (3, 68), (3, 69), (3, 70), (4, 208), (4, 209), (4, 210), (4, 211), (4, 212), (4, 214), (0, 54)] rfl
set_option maxRecDepth 20000 in
theorem lin_wsL_law_r26 : ∀ w ∈ wsL_law_r26, w ∈ lw_tbl := mem_places2 [(4, 215), (3, 71), (3, 72), (3, 73), (3, 74), (4, 216), (4, 217), (4, 218), (4, 219), (3, 75), (3, 76), (3, 77), (3, 78), (3, 79), (3, 81), (0, 24), (3, 82), (3, 83), (3, 84), (3, 85), (3, 86), (1, 149), (1, 75), (3, 87)] rfl
set_option maxRecDepth 20000 in
theorem lin_wsL_law_r27 : ∀ w ∈ wsL_law_r27, w ∈ lw_tbl := mem_places2 [(3, 89), (0, 25), (3, 90), (1, 78), (3, 91), (3, 93), (3, 94), (3, 95), (3, 96), (3, 97), (3, 98), (1, 148), (3, 99), (3, 101), (0, 26), (3, 102), (3, 104), (3, 106), (0, 27), (3, 107), (3, 108), (3, 110), (3, 109), (1, 13)] rfl
set_option maxRecDepth 20000 in
theorem lin_wsL_law_r28 : ∀ w ∈ wsL_law_r28, w ∈ lw_tbl := mem_places2 [(3, 112), (3, 114), (0, 28), (3, 115), (3, 116), (3, 118), (0, 29), (3, 119), (1, 85), (1, 82), (1, 88), (3, 120), (3, 123), (3, 125), (3, 127), (0, 30), (3, 128), (1, 70), (3, 144), (3, 146), (3, 148), (3, 150), (3, 129), (3, 130)] rfl
set_option maxRecDepth 20000 in
theorem lin_wsL_law_r29 : ∀ w ∈ wsL_law_r29, w ∈ lw_tbl := mem_places2 [(3, 131), (3, 132), (3, 133), (3, 134), (3, 135), (3, 136), (3, 137), (3, 138), (3, 139), (3, 140), (3, 141), (3, 142), (3, 143), (3, 152), (3, 154), (0, 31), (3, 155), (1, 145), (1, 147), (3, 157), (4, 220), (4, 221), (4, 222), (4, 223)] rfl
set_option maxRecDepth 20000 in
theorem lin_wsL_law_r30 : ∀ w ∈ wsL_law_r30, w ∈ lw_tbl := mem_places2 [(4, 24), (4, 224), (4, 226), (0, 55), (4, 227), (4, 29), (4, 228), (4, 230), (0, 56), (4, 231), (4, 27), (4, 236), (4, 232), (4, 234), (0, 57), (4, 235), (4, 237), (4, 239), (0, 58), (5, 0), (5, 1), (5, 3), (0, 59), (5, 4)] rfl
set_option maxRecDepth 20000 in
theorem lin_wsL_law_r31 : ∀ w ∈ wsL_law_r31, w ∈ lw_tbl := mem_places2 [(5, 5), (5, 7), (0, 60), (5, 8), (5, 9), (3, 158), (3, 159), (3, 160), (3, 161), (3, 162), (3, 164), (0, 32), (3, 165), (5, 10), (5, 11), (5, 12), (5, 13), (5, 14), (5, 16), (0, 61), (5, 17), (3, 166), (3, 167), (3, 168)] rfl
set_option maxRecDepth 20000 in
theorem lin_wsL_law_r32 : ∀ w ∈ wsL_law_r32, w ∈ lw_tbl := mem_places2 [(3, 169), (3, 170), (3, 171), (5, 18), (5, 19), (5, 20), (5, 21), (3, 172), (3, 173), (3, 174), (3, 175), (3, 176), (3, 177), (3, 178), (3, 179), (3, 180), (3, 181), (1, 14), (3, 182), (3, 183), (3, 184), (3, 185), (3, 186), (3, 187)] rfl
set_option maxRecDepth 20000 in
theorem lin_wsL_law_r33 : ∀ w ∈ wsL_law_r33, w ∈ lw_tbl := mem_places2 [(3, 188), (1, 15), (3, 189), (3, 190), (3, 191), (3, 192), (3, 193), (3, 194), (3, 195), (3, 196), (5, 22), (5, 23), (5, 24), (5, 25), (5, 26), (5, 27), (5, 28), (3, 197), (3, 198), (3, 199), (3, 200), (3, 201), (3, 202), (3, 203)] rfl
set_option maxRecDepth 20000 in
theorem lin_wsL_law_r34 : ∀ w ∈ wsL_law_r34, w ∈ lw_tbl := mem_places2 [(3, 204), (3, 205), (3, 207), (0, 33), (3, 208), (3, 209), (3, 210), (3, 211), (5, 29), (5, 30), (5, 31), (5, 32), (5, 33), (5, 34), (5, 35), (3, 212), (3, 213), (3, 214), (3, 215), (3, 216), (3, 217), (3, 218), (3, 219), (3, 220)] rfl
set_option maxRecDepth 20000 in
theorem lin_wsL_law_r35 : ∀ w ∈ wsL_law_r35, w ∈ lw_tbl := mem_places2 [(5, 36), (5, 37), (5, 38), (5, 39), (3, 221), (3, 222), (3, 223), (3, 224), (3, 225), (3, 226), (3, 227), (3, 228), (5, 40), (5, 41), (5, 42), (5, 43), (3, 229), (3, 230), (3, 231), (3, 232), (3, 233), (3, 234), (3, 235), (3, 236)] rfl
set_option maxRecDepth 20000 in
theorem lin_wsL_law_r36 : ∀ w ∈ wsL_law_r36, w ∈ lw_tbl := mem_places2 [(5, 44), (5, 45), (5, 46), (5, 47), (4, 28), (3, 237), (3, 238), (3, 239), (4, 0), (5, 48), (5, 49), (5, 50), (5, 51), (5, 52), (5, 54), (0, 62), (5, 55), (4, 1), (4, 2), (4, 3), (4, 4), (4, 5), (4, 6), (4, 7)] rfl
set_option maxRecDepth 20000 in
theorem lin_wsL_law_r37 : ∀ w ∈ wsL_law_r37, w ∈ lw_tbl := mem_places2 [(5, 56), (5, 57), (5, 58), (5, 59), (5, 60), (5, 61)] rfl
set_option maxRecDepth 20000 in
theorem lin_wsX60 : ∀ w ∈ wsX60, w ∈ lw_tbl := mem_places2 [(1, 185), (1, 187), (1, 189), (1, 191), (1, 193), (1, 195), (1, 197), (1, 199), (1, 201)] rfl
set_option maxRecDepth 20000 in
theorem lin_wsX70 : ∀ w ∈ wsX70, w ∈ lw_tbl := mem_places2 [(4, 30), (4, 32), (4, 34), (4, 36), (4, 38), (4, 40), (4, 42), (4, 44), (4, 46), (4, 48), (4, 50), (4, 52), (4, 54), (4, 56), (4, 58), (4, 60)] rfl
set_option maxRecDepth 20000 in
theorem lin_wsX30 : ∀ w ∈ wsX30, w ∈ lw_tbl := mem_places2 [(1, 51), (1, 53), (1, 55), (1, 57)] rfl
set_option maxRecDepth 20000 in
theorem lin_wsX00 : ∀ w ∈ wsX00, w ∈ lw_tbl := mem_places2 [(1, 97), (1, 99), (1, 101), (1, 103), (1, 105), (1, 107), (1, 109), (1, 111), (1, 113), (1, 115), (1, 117)] rfl
set_option maxRecDepth 20000 in
theorem lin_wsX10 : ∀ w ∈ wsX10, w ∈ lw_tbl := mem_places2 [(1, 128)] rfl
set_option maxRecDepth 20000 in
theorem lin_wsX40 : ∀ w ∈ wsX40, w ∈ lw_tbl := mem_places2 [(1, 163), (1, 165), (1, 167), (1, 169), (1, 171), (1, 173)] rfl
set_option maxRecDepth 20000 in
theorem lin_wsX50 : ∀ w ∈ wsX50, w ∈ lw_tbl := mem_places2 [(1, 40), (1, 42)] rfl
set_option maxRecDepth 20000 in
theorem lin_wsX20 : ∀ w ∈ wsX20, w ∈ lw_tbl := mem_places2 [(1, 150), (1, 152), (1, 154)] rfl
theorem wsL_law_in : ∀ w ∈ wsL_law, w ∈ lw_tbl := (List.forall_mem_append.mpr ⟨(List.forall_mem_append.mpr ⟨(List.forall_mem_append.mpr ⟨(List.forall_mem_append.mpr ⟨(List.forall_mem_append.mpr ⟨(List.forall_mem_append.mpr ⟨(List.forall_mem_append.mpr ⟨(List.forall_mem_append.mpr ⟨(List.forall_mem_append.mpr ⟨(List.forall_mem_append.mpr ⟨lin_wsL_law_r1, (List.forall_mem_append.mpr ⟨lin_wsL_law_r2, (List.forall_mem_append.mpr ⟨lin_wsL_law_r3, (List.forall_mem_append.mpr ⟨lin_wsL_law_r4, (List.forall_mem_append.mpr ⟨lin_wsL_law_r5, (List.forall_mem_append.mpr ⟨lin_wsL_law_r6, (List.forall_mem_append.mpr ⟨lin_wsL_law_r7, (List.forall_mem_append.mpr ⟨lin_wsL_law_r8, (List.forall_mem_append.mpr ⟨lin_wsL_law_r9, (List.forall_mem_append.mpr ⟨lin_wsL_law_r10, (List.forall_mem_append.mpr ⟨lin_wsL_law_r11, (List.forall_mem_append.mpr ⟨lin_wsL_law_r12, (List.forall_mem_append.mpr ⟨lin_wsL_law_r13, (List.forall_mem_append.mpr ⟨lin_wsL_law_r14, (List.forall_mem_append.mpr ⟨lin_wsL_law_r15, (List.forall_mem_append.mpr ⟨lin_wsL_law_r16, (List.forall_mem_append.mpr ⟨lin_wsL_law_r17, (List.forall_mem_append.mpr ⟨lin_wsL_law_r18, (List.forall_mem_append.mpr ⟨lin_wsL_law_r19, (List.forall_mem_append.mpr ⟨lin_wsL_law_r20, (List.forall_mem_append.mpr ⟨lin_wsL_law_r21, (List.forall_mem_append.mpr ⟨lin_wsL_law_r22, (List.forall_mem_append.mpr ⟨lin_wsL_law_r23, (List.forall_mem_append.mpr ⟨lin_wsL_law_r24, (List.forall_mem_append.mpr ⟨lin_wsL_law_r25, (List.forall_mem_append.mpr ⟨lin_wsL_law_r26, (List.forall_mem_append.mpr ⟨lin_wsL_law_r27, (List.forall_mem_append.mpr ⟨lin_wsL_law_r28, (List.forall_mem_append.mpr ⟨lin_wsL_law_r29, (List.forall_mem_append.mpr ⟨lin_wsL_law_r30, (List.forall_mem_append.mpr ⟨lin_wsL_law_r31, (List.forall_mem_append.mpr ⟨lin_wsL_law_r32, (List.forall_mem_append.mpr ⟨lin_wsL_law_r33, (List.forall_mem_append.mpr ⟨lin_wsL_law_r34, (List.forall_mem_append.mpr ⟨lin_wsL_law_r35, (List.forall_mem_append.mpr ⟨lin_wsL_law_r36, lin_wsL_law_r37⟩)⟩)⟩)⟩)⟩)⟩)⟩)⟩)⟩)⟩)⟩)⟩)⟩)⟩)⟩)⟩)⟩)⟩)⟩)⟩)⟩)⟩)⟩)⟩)⟩)⟩)⟩)⟩)⟩)⟩)⟩)⟩)⟩)⟩)⟩)⟩), lin_wsX60⟩), lin_wsX70⟩), lin_wsX30⟩), lin_wsX00⟩), lin_wsX10⟩), lin_wsX40⟩), lin_wsX50⟩), lin_wsX20⟩), (fun _ h => absurd h List.not_mem_nil)⟩)
theorem inlX0 : ∀ w ∈ wsX00, w ∈ wsL_law := fun _ h => List.mem_append_left _ (List.mem_append_left _ (List.mem_append_left _ (List.mem_append_left _ (List.mem_append_left _ (List.mem_append_right _ h)))))
theorem inX0 : ∀ w ∈ wsX00, w ∈ lw_tbl := fun w h => wsL_law_in w (inlX0 w h)
theorem inlX1 : ∀ w ∈ wsX10, w ∈ wsL_law := fun _ h => List.mem_append_left _ (List.mem_append_left _ (List.mem_append_left _ (List.mem_append_left _ (List.mem_append_right _ h))))
theorem inX1 : ∀ w ∈ wsX10, w ∈ lw_tbl := fun w h => wsL_law_in w (inlX1 w h)
theorem inlX2 : ∀ w ∈ wsX20, w ∈ wsL_law := fun _ h => List.mem_append_left _ (List.mem_append_right _ h)
theorem inX2 : ∀ w ∈ wsX20, w ∈ lw_tbl := fun w h => wsL_law_in w (inlX2 w h)
theorem inlX3 : ∀ w ∈ wsX30, w ∈ wsL_law := fun _ h => List.mem_append_left _ (List.mem_append_left _ (List.mem_append_left _ (List.mem_append_left _ (List.mem_append_left _ (List.mem_append_left _ (List.mem_append_right _ h))))))
theorem inX3 : ∀ w ∈ wsX30, w ∈ lw_tbl := fun w h => wsL_law_in w (inlX3 w h)
theorem inlX4 : ∀ w ∈ wsX40, w ∈ wsL_law := fun _ h => List.mem_append_left _ (List.mem_append_left _ (List.mem_append_left _ (List.mem_append_right _ h)))
theorem inX4 : ∀ w ∈ wsX40, w ∈ lw_tbl := fun w h => wsL_law_in w (inlX4 w h)
theorem inlX5 : ∀ w ∈ wsX50, w ∈ wsL_law := fun _ h => List.mem_append_left _ (List.mem_append_left _ (List.mem_append_right _ h))
theorem inX5 : ∀ w ∈ wsX50, w ∈ lw_tbl := fun w h => wsL_law_in w (inlX5 w h)
theorem inlX6 : ∀ w ∈ wsX60, w ∈ wsL_law := fun _ h => List.mem_append_left _ (List.mem_append_left _ (List.mem_append_left _ (List.mem_append_left _ (List.mem_append_left _ (List.mem_append_left _ (List.mem_append_left _ (List.mem_append_left _ (List.mem_append_right _ h))))))))
theorem inX6 : ∀ w ∈ wsX60, w ∈ lw_tbl := fun w h => wsL_law_in w (inlX6 w h)
theorem inlX7 : ∀ w ∈ wsX70, w ∈ wsL_law := fun _ h => List.mem_append_left _ (List.mem_append_left _ (List.mem_append_left _ (List.mem_append_left _ (List.mem_append_left _ (List.mem_append_left _ (List.mem_append_left _ (List.mem_append_right _ h)))))))
theorem inX7 : ∀ w ∈ wsX70, w ∈ lw_tbl := fun w h => wsL_law_in w (inlX7 w h)
theorem inJ6 : ∀ w ∈ wsJ60, w ∈ lw_tbl := by decide +kernel
theorem inJ9 : ∀ w ∈ wsJ90, w ∈ lw_tbl := by decide +kernel
theorem inJ0 : ∀ w ∈ wsJ00, w ∈ lw_tbl := by decide +kernel
theorem inJ1 : ∀ w ∈ wsJ10, w ∈ lw_tbl := by decide +kernel
theorem inJ2 : ∀ w ∈ wsJ20, w ∈ lw_tbl := by decide +kernel
theorem inJ10 : ∀ w ∈ wsJ100, w ∈ lw_tbl := by decide +kernel
theorem inJ3 : ∀ w ∈ wsJ30, w ∈ lw_tbl := by decide +kernel
abbrev vwCl : List vw_C := [(RX0, TX0, 11), (RX1, TX1, 1), (RX2, TX2, 3), (RX3, TX3, 4), (RX4, TX4, 6), (RX5, TX5, 2), (RX6, TX6, 9), (RX7, TX7, 16)]
