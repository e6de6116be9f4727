theorem mem_pos {big ws : List Cond} (ps : List Nat) (hp : ws = ps.filterMap (fun i => big[i]?)) : ∀ w ∈ ws, w ∈ big := by
  intro w hw
  rw [hp] at hw
  obtain ⟨i, -, hi⟩ := List.mem_filterMap.mp hw
  exact List.mem_of_getElem? hi
def lw_ck : Nat → List Cond
  | 0 => k2_sels lw_privs
  | 1 => tables_1_1
  | 2 => tables_1_2
  | 3 => tables_1_3
  | 4 => tables_1_4
  | _ => tables_1_5
theorem lw_ck_in (k : Nat) : ∀ w ∈ lw_ck k, w ∈ lw_tbl := by
  match k with
  | 0 => exact fun w h => List.mem_append_left _ h
  | 1 => exact fun w h => List.mem_append_right _ (List.mem_append_left _ h)
  | 2 => exact fun w h => List.mem_append_right _ (List.mem_append_right _ (List.mem_append_left _ h))
  | 3 => exact fun w h => List.mem_append_right _ (List.mem_append_right _ (List.mem_append_right _ (List.mem_append_left _ h)))
  | 4 => exact fun w h => List.mem_append_right _ (List.mem_append_right _ (List.mem_append_right _ (List.mem_append_right _ (List.mem_append_left _ h))))
  | _ + 5 => exact fun w h => List.mem_append_right _ (List.mem_append_right _ (List.mem_append_right _ (List.mem_append_right _ (List.mem_append_right _ (h)))))
theorem mem_pos2 {ws : List Cond} (ps : List (Nat × Nat)) (hp : ws = ps.filterMap (fun q => (lw_ck q.1)[q.2]?)) : ∀ w ∈ ws, w ∈ lw_tbl := by
  intro w hw
  rw [hp] at hw
  obtain ⟨i, -, hi⟩ := List.mem_filterMap.mp hw
  exact lw_ck_in _ w (List.mem_of_getElem? hi)
set_option maxRecDepth 20000 in
theorem in_wsL_law_r1 : ∀ w ∈ wsL_law_r1, w ∈ lw_tbl := mem_pos2 [(1, 16), (1, 17), (1, 1), (3, 214), (3, 215), (1, 6), (1, 18), (1, 19), (1, 20), (1, 21), (1, 22), (1, 23), (1, 24), (1, 115), (1, 26), (1, 116), (1, 28), (1, 29), (1, 2), (1, 117), (1, 53), (1, 54), (1, 3), (1, 118)] rfl
set_option maxRecDepth 20000 in
theorem in_wsL_law_r2 : ∀ w ∈ wsL_law_r2, w ∈ lw_tbl := mem_pos2 [(1, 67), (1, 68), (1, 4), (1, 119), (1, 97), (1, 5), (1, 31), (1, 32), (1, 33), (1, 52), (1, 34), (1, 36), (1, 38), (1, 40), (1, 56), (1, 57), (1, 58), (1, 70), (1, 71), (1, 72), (1, 73), (1, 74), (1, 75), (1, 99)] rfl
set_option maxRecDepth 20000 in
theorem in_wsL_law_r3 : ∀ w ∈ wsL_law_r3, w ∈ lw_tbl := mem_pos2 [(1, 100), (1, 101), (1, 102), (3, 216), (3, 217), (3, 218), (3, 219), (3, 222), (4, 71), (3, 226), (3, 227), (3, 228), (4, 72), (3, 229), (3, 230), (3, 231), (3, 234), (3, 235), (3, 236), (3, 237), (3, 238), (4, 4), (4, 5), (4, 6)] rfl
set_option maxRecDepth 20000 in
theorem in_wsL_law_r4 : ∀ w ∈ wsL_law_r4, w ∈ lw_tbl := mem_pos2 [(4, 7), (4, 8), (4, 9), (1, 149), (1, 150), (1, 151), (1, 152), (1, 153), (1, 121), (1, 158), (1, 159), (1, 154), (1, 156), (0, 0), (1, 157), (1, 125), (1, 160), (1, 162), (0, 1), (1, 163), (1, 122), (2, 50), (1, 164), (2, 38)] rfl
set_option maxRecDepth 20000 in
theorem in_wsL_law_r5 : ∀ w ∈ wsL_law_r5, w ∈ lw_tbl := mem_pos2 [(2, 42), (1, 175), (1, 123), (1, 165), (1, 166), (1, 7), (1, 167), (1, 168), (1, 174), (1, 169), (1, 170), (1, 171), (1, 172), (1, 173), (1, 176), (1, 178), (0, 2), (1, 179), (1, 124), (1, 180), (1, 8), (1, 181), (1, 182), (1, 183)] rfl
set_option maxRecDepth 20000 in
theorem in_wsL_law_r6 : ∀ w ∈ wsL_law_r6, w ∈ lw_tbl := mem_pos2 [(1, 184), (1, 185), (1, 187), (1, 189), (1, 198), (1, 199), (1, 9), (1, 200), (1, 201), (1, 202), (1, 203), (4, 82), (4, 83), (4, 84), (4, 85), (4, 89), (3, 220), (4, 90), (4, 91), (4, 86), (4, 87), (4, 88), (4, 78), (4, 80)] rfl
set_option maxRecDepth 20000 in
theorem in_wsL_law_r7 : ∀ w ∈ wsL_law_r7, w ∈ lw_tbl := mem_pos2 [(0, 23), (4, 81), (3, 233), (4, 92), (4, 94), (0, 24), (4, 95), (3, 221), (4, 108), (4, 125), (4, 96), (4, 98), (0, 25), (4, 99), (4, 100), (4, 102), (0, 26), (4, 103), (4, 104), (4, 105), (4, 106), (4, 107), (4, 109), (4, 111)] rfl
set_option maxRecDepth 20000 in
theorem in_wsL_law_r8 : ∀ w ∈ wsL_law_r8, w ∈ lw_tbl := mem_pos2 [(0, 27), (4, 112), (4, 113), (4, 114), (4, 115), (4, 116), (4, 117), (4, 118), (4, 119), (4, 120), (4, 121), (4, 122), (4, 123), (4, 124), (4, 126), (4, 128), (0, 28), (4, 129), (3, 232), (3, 223), (3, 224), (3, 225), (4, 130), (4, 131)] rfl
set_option maxRecDepth 20000 in
theorem in_wsL_law_r9 : ∀ w ∈ wsL_law_r9, w ∈ lw_tbl := mem_pos2 [(4, 132), (1, 204), (1, 205), (1, 206), (1, 207), (1, 208), (1, 209), (1, 210), (1, 211), (1, 212), (1, 213), (1, 214), (1, 215), (1, 216), (4, 133), (4, 134), (4, 135), (4, 136), (4, 137), (4, 138), (4, 139), (1, 217), (1, 218), (1, 219)] rfl
set_option maxRecDepth 20000 in
theorem in_wsL_law_r10 : ∀ w ∈ wsL_law_r10, w ∈ lw_tbl := mem_pos2 [(1, 220), (1, 221), (1, 222), (1, 223), (1, 224), (1, 225), (1, 226), (1, 227), (1, 228), (1, 229), (1, 231), (0, 3), (1, 232), (1, 233), (1, 235), (0, 4), (1, 236), (1, 237), (1, 238), (1, 239), (1, 10), (2, 0), (2, 41), (2, 2)] rfl
set_option maxRecDepth 20000 in
theorem in_wsL_law_r11 : ∀ w ∈ wsL_law_r11, w ∈ lw_tbl := mem_pos2 [(2, 3), (2, 4), (2, 5), (2, 6), (2, 7), (4, 140), (4, 141), (4, 142), (4, 143), (4, 144), (4, 145), (4, 146), (4, 147), (4, 149), (0, 29), (4, 150), (4, 151), (4, 152), (4, 153), (4, 154), (4, 156), (0, 30), (4, 157), (4, 158)] rfl
set_option maxRecDepth 20000 in
theorem in_wsL_law_r12 : ∀ w ∈ wsL_law_r12, w ∈ lw_tbl := mem_pos2 [(4, 160), (0, 31), (4, 161), (4, 162), (4, 164), (0, 32), (4, 165), (4, 166), (4, 168), (0, 33), (4, 169), (2, 8), (2, 9), (2, 10), (2, 11), (2, 25), (2, 30), (2, 31), (2, 66), (2, 12), (2, 13), (2, 14), (2, 15), (2, 16)] rfl
set_option maxRecDepth 20000 in
theorem in_wsL_law_r13 : ∀ w ∈ wsL_law_r13, w ∈ lw_tbl := mem_pos2 [(2, 17), (2, 18), (2, 20), (0, 5), (2, 21), (2, 22), (2, 23), (2, 24), (2, 26), (2, 28), (0, 6), (2, 29), (2, 40), (2, 32), (2, 33), (2, 34), (2, 35), (2, 37), (2, 39), (2, 43), (2, 45), (2, 47), (2, 49), (2, 36)] rfl
set_option maxRecDepth 20000 in
theorem in_wsL_law_r14 : ∀ w ∈ wsL_law_r14, w ∈ lw_tbl := mem_pos2 [(4, 170), (4, 171), (4, 172), (4, 173), (4, 174), (4, 175), (2, 67), (2, 68), (2, 69), (2, 70), (2, 71), (4, 176), (4, 177), (4, 178), (4, 179), (4, 77), (2, 72), (2, 73), (2, 74), (2, 75), (2, 76), (2, 78), (0, 7), (2, 79)] rfl
set_option maxRecDepth 20000 in
theorem in_wsL_law_r15 : ∀ w ∈ wsL_law_r15, w ∈ lw_tbl := mem_pos2 [(2, 80), (4, 180), (4, 181), (4, 182), (4, 183), (4, 184), (4, 186), (0, 34), (4, 187), (2, 81), (2, 82), (2, 83), (2, 84), (2, 44), (2, 46), (2, 48), (2, 85), (2, 86), (2, 87), (1, 12), (2, 88), (2, 192), (2, 189), (2, 89)] rfl
set_option maxRecDepth 20000 in
theorem in_wsL_law_r16 : ∀ w ∈ wsL_law_r16, w ∈ lw_tbl := mem_pos2 [(4, 188), (4, 189), (4, 190), (4, 191), (2, 90), (2, 91), (2, 92), (2, 93), (2, 94), (2, 96), (0, 8), (2, 97), (1, 120), (2, 98), (2, 99), (1, 11), (2, 101), (2, 102), (2, 103), (2, 104), (2, 105), (2, 117), (2, 118), (2, 119)] rfl
set_option maxRecDepth 20000 in
theorem in_wsL_law_r17 : ∀ w ∈ wsL_law_r17, w ∈ lw_tbl := mem_pos2 [(2, 120), (2, 107), (2, 106), (2, 121), (2, 122), (2, 123), (2, 124), (2, 125), (2, 126), (2, 127), (2, 128), (2, 129), (2, 130), (2, 131), (2, 132), (2, 133), (2, 134), (4, 192), (4, 193), (4, 194), (4, 195), (4, 196), (4, 198), (0, 35)] rfl
set_option maxRecDepth 20000 in
theorem in_wsL_law_r18 : ∀ w ∈ wsL_law_r18, w ∈ lw_tbl := mem_pos2 [(4, 199), (4, 200), (4, 202), (0, 36), (4, 203), (3, 239), (4, 0), (4, 1), (4, 204), (4, 206), (0, 37), (4, 207), (4, 208), (4, 210), (0, 38), (4, 211), (4, 212), (4, 214), (0, 39), (4, 215), (4, 216), (4, 218), (0, 40), (4, 219)] rfl
set_option maxRecDepth 20000 in
theorem in_wsL_law_r19 : ∀ w ∈ wsL_law_r19, w ∈ lw_tbl := mem_pos2 [(2, 135), (2, 136), (2, 137), (2, 138), (2, 139), (2, 141), (0, 9), (2, 142), (2, 143), (2, 145), (0, 10), (2, 146), (2, 147), (2, 148), (2, 149), (2, 150), (2, 151), (4, 220), (4, 221), (4, 222), (4, 223), (2, 152), (2, 153), (2, 154)] rfl
set_option maxRecDepth 20000 in
theorem in_wsL_law_r20 : ∀ w ∈ wsL_law_r20, w ∈ lw_tbl := mem_pos2 [(2, 155), (2, 156), (2, 158), (0, 11), (2, 159), (2, 160), (2, 162), (0, 12), (2, 163), (2, 181), (2, 182), (2, 164), (2, 165), (2, 166), (2, 167), (2, 168), (2, 170), (0, 13), (2, 171), (2, 172), (2, 174), (0, 14), (2, 175), (2, 176)] rfl
set_option maxRecDepth 20000 in
theorem in_wsL_law_r21 : ∀ w ∈ wsL_law_r21, w ∈ lw_tbl := mem_pos2 [(2, 177), (2, 178), (2, 179), (2, 180), (2, 183), (2, 184), (2, 185), (2, 186), (2, 187), (4, 224), (4, 225), (4, 226), (4, 227), (4, 228), (4, 230), (0, 41), (4, 231), (4, 2), (4, 3), (4, 232), (4, 234), (0, 42), (4, 235), (2, 202)] rfl
set_option maxRecDepth 20000 in
theorem in_wsL_law_r22 : ∀ w ∈ wsL_law_r22, w ∈ lw_tbl := mem_pos2 [(2, 203), (2, 204), (2, 205), (2, 188), (4, 236), (4, 237), (4, 238), (4, 239), (5, 0), (5, 2), (0, 43), (5, 3), (5, 4), (5, 6), (0, 44), (5, 7), (2, 206), (2, 207), (2, 208), (2, 209), (5, 8), (5, 9), (5, 10), (5, 11)] rfl
set_option maxRecDepth 20000 in
theorem in_wsL_law_r23 : ∀ w ∈ wsL_law_r23, w ∈ lw_tbl := mem_pos2 [(2, 210), (2, 211), (2, 212), (2, 213), (2, 214), (2, 215), (2, 216), (2, 217), (2, 218), (5, 12), (5, 13), (5, 14), (5, 15), (5, 16), (2, 219), (2, 220), (2, 221), (2, 222), (2, 223), (2, 224), (2, 225), (2, 226), (5, 17), (5, 18)] rfl
set_option maxRecDepth 20000 in
theorem in_wsL_law_r24 : ∀ w ∈ wsL_law_r24, w ∈ lw_tbl := mem_pos2 [(5, 19), (5, 20), (2, 227), (2, 228), (2, 229), (2, 230), (2, 231), (2, 232), (2, 233), (2, 234), (2, 190), (2, 235), (1, 59), (2, 193), (1, 60), (2, 236), (2, 237), (2, 238), (2, 239), (3, 0), (3, 1), (3, 2), (3, 3), (3, 4)] rfl
set_option maxRecDepth 20000 in
theorem in_wsL_law_r25 : ∀ w ∈ wsL_law_r25, w ∈ lw_tbl := mem_pos2 [(3, 5), (3, 6), (5, 21), (5, 22), (5, 23), (5, 24), (5, 25), (5, 27), (0, 45), (5, 28), (3, 7), (3, 8), (3, 9), (3, 10), (1, 61), (3, 11), (3, 12), (3, 13), (3, 14), (3, 15), (3, 16), (3, 17), (3, 18), (3, 19)] rfl
set_option maxRecDepth 20000 in
theorem in_wsL_law_r26 : ∀ w ∈ wsL_law_r26, w ∈ lw_tbl := mem_pos2 [(3, 20), (5, 29), (5, 30), (5, 31), (5, 32), (5, 33), (5, 34), (5, 35), (5, 36), (5, 37), (5, 38), (3, 21), (3, 22), (3, 23), (3, 24), (1, 35), (3, 25), (3, 26), (3, 27), (3, 28), (3, 29), (3, 30), (3, 31), (3, 32)] rfl
set_option maxRecDepth 20000 in
theorem in_wsL_law_r27 : ∀ w ∈ wsL_law_r27, w ∈ lw_tbl := mem_pos2 [(3, 33), (3, 34), (1, 39), (3, 35), (3, 36), (1, 13), (3, 37), (3, 38), (3, 39), (3, 40), (3, 41), (3, 42), (3, 43), (3, 44), (3, 45), (3, 47), (0, 15), (3, 48), (3, 49), (3, 50), (3, 51), (2, 194), (3, 52), (3, 53)] rfl
set_option maxRecDepth 20000 in
theorem in_wsL_law_r28 : ∀ w ∈ wsL_law_r28, w ∈ lw_tbl := mem_pos2 [(3, 54), (3, 55), (3, 56), (3, 57), (2, 191), (3, 58), (5, 39), (5, 40), (5, 41), (5, 42), (5, 43), (5, 45), (0, 46), (5, 46), (5, 47), (5, 49), (0, 47), (5, 50), (5, 51), (5, 52), (5, 54), (0, 48), (5, 55), (5, 56)] rfl
set_option maxRecDepth 20000 in
theorem in_wsL_law_r29 : ∀ w ∈ wsL_law_r29, w ∈ lw_tbl := mem_pos2 [(5, 57), (5, 58), (5, 59), (5, 61), (0, 49), (5, 62), (3, 59), (3, 60), (3, 61), (3, 62), (3, 63), (3, 64), (3, 65), (3, 66), (3, 67), (3, 68), (3, 69), (3, 70), (3, 71), (3, 72), (3, 73), (5, 63), (5, 64), (5, 65)] rfl
set_option maxRecDepth 20000 in
theorem in_wsL_law_r30 : ∀ w ∈ wsL_law_r30, w ∈ lw_tbl := mem_pos2 [(5, 66), (5, 67), (5, 68), (5, 69), (3, 74), (3, 75), (3, 76), (3, 77), (3, 78), (3, 80), (0, 16), (3, 81), (1, 37), (3, 82), (3, 83), (3, 84), (3, 85), (3, 86), (3, 87), (1, 14), (3, 88), (5, 70), (5, 71), (5, 72)] rfl
set_option maxRecDepth 20000 in
theorem in_wsL_law_r31 : ∀ w ∈ wsL_law_r31, w ∈ lw_tbl := mem_pos2 [(5, 73), (5, 74), (5, 76), (0, 50), (5, 77), (5, 78), (5, 80), (0, 51), (5, 81), (5, 82), (3, 89), (3, 90), (3, 91), (3, 92), (3, 93), (3, 94), (3, 95), (3, 96), (3, 97), (3, 98), (3, 99), (3, 100), (3, 101), (3, 102)] rfl
set_option maxRecDepth 20000 in
theorem in_wsL_law_r32 : ∀ w ∈ wsL_law_r32, w ∈ lw_tbl := mem_pos2 [(3, 103), (5, 83), (5, 84), (5, 85), (5, 86), (5, 87), (5, 89), (0, 52), (5, 90), (5, 91), (5, 92), (5, 93), (3, 104), (3, 105), (3, 106), (3, 107), (3, 108), (3, 109), (3, 110), (3, 111), (3, 112), (3, 113), (3, 114), (3, 115)] rfl
set_option maxRecDepth 20000 in
theorem in_wsL_law_r33 : ∀ w ∈ wsL_law_r33, w ∈ lw_tbl := mem_pos2 [(3, 116), (3, 117), (3, 118), (3, 119), (3, 120), (3, 121), (5, 94), (5, 95), (5, 96), (5, 97), (5, 98), (5, 99), (3, 122), (3, 123), (3, 124), (3, 125), (1, 79), (3, 126), (3, 127), (3, 128), (3, 129), (3, 130), (3, 131), (3, 133)] rfl
set_option maxRecDepth 20000 in
theorem in_wsL_law_r34 : ∀ w ∈ wsL_law_r34, w ∈ lw_tbl := mem_pos2 [(0, 17), (3, 134), (3, 135), (1, 77), (1, 76), (3, 146), (3, 147), (3, 148), (3, 136), (3, 138), (0, 18), (3, 139), (1, 80), (1, 78), (3, 140), (3, 141), (3, 143), (0, 19), (3, 144), (3, 145), (3, 149), (3, 151), (0, 20), (3, 152)] rfl
set_option maxRecDepth 20000 in
theorem in_wsL_law_r35 : ∀ w ∈ wsL_law_r35, w ∈ lw_tbl := mem_pos2 [(5, 100), (5, 101), (5, 102), (5, 103), (5, 104), (5, 106), (0, 53), (5, 107), (5, 108), (5, 110), (0, 54), (5, 111), (5, 112), (5, 114), (0, 55), (5, 115), (5, 116), (5, 117), (5, 118), (3, 153), (3, 154), (3, 155), (3, 156), (1, 81)] rfl
set_option maxRecDepth 20000 in
theorem in_wsL_law_r36 : ∀ w ∈ wsL_law_r36, w ∈ lw_tbl := mem_pos2 [(5, 119), (5, 120), (5, 121), (5, 122), (3, 157), (3, 158), (3, 159), (3, 160), (1, 107), (3, 161), (3, 163), (0, 21), (3, 164), (3, 165), (3, 166), (3, 167), (3, 168), (1, 104), (1, 106), (3, 169), (5, 123), (5, 124), (5, 125), (5, 126)] rfl
set_option maxRecDepth 20000 in
theorem in_wsL_law_r37 : ∀ w ∈ wsL_law_r37, w ∈ lw_tbl := mem_pos2 [(5, 127), (5, 128), (5, 129), (3, 170), (3, 171), (3, 172), (3, 173), (3, 178), (3, 174), (3, 175), (3, 176), (3, 177), (3, 179), (3, 180), (3, 181), (3, 182), (3, 183), (3, 184), (3, 185), (3, 186), (5, 130), (5, 131), (5, 132), (5, 133)] rfl
set_option maxRecDepth 20000 in
theorem in_wsL_law_r38 : ∀ w ∈ wsL_law_r38, w ∈ lw_tbl := mem_pos2 [(5, 134), (3, 187), (3, 188), (3, 189), (3, 190), (1, 105), (1, 103), (3, 191), (3, 193), (3, 192), (1, 15), (5, 135), (5, 136), (5, 137), (5, 138), (3, 194), (3, 195), (3, 196), (3, 197), (3, 198), (3, 199), (3, 200), (3, 201), (5, 139)] rfl
set_option maxRecDepth 20000 in
theorem in_wsL_law_r39 : ∀ w ∈ wsL_law_r39, w ∈ lw_tbl := mem_pos2 [(5, 140), (5, 141), (5, 142), (3, 202), (3, 203), (3, 204), (3, 205), (1, 186), (1, 188), (1, 190), (4, 73), (4, 74), (4, 75), (4, 76), (3, 206), (3, 207), (3, 208), (3, 209), (3, 210), (3, 212), (0, 22), (3, 213), (5, 143), (5, 144)] rfl
set_option maxRecDepth 20000 in
theorem in_wsL_law_r40 : ∀ w ∈ wsL_law_r40, w ∈ lw_tbl := mem_pos2 [(5, 145), (5, 146)] rfl
set_option maxRecDepth 20000 in
theorem inX0 : ∀ w ∈ u_ws RX0 TX0 7, w ∈ lw_tbl := by decide +kernel
set_option maxRecDepth 20000 in
theorem inX1 : ∀ w ∈ u_ws RX1 TX1 0, w ∈ lw_tbl := by decide +kernel
set_option maxRecDepth 20000 in
theorem inX2 : ∀ w ∈ u_ws RX2 TX2 5, w ∈ lw_tbl := by decide +kernel
set_option maxRecDepth 20000 in
theorem inX3 : ∀ w ∈ u_ws RX3 TX3 3, w ∈ lw_tbl := by decide +kernel
set_option maxRecDepth 20000 in
theorem inX4 : ∀ w ∈ u_ws RX4 TX4 4, w ∈ lw_tbl := by decide +kernel
set_option maxRecDepth 20000 in
theorem inX5 : ∀ w ∈ u_ws RX5 TX5 3, w ∈ lw_tbl := by decide +kernel
set_option maxRecDepth 20000 in
theorem inX6 : ∀ w ∈ u_ws RX6 TX6 3, w ∈ lw_tbl := by decide +kernel
set_option maxRecDepth 20000 in
theorem inX7 : ∀ w ∈ u_ws RX7 TX7 7, w ∈ lw_tbl := by decide +kernel
set_option maxRecDepth 20000 in
theorem inX8 : ∀ w ∈ u_ws RX8 TX8 2, w ∈ lw_tbl := by decide +kernel
set_option maxRecDepth 20000 in
theorem inX9 : ∀ w ∈ u_ws RX9 TX9 11, w ∈ lw_tbl := by decide +kernel
set_option maxRecDepth 20000 in
theorem inX10 : ∀ w ∈ u_ws RX10 TX10 30, w ∈ lw_tbl := by decide +kernel
set_option maxRecDepth 20000 in
theorem wsL_law_in : ∀ w ∈ wsL_law, w ∈ lw_tbl := by
  unfold wsL_law
  exact List.forall_mem_append.mpr ⟨List.forall_mem_append.mpr ⟨List.forall_mem_append.mpr ⟨List.forall_mem_append.mpr ⟨List.forall_mem_append.mpr ⟨List.forall_mem_append.mpr ⟨List.forall_mem_append.mpr ⟨List.forall_mem_append.mpr ⟨List.forall_mem_append.mpr ⟨List.forall_mem_append.mpr ⟨List.forall_mem_append.mpr ⟨List.forall_mem_append.mpr ⟨in_wsL_law_r1, List.forall_mem_append.mpr ⟨in_wsL_law_r2, List.forall_mem_append.mpr ⟨in_wsL_law_r3, List.forall_mem_append.mpr ⟨in_wsL_law_r4, List.forall_mem_append.mpr ⟨in_wsL_law_r5, List.forall_mem_append.mpr ⟨in_wsL_law_r6, List.forall_mem_append.mpr ⟨in_wsL_law_r7, List.forall_mem_append.mpr ⟨in_wsL_law_r8, List.forall_mem_append.mpr ⟨in_wsL_law_r9, List.forall_mem_append.mpr ⟨in_wsL_law_r10, List.forall_mem_append.mpr ⟨in_wsL_law_r11, List.forall_mem_append.mpr ⟨in_wsL_law_r12, List.forall_mem_append.mpr ⟨in_wsL_law_r13, List.forall_mem_append.mpr ⟨in_wsL_law_r14, List.forall_mem_append.mpr ⟨in_wsL_law_r15, List.forall_mem_append.mpr ⟨in_wsL_law_r16, List.forall_mem_append.mpr ⟨in_wsL_law_r17, List.forall_mem_append.mpr ⟨in_wsL_law_r18, List.forall_mem_append.mpr ⟨in_wsL_law_r19, List.forall_mem_append.mpr ⟨in_wsL_law_r20, List.forall_mem_append.mpr ⟨in_wsL_law_r21, List.forall_mem_append.mpr ⟨in_wsL_law_r22, List.forall_mem_append.mpr ⟨in_wsL_law_r23, List.forall_mem_append.mpr ⟨in_wsL_law_r24, List.forall_mem_append.mpr ⟨in_wsL_law_r25, List.forall_mem_append.mpr ⟨in_wsL_law_r26, List.forall_mem_append.mpr ⟨in_wsL_law_r27, List.forall_mem_append.mpr ⟨in_wsL_law_r28, List.forall_mem_append.mpr ⟨in_wsL_law_r29, List.forall_mem_append.mpr ⟨in_wsL_law_r30, List.forall_mem_append.mpr ⟨in_wsL_law_r31, List.forall_mem_append.mpr ⟨in_wsL_law_r32, List.forall_mem_append.mpr ⟨in_wsL_law_r33, List.forall_mem_append.mpr ⟨in_wsL_law_r34, List.forall_mem_append.mpr ⟨in_wsL_law_r35, List.forall_mem_append.mpr ⟨in_wsL_law_r36, List.forall_mem_append.mpr ⟨in_wsL_law_r37, List.forall_mem_append.mpr ⟨in_wsL_law_r38, List.forall_mem_append.mpr ⟨in_wsL_law_r39, in_wsL_law_r40⟩⟩⟩⟩⟩⟩⟩⟩⟩⟩⟩⟩⟩⟩⟩⟩⟩⟩⟩⟩⟩⟩⟩⟩⟩⟩⟩⟩⟩⟩⟩⟩⟩⟩⟩⟩⟩⟩⟩, inX9⟩, inX10⟩, inX2⟩, inX8⟩, inX0⟩, inX6⟩, inX7⟩, inX5⟩, inX3⟩, inX4⟩, fun _ h => absurd h List.not_mem_nil⟩
