/-! the law's words are in the tables -/
def lwCh : List (List Cond) := [k2_sels lw_privs, tables_1_1, tables_1_2, tables_1_3, tables_1_4, tables_1_5, tables_1_6]
theorem lwIn_0 : ∀ w ∈ k2_sels lw_privs, w ∈ lw_tbl := fun _ h => List.mem_append_left _ h
theorem lwIn_1 : ∀ w ∈ tables_1_1, w ∈ lw_tbl := fun _ h => List.mem_append_right _ (List.mem_append_left _ h)
theorem lwIn_2 : ∀ w ∈ tables_1_2, w ∈ lw_tbl := fun _ h => List.mem_append_right _ (List.mem_append_right _ (List.mem_append_left _ h))
theorem lwIn_3 : ∀ w ∈ tables_1_3, w ∈ lw_tbl := fun _ h => List.mem_append_right _ (List.mem_append_right _ (List.mem_append_right _ (List.mem_append_left _ h)))
theorem lwIn_4 : ∀ w ∈ tables_1_4, w ∈ lw_tbl := fun _ h => List.mem_append_right _ (List.mem_append_right _ (List.mem_append_right _ (List.mem_append_right _ (List.mem_append_left _ h))))
theorem lwIn_5 : ∀ w ∈ tables_1_5, w ∈ lw_tbl := fun _ h => List.mem_append_right _ (List.mem_append_right _ (List.mem_append_right _ (List.mem_append_right _ (List.mem_append_right _ (List.mem_append_left _ h)))))
theorem lwIn_6 : ∀ w ∈ tables_1_6, w ∈ lw_tbl := fun _ h => List.mem_append_right _ (List.mem_append_right _ (List.mem_append_right _ (List.mem_append_right _ (List.mem_append_right _ (List.mem_append_right _ (h))))))
theorem lwCh_in : ∀ c ∈ lwCh, ∀ w ∈ c, w ∈ lw_tbl := List.forall_mem_cons.mpr ⟨lwIn_0, List.forall_mem_cons.mpr ⟨lwIn_1, List.forall_mem_cons.mpr ⟨lwIn_2, List.forall_mem_cons.mpr ⟨lwIn_3, List.forall_mem_cons.mpr ⟨lwIn_4, List.forall_mem_cons.mpr ⟨lwIn_5, List.forall_mem_cons.mpr ⟨lwIn_6, fun _ h => absurd h List.not_mem_nil⟩⟩⟩⟩⟩⟩⟩
set_option maxRecDepth 20000 in
theorem lawT_1 : ∀ w ∈ wsL_law_r1, w ∈ lw_tbl := in_2 lwCh_in _ [(1, 17), (1, 20)] [(1, 13), (1, 14), (1, 1), (3, 221), (3, 222), (1, 5), (1, 15), (1, 16), (1, 18), (1, 19), (1, 21), (1, 22), (1, 2), (1, 130), (1, 131), (1, 132), (1, 133), (1, 84), (1, 85), (1, 3), (1, 134), (1, 110)] rfl (by decide +kernel)
set_option maxRecDepth 20000 in
theorem lawT_2 : ∀ w ∈ wsL_law_r2, w ∈ lw_tbl := in_2 lwCh_in _ [(1, 25)] [(1, 135), (1, 83), (1, 136), (1, 137), (1, 138), (1, 112), (1, 4), (1, 23), (1, 24), (1, 26), (1, 27), (1, 30), (1, 32), (1, 35), (1, 38), (1, 41), (1, 44), (1, 46), (1, 49), (1, 51), (1, 53), (1, 54), (1, 55)] rfl (by decide +kernel)
set_option maxRecDepth 20000 in
theorem lawT_3 : ∀ w ∈ wsL_law_r3, w ∈ lw_tbl := in_2 lwCh_in _ [(1, 88), (1, 115), (3, 225)] [(1, 87), (1, 89), (1, 90), (1, 92), (1, 93), (1, 94), (1, 95), (1, 96), (1, 114), (1, 116), (1, 117), (1, 119), (1, 121), (3, 223), (3, 224), (3, 226), (3, 236), (3, 237), (3, 238), (4, 0), (4, 1)] rfl (by decide +kernel)
set_option maxRecDepth 20000 in
theorem lawT_4 : ∀ w ∈ wsL_law_r4, w ∈ lw_tbl := in_2 lwCh_in _ [(1, 161), (1, 165), (1, 169)] [(4, 2), (4, 3), (4, 4), (4, 5), (3, 227), (4, 12), (4, 13), (4, 16), (4, 17), (4, 18), (4, 19), (1, 158), (1, 159), (1, 160), (1, 28), (1, 162), (1, 164), (0, 0), (1, 166), (1, 168), (0, 1)] rfl (by decide +kernel)
set_option maxRecDepth 20000 in
theorem lawT_5 : ∀ w ∈ wsL_law_r5, w ∈ lw_tbl := in_2 lwCh_in _ [(4, 72), (4, 75), (4, 78), (4, 81), (4, 85), (4, 90)] [(1, 170), (4, 69), (4, 70), (4, 71), (4, 86), (4, 73), (4, 74), (4, 76), (4, 77), (4, 79), (4, 80), (4, 82), (4, 84), (0, 30), (4, 87), (4, 89), (0, 31), (1, 171)] rfl (by decide +kernel)
set_option maxRecDepth 20000 in
theorem lawT_6 : ∀ w ∈ wsL_law_r6, w ∈ lw_tbl := in_2 lwCh_in _ [(1, 174), (1, 178), (1, 182), (1, 186), (1, 190), (1, 194)] [(1, 172), (1, 173), (1, 175), (1, 176), (1, 177), (1, 179), (1, 180), (1, 181), (1, 183), (1, 184), (1, 185), (1, 187), (1, 189), (0, 2), (1, 191), (1, 192), (1, 193), (1, 197)] rfl (by decide +kernel)
set_option maxRecDepth 20000 in
theorem lawT_7 : ∀ w ∈ wsL_law_r7, w ∈ lw_tbl := in_2 lwCh_in _ [(1, 200), (1, 204), (1, 208), (1, 212), (1, 217), (1, 227)] [(1, 199), (0, 3), (1, 201), (1, 203), (0, 4), (1, 205), (1, 207), (0, 5), (1, 209), (1, 210), (1, 211), (1, 213), (1, 214), (1, 215), (1, 216), (1, 225), (1, 226), (1, 6)] rfl (by decide +kernel)
set_option maxRecDepth 20000 in
theorem lawT_8 : ∀ w ∈ wsL_law_r8, w ∈ lw_tbl := in_2 lwCh_in _ [(1, 221), (1, 224), (4, 94), (4, 98), (4, 102), (4, 106)] [(1, 218), (1, 219), (1, 220), (1, 222), (1, 223), (4, 91), (4, 92), (4, 93), (4, 95), (4, 97), (0, 32), (4, 99), (4, 101), (0, 33), (4, 103), (4, 105), (0, 34), (4, 107)] rfl (by decide +kernel)
set_option maxRecDepth 20000 in
theorem lawT_9 : ∀ w ∈ wsL_law_r9, w ∈ lw_tbl := in_2 lwCh_in _ [(4, 109), (4, 112), (4, 116), (4, 120), (4, 124), (4, 128)] [(4, 108), (4, 110), (4, 111), (4, 113), (4, 115), (0, 35), (4, 117), (4, 119), (0, 36), (4, 121), (4, 123), (0, 37), (4, 130), (4, 125), (4, 127), (0, 38), (4, 129), (1, 228)] rfl (by decide +kernel)
set_option maxRecDepth 20000 in
theorem lawT_10 : ∀ w ∈ wsL_law_r10, w ∈ lw_tbl := in_2 lwCh_in _ [(1, 231), (1, 235), (1, 239), (2, 3), (4, 134), (4, 137)] [(1, 229), (1, 230), (1, 48), (1, 232), (1, 234), (0, 6), (1, 236), (1, 238), (0, 7), (2, 0), (2, 1), (2, 2), (4, 131), (4, 132), (4, 133), (4, 141), (4, 135), (4, 136)] rfl (by decide +kernel)
set_option maxRecDepth 20000 in
theorem lawT_11 : ∀ w ∈ wsL_law_r11, w ∈ lw_tbl := in_2 lwCh_in _ [(4, 140), (4, 145), (2, 7), (2, 11)] [(4, 138), (4, 139), (4, 142), (4, 144), (0, 39), (2, 4), (2, 5), (2, 6), (1, 31), (1, 34), (1, 37), (1, 40), (1, 43), (2, 8), (2, 10), (0, 8), (2, 12), (2, 13), (2, 14), (2, 15)] rfl (by decide +kernel)
set_option maxRecDepth 20000 in
theorem lawT_12 : ∀ w ∈ wsL_law_r12, w ∈ lw_tbl := in_2 lwCh_in _ [(2, 16), (2, 20), (2, 24), (4, 149), (4, 153), (4, 157)] [(2, 17), (2, 18), (2, 19), (2, 21), (2, 23), (0, 9), (4, 146), (4, 147), (4, 148), (4, 150), (4, 152), (0, 40), (4, 154), (4, 156), (0, 41), (4, 158), (4, 160), (0, 42)] rfl (by decide +kernel)
set_option maxRecDepth 20000 in
theorem lawT_13 : ∀ w ∈ wsL_law_r13, w ∈ lw_tbl := in_2 lwCh_in _ [(4, 161), (4, 165), (4, 169), (2, 28), (2, 32), (4, 173), (4, 176)] [(4, 162), (4, 164), (0, 43), (4, 166), (4, 168), (0, 44), (2, 25), (2, 26), (2, 27), (2, 29), (2, 31), (0, 10), (4, 170), (4, 171), (4, 172), (4, 174), (4, 175)] rfl (by decide +kernel)
set_option maxRecDepth 20000 in
theorem lawT_14 : ∀ w ∈ wsL_law_r14, w ∈ lw_tbl := in_2 lwCh_in _ [(2, 36), (2, 40), (2, 44), (4, 180), (4, 184), (4, 188)] [(2, 33), (2, 34), (2, 35), (2, 37), (2, 39), (0, 11), (2, 41), (2, 42), (2, 43), (4, 177), (4, 178), (4, 179), (4, 181), (4, 183), (0, 45), (4, 185), (4, 187), (0, 46)] rfl (by decide +kernel)
set_option maxRecDepth 20000 in
theorem lawT_15 : ∀ w ∈ wsL_law_r15, w ∈ lw_tbl := in_2 lwCh_in _ [(2, 48), (4, 192), (2, 54), (4, 196), (2, 59)] [(2, 45), (2, 46), (2, 47), (2, 49), (2, 50), (4, 189), (4, 190), (4, 191), (2, 51), (2, 52), (2, 53), (2, 55), (4, 193), (4, 194), (4, 195), (2, 56), (2, 57), (2, 58), (2, 60)] rfl (by decide +kernel)
set_option maxRecDepth 20000 in
theorem lawT_16 : ∀ w ∈ wsL_law_r16, w ∈ lw_tbl := in_2 lwCh_in _ [(4, 200), (4, 204), (2, 64), (2, 68), (4, 208), (2, 72)] [(4, 197), (4, 198), (4, 199), (4, 201), (4, 203), (0, 47), (2, 61), (2, 62), (2, 63), (2, 65), (2, 66), (2, 67), (4, 205), (4, 206), (4, 207), (2, 69), (2, 70), (2, 71)] rfl (by decide +kernel)
set_option maxRecDepth 20000 in
theorem lawT_17 : ∀ w ∈ wsL_law_r17, w ∈ lw_tbl := in_2 lwCh_in _ [(2, 77), (2, 81), (2, 92), (2, 89)] [(1, 50), (2, 73), (2, 74), (2, 75), (2, 76), (2, 78), (2, 79), (2, 80), (2, 82), (2, 84), (2, 83), (1, 7), (2, 93), (2, 90), (2, 91), (2, 85), (2, 86), (2, 88), (0, 12), (2, 94)] rfl (by decide +kernel)
set_option maxRecDepth 20000 in
theorem lawT_18 : ∀ w ∈ wsL_law_r18, w ∈ lw_tbl := in_2 lwCh_in _ [(2, 97), (4, 212), (4, 218), (4, 222), (4, 226)] [(2, 95), (2, 96), (4, 209), (4, 210), (4, 211), (4, 213), (4, 214), (4, 215), (4, 217), (0, 48), (4, 219), (4, 221), (0, 49), (4, 223), (4, 225), (0, 50), (4, 227), (4, 228), (4, 230)] rfl (by decide +kernel)
set_option maxRecDepth 20000 in
theorem lawT_19 : ∀ w ∈ wsL_law_r19, w ∈ lw_tbl := in_2 lwCh_in _ [(4, 231), (2, 101), (2, 105), (2, 109), (2, 113), (4, 235)] [(0, 51), (2, 98), (2, 99), (2, 100), (2, 102), (2, 103), (2, 104), (2, 106), (2, 107), (2, 108), (2, 110), (2, 111), (2, 112), (4, 232), (4, 233), (4, 234), (4, 236), (4, 238)] rfl (by decide +kernel)
set_option maxRecDepth 20000 in
theorem lawT_20 : ∀ w ∈ wsL_law_r20, w ∈ lw_tbl := in_2 lwCh_in _ [(4, 239), (5, 3), (2, 117), (2, 121), (5, 7), (5, 11)] [(0, 52), (5, 0), (5, 2), (0, 53), (2, 114), (2, 115), (2, 116), (2, 118), (2, 119), (2, 120), (5, 4), (5, 5), (5, 6), (5, 8), (5, 10), (0, 54), (5, 12), (5, 13)] rfl (by decide +kernel)
set_option maxRecDepth 20000 in
theorem lawT_21 : ∀ w ∈ wsL_law_r21, w ∈ lw_tbl := in_2 lwCh_in _ [(5, 14), (5, 18), (2, 125), (5, 22), (5, 26), (2, 130)] [(5, 15), (5, 17), (0, 55), (2, 122), (2, 123), (2, 124), (2, 126), (5, 19), (5, 20), (5, 21), (5, 23), (5, 25), (0, 56), (5, 27), (2, 127), (2, 128), (2, 129), (5, 28)] rfl (by decide +kernel)
set_option maxRecDepth 20000 in
theorem lawT_22 : ∀ w ∈ wsL_law_r22, w ∈ lw_tbl := in_2 lwCh_in _ [(5, 31), (5, 35), (2, 134), (2, 138), (5, 39), (5, 43)] [(5, 29), (5, 30), (5, 32), (5, 34), (0, 57), (2, 131), (2, 132), (2, 133), (2, 135), (2, 137), (0, 13), (5, 36), (5, 37), (5, 38), (5, 40), (5, 42), (0, 58), (2, 139)] rfl (by decide +kernel)
set_option maxRecDepth 20000 in
theorem lawT_23 : ∀ w ∈ wsL_law_r23, w ∈ lw_tbl := in_2 lwCh_in _ [(2, 142), (5, 47), (2, 146), (2, 150), (2, 154), (5, 51)] [(2, 140), (2, 141), (5, 44), (5, 45), (5, 46), (2, 143), (2, 144), (2, 145), (2, 147), (2, 149), (0, 14), (2, 151), (2, 152), (2, 153), (5, 48), (5, 49), (5, 50), (5, 52)] rfl (by decide +kernel)
set_option maxRecDepth 20000 in
theorem lawT_24 : ∀ w ∈ wsL_law_r24, w ∈ lw_tbl := in_2 lwCh_in _ [(5, 55), (5, 59), (2, 158), (2, 162), (2, 165)] [(5, 54), (0, 59), (5, 56), (5, 58), (0, 60), (2, 155), (2, 156), (2, 157), (2, 159), (2, 161), (0, 15), (2, 163), (2, 164), (1, 8), (2, 166), (2, 167), (2, 168), (2, 169), (2, 171)] rfl (by decide +kernel)
set_option maxRecDepth 20000 in
theorem lawT_25 : ∀ w ∈ wsL_law_r25, w ∈ lw_tbl := in_2 lwCh_in _ [(2, 172), (5, 63), (5, 66), (2, 176), (5, 70), (2, 180)] [(0, 16), (5, 60), (5, 61), (5, 62), (5, 64), (5, 65), (2, 173), (2, 174), (2, 175), (5, 67), (5, 68), (5, 69), (2, 177), (2, 178), (2, 179), (5, 71), (5, 72), (5, 73)] rfl (by decide +kernel)
set_option maxRecDepth 20000 in
theorem lawT_26 : ∀ w ∈ wsL_law_r26, w ∈ lw_tbl := in_2 lwCh_in _ [(5, 74), (2, 184), (5, 78), (2, 188), (5, 82), (5, 86)] [(2, 181), (2, 182), (2, 183), (5, 75), (5, 76), (5, 77), (2, 185), (2, 186), (2, 187), (5, 79), (5, 80), (5, 81), (5, 83), (5, 85), (0, 61), (2, 189), (2, 190), (2, 191)] rfl (by decide +kernel)
set_option maxRecDepth 20000 in
theorem lawT_27 : ∀ w ∈ wsL_law_r27, w ∈ lw_tbl := in_2 lwCh_in _ [(2, 192), (5, 90), (2, 197), (5, 94), (2, 201), (5, 98)] [(2, 193), (5, 87), (5, 88), (5, 89), (2, 194), (2, 195), (2, 196), (5, 91), (5, 92), (5, 93), (2, 198), (2, 199), (2, 200), (5, 95), (5, 96), (5, 97), (2, 202), (2, 203)] rfl (by decide +kernel)
set_option maxRecDepth 20000 in
theorem lawT_28 : ∀ w ∈ wsL_law_r28, w ∈ lw_tbl := in_2 lwCh_in _ [(2, 205), (2, 209), (5, 102), (5, 106), (2, 213), (5, 110)] [(2, 204), (2, 206), (2, 207), (2, 208), (5, 99), (5, 100), (5, 101), (5, 103), (5, 105), (0, 62), (2, 210), (2, 211), (2, 212), (5, 107), (5, 108), (5, 109), (2, 214), (2, 215)] rfl (by decide +kernel)
set_option maxRecDepth 20000 in
theorem lawT_29 : ∀ w ∈ wsL_law_r29, w ∈ lw_tbl := in_2 lwCh_in _ [(2, 217), (5, 114), (2, 222), (2, 226), (2, 230), (2, 234)] [(2, 216), (2, 218), (5, 111), (5, 112), (5, 113), (2, 219), (2, 220), (2, 221), (2, 223), (2, 225), (0, 17), (2, 227), (2, 229), (0, 18), (2, 231), (2, 233), (0, 19), (2, 235)] rfl (by decide +kernel)
set_option maxRecDepth 20000 in
theorem lawT_30 : ∀ w ∈ wsL_law_r30, w ∈ lw_tbl := in_2 lwCh_in _ [(2, 238), (3, 2), (5, 118), (5, 122), (5, 125)] [(2, 236), (2, 237), (2, 239), (3, 1), (0, 20), (1, 122), (1, 118), (5, 115), (5, 116), (5, 117), (5, 119), (5, 121), (0, 63), (5, 126), (5, 123), (5, 124), (5, 127), (5, 129), (0, 64)] rfl (by decide +kernel)
set_option maxRecDepth 20000 in
theorem lawT_31 : ∀ w ∈ wsL_law_r31, w ∈ lw_tbl := in_2 lwCh_in _ [(5, 130), (5, 134), (3, 6), (5, 138), (3, 10), (3, 14)] [(5, 131), (5, 133), (0, 65), (3, 3), (3, 4), (3, 5), (5, 135), (5, 136), (5, 137), (3, 7), (3, 8), (3, 9), (3, 11), (3, 12), (3, 13), (3, 15), (5, 139), (5, 140)] rfl (by decide +kernel)
set_option maxRecDepth 20000 in
theorem lawT_32 : ∀ w ∈ wsL_law_r32, w ∈ lw_tbl := in_2 lwCh_in _ [(5, 142), (5, 146), (3, 19), (5, 151), (3, 23), (5, 155)] [(5, 141), (5, 143), (5, 145), (0, 66), (5, 147), (3, 16), (3, 17), (3, 18), (5, 148), (5, 149), (5, 150), (3, 20), (3, 21), (3, 22), (1, 52), (5, 152), (5, 153), (5, 154)] rfl (by decide +kernel)
set_option maxRecDepth 20000 in
theorem lawT_33 : ∀ w ∈ wsL_law_r33, w ∈ lw_tbl := in_2 lwCh_in _ [(3, 27), (3, 31), (5, 159), (3, 35), (5, 163)] [(3, 24), (3, 25), (3, 26), (1, 91), (3, 28), (3, 29), (3, 30), (5, 156), (5, 157), (5, 158), (4, 6), (3, 32), (3, 33), (3, 34), (5, 160), (5, 161), (5, 162), (3, 36), (3, 37)] rfl (by decide +kernel)
set_option maxRecDepth 20000 in
theorem lawT_34 : ∀ w ∈ wsL_law_r34, w ∈ lw_tbl := in_2 lwCh_in _ [(3, 39), (3, 43), (3, 47), (3, 51), (3, 54), (3, 57), (3, 60)] [(3, 38), (3, 40), (3, 41), (3, 42), (3, 44), (3, 46), (0, 21), (3, 61), (3, 48), (3, 50), (0, 22), (3, 52), (3, 53), (3, 55), (3, 56), (3, 58), (3, 59)] rfl (by decide +kernel)
set_option maxRecDepth 20000 in
theorem lawT_35 : ∀ w ∈ wsL_law_r35, w ∈ lw_tbl := in_2 lwCh_in _ [(3, 65), (3, 70), (3, 74), (3, 78)] [(3, 62), (3, 64), (0, 23), (1, 47), (1, 33), (1, 36), (1, 39), (1, 42), (3, 67), (3, 69), (0, 24), (3, 71), (3, 72), (3, 73), (1, 9), (6, 37), (3, 75), (3, 76), (3, 77), (3, 79)] rfl (by decide +kernel)
set_option maxRecDepth 20000 in
theorem lawT_36 : ∀ w ∈ wsL_law_r36, w ∈ lw_tbl := in_2 lwCh_in _ [(3, 84), (3, 88), (3, 91), (3, 94), (3, 99)] [(6, 38), (3, 81), (3, 82), (3, 83), (3, 85), (3, 86), (3, 87), (3, 89), (3, 90), (1, 10), (3, 92), (3, 93), (3, 95), (3, 97), (3, 98), (1, 11), (3, 100), (3, 101), (1, 12)] rfl (by decide +kernel)
set_option maxRecDepth 20000 in
theorem lawT_37 : ∀ w ∈ wsL_law_r37, w ∈ lw_tbl := in_2 lwCh_in _ [(3, 102), (3, 105), (3, 108), (3, 112), (3, 122), (3, 126)] [(3, 103), (3, 104), (3, 106), (3, 107), (3, 109), (3, 110), (3, 111), (3, 113), (3, 115), (3, 117), (3, 119), (3, 121), (0, 25), (1, 29), (3, 123), (3, 125), (0, 26), (3, 127)] rfl (by decide +kernel)
set_option maxRecDepth 20000 in
theorem lawT_38 : ∀ w ∈ wsL_law_r38, w ∈ lw_tbl := in_2 lwCh_in _ [(3, 130), (3, 133), (3, 146), (5, 167)] [(3, 129), (0, 27), (3, 131), (3, 132), (3, 141), (3, 143), (3, 145), (0, 28), (5, 164), (5, 165), (5, 166), (4, 8), (4, 11), (4, 14), (4, 15), (4, 9), (4, 7), (5, 168), (5, 170), (0, 67)] rfl (by decide +kernel)
set_option maxRecDepth 20000 in
theorem lawT_39 : ∀ w ∈ wsL_law_r39, w ∈ lw_tbl := in_2 lwCh_in _ [(5, 171), (5, 175), (5, 179), (5, 183), (5, 187), (5, 193)] [(4, 10), (5, 172), (5, 174), (0, 68), (5, 176), (5, 178), (0, 69), (5, 180), (5, 182), (0, 70), (5, 184), (5, 186), (0, 71), (5, 188), (5, 189), (5, 190), (5, 192), (0, 72)] rfl (by decide +kernel)
set_option maxRecDepth 20000 in
theorem lawT_40 : ∀ w ∈ wsL_law_r40, w ∈ lw_tbl := in_2 lwCh_in _ [(5, 198), (5, 202), (5, 209), (5, 214), (3, 154)] [(5, 195), (5, 197), (0, 73), (5, 199), (5, 201), (0, 74), (5, 206), (5, 208), (0, 75), (5, 211), (5, 213), (0, 76), (3, 151), (3, 152), (3, 153), (1, 45), (3, 155), (3, 157), (0, 29)] rfl (by decide +kernel)
set_option maxRecDepth 20000 in
theorem lawT_41 : ∀ w ∈ wsL_law_r41, w ∈ lw_tbl := in_2 lwCh_in _ [(3, 158), (5, 218), (5, 221), (3, 162), (5, 225), (5, 228), (5, 231)] [(5, 215), (5, 216), (5, 217), (5, 219), (5, 220), (3, 159), (3, 160), (3, 161), (3, 163), (5, 222), (5, 223), (5, 224), (5, 232), (5, 226), (5, 227), (5, 229), (5, 230)] rfl (by decide +kernel)
set_option maxRecDepth 20000 in
theorem lawT_42 : ∀ w ∈ wsL_law_r42, w ∈ lw_tbl := in_2 lwCh_in _ [(3, 167), (3, 171), (5, 236), (3, 175), (3, 179)] [(3, 164), (3, 165), (3, 166), (3, 168), (3, 169), (3, 170), (5, 233), (5, 234), (5, 235), (5, 237), (3, 172), (3, 173), (3, 174), (3, 176), (3, 177), (3, 178), (5, 238), (5, 239), (6, 0)] rfl (by decide +kernel)
set_option maxRecDepth 20000 in
theorem lawT_43 : ∀ w ∈ wsL_law_r43, w ∈ lw_tbl := in_2 lwCh_in _ [(6, 1), (6, 4), (3, 183), (3, 187), (6, 8), (3, 192)] [(6, 2), (6, 3), (3, 180), (3, 181), (3, 182), (1, 120), (3, 188), (3, 184), (3, 185), (3, 186), (6, 5), (6, 6), (6, 7), (3, 189), (3, 190), (3, 191), (6, 9), (6, 10)] rfl (by decide +kernel)
set_option maxRecDepth 20000 in
theorem lawT_44 : ∀ w ∈ wsL_law_r44, w ∈ lw_tbl := in_2 lwCh_in _ [(6, 12), (3, 196), (6, 16), (3, 200), (6, 20), (3, 204)] [(6, 11), (3, 193), (3, 194), (3, 195), (6, 13), (6, 14), (6, 15), (3, 197), (3, 198), (3, 199), (6, 17), (6, 18), (6, 19), (3, 239), (3, 201), (3, 202), (3, 203), (6, 21)] rfl (by decide +kernel)
set_option maxRecDepth 20000 in
theorem lawT_45 : ∀ w ∈ wsL_law_r45, w ∈ lw_tbl := in_2 lwCh_in _ [(6, 24), (3, 208), (6, 28), (3, 212), (3, 216), (6, 32)] [(6, 22), (6, 23), (3, 205), (3, 206), (3, 207), (6, 25), (6, 26), (6, 27), (3, 209), (3, 210), (3, 211), (3, 213), (3, 214), (3, 215), (6, 29), (6, 30), (6, 31), (3, 217)] rfl (by decide +kernel)
set_option maxRecDepth 20000 in
theorem lawT_46 : ∀ w ∈ wsL_law_r46, w ∈ lw_tbl := in_2 lwCh_in _ [(3, 220), (6, 36)] [(3, 218), (3, 219), (6, 33), (6, 34), (6, 35)] rfl (by decide +kernel)
set_option maxRecDepth 20000 in
theorem lawT_X3 : ∀ w ∈ wsX30, w ∈ lw_tbl := by decide +kernel
set_option maxRecDepth 20000 in
theorem lawT_X4 : ∀ w ∈ wsX40, w ∈ lw_tbl := by decide +kernel
set_option maxRecDepth 20000 in
theorem lawT_X0 : ∀ w ∈ wsX00, w ∈ lw_tbl := by decide +kernel
set_option maxRecDepth 20000 in
theorem lawT_X2 : ∀ w ∈ wsX20, w ∈ lw_tbl := by decide +kernel
set_option maxRecDepth 20000 in
theorem lawT_X1 : ∀ w ∈ wsX10, w ∈ lw_tbl := by decide +kernel
set_option maxRecDepth 20000 in
theorem wsL_law_in : ∀ w ∈ wsL_law, w ∈ lw_tbl := fun w h => (List.mem_append.mp h).elim (fun h => (List.mem_append.mp h).elim (fun h => (List.mem_append.mp h).elim (fun h => (List.mem_append.mp h).elim (fun h => (List.mem_append.mp h).elim (fun h => (List.mem_append.mp h).elim (fun h => (List.mem_append.mp h).elim (lawT_1 w) (fun h => (List.mem_append.mp h).elim (lawT_2 w) (fun h => (List.mem_append.mp h).elim (lawT_3 w) (fun h => (List.mem_append.mp h).elim (lawT_4 w) (fun h => (List.mem_append.mp h).elim (lawT_5 w) (fun h => (List.mem_append.mp h).elim (lawT_6 w) (fun h => (List.mem_append.mp h).elim (lawT_7 w) (fun h => (List.mem_append.mp h).elim (lawT_8 w) (fun h => (List.mem_append.mp h).elim (lawT_9 w) (fun h => (List.mem_append.mp h).elim (lawT_10 w) (fun h => (List.mem_append.mp h).elim (lawT_11 w) (fun h => (List.mem_append.mp h).elim (lawT_12 w) (fun h => (List.mem_append.mp h).elim (lawT_13 w) (fun h => (List.mem_append.mp h).elim (lawT_14 w) (fun h => (List.mem_append.mp h).elim (lawT_15 w) (fun h => (List.mem_append.mp h).elim (lawT_16 w) (fun h => (List.mem_append.mp h).elim (lawT_17 w) (fun h => (List.mem_append.mp h).elim (lawT_18 w) (fun h => (List.mem_append.mp h).elim (lawT_19 w) (fun h => (List.mem_append.mp h).elim (lawT_20 w) (fun h => (List.mem_append.mp h).elim (lawT_21 w) (fun h => (List.mem_append.mp h).elim (lawT_22 w) (fun h => (List.mem_append.mp h).elim (lawT_23 w) (fun h => (List.mem_append.mp h).elim (lawT_24 w) (fun h => (List.mem_append.mp h).elim (lawT_25 w) (fun h => (List.mem_append.mp h).elim (lawT_26 w) (fun h => (List.mem_append.mp h).elim (lawT_27 w) (fun h => (List.mem_append.mp h).elim (lawT_28 w) (fun h => (List.mem_append.mp h).elim (lawT_29 w) (fun h => (List.mem_append.mp h).elim (lawT_30 w) (fun h => (List.mem_append.mp h).elim (lawT_31 w) (fun h => (List.mem_append.mp h).elim (lawT_32 w) (fun h => (List.mem_append.mp h).elim (lawT_33 w) (fun h => (List.mem_append.mp h).elim (lawT_34 w) (fun h => (List.mem_append.mp h).elim (lawT_35 w) (fun h => (List.mem_append.mp h).elim (lawT_36 w) (fun h => (List.mem_append.mp h).elim (lawT_37 w) (fun h => (List.mem_append.mp h).elim (lawT_38 w) (fun h => (List.mem_append.mp h).elim (lawT_39 w) (fun h => (List.mem_append.mp h).elim (lawT_40 w) (fun h => (List.mem_append.mp h).elim (lawT_41 w) (fun h => (List.mem_append.mp h).elim (lawT_42 w) (fun h => (List.mem_append.mp h).elim (lawT_43 w) (fun h => (List.mem_append.mp h).elim (lawT_44 w) (fun h => (List.mem_append.mp h).elim (lawT_45 w) (lawT_46 w)))))))))))))))))))))))))))))))))))))))))))))) (lawT_X3 w)) (lawT_X4 w)) (lawT_X0 w)) (lawT_X2 w)) (lawT_X1 w)) (fun h => absurd h List.not_mem_nil)
