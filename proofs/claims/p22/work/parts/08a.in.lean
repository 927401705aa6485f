set_option maxRecDepth 20000 in
theorem in_wsL_law_r1 : ∀ w ∈ wsL_law_r1, w ∈ lw_tbl := fun w h => (goodIn_r (big := lw_tbl) wsL_law_r1 [15, 16, 8, 17, 18, 19, 20, 21, 22, 23, 24, 9, 73, 74, 38, 39, 10, 75, 53, 54, 11, 76, 72, 37] (by decide +kernel) (by decide +kernel) w h).1
set_option maxRecDepth 20000 in
theorem in_wsL_law_r2 : ∀ w ∈ wsL_law_r2, w ∈ lw_tbl := fun w h => (goodIn_r (big := lw_tbl) wsL_law_r2 [77, 92, 78, 25, 26, 27, 28, 32, 29, 30, 31, 41, 42, 43, 52, 44, 45, 56, 57, 58, 59, 61, 62, 63] (by decide +kernel) (by decide +kernel) w h).1
set_option maxRecDepth 20000 in
theorem in_wsL_law_r3 : ∀ w ∈ wsL_law_r3, w ∈ lw_tbl := fun w h => (goodIn_r (big := lw_tbl) wsL_law_r3 [93, 94, 7, 95, 96, 97, 98, 99, 206, 333, 334, 335, 100, 101, 102, 103, 104, 105, 106, 107, 33, 46, 64, 108] (by decide +kernel) (by decide +kernel) w h).1
set_option maxRecDepth 20000 in
theorem in_wsL_law_r4 : ∀ w ∈ wsL_law_r4, w ∈ lw_tbl := fun w h => (goodIn_r (big := lw_tbl) wsL_law_r4 [109, 110, 111, 112, 113, 114, 115, 116, 117, 118, 119, 120, 121, 122, 123, 124, 125, 126, 127, 128, 129, 130, 131, 132] (by decide +kernel) (by decide +kernel) w h).1
set_option maxRecDepth 20000 in
theorem in_wsL_law_r5 : ∀ w ∈ wsL_law_r5, w ∈ lw_tbl := fun w h => (goodIn_r (big := lw_tbl) wsL_law_r5 [133, 134, 135, 136, 138, 140, 141, 142, 143, 150, 151, 13, 152, 145, 146, 147, 149, 148, 12, 153, 154, 155, 156, 157] (by decide +kernel) (by decide +kernel) w h).1
set_option maxRecDepth 20000 in
theorem in_wsL_law_r6 : ∀ w ∈ wsL_law_r6, w ∈ lw_tbl := fun w h => (goodIn_r (big := lw_tbl) wsL_law_r6 [158, 159, 160, 161, 162, 163, 164, 165, 166, 167, 168, 169, 170, 171, 172, 173, 174, 14, 175, 176, 177, 178, 179, 180] (by decide +kernel) (by decide +kernel) w h).1
set_option maxRecDepth 20000 in
theorem in_wsL_law_r7 : ∀ w ∈ wsL_law_r7, w ∈ lw_tbl := fun w h => (goodIn_r (big := lw_tbl) wsL_law_r7 [181, 182, 183, 184, 185, 186, 187, 188, 189, 190, 191, 192, 193, 194, 195, 196, 197, 198, 199, 200, 201, 202, 203, 204] (by decide +kernel) (by decide +kernel) w h).1
set_option maxRecDepth 20000 in
theorem in_wsL_law_r8 : ∀ w ∈ wsL_law_r8, w ∈ lw_tbl := fun w h => (goodIn_r (big := lw_tbl) wsL_law_r8 [205, 207, 208, 209, 210, 211, 212, 213, 214, 215, 216, 217, 218, 219, 220, 221, 222, 223, 224, 225, 226, 227, 228, 229] (by decide +kernel) (by decide +kernel) w h).1
set_option maxRecDepth 20000 in
theorem in_wsL_law_r9 : ∀ w ∈ wsL_law_r9, w ∈ lw_tbl := fun w h => (goodIn_r (big := lw_tbl) wsL_law_r9 [230, 231, 232, 233, 234, 235, 236, 237, 238, 239, 240, 241, 242, 243, 244, 245, 246, 247, 248, 249, 250, 251, 252, 253] (by decide +kernel) (by decide +kernel) w h).1
set_option maxRecDepth 20000 in
theorem in_wsL_law_r10 : ∀ w ∈ wsL_law_r10, w ∈ lw_tbl := fun w h => (goodIn_r (big := lw_tbl) wsL_law_r10 [255, 0, 256, 257, 258, 259, 260, 261, 262, 264, 1, 265, 267, 268, 269, 270, 271, 273, 275, 2, 276, 277, 279, 3] (by decide +kernel) (by decide +kernel) w h).1
set_option maxRecDepth 20000 in
theorem in_wsL_law_r11 : ∀ w ∈ wsL_law_r11, w ∈ lw_tbl := fun w h => (goodIn_r (big := lw_tbl) wsL_law_r11 [280, 281, 283, 4, 284, 285, 287, 5, 288, 289, 290, 291, 292, 293, 295, 6, 296, 297, 298, 299, 300, 301, 302, 303] (by decide +kernel) (by decide +kernel) w h).1
set_option maxRecDepth 20000 in
theorem in_wsL_law_r12 : ∀ w ∈ wsL_law_r12, w ∈ lw_tbl := fun w h => (goodIn_r (big := lw_tbl) wsL_law_r12 [304, 305, 306, 307, 308, 309, 310, 311, 312, 313, 314, 315, 316, 317, 318, 319, 320, 321, 322, 323, 324, 325, 326, 327] (by decide +kernel) (by decide +kernel) w h).1
set_option maxRecDepth 20000 in
theorem in_wsL_law_r13 : ∀ w ∈ wsL_law_r13, w ∈ lw_tbl := fun w h => (goodIn_r (big := lw_tbl) wsL_law_r13 [328, 329, 330, 331, 332, 363, 364, 365, 360, 361, 362, 356, 357, 358, 359, 343, 344, 345, 346, 336, 337, 338, 339, 340] (by decide +kernel) (by decide +kernel) w h).1
set_option maxRecDepth 20000 in
theorem in_wsL_law_r14 : ∀ w ∈ wsL_law_r14, w ∈ lw_tbl := fun w h => (goodIn_r (big := lw_tbl) wsL_law_r14 [341, 342, 347, 348, 349, 350, 353, 354, 355, 351, 352] (by decide +kernel) (by decide +kernel) w h).1
set_option maxRecDepth 20000 in
theorem in_wsX00 : ∀ w ∈ wsX00, w ∈ lw_tbl := fun w h => (goodIn_r (big := lw_tbl) wsX00 [34] (by decide +kernel) (by decide +kernel) w h).1
set_option maxRecDepth 20000 in
theorem in_wsX10 : ∀ w ∈ wsX10, w ∈ lw_tbl := fun w h => (goodIn_r (big := lw_tbl) wsX10 [65, 67, 69] (by decide +kernel) (by decide +kernel) w h).1
set_option maxRecDepth 20000 in
theorem in_wsX20 : ∀ w ∈ wsX20, w ∈ lw_tbl := fun w h => (goodIn_r (big := lw_tbl) wsX20 [47, 49] (by decide +kernel) (by decide +kernel) w h).1
set_option maxRecDepth 20000 in
theorem in_wsX30 : ∀ w ∈ wsX30, w ∈ lw_tbl := fun w h => (goodIn_r (big := lw_tbl) wsX30 [79, 81, 83, 85, 87, 89] (by decide +kernel) (by decide +kernel) w h).1
theorem wsL_law_in : ∀ w ∈ wsL_law, w ∈ lw_tbl := List.forall_mem_append.mpr ⟨(List.forall_mem_append.mpr ⟨(List.forall_mem_append.mpr ⟨(List.forall_mem_append.mpr ⟨(List.forall_mem_append.mpr ⟨(List.forall_mem_append.mpr ⟨in_wsL_law_r1, (List.forall_mem_append.mpr ⟨in_wsL_law_r2, (List.forall_mem_append.mpr ⟨in_wsL_law_r3, (List.forall_mem_append.mpr ⟨in_wsL_law_r4, (List.forall_mem_append.mpr ⟨in_wsL_law_r5, (List.forall_mem_append.mpr ⟨in_wsL_law_r6, (List.forall_mem_append.mpr ⟨in_wsL_law_r7, (List.forall_mem_append.mpr ⟨in_wsL_law_r8, (List.forall_mem_append.mpr ⟨in_wsL_law_r9, (List.forall_mem_append.mpr ⟨in_wsL_law_r10, (List.forall_mem_append.mpr ⟨in_wsL_law_r11, (List.forall_mem_append.mpr ⟨in_wsL_law_r12, (List.forall_mem_append.mpr ⟨in_wsL_law_r13, in_wsL_law_r14⟩)⟩)⟩)⟩)⟩)⟩)⟩)⟩)⟩)⟩)⟩)⟩)⟩), in_wsX30⟩), in_wsX00⟩), in_wsX20⟩), in_wsX10⟩), fun _ h => absurd h List.not_mem_nil⟩
theorem inlX1 : ∀ w ∈ wsX10, w ∈ wsL_law := fun _ h => List.mem_append_left _ (List.mem_append_right _ h)
theorem inX1 : ∀ w ∈ wsX10, w ∈ lw_tbl := fun w h => wsL_law_in w (inlX1 w h)
theorem inlX2 : ∀ w ∈ wsX20, w ∈ wsL_law := fun _ h => List.mem_append_left _ (List.mem_append_left _ (List.mem_append_right _ h))
theorem inX2 : ∀ w ∈ wsX20, w ∈ lw_tbl := fun w h => wsL_law_in w (inlX2 w h)
theorem inlX0 : ∀ w ∈ wsX00, w ∈ wsL_law := fun _ h => List.mem_append_left _ (List.mem_append_left _ (List.mem_append_left _ (List.mem_append_right _ h)))
theorem inX0 : ∀ w ∈ wsX00, w ∈ lw_tbl := fun w h => wsL_law_in w (inlX0 w h)
theorem inlX3 : ∀ w ∈ wsX30, w ∈ wsL_law := fun _ h => List.mem_append_left _ (List.mem_append_left _ (List.mem_append_left _ (List.mem_append_left _ (List.mem_append_right _ h))))
theorem inX3 : ∀ w ∈ wsX30, w ∈ lw_tbl := fun w h => wsL_law_in w (inlX3 w h)
set_option maxRecDepth 20000 in
theorem ggL_number_X3_put : GoodIn wsL_number wsX3_put := goodIn_r _ [5, 6, 7, 8, 9, 10, 11, 12, 13, 14, 15, 16, 17, 18, 19, 20, 21, 22, 23, 24, 25, 26, 27, 28, 29, 30] (by decide +kernel) (by decide +kernel)
set_option maxRecDepth 20000 in
theorem gL_number_X3_put : GoodIn wsL_number (wsV RL 9 RX3 yX3_put wsX3_put) := goodIn_app (goodIn_of _ (by decide +kernel)) ggL_number_X3_put
set_option maxRecDepth 20000 in
theorem ggL_through_X3_gate : GoodIn wsL_through wsX3_gate := goodIn_r _ [5, 6, 7, 8, 4, 9, 10, 11, 12, 13, 14, 15, 16, 17, 18, 19, 20, 21, 22, 23, 24, 25, 26, 27, 28, 29, 30, 31, 32, 33, 34, 35, 36, 37, 38, 39, 40, 41, 42, 43, 44, 45] (by decide +kernel) (by decide +kernel)
set_option maxRecDepth 20000 in
theorem gL_through_X3_gate : GoodIn wsL_through (wsV RL 15 RX3 yX3_gate wsX3_gate) := goodIn_app (goodIn_of _ (by decide +kernel)) ggL_through_X3_gate
set_option maxRecDepth 20000 in
theorem ggL_ended_X3_count : GoodIn wsL_ended wsX3_count := goodIn_r _ [5, 6, 7, 8, 9, 10, 11, 12, 13, 14, 15, 16, 17, 18, 19, 20, 21, 22, 23, 24, 25, 26, 27, 28, 29, 30, 31, 32, 33, 34, 35, 36, 37, 38, 39, 40, 41, 42, 43, 44, 45, 46, 47, 48, 49, 50, 51, 52] (by decide +kernel) (by decide +kernel)
set_option maxRecDepth 20000 in
theorem gL_ended_X3_count : GoodIn wsL_ended (wsV RL 19 RX3 yX3_count wsX3_count) := goodIn_app (goodIn_of _ (by decide +kernel)) ggL_ended_X3_count
set_option maxRecDepth 20000 in
theorem ggL_isStep_L_up : GoodIn wsL_isStep wsL_up := goodIn_r _ [8, 9] (by decide +kernel) (by decide +kernel)
set_option maxRecDepth 20000 in
theorem gL_isStep_L_up : GoodIn wsL_isStep (va_wsS RL 23 yL_up wsL_up) := goodIn_app (goodIn_of _ (by decide +kernel)) ggL_isStep_L_up
set_option maxRecDepth 20000 in
theorem ggL_isStep_X3_count : GoodIn wsL_isStep wsX3_count := goodIn_r _ [14, 15, 16, 17, 18, 19, 20, 21, 22, 23, 24, 25, 26, 27, 28, 29, 30, 31, 32, 33, 34, 35, 36, 37, 38, 39, 40, 41, 42, 43, 44, 45, 46, 47, 48, 49, 257, 258, 259, 260, 261, 262, 263, 264, 265, 266, 267, 268] (by decide +kernel) (by decide +kernel)
set_option maxRecDepth 20000 in
theorem gL_isStep_X3_count : GoodIn wsL_isStep (wsV RL 19 RX3 yX3_count wsX3_count) := goodIn_app (goodIn_of _ (by decide +kernel)) ggL_isStep_X3_count
set_option maxRecDepth 20000 in
theorem ggL_isStep_X3_set : GoodIn wsL_isStep wsX3_set := goodIn_r _ [53, 54, 55, 19, 15, 16, 56, 57, 58, 59, 60, 61, 62, 63, 64, 65, 66, 67, 68, 13, 69, 70, 71, 72, 73, 257, 258, 259, 260, 261, 262, 263, 266, 267, 268] (by decide +kernel) (by decide +kernel)
set_option maxRecDepth 20000 in
theorem gL_isStep_X3_set : GoodIn wsL_isStep (wsV RL 28 RX3 yX3_set wsX3_set) := goodIn_app (goodIn_of _ (by decide +kernel)) ggL_isStep_X3_set
set_option maxRecDepth 20000 in
theorem ggL_isStep_X3_untilBlocked : GoodIn wsL_isStep wsX3_untilBlocked := goodIn_r _ [77, 15, 16, 78, 32, 33, 24, 34, 30, 35, 36, 37, 79, 27, 28, 29, 31, 38, 39, 40, 41, 80, 257, 258, 259, 260, 261, 262, 263] (by decide +kernel) (by decide +kernel)
set_option maxRecDepth 20000 in
theorem gL_isStep_X3_untilBlocked : GoodIn wsL_isStep (wsV RL 31 RX3 yX3_untilBlocked wsX3_untilBlocked) := goodIn_app (goodIn_of _ (by decide +kernel)) ggL_isStep_X3_untilBlocked
set_option maxRecDepth 20000 in
theorem ggL_isStep_X3_pass : GoodIn wsL_isStep wsX3_pass := goodIn_r _ [84, 15, 19, 16, 85, 86, 87, 24, 88, 30, 89, 56, 57, 58, 59, 60, 61, 62, 63, 64, 65, 66, 67, 68, 13, 69, 70, 71, 72, 73, 90, 91, 92, 93, 21, 22, 23, 25, 26, 27, 28, 29, 31, 32, 33, 34, 35, 36, 37, 38, 39, 40, 41, 94, 95, 96, 97, 98, 99, 100, 257, 258, 259, 260, 261, 262, 263, 266, 267, 268] (by decide +kernel) (by decide +kernel)
set_option maxRecDepth 20000 in
theorem gL_isStep_X3_pass : GoodIn wsL_isStep (wsV RL 35 RX3 yX3_pass wsX3_pass) := goodIn_app (goodIn_of _ (by decide +kernel)) ggL_isStep_X3_pass
set_option maxRecDepth 20000 in
theorem ggL_isStep_X3_gate : GoodIn wsL_isStep wsX3_gate := goodIn_r _ [104, 15, 105, 106, 13, 107, 108, 109, 110, 24, 111, 30, 31, 32, 33, 34, 35, 36, 37, 112, 113, 114, 115, 116, 117, 118, 119, 26, 27, 28, 29, 38, 39, 40, 41, 257, 258, 259, 260, 261, 262, 263] (by decide +kernel) (by decide +kernel)
set_option maxRecDepth 20000 in
theorem gL_isStep_X3_gate : GoodIn wsL_isStep (wsV RL 15 RX3 yX3_gate wsX3_gate) := goodIn_app (goodIn_of _ (by decide +kernel)) ggL_isStep_X3_gate
set_option maxRecDepth 20000 in
theorem ggL_isStep_X3_wipe : GoodIn wsL_isStep wsX3_wipe := goodIn_r _ [123, 17, 18, 124, 125, 126, 127, 128, 129, 257, 258, 259, 260, 261, 262, 264, 265] (by decide +kernel) (by decide +kernel)
set_option maxRecDepth 20000 in
theorem gL_isStep_X3_wipe : GoodIn wsL_isStep (wsV RL 38 RX3 yX3_wipe wsX3_wipe) := goodIn_app (goodIn_of _ (by decide +kernel)) ggL_isStep_X3_wipe
set_option maxRecDepth 20000 in
theorem ggL_isStep_X3_put : GoodIn wsL_isStep wsX3_put := goodIn_r _ [133, 17, 18, 134, 135, 127, 136, 137, 138, 139, 140, 141, 129, 142, 143, 144, 145, 146, 257, 258, 259, 260, 261, 262, 264, 265] (by decide +kernel) (by decide +kernel)
set_option maxRecDepth 20000 in
theorem gL_isStep_X3_put : GoodIn wsL_isStep (wsV RL 9 RX3 yX3_put wsX3_put) := goodIn_app (goodIn_of _ (by decide +kernel)) ggL_isStep_X3_put
set_option maxRecDepth 20000 in
theorem ggL_isStep_L_number : GoodIn wsL_isStep wsL_number := goodIn_r _ [149, 130, 131, 132, 13, 133, 17, 18, 134, 135, 127, 136, 137, 138, 139, 140, 141, 129, 142, 143, 144, 145, 146, 257, 258, 259, 260, 261, 262, 264, 265] (by decide +kernel) (by decide +kernel)
set_option maxRecDepth 20000 in
theorem gL_isStep_L_number : GoodIn wsL_isStep (va_wsS RL 43 yL_number wsL_number) := goodIn_app (goodIn_of _ (by decide +kernel)) ggL_isStep_L_number
set_option maxRecDepth 20000 in
theorem ggL_isStep_X3_read : GoodIn wsL_isStep wsX3_read := goodIn_r _ [153, 17, 19, 15, 16, 154, 155, 156, 127, 157, 129, 146, 158, 159, 160, 161, 162, 163, 164, 165, 166, 167, 168, 169, 170, 171, 172, 56, 57, 58, 59, 60, 61, 62, 63, 64, 65, 66, 67, 68, 13, 69, 70, 71, 72, 73, 173, 174, 175, 176, 177, 178, 179, 180, 181, 182, 183, 184, 86, 87, 24, 88, 30, 89, 185, 91, 92, 93, 186, 187, 188, 189, 106, 107, 190, 191, 192, 193, 194, 35, 36, 37, 195, 196, 197, 198, 199, 200, 201, 202, 203, 204, 205, 206, 207, 208, 209, 210, 211, 212, 213, 214, 215, 216, 217, 218, 124, 125, 126, 128, 257, 258, 259, 260, 261, 262, 263, 264, 265, 266, 267, 268] (by decide +kernel) (by decide +kernel)
set_option maxRecDepth 20000 in
theorem gL_isStep_X3_read : GoodIn wsL_isStep (wsV RL 47 RX3 yX3_read wsX3_read) := goodIn_app (goodIn_of _ (by decide +kernel)) ggL_isStep_X3_read
set_option maxRecDepth 20000 in
theorem ggL_isStep_X3_correct : GoodIn wsL_isStep wsX3_correct := goodIn_r _ [222, 19, 15, 16, 56, 57, 58, 59, 60, 61, 62, 63, 64, 65, 66, 67, 68, 13, 69, 70, 71, 72, 73, 223, 212, 213, 24, 214, 30, 257, 258, 259, 260, 261, 262, 263, 266, 267, 268] (by decide +kernel) (by decide +kernel)
set_option maxRecDepth 20000 in
theorem gL_isStep_X3_correct : GoodIn wsL_isStep (wsV RL 50 RX3 yX3_correct wsX3_correct) := goodIn_app (goodIn_of _ (by decide +kernel)) ggL_isStep_X3_correct
set_option maxRecDepth 20000 in
theorem ggL_isStep_X3_clear : GoodIn wsL_isStep wsX3_clear := goodIn_r _ [227, 15, 19, 16, 105, 106, 13, 107, 78, 32, 33, 24, 34, 30, 35, 36, 37, 56, 57, 58, 59, 60, 61, 62, 63, 64, 65, 66, 67, 68, 69, 70, 71, 72, 73, 228, 229, 230, 231, 199, 200, 201, 202, 203, 204, 205, 206, 207, 208, 209, 210, 211, 212, 213, 214, 215, 216, 217, 218, 257, 258, 259, 260, 261, 262, 263, 266, 267, 268] (by decide +kernel) (by decide +kernel)
set_option maxRecDepth 20000 in
theorem gL_isStep_X3_clear : GoodIn wsL_isStep (wsV RL 53 RX3 yX3_clear wsX3_clear) := goodIn_app (goodIn_of _ (by decide +kernel)) ggL_isStep_X3_clear
set_option maxRecDepth 20000 in
theorem ggL_isStep_X3_save : GoodIn wsL_isStep wsX3_save := goodIn_r _ [235, 15, 16, 236, 237, 238, 239, 13, 240, 241, 68, 69, 70, 71, 72, 73, 257, 258, 259, 260, 261, 262, 263] (by decide +kernel) (by decide +kernel)
set_option maxRecDepth 20000 in
theorem gL_isStep_X3_save : GoodIn wsL_isStep (wsV RL 56 RX3 yX3_save wsX3_save) := goodIn_app (goodIn_of _ (by decide +kernel)) ggL_isStep_X3_save
set_option maxRecDepth 20000 in
theorem ggL_isStep_X3_restore : GoodIn wsL_isStep wsX3_restore := goodIn_r _ [245, 237, 19, 15, 16, 236, 238, 239, 13, 240, 56, 57, 58, 59, 60, 61, 62, 63, 64, 65, 66, 67, 68, 69, 70, 71, 72, 73, 241, 257, 258, 259, 260, 261, 262, 263, 266, 267, 268] (by decide +kernel) (by decide +kernel)
set_option maxRecDepth 20000 in
theorem gL_isStep_X3_restore : GoodIn wsL_isStep (wsV RL 59 RX3 yX3_restore wsX3_restore) := goodIn_app (goodIn_of _ (by decide +kernel)) ggL_isStep_X3_restore
set_option maxRecDepth 20000 in
theorem ggL_isStep_L_ended : GoodIn wsL_isStep wsL_ended := goodIn_r _ [248, 10, 11, 12, 13, 14, 15, 16, 17, 18, 19, 20, 21, 22, 23, 24, 25, 26, 27, 28, 29, 30, 31, 32, 33, 34, 35, 36, 37, 38, 39, 40, 41, 42, 43, 44, 45, 46, 47, 48, 49, 257, 258, 259, 260, 261, 262, 263, 264, 265, 266, 267, 268] (by decide +kernel) (by decide +kernel)
set_option maxRecDepth 20000 in
theorem gL_isStep_L_ended : GoodIn wsL_isStep (va_wsS RL 62 yL_ended wsL_ended) := goodIn_app (goodIn_of _ (by decide +kernel)) ggL_isStep_L_ended
set_option maxRecDepth 20000 in
theorem ggL_isStep_L_isEvent : GoodIn wsL_isStep wsL_isEvent := goodIn_r _ [251, 101, 102, 103, 13, 104, 15, 105, 106, 107, 108, 109, 110, 24, 111, 30, 31, 32, 33, 34, 35, 36, 37, 112, 113, 114, 115, 116, 117, 118, 119, 26, 27, 28, 29, 38, 39, 40, 41, 10, 11, 12, 14, 16, 17, 18, 19, 20, 21, 22, 23, 25, 42, 43, 44, 45, 46, 47, 48, 49, 246, 247, 7, 248, 252, 253, 254, 255, 56, 57, 58, 59, 60, 61, 62, 63, 64, 65, 66, 67, 68, 69, 70, 71, 72, 73, 256, 191, 192, 193, 194, 195, 196, 197, 198, 199, 200, 201, 202, 203, 204, 205, 206, 207, 208, 209, 210, 211, 212, 213, 214, 215, 216, 217, 218, 257, 258, 259, 260, 261, 262, 263, 264, 265, 266, 267, 268] (by decide +kernel) (by decide +kernel)
set_option maxRecDepth 20000 in
theorem gL_isStep_L_isEvent : GoodIn wsL_isStep (va_wsS RL 66 yL_isEvent wsL_isEvent) := goodIn_app (goodIn_of _ (by decide +kernel)) ggL_isStep_L_isEvent
set_option maxRecDepth 20000 in
theorem ggL_isEvent_X3_gate : GoodIn wsL_isEvent wsX3_gate := goodIn_r _ [5, 6, 7, 8, 4, 9, 10, 11, 12, 13, 14, 15, 16, 17, 18, 19, 20, 21, 22, 23, 24, 25, 26, 27, 28, 29, 30, 31, 32, 33, 34, 35, 36, 37, 38, 115, 116, 117, 118, 119, 120, 121] (by decide +kernel) (by decide +kernel)
set_option maxRecDepth 20000 in
theorem gL_isEvent_X3_gate : GoodIn wsL_isEvent (wsV RL 15 RX3 yX3_gate wsX3_gate) := goodIn_app (goodIn_of _ (by decide +kernel)) ggL_isEvent_X3_gate
set_option maxRecDepth 20000 in
theorem ggL_isEvent_X3_count : GoodIn wsL_isEvent wsX3_count := goodIn_r _ [42, 6, 43, 44, 45, 46, 47, 48, 49, 50, 13, 51, 31, 32, 33, 34, 15, 16, 17, 18, 19, 20, 21, 22, 35, 36, 37, 38, 52, 53, 54, 55, 56, 57, 58, 59, 115, 116, 117, 118, 119, 120, 121, 122, 123, 124, 125, 126] (by decide +kernel) (by decide +kernel)
set_option maxRecDepth 20000 in
theorem gL_isEvent_X3_count : GoodIn wsL_isEvent (wsV RL 19 RX3 yX3_count wsX3_count) := goodIn_app (goodIn_of _ (by decide +kernel)) ggL_isEvent_X3_count
set_option maxRecDepth 20000 in
theorem ggL_isEvent_L_ended : GoodIn wsL_isEvent wsL_ended := goodIn_r _ [63, 39, 40, 41, 4, 42, 6, 43, 44, 45, 46, 47, 48, 49, 50, 13, 51, 31, 32, 33, 34, 15, 16, 17, 18, 19, 20, 21, 22, 35, 36, 37, 38, 52, 53, 54, 55, 56, 57, 58, 59, 115, 116, 117, 118, 119, 120, 121, 122, 123, 124, 125, 126] (by decide +kernel) (by decide +kernel)
set_option maxRecDepth 20000 in
theorem gL_isEvent_L_ended : GoodIn wsL_isEvent (va_wsS RL 62 yL_ended wsL_ended) := goodIn_app (goodIn_of _ (by decide +kernel)) ggL_isEvent_L_ended
set_option maxRecDepth 20000 in
theorem ggL_isEvent_X3_event : GoodIn wsL_isEvent wsX3_event := goodIn_r _ [67, 46, 6, 43, 7, 8, 4, 9, 68, 69, 70, 71, 72, 73, 74, 75, 76, 77, 78, 79, 80, 81, 82, 83, 84, 85, 86, 87, 88, 13, 89, 15, 90, 20, 21, 22, 91, 92, 93, 94, 95, 96, 97, 98, 99, 100, 101, 102, 103, 104, 105, 106, 107, 108, 109, 110, 111, 112, 113, 114, 115, 116, 117, 118, 119, 120, 121, 124, 125, 126] (by decide +kernel) (by decide +kernel)
set_option maxRecDepth 20000 in
theorem gL_isEvent_X3_event : GoodIn wsL_isEvent (wsV RL 76 RX3 yX3_event wsX3_event) := goodIn_app (goodIn_of _ (by decide +kernel)) ggL_isEvent_X3_event
set_option maxRecDepth 20000 in
theorem ggL_areAlike_X3_untilBlocked : GoodIn wsL_areAlike wsX3_untilBlocked := goodIn_r _ [5, 6, 7, 8, 9, 10, 11, 12, 13, 14, 15, 16, 17, 18, 19, 20, 21, 22, 23, 24, 25, 26, 93, 94, 95, 96, 97, 98, 99] (by decide +kernel) (by decide +kernel)
set_option maxRecDepth 20000 in
theorem gL_areAlike_X3_untilBlocked : GoodIn wsL_areAlike (wsV RL 31 RX3 yX3_untilBlocked wsX3_untilBlocked) := goodIn_app (goodIn_of _ (by decide +kernel)) ggL_areAlike_X3_untilBlocked
set_option maxRecDepth 20000 in
theorem ggL_areAlike_X3_count : GoodIn wsL_areAlike wsX3_count := goodIn_r _ [30, 6, 7, 31, 32, 33, 34, 35, 36, 37, 11, 38, 39, 18, 19, 20, 13, 21, 9, 10, 12, 14, 15, 16, 22, 23, 24, 25, 40, 41, 42, 43, 44, 45, 46, 47, 93, 94, 95, 96, 97, 98, 99, 100, 101, 102, 103, 104] (by decide +kernel) (by decide +kernel)
set_option maxRecDepth 20000 in
theorem gL_areAlike_X3_count : GoodIn wsL_areAlike (wsV RL 19 RX3 yX3_count wsX3_count) := goodIn_app (goodIn_of _ (by decide +kernel)) ggL_areAlike_X3_count
set_option maxRecDepth 20000 in
theorem ggL_areAlike_X3_mean : GoodIn wsL_areAlike wsX3_mean := goodIn_r _ [51, 6, 52, 53, 4, 54, 55, 56, 57, 11, 58, 13, 14, 15, 16, 59, 60, 61, 62, 21, 9, 10, 12, 63, 64, 65, 66, 67, 68, 69, 70, 39, 18, 19, 20, 22, 23, 24, 25, 93, 94, 95, 96, 97, 98, 99] (by decide +kernel) (by decide +kernel)
set_option maxRecDepth 20000 in
theorem gL_areAlike_X3_mean : GoodIn wsL_areAlike (wsV RL 79 RX3 yX3_mean wsX3_mean) := goodIn_app (goodIn_of _ (by decide +kernel)) ggL_areAlike_X3_mean
set_option maxRecDepth 20000 in
theorem ggL_areAlike_X3_gate : GoodIn wsL_areAlike wsX3_gate := goodIn_r _ [74, 6, 52, 53, 4, 54, 59, 60, 61, 11, 62, 13, 21, 9, 10, 12, 14, 15, 16, 63, 64, 65, 66, 67, 68, 69, 70, 39, 18, 19, 20, 22, 23, 24, 25, 93, 94, 95, 96, 97, 98, 99] (by decide +kernel) (by decide +kernel)
set_option maxRecDepth 20000 in
theorem gL_areAlike_X3_gate : GoodIn wsL_areAlike (wsV RL 15 RX3 yX3_gate wsX3_gate) := goodIn_app (goodIn_of _ (by decide +kernel)) ggL_areAlike_X3_gate
set_option maxRecDepth 20000 in
theorem ggL_areAlike_X3_eventsTo : GoodIn wsL_areAlike wsX3_eventsTo := goodIn_r _ [78, 6, 79, 80, 81, 82, 52, 53, 4, 54, 8, 9, 10, 11, 12, 13, 14, 15, 16, 83, 64, 65, 66, 84, 68, 69, 70, 93, 94, 95, 96, 97, 98, 99] (by decide +kernel) (by decide +kernel)
set_option maxRecDepth 20000 in
theorem gL_areAlike_X3_eventsTo : GoodIn wsL_areAlike (wsV RL 82 RX3 yX3_eventsTo wsX3_eventsTo) := goodIn_app (goodIn_of _ (by decide +kernel)) ggL_areAlike_X3_eventsTo
set_option maxRecDepth 20000 in
theorem ggL_areAlike_X3_busiest : GoodIn wsL_areAlike wsX3_busiest := goodIn_r _ [88, 6, 55, 56, 57, 11, 58, 13, 14, 15, 16, 93, 94, 95, 96, 97, 98, 99] (by decide +kernel) (by decide +kernel)
set_option maxRecDepth 20000 in
theorem gL_areAlike_X3_busiest : GoodIn wsL_areAlike (wsV RL 85 RX3 yX3_busiest wsX3_busiest) := goodIn_app (goodIn_of _ (by decide +kernel)) ggL_areAlike_X3_busiest
set_option maxRecDepth 20000 in
theorem ggL_areAlike_L_through : GoodIn wsL_areAlike wsL_through := goodIn_r _ [92, 71, 72, 73, 4, 74, 6, 52, 53, 54, 59, 60, 61, 11, 62, 13, 21, 9, 10, 12, 14, 15, 16, 63, 64, 65, 66, 67, 68, 69, 70, 39, 18, 19, 20, 22, 23, 24, 25, 93, 94, 95, 96, 97, 98, 99] (by decide +kernel) (by decide +kernel)
set_option maxRecDepth 20000 in
theorem gL_areAlike_L_through : GoodIn wsL_areAlike (va_wsS RL 88 yL_through wsL_through) := goodIn_app (goodIn_of _ (by decide +kernel)) ggL_areAlike_L_through
set_option maxRecDepth 20000 in
theorem ggL_isWell_X3_count : GoodIn wsL_isWell wsX3_count := goodIn_r _ [6, 7, 8, 9, 10, 11, 12, 13, 14, 15, 16, 17, 18, 19, 20, 21, 22, 23, 24, 25, 26, 27, 28, 29, 30, 31, 32, 33, 34, 35, 36, 37, 38, 39, 40, 41, 73, 74, 75, 76, 77, 78, 79, 80, 81, 82, 83, 84] (by decide +kernel) (by decide +kernel)
set_option maxRecDepth 20000 in
theorem gL_isWell_X3_count : GoodIn wsL_isWell (wsV RL 19 RX3 yX3_count wsX3_count) := goodIn_app (goodIn_of _ (by decide +kernel)) ggL_isWell_X3_count
set_option maxRecDepth 20000 in
theorem ggL_isWell_X3_gate : GoodIn wsL_isWell wsX3_gate := goodIn_r _ [45, 7, 46, 47, 5, 48, 49, 50, 51, 16, 52, 22, 23, 24, 25, 26, 27, 28, 29, 53, 54, 55, 56, 57, 58, 59, 60, 18, 19, 20, 21, 30, 31, 32, 33, 73, 74, 75, 76, 77, 78, 79] (by decide +kernel) (by decide +kernel)
set_option maxRecDepth 20000 in
theorem gL_isWell_X3_gate : GoodIn wsL_isWell (wsV RL 15 RX3 yX3_gate wsX3_gate) := goodIn_app (goodIn_of _ (by decide +kernel)) ggL_isWell_X3_gate
set_option maxRecDepth 20000 in
theorem ggL_isWell_L_through : GoodIn wsL_isWell wsL_through := goodIn_r _ [64, 42, 43, 44, 5, 45, 7, 46, 47, 48, 49, 50, 51, 16, 52, 22, 23, 24, 25, 26, 27, 28, 29, 53, 54, 55, 56, 57, 58, 59, 60, 18, 19, 20, 21, 30, 31, 32, 33, 73, 74, 75, 76, 77, 78, 79] (by decide +kernel) (by decide +kernel)
set_option maxRecDepth 20000 in
theorem gL_isWell_L_through : GoodIn wsL_isWell (va_wsS RL 88 yL_through wsL_through) := goodIn_app (goodIn_of _ (by decide +kernel)) ggL_isWell_L_through
set_option maxRecDepth 20000 in
theorem ggL_isWell_X3_busiest : GoodIn wsL_isWell wsX3_busiest := goodIn_r _ [68, 7, 69, 70, 71, 16, 72, 22, 27, 28, 29, 73, 74, 75, 76, 77, 78, 79] (by decide +kernel) (by decide +kernel)
set_option maxRecDepth 20000 in
theorem gL_isWell_X3_busiest : GoodIn wsL_isWell (wsV RL 85 RX3 yX3_busiest wsX3_busiest) := goodIn_app (goodIn_of _ (by decide +kernel)) ggL_isWell_X3_busiest
set_option maxRecDepth 20000 in
theorem ggL_law_X3_init : GoodIn wsL_law wsX3_init := goodIn_r _ [5, 6, 7, 8, 9, 10, 11, 12, 13, 14, 15, 16, 17, 18, 19, 20, 21, 22, 23, 24, 25, 26, 27, 28, 29, 30, 31, 32, 33, 34, 35, 36, 37, 38, 39, 40, 41, 42, 43, 44, 45, 46, 47, 329, 323, 324, 325, 326, 327, 328, 330, 331, 332, 333, 334] (by decide +kernel) (by decide +kernel)
set_option maxRecDepth 20000 in
theorem gL_law_X3_init : GoodIn wsL_law (wsX3_init) := ggL_law_X3_init
set_option maxRecDepth 20000 in
theorem ggL_law_L_cell : GoodIn wsL_law wsL_cell := goodIn_r _ [51, 52] (by decide +kernel) (by decide +kernel)
set_option maxRecDepth 20000 in
theorem gL_law_L_cell : GoodIn wsL_law (va_wsS RL 93 yL_cell wsL_cell) := goodIn_app (goodIn_of _ (by decide +kernel)) ggL_law_L_cell
set_option maxRecDepth 20000 in
theorem ggL_law_L_isStep : GoodIn wsL_law wsL_isStep := goodIn_r _ [55, 56, 57, 58, 59, 60, 61, 50, 62, 63, 64, 65, 66, 2, 67, 12, 68, 17, 69, 21, 70, 71, 72, 73, 11, 74, 75, 76, 77, 78, 31, 79, 80, 81, 82, 32, 33, 34, 83, 84, 85, 86, 87, 88, 89, 90, 91, 92, 93, 94, 95, 96, 97, 98, 99, 100, 101, 102, 103, 20, 104, 45, 46, 47, 105, 106, 107, 108, 109, 110, 111, 112, 113, 114, 115, 116, 117, 118, 119, 120, 121, 122, 123, 124, 125, 126, 127, 128, 129, 130, 131, 132, 133, 134, 135, 136, 137, 138, 139, 140, 141, 142, 143, 144, 145, 146, 147, 148, 149, 150, 151, 152, 153, 154, 155, 156, 157, 158, 159, 160, 161, 162, 163, 164, 165, 166, 167, 16, 168, 40, 169, 170, 171, 172, 173, 174, 175, 176, 177, 178, 179, 180, 181, 182, 183, 184, 39, 185, 186, 187, 188, 189, 190, 191, 192, 193, 194, 195, 196, 197, 198, 199, 200, 201, 202, 203, 204, 205, 206, 207, 208, 209, 210, 211, 212, 213, 214, 215, 216, 217, 218, 219, 220, 221, 222, 223, 224, 225, 226, 227, 228, 229, 230, 231, 232, 233, 234, 235, 236, 237, 238, 239, 240, 241, 242, 243, 244, 245, 246, 247, 248, 249, 250, 251, 252, 253, 254, 255, 256, 257, 258, 259, 260, 261, 262, 263, 264, 265, 266, 267, 268, 269, 270, 271, 272, 273, 24, 26, 274, 275, 276, 277, 278, 279, 280, 281, 282, 283, 284, 285, 286, 287, 288, 289, 290, 291, 292, 323, 324, 325, 326, 327, 328, 329, 330, 331, 332, 333, 334] (by decide +kernel) (by decide +kernel)
set_option maxRecDepth 20000 in
theorem gL_law_L_isStep : GoodIn wsL_law (va_wsS RL 97 yL_isStep wsL_isStep) := goodIn_app (goodIn_of _ (by decide +kernel)) ggL_law_L_isStep
set_option maxRecDepth 20000 in
theorem ggL_law_L_isWell : GoodIn wsL_law wsL_isWell := goodIn_r _ [295, 23, 64, 65, 66, 2, 67, 12, 68, 17, 69, 21, 70, 71, 72, 73, 11, 74, 75, 76, 77, 78, 31, 79, 80, 81, 82, 32, 33, 34, 83, 84, 85, 86, 87, 88, 89, 90, 91, 92, 93, 94, 142, 143, 144, 145, 146, 147, 148, 149, 150, 151, 152, 153, 154, 155, 156, 157, 158, 159, 160, 296, 297, 50, 298, 299, 300, 301, 302, 303, 304, 305, 306, 323, 324, 325, 326, 327, 328, 329, 330, 331, 332, 333, 334] (by decide +kernel) (by decide +kernel)
set_option maxRecDepth 20000 in
theorem gL_law_L_isWell : GoodIn wsL_law (va_wsS RL 101 yL_isWell wsL_isWell) := goodIn_app (goodIn_of _ (by decide +kernel)) ggL_law_L_isWell
set_option maxRecDepth 20000 in
theorem ggL_law_L_areAlike : GoodIn wsL_law wsL_areAlike := goodIn_r _ [309, 115, 116, 117, 2, 118, 12, 68, 119, 80, 81, 11, 82, 31, 32, 33, 34, 120, 76, 77, 78, 79, 83, 84, 85, 86, 121, 64, 65, 66, 67, 17, 69, 21, 70, 71, 72, 73, 74, 75, 87, 88, 89, 90, 91, 92, 93, 94, 310, 311, 312, 313, 146, 147, 148, 303, 304, 305, 306, 149, 150, 151, 152, 153, 154, 155, 156, 157, 158, 159, 160, 142, 143, 144, 145, 314, 315, 316, 317, 318, 319, 107, 320, 321, 322, 299, 300, 301, 302, 296, 297, 50, 298, 323, 324, 325, 326, 327, 328, 329, 330, 331, 332, 333, 334] (by decide +kernel) (by decide +kernel)
set_option maxRecDepth 20000 in
theorem gL_law_L_areAlike : GoodIn wsL_law (va_wsS RL 105 yL_areAlike wsL_areAlike) := goodIn_app (goodIn_of _ (by decide +kernel)) ggL_law_L_areAlike
