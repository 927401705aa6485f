set_option maxRecDepth 20000 in
theorem ggL_isStep_L_number : GoodIn wsL_isStep wsL_number := goodIn_r _ [149, 130, 131, 132, 13, 133, 17, 18, 134, 135, 127, 136, 137, 138, 139, 140, 141, 129, 142, 143, 144, 145, 146, 257, 258, 259, 260, 261, 262, 264, 265] (by decide +kernel) (by decide +kernel)
set_option maxRecDepth 20000 in
theorem gL_isStep_L_number : GoodIn wsL_isStep (va_wsS RL 43 yL_number wsL_number) := goodIn_app (goodIn_of _ (by decide +kernel)) ggL_isStep_L_number
set_option maxRecDepth 20000 in
theorem ggL_isStep_X3_read : GoodIn wsL_isStep wsX3_read := goodIn_r _ [153, 17, 19, 15, 16, 154, 155, 156, 127, 157, 129, 146, 158, 159, 160, 161, 162, 163, 164, 165, 166, 167, 168, 169, 170, 171, 172, 56, 57, 58, 59, 60, 61, 62, 63, 64, 65, 66, 67, 68, 13, 69, 70, 71, 72, 73, 173, 174, 175, 176, 177, 178, 179, 180, 181, 182, 183, 184, 86, 87, 24, 88, 30, 89, 185, 91, 92, 93, 186, 187, 188, 189, 106, 107, 190, 191, 192, 193, 194, 35, 36, 37, 195, 196, 197, 198, 199, 200, 201, 202, 203, 204, 205, 206, 207, 208, 209, 210, 211, 212, 213, 214, 215, 216, 217, 218, 124, 125, 126, 128, 257, 258, 259, 260, 261, 262, 263, 264, 265, 266, 267, 268] (by decide +kernel) (by decide +kernel)
set_option maxRecDepth 20000 in
theorem gL_isStep_X3_read : GoodIn wsL_isStep (wsV RL 47 RX3 yX3_read wsX3_read) := goodIn_app (goodIn_of _ (by decide +kernel)) ggL_isStep_X3_read
set_option maxRecDepth 20000 in
theorem ggL_isStep_X3_correct : GoodIn wsL_isStep wsX3_correct := goodIn_r _ [222, 19, 15, 16, 56, 57, 58, 59, 60, 61, 62, 63, 64, 65, 66, 67, 68, 13, 69, 70, 71, 72, 73, 223, 212, 213, 24, 214, 30, 257, 258, 259, 260, 261, 262, 263, 266, 267, 268] (by decide +kernel) (by decide +kernel)
set_option maxRecDepth 20000 in
theorem gL_isStep_X3_correct : GoodIn wsL_isStep (wsV RL 50 RX3 yX3_correct wsX3_correct) := goodIn_app (goodIn_of _ (by decide +kernel)) ggL_isStep_X3_correct
set_option maxRecDepth 20000 in
theorem ggL_isStep_X3_clear : GoodIn wsL_isStep wsX3_clear := goodIn_r _ [227, 15, 19, 16, 105, 106, 13, 107, 78, 32, 33, 24, 34, 30, 35, 36, 37, 56, 57, 58, 59, 60, 61, 62, 63, 64, 65, 66, 67, 68, 69, 70, 71, 72, 73, 228, 229, 230, 231, 199, 200, 201, 202, 203, 204, 205, 206, 207, 208, 209, 210, 211, 212, 213, 214, 215, 216, 217, 218, 257, 258, 259, 260, 261, 262, 263, 266, 267, 268] (by decide +kernel) (by decide +kernel)
set_option maxRecDepth 20000 in
theorem gL_isStep_X3_clear : GoodIn wsL_isStep (wsV RL 53 RX3 yX3_clear wsX3_clear) := goodIn_app (goodIn_of _ (by decide +kernel)) ggL_isStep_X3_clear
set_option maxRecDepth 20000 in
theorem ggL_isStep_X3_save : GoodIn wsL_isStep wsX3_save := goodIn_r _ [235, 15, 16, 236, 237, 238, 239, 13, 240, 241, 68, 69, 70, 71, 72, 73, 257, 258, 259, 260, 261, 262, 263] (by decide +kernel) (by decide +kernel)
set_option maxRecDepth 20000 in
theorem gL_isStep_X3_save : GoodIn wsL_isStep (wsV RL 56 RX3 yX3_save wsX3_save) := goodIn_app (goodIn_of _ (by decide +kernel)) ggL_isStep_X3_save
set_option maxRecDepth 20000 in
theorem ggL_isStep_X3_restore : GoodIn wsL_isStep wsX3_restore := goodIn_r _ [245, 237, 19, 15, 16, 236, 238, 239, 13, 240, 56, 57, 58, 59, 60, 61, 62, 63, 64, 65, 66, 67, 68, 69, 70, 71, 72, 73, 241, 257, 258, 259, 260, 261, 262, 263, 266, 267, 268] (by decide +kernel) (by decide +kernel)
set_option maxRecDepth 20000 in
theorem gL_isStep_X3_restore : GoodIn wsL_isStep (wsV RL 59 RX3 yX3_restore wsX3_restore) := goodIn_app (goodIn_of _ (by decide +kernel)) ggL_isStep_X3_restore
set_option maxRecDepth 20000 in
theorem ggL_isStep_L_ended : GoodIn wsL_isStep wsL_ended := goodIn_r _ [248, 10, 11, 12, 13, 14, 15, 16, 17, 18, 19, 20, 21, 22, 23, 24, 25, 26, 27, 28, 29, 30, 31, 32, 33, 34, 35, 36, 37, 38, 39, 40, 41, 42, 43, 44, 45, 46, 47, 48, 49, 257, 258, 259, 260, 261, 262, 263, 264, 265, 266, 267, 268] (by decide +kernel) (by decide +kernel)
set_option maxRecDepth 20000 in
theorem gL_isStep_L_ended : GoodIn wsL_isStep (va_wsS RL 62 yL_ended wsL_ended) := goodIn_app (goodIn_of _ (by decide +kernel)) ggL_isStep_L_ended
set_option maxRecDepth 20000 in
theorem ggL_isStep_L_isEvent_p0 : GoodIn wsL_isStep (Cond.code yL_isEvent cL_isEvent 19 (some .boolean) :: wsL_isEvent_r1) := goodIn_r _ [251, 101, 102, 103, 13, 104, 15, 105, 106, 107, 108, 109, 110, 24, 111, 30, 31, 32, 33, 34, 35, 36, 37, 112, 113] (by decide +kernel) (by decide +kernel)
set_option maxRecDepth 20000 in
theorem ggL_isStep_L_isEvent_p1 : GoodIn wsL_isStep (wsL_isEvent_r2) := goodIn_r _ [114, 115, 116, 117, 118, 119, 26, 27, 28, 29, 38, 39, 40, 41, 10, 11, 12, 14, 16, 17, 18, 19, 20, 21] (by decide +kernel) (by decide +kernel)
set_option maxRecDepth 20000 in
theorem ggL_isStep_L_isEvent_p2 : GoodIn wsL_isStep (wsL_isEvent_r3) := goodIn_r _ [22, 23, 25, 42, 43, 44, 45, 46, 47, 48, 49, 246, 247, 7, 248, 252, 253, 254, 255, 56, 57, 58, 59, 60] (by decide +kernel) (by decide +kernel)
set_option maxRecDepth 20000 in
theorem ggL_isStep_L_isEvent_p3 : GoodIn wsL_isStep (wsL_isEvent_r4) := goodIn_r _ [61, 62, 63, 64, 65, 66, 67, 68, 69, 70, 71, 72, 73, 256, 191, 192, 193, 194, 195, 196, 197, 198, 199, 200] (by decide +kernel) (by decide +kernel)
set_option maxRecDepth 20000 in
theorem ggL_isStep_L_isEvent_p4 : GoodIn wsL_isStep (wsL_isEvent_r5) := goodIn_r _ [201, 202, 203, 204, 205, 206, 207, 208, 209, 210, 211, 212, 213, 214, 215, 216, 217, 218] (by decide +kernel) (by decide +kernel)
set_option maxRecDepth 20000 in
theorem ggL_isStep_L_isEvent_p5 : GoodIn wsL_isStep (wsX30) := goodIn_r _ [257, 258, 259, 260, 261, 262] (by decide +kernel) (by decide +kernel)
set_option maxRecDepth 20000 in
theorem ggL_isStep_L_isEvent_p6 : GoodIn wsL_isStep (wsX00) := goodIn_r _ [263] (by decide +kernel) (by decide +kernel)
set_option maxRecDepth 20000 in
theorem ggL_isStep_L_isEvent_p7 : GoodIn wsL_isStep (wsX20) := goodIn_r _ [264, 265] (by decide +kernel) (by decide +kernel)
set_option maxRecDepth 20000 in
theorem ggL_isStep_L_isEvent_p8 : GoodIn wsL_isStep (wsX10) := goodIn_r _ [266, 267, 268] (by decide +kernel) (by decide +kernel)
theorem ggL_isStep_L_isEvent : GoodIn wsL_isStep wsL_isEvent := (goodIn_ca (goodIn_ca (goodIn_ca (goodIn_ca (goodIn_ca ggL_isStep_L_isEvent_p0 (goodIn_app ggL_isStep_L_isEvent_p1 (goodIn_app ggL_isStep_L_isEvent_p2 (goodIn_app ggL_isStep_L_isEvent_p3 ggL_isStep_L_isEvent_p4)))) ggL_isStep_L_isEvent_p5) ggL_isStep_L_isEvent_p6) ggL_isStep_L_isEvent_p7) ggL_isStep_L_isEvent_p8)
set_option maxRecDepth 20000 in
theorem gL_isStep_L_isEvent : GoodIn wsL_isStep (va_wsS RL 66 yL_isEvent wsL_isEvent) := goodIn_app (goodIn_of _ (by decide +kernel)) ggL_isStep_L_isEvent
