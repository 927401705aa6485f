set_option maxRecDepth 20000 in
theorem ggL_isStep_L_up : GoodIn wsL_isStep wsL_up := goodIn_r _ [8, 9] (by decide +kernel) (by decide +kernel)
set_option maxRecDepth 20000 in
theorem gL_isStep_L_up : GoodIn wsL_isStep (va_wsS RL 23 yL_up wsL_up) := goodIn_app (goodIn_of _ (by decide +kernel)) ggL_isStep_L_up
set_option maxRecDepth 20000 in
theorem ggL_isStep_X3_count : GoodIn wsL_isStep wsX3_count := goodIn_r _ [14, 15, 16, 17, 18, 19, 20, 21, 22, 23, 24, 25, 26, 27, 28, 29, 30, 31, 32, 33, 34, 35, 36, 37, 38, 39, 40, 41, 42, 43, 44, 45, 46, 47, 48, 49, 257, 258, 259, 260, 261, 262, 263, 264, 265, 266, 267, 268] (by decide +kernel) (by decide +kernel)
set_option maxRecDepth 20000 in
theorem gL_isStep_X3_count : GoodIn wsL_isStep (wsV RL 19 RX3 yX3_count wsX3_count) := goodIn_app (goodIn_of _ (by decide +kernel)) ggL_isStep_X3_count
set_option maxRecDepth 20000 in
theorem ggL_isStep_X3_set : GoodIn wsL_isStep wsX3_set := goodIn_r _ [53, 54, 55, 19, 15, 16, 56, 57, 58, 59, 60, 61, 62, 63, 64, 65, 66, 67, 68, 13, 69, 70, 71, 72, 73, 257, 258, 259, 260, 261, 262, 263, 266, 267, 268] (by decide +kernel) (by decide +kernel)
set_option maxRecDepth 20000 in
theorem gL_isStep_X3_set : GoodIn wsL_isStep (wsV RL 28 RX3 yX3_set wsX3_set) := goodIn_app (goodIn_of _ (by decide +kernel)) ggL_isStep_X3_set
set_option maxRecDepth 20000 in
theorem ggL_isStep_X3_untilBlocked : GoodIn wsL_isStep wsX3_untilBlocked := goodIn_r _ [77, 15, 16, 78, 32, 33, 24, 34, 30, 35, 36, 37, 79, 27, 28, 29, 31, 38, 39, 40, 41, 80, 257, 258, 259, 260, 261, 262, 263] (by decide +kernel) (by decide +kernel)
set_option maxRecDepth 20000 in
theorem gL_isStep_X3_untilBlocked : GoodIn wsL_isStep (wsV RL 31 RX3 yX3_untilBlocked wsX3_untilBlocked) := goodIn_app (goodIn_of _ (by decide +kernel)) ggL_isStep_X3_untilBlocked
set_option maxRecDepth 20000 in
theorem ggL_isStep_X3_pass : GoodIn wsL_isStep wsX3_pass := goodIn_r _ [84, 15, 19, 16, 85, 86, 87, 24, 88, 30, 89, 56, 57, 58, 59, 60, 61, 62, 63, 64, 65, 66, 67, 68, 13, 69, 70, 71, 72, 73, 90, 91, 92, 93, 21, 22, 23, 25, 26, 27, 28, 29, 31, 32, 33, 34, 35, 36, 37, 38, 39, 40, 41, 94, 95, 96, 97, 98, 99, 100, 257, 258, 259, 260, 261, 262, 263, 266, 267, 268] (by decide +kernel) (by decide +kernel)
set_option maxRecDepth 20000 in
theorem gL_isStep_X3_pass : GoodIn wsL_isStep (wsV RL 35 RX3 yX3_pass wsX3_pass) := goodIn_app (goodIn_of _ (by decide +kernel)) ggL_isStep_X3_pass
set_option maxRecDepth 20000 in
theorem ggL_isStep_X3_gate : GoodIn wsL_isStep wsX3_gate := goodIn_r _ [104, 15, 105, 106, 13, 107, 108, 109, 110, 24, 111, 30, 31, 32, 33, 34, 35, 36, 37, 112, 113, 114, 115, 116, 117, 118, 119, 26, 27, 28, 29, 38, 39, 40, 41, 257, 258, 259, 260, 261, 262, 263] (by decide +kernel) (by decide +kernel)
set_option maxRecDepth 20000 in
theorem gL_isStep_X3_gate : GoodIn wsL_isStep (wsV RL 15 RX3 yX3_gate wsX3_gate) := goodIn_app (goodIn_of _ (by decide +kernel)) ggL_isStep_X3_gate
set_option maxRecDepth 20000 in
theorem ggL_isStep_X3_wipe : GoodIn wsL_isStep wsX3_wipe := goodIn_r _ [123, 17, 18, 124, 125, 126, 127, 128, 129, 257, 258, 259, 260, 261, 262, 264, 265] (by decide +kernel) (by decide +kernel)
set_option maxRecDepth 20000 in
theorem gL_isStep_X3_wipe : GoodIn wsL_isStep (wsV RL 38 RX3 yX3_wipe wsX3_wipe) := goodIn_app (goodIn_of _ (by decide +kernel)) ggL_isStep_X3_wipe
set_option maxRecDepth 20000 in
theorem ggL_isStep_X3_put : GoodIn wsL_isStep wsX3_put := goodIn_r _ [133, 17, 18, 134, 135, 127, 136, 137, 138, 139, 140, 141, 129, 142, 143, 144, 145, 146, 257, 258, 259, 260, 261, 262, 264, 265] (by decide +kernel) (by decide +kernel)
set_option maxRecDepth 20000 in
theorem gL_isStep_X3_put : GoodIn wsL_isStep (wsV RL 9 RX3 yX3_put wsX3_put) := goodIn_app (goodIn_of _ (by decide +kernel)) ggL_isStep_X3_put
