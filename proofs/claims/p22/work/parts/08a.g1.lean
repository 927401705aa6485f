set_option maxRecDepth 20000 in
theorem ggL_number_X3_put : GoodIn wsL_number wsX3_put := goodIn_r _ [5, 6, 7, 8, 9, 10, 11, 12, 13, 14, 15, 16, 17, 18, 19, 20, 21, 22, 23, 24, 25, 26, 27, 28, 29, 30] (by decide +kernel) (by decide +kernel)
set_option maxRecDepth 20000 in
theorem gL_number_X3_put : GoodIn wsL_number (wsV RL 9 RX3 yX3_put wsX3_put) := goodIn_app (goodIn_of _ (by decide +kernel)) ggL_number_X3_put
set_option maxRecDepth 20000 in
theorem ggL_through_X3_gate : GoodIn wsL_through wsX3_gate := goodIn_r _ [5, 6, 7, 8, 4, 9, 10, 11, 12, 13, 14, 15, 16, 17, 18, 19, 20, 21, 22, 23, 24, 25, 26, 27, 28, 29, 30, 31, 32, 33, 34, 35, 36, 37, 38, 39, 40, 41, 42, 43, 44, 45] (by decide +kernel) (by decide +kernel)
set_option maxRecDepth 20000 in
theorem gL_through_X3_gate : GoodIn wsL_through (wsV RL 15 RX3 yX3_gate wsX3_gate) := goodIn_app (goodIn_of _ (by decide +kernel)) ggL_through_X3_gate
set_option maxRecDepth 20000 in
theorem ggL_ended_X3_count : GoodIn wsL_ended wsX3_count := goodIn_r _ [5, 6, 7, 8, 9, 10, 11, 12, 13, 14, 15, 16, 17, 18, 19, 20, 21, 22, 23, 24, 25, 26, 27, 28, 29, 30, 31, 32, 33, 34, 35, 36, 37, 38, 39, 40, 41, 42, 43, 44, 45, 46, 47, 48, 49, 50, 51, 52] (by decide +kernel) (by decide +kernel)
set_option maxRecDepth 20000 in
theorem gL_ended_X3_count : GoodIn wsL_ended (wsV RL 19 RX3 yX3_count wsX3_count) := goodIn_app (goodIn_of _ (by decide +kernel)) ggL_ended_X3_count
set_option maxRecDepth 20000 in
theorem ggL_isEvent_X3_gate : GoodIn wsL_isEvent wsX3_gate := goodIn_r _ [5, 6, 7, 8, 4, 9, 10, 11, 12, 13, 14, 15, 16, 17, 18, 19, 20, 21, 22, 23, 24, 25, 26, 27, 28, 29, 30, 31, 32, 33, 34, 35, 36, 37, 38, 115, 116, 117, 118, 119, 120, 121] (by decide +kernel) (by decide +kernel)
set_option maxRecDepth 20000 in
theorem gL_isEvent_X3_gate : GoodIn wsL_isEvent (wsV RL 15 RX3 yX3_gate wsX3_gate) := goodIn_app (goodIn_of _ (by decide +kernel)) ggL_isEvent_X3_gate
set_option maxRecDepth 20000 in
theorem ggL_isEvent_X3_count : GoodIn wsL_isEvent wsX3_count := goodIn_r _ [42, 6, 43, 44, 45, 46, 47, 48, 49, 50, 13, 51, 31, 32, 33, 34, 15, 16, 17, 18, 19, 20, 21, 22, 35, 36, 37, 38, 52, 53, 54, 55, 56, 57, 58, 59, 115, 116, 117, 118, 119, 120, 121, 122, 123, 124, 125, 126] (by decide +kernel) (by decide +kernel)
set_option maxRecDepth 20000 in
theorem gL_isEvent_X3_count : GoodIn wsL_isEvent (wsV RL 19 RX3 yX3_count wsX3_count) := goodIn_app (goodIn_of _ (by decide +kernel)) ggL_isEvent_X3_count
set_option maxRecDepth 20000 in
theorem ggL_isEvent_L_ended : GoodIn wsL_isEvent wsL_ended := goodIn_r _ [63, 39, 40, 41, 4, 42, 6, 43, 44, 45, 46, 47, 48, 49, 50, 13, 51, 31, 32, 33, 34, 15, 16, 17, 18, 19, 20, 21, 22, 35, 36, 37, 38, 52, 53, 54, 55, 56, 57, 58, 59, 115, 116, 117, 118, 119, 120, 121, 122, 123, 124, 125, 126] (by decide +kernel) (by decide +kernel)
set_option maxRecDepth 20000 in
theorem gL_isEvent_L_ended : GoodIn wsL_isEvent (va_wsS RL 62 yL_ended wsL_ended) := goodIn_app (goodIn_of _ (by decide +kernel)) ggL_isEvent_L_ended
set_option maxRecDepth 20000 in
theorem ggL_isEvent_X3_event : GoodIn wsL_isEvent wsX3_event := goodIn_r _ [67, 46, 6, 43, 7, 8, 4, 9, 68, 69, 70, 71, 72, 73, 74, 75, 76, 77, 78, 79, 80, 81, 82, 83, 84, 85, 86, 87, 88, 13, 89, 15, 90, 20, 21, 22, 91, 92, 93, 94, 95, 96, 97, 98, 99, 100, 101, 102, 103, 104, 105, 106, 107, 108, 109, 110, 111, 112, 113, 114, 115, 116, 117, 118, 119, 120, 121, 124, 125, 126] (by decide +kernel) (by decide +kernel)
set_option maxRecDepth 20000 in
theorem gL_isEvent_X3_event : GoodIn wsL_isEvent (wsV RL 76 RX3 yX3_event wsX3_event) := goodIn_app (goodIn_of _ (by decide +kernel)) ggL_isEvent_X3_event
set_option maxRecDepth 20000 in
theorem ggL_areAlike_X3_untilBlocked : GoodIn wsL_areAlike wsX3_untilBlocked := goodIn_r _ [5, 6, 7, 8, 9, 10, 11, 12, 13, 14, 15, 16, 17, 18, 19, 20, 21, 22, 23, 24, 25, 26, 93, 94, 95, 96, 97, 98, 99] (by decide +kernel) (by decide +kernel)
set_option maxRecDepth 20000 in
theorem gL_areAlike_X3_untilBlocked : GoodIn wsL_areAlike (wsV RL 31 RX3 yX3_untilBlocked wsX3_untilBlocked) := goodIn_app (goodIn_of _ (by decide +kernel)) ggL_areAlike_X3_untilBlocked
set_option maxRecDepth 20000 in
theorem ggL_areAlike_X3_count : GoodIn wsL_areAlike wsX3_count := goodIn_r _ [30, 6, 7, 31, 32, 33, 34, 35, 36, 37, 11, 38, 39, 18, 19, 20, 13, 21, 9, 10, 12, 14, 15, 16, 22, 23, 24, 25, 40, 41, 42, 43, 44, 45, 46, 47, 93, 94, 95, 96, 97, 98, 99, 100, 101, 102, 103, 104] (by decide +kernel) (by decide +kernel)
set_option maxRecDepth 20000 in
theorem gL_areAlike_X3_count : GoodIn wsL_areAlike (wsV RL 19 RX3 yX3_count wsX3_count) := goodIn_app (goodIn_of _ (by decide +kernel)) ggL_areAlike_X3_count
set_option maxRecDepth 20000 in
theorem ggL_areAlike_X3_mean : GoodIn wsL_areAlike wsX3_mean := goodIn_r _ [51, 6, 52, 53, 4, 54, 55, 56, 57, 11, 58, 13, 14, 15, 16, 59, 60, 61, 62, 21, 9, 10, 12, 63, 64, 65, 66, 67, 68, 69, 70, 39, 18, 19, 20, 22, 23, 24, 25, 93, 94, 95, 96, 97, 98, 99] (by decide +kernel) (by decide +kernel)
set_option maxRecDepth 20000 in
theorem gL_areAlike_X3_mean : GoodIn wsL_areAlike (wsV RL 79 RX3 yX3_mean wsX3_mean) := goodIn_app (goodIn_of _ (by decide +kernel)) ggL_areAlike_X3_mean
set_option maxRecDepth 20000 in
theorem ggL_areAlike_X3_gate : GoodIn wsL_areAlike wsX3_gate := goodIn_r _ [74, 6, 52, 53, 4, 54, 59, 60, 61, 11, 62, 13, 21, 9, 10, 12, 14, 15, 16, 63, 64, 65, 66, 67, 68, 69, 70, 39, 18, 19, 20, 22, 23, 24, 25, 93, 94, 95, 96, 97, 98, 99] (by decide +kernel) (by decide +kernel)
set_option maxRecDepth 20000 in
theorem gL_areAlike_X3_gate : GoodIn wsL_areAlike (wsV RL 15 RX3 yX3_gate wsX3_gate) := goodIn_app (goodIn_of _ (by decide +kernel)) ggL_areAlike_X3_gate
set_option maxRecDepth 20000 in
theorem ggL_areAlike_X3_eventsTo : GoodIn wsL_areAlike wsX3_eventsTo := goodIn_r _ [78, 6, 79, 80, 81, 82, 52, 53, 4, 54, 8, 9, 10, 11, 12, 13, 14, 15, 16, 83, 64, 65, 66, 84, 68, 69, 70, 93, 94, 95, 96, 97, 98, 99] (by decide +kernel) (by decide +kernel)
set_option maxRecDepth 20000 in
theorem gL_areAlike_X3_eventsTo : GoodIn wsL_areAlike (wsV RL 82 RX3 yX3_eventsTo wsX3_eventsTo) := goodIn_app (goodIn_of _ (by decide +kernel)) ggL_areAlike_X3_eventsTo
set_option maxRecDepth 20000 in
theorem ggL_areAlike_X3_busiest : GoodIn wsL_areAlike wsX3_busiest := goodIn_r _ [88, 6, 55, 56, 57, 11, 58, 13, 14, 15, 16, 93, 94, 95, 96, 97, 98, 99] (by decide +kernel) (by decide +kernel)
set_option maxRecDepth 20000 in
theorem gL_areAlike_X3_busiest : GoodIn wsL_areAlike (wsV RL 85 RX3 yX3_busiest wsX3_busiest) := goodIn_app (goodIn_of _ (by decide +kernel)) ggL_areAlike_X3_busiest
set_option maxRecDepth 20000 in
theorem ggL_areAlike_L_through : GoodIn wsL_areAlike wsL_through := goodIn_r _ [92, 71, 72, 73, 4, 74, 6, 52, 53, 54, 59, 60, 61, 11, 62, 13, 21, 9, 10, 12, 14, 15, 16, 63, 64, 65, 66, 67, 68, 69, 70, 39, 18, 19, 20, 22, 23, 24, 25, 93, 94, 95, 96, 97, 98, 99] (by decide +kernel) (by decide +kernel)
set_option maxRecDepth 20000 in
theorem gL_areAlike_L_through : GoodIn wsL_areAlike (va_wsS RL 88 yL_through wsL_through) := goodIn_app (goodIn_of _ (by decide +kernel)) ggL_areAlike_L_through
set_option maxRecDepth 20000 in
theorem ggL_isWell_X3_count : GoodIn wsL_isWell wsX3_count := goodIn_r _ [6, 7, 8, 9, 10, 11, 12, 13, 14, 15, 16, 17, 18, 19, 20, 21, 22, 23, 24, 25, 26, 27, 28, 29, 30, 31, 32, 33, 34, 35, 36, 37, 38, 39, 40, 41, 73, 74, 75, 76, 77, 78, 79, 80, 81, 82, 83, 84] (by decide +kernel) (by decide +kernel)
set_option maxRecDepth 20000 in
theorem gL_isWell_X3_count : GoodIn wsL_isWell (wsV RL 19 RX3 yX3_count wsX3_count) := goodIn_app (goodIn_of _ (by decide +kernel)) ggL_isWell_X3_count
set_option maxRecDepth 20000 in
theorem ggL_isWell_X3_gate : GoodIn wsL_isWell wsX3_gate := goodIn_r _ [45, 7, 46, 47, 5, 48, 49, 50, 51, 16, 52, 22, 23, 24, 25, 26, 27, 28, 29, 53, 54, 55, 56, 57, 58, 59, 60, 18, 19, 20, 21, 30, 31, 32, 33, 73, 74, 75, 76, 77, 78, 79] (by decide +kernel) (by decide +kernel)
set_option maxRecDepth 20000 in
theorem gL_isWell_X3_gate : GoodIn wsL_isWell (wsV RL 15 RX3 yX3_gate wsX3_gate) := goodIn_app (goodIn_of _ (by decide +kernel)) ggL_isWell_X3_gate
set_option maxRecDepth 20000 in
theorem ggL_isWell_L_through : GoodIn wsL_isWell wsL_through := goodIn_r _ [64, 42, 43, 44, 5, 45, 7, 46, 47, 48, 49, 50, 51, 16, 52, 22, 23, 24, 25, 26, 27, 28, 29, 53, 54, 55, 56, 57, 58, 59, 60, 18, 19, 20, 21, 30, 31, 32, 33, 73, 74, 75, 76, 77, 78, 79] (by decide +kernel) (by decide +kernel)
set_option maxRecDepth 20000 in
theorem gL_isWell_L_through : GoodIn wsL_isWell (va_wsS RL 88 yL_through wsL_through) := goodIn_app (goodIn_of _ (by decide +kernel)) ggL_isWell_L_through
set_option maxRecDepth 20000 in
theorem ggL_isWell_X3_busiest : GoodIn wsL_isWell wsX3_busiest := goodIn_r _ [68, 7, 69, 70, 71, 16, 72, 22, 27, 28, 29, 73, 74, 75, 76, 77, 78, 79] (by decide +kernel) (by decide +kernel)
set_option maxRecDepth 20000 in
theorem gL_isWell_X3_busiest : GoodIn wsL_isWell (wsV RL 85 RX3 yX3_busiest wsX3_busiest) := goodIn_app (goodIn_of _ (by decide +kernel)) ggL_isWell_X3_busiest
