set_option maxRecDepth 20000 in
theorem ggL_law_L_low : GoodIn wsL_law wsL_low := goodIn_r _ [72, 73] (by decide +kernel) (by decide +kernel)
set_option maxRecDepth 20000 in
theorem gL_law_L_low : GoodIn wsL_law (va_wsS RL 8 yL_low wsL_low) := goodIn_app (goodIn_of _ (by decide +kernel)) ggL_law_L_low
set_option maxRecDepth 20000 in
theorem ggL_law_X5_hitShare : GoodIn wsL_law wsX5_hitShare := goodIn_r _ [280, 12, 360, 361, 362, 363, 364, 365, 366, 367, 368, 369, 370, 371, 372, 373, 374, 375, 376, 377] (by decide +kernel) (by decide +kernel)
set_option maxRecDepth 20000 in
theorem gL_law_X5_hitShare : GoodIn wsL_law (wsV RL 107 RX5 yX5_hitShare wsX5_hitShare) := goodIn_app (goodIn_of _ (by decide +kernel)) ggL_law_X5_hitShare
set_option maxRecDepth 20000 in
theorem ggL_law_L_refusals : GoodIn wsL_law wsL_refusals := goodIn_ca (goodIn_r _ [283, 284, 285, 286, 2, 287, 12, 81, 82, 83, 268, 269, 270, 271, 272, 203, 171, 172, 32, 173, 43, 42, 360, 361, 362, 363, 364, 365, 366, 367, 368, 369, 370, 371, 372, 373, 374, 375, 376, 377, 387, 388] (by decide +kernel) (by decide +kernel)) (goodIn_sub (fun _ h => List.mem_append_right _ h) (by decide +kernel))
set_option maxRecDepth 20000 in
theorem gL_law_L_refusals : GoodIn wsL_law (va_wsS RL 76 yL_refusals wsL_refusals) := goodIn_app (goodIn_of _ (by decide +kernel)) ggL_law_L_refusals
set_option maxRecDepth 20000 in
theorem ggL_law_X5_presses : GoodIn wsL_law wsX5_presses := goodIn_r _ [291, 12, 360, 361, 362, 363, 364, 365, 366, 367, 368, 369, 370, 371, 372, 373, 374, 375, 376, 377] (by decide +kernel) (by decide +kernel)
set_option maxRecDepth 20000 in
theorem gL_law_X5_presses : GoodIn wsL_law (wsV RL 61 RX5 yX5_presses wsX5_presses) := goodIn_app (goodIn_of _ (by decide +kernel)) ggL_law_X5_presses
set_option maxRecDepth 20000 in
theorem ggL_law_X5_received : GoodIn wsL_law wsX5_received := goodIn_r _ [295, 12, 360, 361, 362, 363, 364, 365, 366, 367, 368, 369, 370, 371, 372, 373, 374, 375, 376, 377] (by decide +kernel) (by decide +kernel)
set_option maxRecDepth 20000 in
theorem gL_law_X5_received : GoodIn wsL_law (wsV RL 58 RX5 yX5_received wsX5_received) := goodIn_app (goodIn_of _ (by decide +kernel)) ggL_law_X5_received
set_option maxRecDepth 20000 in
theorem ggL_law_L_areBitsSo : GoodIn wsL_law wsL_areBitsSo := goodIn_ca (goodIn_r _ [298, 299, 300, 301, 2, 302, 78, 79, 80, 81, 82, 83, 84, 85, 86, 87, 88, 303, 133, 134, 135, 136, 137, 138, 139, 140, 141, 304, 150, 151] (by decide +kernel) (by decide +kernel)) (goodIn_sub (fun _ h => List.mem_append_left _ (List.mem_append_left _ (List.mem_append_right _ h))) (by decide +kernel))
set_option maxRecDepth 20000 in
theorem gL_law_L_areBitsSo : GoodIn wsL_law (va_wsS RL 111 yL_areBitsSo wsL_areBitsSo) := goodIn_app (goodIn_of _ (by decide +kernel)) ggL_law_L_areBitsSo
