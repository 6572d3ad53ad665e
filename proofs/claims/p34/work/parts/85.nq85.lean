set_option maxRecDepth 20000 in
theorem gq_isFrameSo_8 : GoodIn wsL_law wsL_isFrameSo_r8 := goodIn_r _ [124, 125, 126, 127, 128, 152, 153, 154, 155, 186, 187, 188, 189, 190, 191, 192, 193, 194, 195, 196, 197, 198, 199, 200] (by decide +kernel) (by decide +kernel)
set_option maxRecDepth 20000 in
theorem gq_isFrameSo_9 : GoodIn wsL_law wsL_isFrameSo_r9 := goodIn_r _ [201, 202, 204, 205, 206, 207, 208, 209, 210, 211, 332, 333, 334, 335, 336, 337, 338, 339, 340, 341, 342, 343, 235, 236] (by decide +kernel) (by decide +kernel)
set_option maxRecDepth 20000 in
theorem gq_isFrameSo_10 : GoodIn wsL_law wsL_isFrameSo_r10 := goodIn_r _ [344, 345, 346, 347] (by decide +kernel) (by decide +kernel)
set_option maxRecDepth 20000 in
theorem gq_isFrameSo_X5 : GoodIn wsL_law wsX50 := goodIn_r _ [360, 361, 362, 363] (by decide +kernel) (by decide +kernel)
set_option maxRecDepth 20000 in
theorem gq_isFrameSo_X4 : GoodIn wsL_law wsX40 := goodIn_r _ [364, 365, 366, 367, 368, 369, 370, 371, 372, 373, 374, 375, 376, 377] (by decide +kernel) (by decide +kernel)
set_option maxRecDepth 20000 in
theorem gq_isFrameSo_X0 : GoodIn wsL_law wsX00 := goodIn_r _ [381, 382, 383, 384, 385, 386] (by decide +kernel) (by decide +kernel)
set_option maxRecDepth 20000 in
theorem gq_isFrameSo_X2 : GoodIn wsL_law wsX20 := goodIn_r _ [387, 388] (by decide +kernel) (by decide +kernel)
set_option maxRecDepth 20000 in
theorem gq_isFrameSo_X3 : GoodIn wsL_law wsX30 := goodIn_r _ [378, 379] (by decide +kernel) (by decide +kernel)
set_option maxRecDepth 20000 in
theorem ggL_law_L_isFrameSo : GoodIn wsL_law wsL_isFrameSo := goodIn_ca (goodIn_ca (goodIn_ca (goodIn_ca (goodIn_ca (goodIn_ca (goodIn_ca (goodIn_ca (goodIn_ca gq_isFrameSo_1 (goodIn_app gq_isFrameSo_2 (goodIn_app gq_isFrameSo_3 (goodIn_app gq_isFrameSo_4 (goodIn_app gq_isFrameSo_5 (goodIn_app gq_isFrameSo_6 (goodIn_app gq_isFrameSo_7 (goodIn_app gq_isFrameSo_8 (goodIn_app gq_isFrameSo_9 gq_isFrameSo_10))))))))) gq_isFrameSo_X5) gq_isFrameSo_X4) gq_isFrameSo_X0) gq_isFrameSo_X2) gq_isFrameSo_X3) (goodIn_sub (fun _ h => List.mem_append_left _ (List.mem_append_left _ (List.mem_append_right _ h))) (by decide +kernel))) (goodIn_sub (fun _ h => List.mem_append_right _ h) (by decide +kernel))) (goodIn_sub (fun _ h => List.mem_append_left _ (List.mem_append_right _ h)) (by decide +kernel))
set_option maxRecDepth 20000 in
theorem gL_law_L_isFrameSo : GoodIn wsL_law (va_wsS RL 115 yL_isFrameSo wsL_isFrameSo) := goodIn_app (goodIn_of _ (by decide +kernel)) ggL_law_L_isFrameSo
