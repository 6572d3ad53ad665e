set_option maxRecDepth 20000 in
theorem gq_areForecastsSo_8 : GoodIn wsL_law wsL_areForecastsSo_r8 := goodIn_r _ [345, 346, 347, 74, 75, 76, 77, 125, 126, 127, 128, 152, 153, 154, 155, 195, 196, 197, 198, 199, 200, 201, 202, 203] (by decide +kernel) (by decide +kernel)
set_option maxRecDepth 20000 in
theorem gq_areForecastsSo_9 : GoodIn wsL_law wsL_areForecastsSo_r9 := goodIn_r _ [204, 205, 206, 207, 208, 209, 210, 211] (by decide +kernel) (by decide +kernel)
set_option maxRecDepth 20000 in
theorem gq_areForecastsSo_X5 : GoodIn wsL_law wsX50 := goodIn_r _ [360, 361, 362, 363] (by decide +kernel) (by decide +kernel)
set_option maxRecDepth 20000 in
theorem gq_areForecastsSo_X4 : GoodIn wsL_law wsX40 := goodIn_r _ [364, 365, 366, 367, 368, 369, 370, 371, 372, 373, 374, 375, 376, 377] (by decide +kernel) (by decide +kernel)
set_option maxRecDepth 20000 in
theorem gq_areForecastsSo_X0 : GoodIn wsL_law wsX00 := goodIn_r _ [381, 382, 383, 384, 385, 386] (by decide +kernel) (by decide +kernel)
set_option maxRecDepth 20000 in
theorem gq_areForecastsSo_X2 : GoodIn wsL_law wsX20 := goodIn_r _ [387, 388] (by decide +kernel) (by decide +kernel)
set_option maxRecDepth 20000 in
theorem gq_areForecastsSo_X3 : GoodIn wsL_law wsX30 := goodIn_r _ [378, 379] (by decide +kernel) (by decide +kernel)
set_option maxRecDepth 20000 in
theorem ggL_law_L_areForecastsSo : GoodIn wsL_law wsL_areForecastsSo := goodIn_ca (goodIn_ca (goodIn_ca (goodIn_ca (goodIn_ca (goodIn_ca (goodIn_ca (goodIn_ca gq_areForecastsSo_1 (goodIn_app gq_areForecastsSo_2 (goodIn_app gq_areForecastsSo_3 (goodIn_app gq_areForecastsSo_4 (goodIn_app gq_areForecastsSo_5 (goodIn_app gq_areForecastsSo_6 (goodIn_app gq_areForecastsSo_7 (goodIn_app gq_areForecastsSo_8 gq_areForecastsSo_9)))))))) gq_areForecastsSo_X5) gq_areForecastsSo_X4) gq_areForecastsSo_X0) gq_areForecastsSo_X2) gq_areForecastsSo_X3) (goodIn_sub (fun _ h => List.mem_append_left _ (List.mem_append_left _ (List.mem_append_right _ h))) (by decide +kernel))) (goodIn_sub (fun _ h => List.mem_append_left _ (List.mem_append_right _ h)) (by decide +kernel))
set_option maxRecDepth 20000 in
theorem gL_law_L_areForecastsSo : GoodIn wsL_law (va_wsS RL 119 yL_areForecastsSo wsL_areForecastsSo) := goodIn_app (goodIn_of _ (by decide +kernel)) ggL_law_L_areForecastsSo
