set_option maxRecDepth 20000 in
theorem gq_areForecastsSo_1 : GoodIn wsL_law (Cond.code yL_areForecastsSo cL_areForecastsSo 9 (some .boolean) :: wsL_areForecastsSo_r1) := goodIn_r _ [350, 351, 352, 353, 2, 354, 12, 24, 355, 168, 169, 129, 130, 131, 23, 132, 60, 133, 134, 135, 136, 137, 138, 139, 140] (by decide +kernel) (by decide +kernel)
set_option maxRecDepth 20000 in
theorem gq_areForecastsSo_2 : GoodIn wsL_law wsL_areForecastsSo_r2 := goodIn_r _ [141, 142, 143, 144, 32, 145, 43, 146, 147, 148, 149, 42, 150, 151, 156, 157, 158, 159, 160, 161, 162, 163, 164, 61] (by decide +kernel) (by decide +kernel)
set_option maxRecDepth 20000 in
theorem gq_areForecastsSo_3 : GoodIn wsL_law wsL_areForecastsSo_r3 := goodIn_r _ [165, 166, 119, 167, 170, 171, 172, 173, 174, 175, 176, 177, 178, 179, 180, 181, 182, 183, 184, 11, 185, 29, 192, 193] (by decide +kernel) (by decide +kernel)
set_option maxRecDepth 20000 in
theorem gq_areForecastsSo_4 : GoodIn wsL_law wsL_areForecastsSo_r4 := goodIn_r _ [194, 356, 357, 358, 359, 186, 187, 188, 189, 190, 191, 118, 120, 336, 337, 338, 339, 328, 329, 330, 331, 324, 325, 326] (by decide +kernel) (by decide +kernel)
set_option maxRecDepth 20000 in
theorem gq_areForecastsSo_5 : GoodIn wsL_law wsL_areForecastsSo_r5 := goodIn_r _ [327, 308, 309, 310, 311, 78, 79, 80, 81, 82, 83, 84, 85, 86, 87, 88, 89, 90, 91, 248, 249, 250, 251, 16] (by decide +kernel) (by decide +kernel)
set_option maxRecDepth 20000 in
theorem gq_areForecastsSo_6 : GoodIn wsL_law wsL_areForecastsSo_r6 := goodIn_r _ [92, 93, 94, 15, 95, 96, 49, 97, 98, 99, 100, 101, 102, 103, 104, 105, 28, 106, 107, 108, 109, 110, 111, 112] (by decide +kernel) (by decide +kernel)
set_option maxRecDepth 20000 in
theorem gq_areForecastsSo_7 : GoodIn wsL_law wsL_areForecastsSo_r7 := goodIn_r _ [33, 34, 35, 36, 113, 114, 115, 116, 117, 121, 122, 123, 124, 252, 253, 254, 255, 340, 341, 342, 343, 235, 236, 344] (by decide +kernel) (by decide +kernel)
