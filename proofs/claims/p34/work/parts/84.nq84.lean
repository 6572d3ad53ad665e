set_option maxRecDepth 20000 in
theorem gq_isFrameSo_1 : GoodIn wsL_law (Cond.code yL_isFrameSo cL_isFrameSo 19 (some .boolean) :: wsL_isFrameSo_r1) := goodIn_r _ [307, 308, 309, 310, 2, 311, 24, 12, 78, 79, 80, 81, 82, 83, 84, 85, 86, 87, 88, 89, 90, 91, 129, 130, 131] (by decide +kernel) (by decide +kernel)
set_option maxRecDepth 20000 in
theorem gq_isFrameSo_2 : GoodIn wsL_law wsL_isFrameSo_r2 := goodIn_r _ [23, 132, 60, 133, 134, 135, 136, 137, 138, 139, 140, 141, 142, 143, 144, 32, 145, 43, 146, 147, 148, 149, 42, 150] (by decide +kernel) (by decide +kernel)
set_option maxRecDepth 20000 in
theorem gq_isFrameSo_3 : GoodIn wsL_law wsL_isFrameSo_r3 := goodIn_r _ [151, 156, 157, 158, 159, 160, 161, 162, 163, 164, 61, 165, 166, 119, 167, 168, 169, 170, 171, 172, 173, 174, 175, 176] (by decide +kernel) (by decide +kernel)
set_option maxRecDepth 20000 in
theorem gq_isFrameSo_4 : GoodIn wsL_law wsL_isFrameSo_r4 := goodIn_r _ [177, 178, 179, 180, 181, 182, 183, 184, 11, 185, 29, 312, 313, 314, 315, 292, 293, 294, 295, 288, 289, 290, 291, 316] (by decide +kernel) (by decide +kernel)
set_option maxRecDepth 20000 in
theorem gq_isFrameSo_5 : GoodIn wsL_law wsL_isFrameSo_r5 := goodIn_r _ [317, 318, 319, 268, 269, 270, 271, 272, 203, 320, 321, 322, 323, 324, 325, 326, 327, 328, 329, 330, 331, 281, 282, 65] (by decide +kernel) (by decide +kernel)
set_option maxRecDepth 20000 in
theorem gq_isFrameSo_6 : GoodIn wsL_law wsL_isFrameSo_r6 := goodIn_r _ [283, 284, 285, 286, 287, 74, 75, 76, 77, 16, 92, 93, 94, 15, 95, 96, 49, 97, 98, 99, 100, 101, 102, 103] (by decide +kernel) (by decide +kernel)
set_option maxRecDepth 20000 in
theorem gq_isFrameSo_7 : GoodIn wsL_law wsL_isFrameSo_r7 := goodIn_r _ [104, 105, 28, 106, 107, 108, 109, 110, 111, 112, 33, 34, 35, 36, 113, 114, 115, 116, 117, 118, 120, 121, 122, 123] (by decide +kernel) (by decide +kernel)
