set_option maxRecDepth 20000 in
theorem ggL_law_X5_init : GoodIn wsL_law wsX5_init := goodIn_r _ [9, 10, 11, 12, 13, 14, 15, 16, 17, 18, 19, 20, 21, 22, 23, 24, 25, 26, 27, 28, 29, 30, 31, 32, 33, 34, 35, 36, 37, 38, 39, 40, 41, 42, 43, 44, 45, 46, 47, 48, 49, 50, 51, 52, 53, 54, 55, 56, 57, 58, 59, 60, 61, 62, 63, 64, 65, 66, 717, 718, 719, 720, 721, 722, 723, 724, 725, 726, 727, 728, 729, 730, 700, 701, 702, 703, 731, 732, 733, 734, 735, 736, 737, 738, 739, 740, 741] (by decide +kernel) (by decide +kernel)
set_option maxRecDepth 20000 in
theorem gL_law_X5_init : GoodIn wsL_law (wsX5_init) := ggL_law_X5_init
set_option maxRecDepth 20000 in
theorem ggL_law_X6_init : GoodIn wsL_law wsX6_init := goodIn_r _ [69, 70, 11, 12, 45, 71, 72, 73, 74, 75, 76, 704, 705, 706, 707, 708, 709, 710, 711, 712, 713, 714, 715, 716] (by decide +kernel) (by decide +kernel)
set_option maxRecDepth 20000 in
theorem gL_law_X6_init : GoodIn wsL_law (wsX6_init) := ggL_law_X6_init
set_option maxRecDepth 20000 in
theorem ggL_law_L_frame : GoodIn wsL_law wsL_frame := goodIn_ca (goodIn_r _ [80, 81, 82, 83, 84, 2, 85, 20, 16, 86, 87, 88, 89, 90, 91, 92, 93, 94, 95, 96, 97, 98, 99, 100, 101, 102, 19, 103, 104, 53, 105, 106, 107, 108, 109, 110, 111, 15, 112, 113, 32, 114, 115, 116, 117, 33, 118, 119, 120, 37, 38, 39, 40, 121, 122, 123, 36, 124, 46, 125, 126, 127, 128, 129, 130, 131, 132, 47, 133, 134, 135, 136, 28, 137, 138, 139, 27, 140, 64, 141, 142, 143, 144, 145, 146, 147, 148, 149, 150, 151, 152, 153, 154, 155, 156, 157, 158, 159, 160, 161, 162, 163, 164, 165, 166, 167, 168, 169, 170, 171, 172, 65, 173, 174, 175, 176, 177, 178, 179, 180, 181, 182, 183, 184, 185, 186, 187, 188, 189, 190, 191, 192, 193, 194, 195, 196, 197, 198, 199, 200, 201, 202, 203, 204, 205, 206, 207, 208, 209, 210, 211, 212, 213, 214, 215, 216, 217, 218, 219, 700, 701, 702, 703, 731, 732, 717, 718, 719, 720, 721, 722, 723, 724, 725, 726, 727, 728, 729, 730, 740, 741, 734, 735, 736, 737, 738, 739] (by decide +kernel) (by decide +kernel)) (goodIn_sub (fun _ h => List.mem_append_left _ (List.mem_append_left _ (List.mem_append_right _ h))) (by decide +kernel))
set_option maxRecDepth 20000 in
theorem gL_law_L_frame : GoodIn wsL_law (va_wsS RL 71 yL_frame wsL_frame) := goodIn_app (goodIn_of _ (by decide +kernel)) ggL_law_L_frame
set_option maxRecDepth 20000 in
theorem ggL_law_X6_frame : GoodIn wsL_law wsX6_frame := goodIn_r _ [223, 224, 225, 226, 5, 227, 228, 229, 230, 231, 232, 233, 234, 235, 236, 237, 238, 239, 73, 71, 240, 241, 242, 243, 75, 244, 245, 246, 247, 248, 249, 250, 251, 252, 253, 254, 255, 256, 76, 257, 258, 259, 260, 261, 262, 263, 264, 265, 266, 267, 268, 269, 270, 271, 272, 273, 274, 275, 276, 704, 705, 706, 707, 708, 709, 710, 711, 712, 713, 714, 715, 716] (by decide +kernel) (by decide +kernel)
set_option maxRecDepth 20000 in
theorem gL_law_X6_frame : GoodIn wsL_law (wsV RL 76 RX6 yX6_frame wsX6_frame) := goodIn_app (goodIn_of _ (by decide +kernel)) ggL_law_X6_frame
set_option maxRecDepth 20000 in
theorem ggL_law_X6_thrown : GoodIn wsL_law wsX6_thrown := goodIn_r _ [280, 224, 704, 705, 706, 707, 708, 709, 710, 711, 712, 713, 714, 715, 716] (by decide +kernel) (by decide +kernel)
set_option maxRecDepth 20000 in
theorem gL_law_X6_thrown : GoodIn wsL_law (wsV RL 77 RX6 yX6_thrown wsX6_thrown) := goodIn_app (goodIn_of _ (by decide +kernel)) ggL_law_X6_thrown
set_option maxRecDepth 20000 in
theorem ggL_law_L_repeat : GoodIn wsL_law wsL_repeat := goodIn_ca (goodIn_r _ [283, 81, 284, 285, 286, 2, 287, 20, 16, 97, 98, 99, 89, 90, 91, 92, 93, 94, 95, 96, 100, 101, 102, 19, 103, 104, 53, 105, 106, 107, 108, 109, 110, 111, 15, 112, 113, 32, 114, 115, 116, 117, 33, 118, 119, 120, 37, 38, 39, 40, 121, 122, 123, 36, 124, 46, 125, 126, 127, 128, 129, 130, 131, 132, 47, 288, 289, 290, 291, 28, 292, 293, 294, 27, 295, 64, 150, 151, 152, 153, 154, 155, 156, 157, 160, 161, 162, 163, 164, 165, 166, 167, 168, 169, 170, 171, 172, 65, 173, 174, 175, 176, 177, 178, 179, 180, 181, 182, 183, 184, 185, 186, 187, 188, 189, 144, 145, 146, 147, 148, 149, 190, 191, 192, 193, 194, 195, 196, 197, 198, 199, 200, 201, 202, 203, 204, 205, 206, 207, 208, 209, 210, 211, 212, 213, 214, 215, 216, 217, 218, 219, 700, 701, 702, 703, 731, 732, 717, 718, 719, 720, 721, 722, 723, 724, 725, 726, 727, 728, 729, 730, 740, 741, 734, 735, 736, 737, 738, 739] (by decide +kernel) (by decide +kernel)) (goodIn_sub (fun _ h => List.mem_append_left _ (List.mem_append_left _ (List.mem_append_right _ h))) (by decide +kernel))
set_option maxRecDepth 20000 in
theorem gL_law_L_repeat : GoodIn wsL_law (va_wsS RL 80 yL_repeat wsL_repeat) := goodIn_app (goodIn_of _ (by decide +kernel)) ggL_law_L_repeat
set_option maxRecDepth 20000 in
theorem ggL_law_X6_repeat : GoodIn wsL_law wsX6_repeat := goodIn_r _ [299, 224, 228, 229, 5, 230, 231, 232, 233, 234, 235, 236, 237, 238, 239, 73, 71, 300, 301, 302, 303, 75, 244, 248, 249, 250, 251, 252, 253, 254, 255, 256, 76, 257, 258, 259, 260, 261, 262, 263, 264, 265, 266, 267, 268, 269, 270, 271, 272, 273, 274, 275, 276, 704, 705, 706, 707, 708, 709, 710, 711, 712, 713, 714, 715, 716] (by decide +kernel) (by decide +kernel)
set_option maxRecDepth 20000 in
theorem gL_law_X6_repeat : GoodIn wsL_law (wsV RL 83 RX6 yX6_repeat wsX6_repeat) := goodIn_app (goodIn_of _ (by decide +kernel)) ggL_law_X6_repeat
set_option maxRecDepth 20000 in
theorem ggL_law_L_receive : GoodIn wsL_law wsL_receive := goodIn_ca (goodIn_ca (goodIn_r _ [306, 81, 307, 308, 309, 310, 2, 311, 312, 313, 16, 20, 28, 97, 98, 99, 89, 90, 91, 92, 93, 94, 95, 96, 100, 101, 102, 19, 103, 104, 53, 105, 106, 107, 108, 109, 110, 111, 15, 112, 113, 32, 114, 115, 116, 117, 33, 118, 119, 120, 37, 38, 39, 40, 121, 122, 123, 36, 124, 46, 125, 126, 127, 128, 129, 130, 131, 132, 47, 314, 315, 316, 27, 317, 64, 318, 319, 151, 152, 153, 160, 161, 162, 163, 164, 165, 166, 167, 168, 169, 170, 171, 172, 65, 173, 174, 175, 176, 177, 150, 178, 179, 180, 181, 154, 155, 156, 157, 182, 183, 184, 185, 186, 187, 188, 189, 144, 145, 146, 147, 148, 149, 190, 191, 192, 193, 194, 195, 196, 197, 198, 199, 200, 201, 202, 203, 204, 205, 206, 207, 208, 209, 210, 211, 212, 213, 214, 215, 216, 217, 218, 219, 700, 701, 702, 703, 717, 718, 719, 720, 721, 722, 723, 724, 725, 726, 727, 728, 729, 730, 740, 741, 731, 732, 734, 735, 736, 737, 738, 739] (by decide +kernel) (by decide +kernel)) (goodIn_sub (fun _ h => List.mem_append_left _ (List.mem_append_right _ h)) (by decide +kernel))) (goodIn_sub (fun _ h => List.mem_append_left _ (List.mem_append_left _ (List.mem_append_right _ h))) (by decide +kernel))
set_option maxRecDepth 20000 in
theorem gL_law_L_receive : GoodIn wsL_law (va_wsS RL 84 yL_receive wsL_receive) := goodIn_app (goodIn_of _ (by decide +kernel)) ggL_law_L_receive
set_option maxRecDepth 20000 in
theorem ggL_law_X6_receive : GoodIn wsL_law wsX6_receive := goodIn_r _ [323, 224, 71, 244, 75, 228, 229, 5, 230, 231, 232, 233, 234, 235, 236, 237, 238, 239, 73, 248, 249, 250, 251, 252, 253, 254, 255, 256, 76, 257, 258, 259, 260, 261, 262, 263, 264, 265, 266, 267, 268, 269, 270, 271, 272, 273, 274, 275, 276, 704, 705, 706, 707, 708, 709, 710, 711, 712, 713, 714, 715, 716] (by decide +kernel) (by decide +kernel)
set_option maxRecDepth 20000 in
theorem gL_law_X6_receive : GoodIn wsL_law (wsV RL 86 RX6 yX6_receive wsX6_receive) := goodIn_app (goodIn_of _ (by decide +kernel)) ggL_law_X6_receive
set_option maxRecDepth 20000 in
theorem ggL_law_L_shine : GoodIn wsL_law wsL_shine := goodIn_ca (goodIn_ca (goodIn_r _ [326, 81, 307, 327, 328, 329, 2, 330, 312, 313, 16, 20, 89, 90, 91, 92, 93, 94, 95, 96, 100, 101, 102, 19, 103, 104, 53, 105, 106, 107, 108, 109, 110, 111, 15, 112, 113, 32, 114, 115, 116, 117, 33, 118, 119, 120, 37, 38, 39, 40, 121, 122, 123, 36, 124, 46, 125, 126, 127, 128, 129, 130, 131, 132, 47, 331, 155, 156, 157, 700, 701, 702, 703, 717, 718, 719, 720, 721, 722, 723, 724, 725, 726, 727, 728, 729, 730, 740, 741, 731, 732] (by decide +kernel) (by decide +kernel)) (goodIn_sub (fun _ h => List.mem_append_left _ (List.mem_append_right _ h)) (by decide +kernel))) (goodIn_sub (fun _ h => List.mem_append_left _ (List.mem_append_left _ (List.mem_append_right _ h))) (by decide +kernel))
set_option maxRecDepth 20000 in
theorem gL_law_L_shine : GoodIn wsL_law (va_wsS RL 87 yL_shine wsL_shine) := goodIn_app (goodIn_of _ (by decide +kernel)) ggL_law_L_shine
set_option maxRecDepth 20000 in
theorem ggL_law_X6_shine : GoodIn wsL_law wsX6_shine := goodIn_r _ [335, 224, 71, 228, 229, 5, 230, 231, 232, 233, 234, 235, 236, 237, 238, 239, 73, 704, 705, 706, 707, 708, 709, 710, 711, 712, 713, 714, 715, 716] (by decide +kernel) (by decide +kernel)
set_option maxRecDepth 20000 in
theorem gL_law_X6_shine : GoodIn wsL_law (wsV RL 89 RX6 yX6_shine wsX6_shine) := goodIn_app (goodIn_of _ (by decide +kernel)) ggL_law_X6_shine
set_option maxRecDepth 20000 in
theorem ggL_law_L_pass : GoodIn wsL_law wsL_pass := goodIn_ca (goodIn_r _ [338, 81, 339, 340, 341, 2, 342, 20, 16, 89, 90, 91, 92, 93, 94, 95, 96, 100, 101, 102, 19, 103, 104, 53, 105, 106, 107, 108, 109, 110, 111, 15, 112, 113, 32, 114, 115, 116, 117, 33, 118, 119, 120, 37, 38, 39, 40, 121, 122, 123, 36, 124, 46, 125, 126, 127, 128, 129, 130, 131, 132, 47, 343, 344, 345, 346, 700, 701, 702, 703, 717, 718, 719, 720, 721, 722, 723, 724, 725, 726, 727, 728, 729, 730, 731, 732, 740, 741] (by decide +kernel) (by decide +kernel)) (goodIn_sub (fun _ h => List.mem_append_left _ (List.mem_append_left _ (List.mem_append_right _ h))) (by decide +kernel))
set_option maxRecDepth 20000 in
theorem gL_law_L_pass : GoodIn wsL_law (va_wsS RL 90 yL_pass wsL_pass) := goodIn_app (goodIn_of _ (by decide +kernel)) ggL_law_L_pass
set_option maxRecDepth 20000 in
theorem ggL_law_X6_pass : GoodIn wsL_law wsX6_pass := goodIn_r _ [350, 224, 71, 228, 229, 5, 230, 231, 232, 233, 234, 235, 236, 237, 238, 239, 73, 351, 352, 353, 354, 265, 266, 267, 268, 704, 705, 706, 707, 708, 709, 710, 711, 712, 713, 714, 715, 716] (by decide +kernel) (by decide +kernel)
set_option maxRecDepth 20000 in
theorem gL_law_X6_pass : GoodIn wsL_law (wsV RL 92 RX6 yX6_pass wsX6_pass) := goodIn_app (goodIn_of _ (by decide +kernel)) ggL_law_X6_pass
set_option maxRecDepth 20000 in
theorem ggL_law_L_setGlare : GoodIn wsL_law wsL_setGlare := goodIn_ca (goodIn_r _ [357, 81, 358, 359, 360, 2, 361, 20, 16, 89, 90, 91, 92, 93, 94, 95, 96, 100, 101, 102, 19, 103, 104, 53, 105, 106, 107, 108, 109, 110, 111, 15, 112, 113, 32, 114, 115, 116, 117, 33, 118, 119, 120, 37, 38, 39, 40, 121, 122, 123, 36, 124, 46, 125, 126, 127, 128, 129, 130, 131, 132, 47, 700, 701, 702, 703, 717, 718, 719, 720, 721, 722, 723, 724, 725, 726, 727, 728, 729, 730, 731, 732, 740, 741] (by decide +kernel) (by decide +kernel)) (goodIn_sub (fun _ h => List.mem_append_left _ (List.mem_append_left _ (List.mem_append_right _ h))) (by decide +kernel))
set_option maxRecDepth 20000 in
theorem gL_law_L_setGlare : GoodIn wsL_law (va_wsS RL 93 yL_setGlare wsL_setGlare) := goodIn_app (goodIn_of _ (by decide +kernel)) ggL_law_L_setGlare
set_option maxRecDepth 20000 in
theorem ggL_law_X6_setGlare : GoodIn wsL_law wsX6_setGlare := goodIn_r _ [365, 224, 71, 228, 229, 5, 230, 231, 232, 233, 234, 235, 236, 237, 238, 239, 73, 704, 705, 706, 707, 708, 709, 710, 711, 712, 713, 714, 715, 716] (by decide +kernel) (by decide +kernel)
set_option maxRecDepth 20000 in
theorem gL_law_X6_setGlare : GoodIn wsL_law (wsV RL 95 RX6 yX6_setGlare wsX6_setGlare) := goodIn_app (goodIn_of _ (by decide +kernel)) ggL_law_X6_setGlare
set_option maxRecDepth 20000 in
theorem ggL_law_L_setAddress : GoodIn wsL_law wsL_setAddress := goodIn_ca (goodIn_r _ [368, 81, 369, 370, 371, 2, 372, 20, 16, 89, 90, 91, 92, 93, 94, 95, 96, 100, 101, 102, 19, 103, 104, 53, 105, 106, 107, 108, 109, 110, 111, 15, 112, 113, 32, 114, 115, 116, 117, 33, 118, 119, 120, 37, 38, 39, 40, 121, 122, 123, 36, 124, 46, 125, 126, 127, 128, 129, 130, 131, 132, 47, 700, 701, 702, 703, 717, 718, 719, 720, 721, 722, 723, 724, 725, 726, 727, 728, 729, 730, 731, 732, 740, 741] (by decide +kernel) (by decide +kernel)) (goodIn_sub (fun _ h => List.mem_append_left _ (List.mem_append_left _ (List.mem_append_right _ h))) (by decide +kernel))
set_option maxRecDepth 20000 in
theorem gL_law_L_setAddress : GoodIn wsL_law (va_wsS RL 96 yL_setAddress wsL_setAddress) := goodIn_app (goodIn_of _ (by decide +kernel)) ggL_law_L_setAddress
set_option maxRecDepth 20000 in
theorem ggL_law_X6_setAddress : GoodIn wsL_law wsX6_setAddress := goodIn_r _ [376, 224, 71, 228, 229, 5, 230, 231, 232, 233, 234, 235, 236, 237, 238, 239, 73, 704, 705, 706, 707, 708, 709, 710, 711, 712, 713, 714, 715, 716] (by decide +kernel) (by decide +kernel)
set_option maxRecDepth 20000 in
theorem gL_law_X6_setAddress : GoodIn wsL_law (wsV RL 98 RX6 yX6_setAddress wsX6_setAddress) := goodIn_app (goodIn_of _ (by decide +kernel)) ggL_law_X6_setAddress
set_option maxRecDepth 20000 in
theorem ggL_law_L_learn : GoodIn wsL_law wsL_learn := goodIn_ca (goodIn_ca (goodIn_r _ [379, 380, 81, 381, 382, 383, 2, 384, 20, 16, 89, 90, 91, 385, 386, 387, 388, 389, 92, 93, 94, 95, 96, 100, 101, 102, 19, 103, 104, 53, 105, 106, 107, 108, 109, 110, 111, 15, 112, 113, 32, 114, 115, 116, 117, 33, 118, 119, 120, 37, 38, 39, 40, 121, 122, 123, 36, 124, 46, 125, 126, 127, 128, 129, 130, 131, 132, 47, 211, 179, 180, 181, 390, 391, 392, 393, 700, 701, 702, 703, 717, 718, 719, 720, 721, 722, 723, 724, 725, 726, 727, 728, 729, 730, 731, 732, 740, 741] (by decide +kernel) (by decide +kernel)) (goodIn_sub (fun _ h => List.mem_append_right _ h) (by decide +kernel))) (goodIn_sub (fun _ h => List.mem_append_left _ (List.mem_append_left _ (List.mem_append_right _ h))) (by decide +kernel))
set_option maxRecDepth 20000 in
theorem gL_law_L_learn : GoodIn wsL_law (va_wsS RL 99 yL_learn wsL_learn) := goodIn_app (goodIn_of _ (by decide +kernel)) ggL_law_L_learn
set_option maxRecDepth 20000 in
theorem ggL_law_X6_learn : GoodIn wsL_law wsX6_learn := goodIn_r _ [397, 224, 71, 228, 229, 5, 230, 231, 232, 233, 234, 235, 236, 237, 238, 239, 73, 704, 705, 706, 707, 708, 709, 710, 711, 712, 713, 714, 715, 716] (by decide +kernel) (by decide +kernel)
set_option maxRecDepth 20000 in
theorem gL_law_X6_learn : GoodIn wsL_law (wsV RL 102 RX6 yX6_learn wsX6_learn) := goodIn_app (goodIn_of _ (by decide +kernel)) ggL_law_X6_learn
set_option maxRecDepth 20000 in
theorem ggL_law_X5_glare : GoodIn wsL_law wsX5_glare := goodIn_r _ [401, 16, 700, 701, 702, 703, 717, 718, 719, 720, 721, 722, 723, 724, 725, 726, 727, 728, 729, 730] (by decide +kernel) (by decide +kernel)
set_option maxRecDepth 20000 in
theorem gL_law_X5_glare : GoodIn wsL_law (wsV RL 103 RX5 yX5_glare wsX5_glare) := goodIn_app (goodIn_of _ (by decide +kernel)) ggL_law_X5_glare
set_option maxRecDepth 20000 in
theorem ggL_law_X6_glare : GoodIn wsL_law wsX6_glare := goodIn_r _ [405, 224, 71, 704, 705, 706, 707, 708, 709, 710, 711, 712, 713, 714, 715, 716] (by decide +kernel) (by decide +kernel)
set_option maxRecDepth 20000 in
theorem gL_law_X6_glare : GoodIn wsL_law (wsV RL 106 RX6 yX6_glare wsX6_glare) := goodIn_app (goodIn_of _ (by decide +kernel)) ggL_law_X6_glare
set_option maxRecDepth 20000 in
theorem ggL_law_X5_gain : GoodIn wsL_law wsX5_gain := goodIn_r _ [409, 16, 700, 701, 702, 703, 717, 718, 719, 720, 721, 722, 723, 724, 725, 726, 727, 728, 729, 730] (by decide +kernel) (by decide +kernel)
set_option maxRecDepth 20000 in
theorem gL_law_X5_gain : GoodIn wsL_law (wsV RL 107 RX5 yX5_gain wsX5_gain) := goodIn_app (goodIn_of _ (by decide +kernel)) ggL_law_X5_gain
set_option maxRecDepth 20000 in
theorem ggL_law_X6_gain : GoodIn wsL_law wsX6_gain := goodIn_r _ [413, 224, 71, 704, 705, 706, 707, 708, 709, 710, 711, 712, 713, 714, 715, 716] (by decide +kernel) (by decide +kernel)
set_option maxRecDepth 20000 in
theorem gL_law_X6_gain : GoodIn wsL_law (wsV RL 110 RX6 yX6_gain wsX6_gain) := goodIn_app (goodIn_of _ (by decide +kernel)) ggL_law_X6_gain
set_option maxRecDepth 20000 in
theorem ggL_law_L_action : GoodIn wsL_law wsL_action := goodIn_ca (goodIn_r _ [416, 380, 417, 418, 419, 2, 420, 16, 89, 90, 91, 385, 386, 387, 388, 389, 211, 179, 180, 36, 181, 47, 46, 700, 701, 702, 703, 717, 718, 719, 720, 721, 722, 723, 724, 725, 726, 727, 728, 729, 730, 740, 741] (by decide +kernel) (by decide +kernel)) (goodIn_sub (fun _ h => List.mem_append_right _ h) (by decide +kernel))
set_option maxRecDepth 20000 in
theorem gL_law_L_action : GoodIn wsL_law (va_wsS RL 111 yL_action wsL_action) := goodIn_app (goodIn_of _ (by decide +kernel)) ggL_law_L_action
set_option maxRecDepth 20000 in
theorem ggL_law_X6_action : GoodIn wsL_law wsX6_action := goodIn_r _ [424, 224, 71, 228, 229, 5, 230, 231, 232, 233, 234, 704, 705, 706, 707, 708, 709, 710, 711, 712, 713, 714, 715, 716] (by decide +kernel) (by decide +kernel)
set_option maxRecDepth 20000 in
theorem gL_law_X6_action : GoodIn wsL_law (wsV RL 113 RX6 yX6_action wsX6_action) := goodIn_app (goodIn_of _ (by decide +kernel)) ggL_law_X6_action
set_option maxRecDepth 20000 in
theorem ggL_law_L_done : GoodIn wsL_law wsL_done := goodIn_ca (goodIn_r _ [427, 380, 428, 429, 430, 2, 431, 16, 89, 90, 91, 385, 386, 387, 388, 389, 211, 179, 180, 36, 181, 47, 46, 700, 701, 702, 703, 717, 718, 719, 720, 721, 722, 723, 724, 725, 726, 727, 728, 729, 730, 740, 741] (by decide +kernel) (by decide +kernel)) (goodIn_sub (fun _ h => List.mem_append_right _ h) (by decide +kernel))
set_option maxRecDepth 20000 in
theorem gL_law_L_done : GoodIn wsL_law (va_wsS RL 114 yL_done wsL_done) := goodIn_app (goodIn_of _ (by decide +kernel)) ggL_law_L_done
set_option maxRecDepth 20000 in
theorem ggL_law_X6_done : GoodIn wsL_law wsX6_done := goodIn_r _ [435, 224, 71, 228, 229, 5, 230, 231, 232, 233, 234, 704, 705, 706, 707, 708, 709, 710, 711, 712, 713, 714, 715, 716] (by decide +kernel) (by decide +kernel)
set_option maxRecDepth 20000 in
theorem gL_law_X6_done : GoodIn wsL_law (wsV RL 116 RX6 yX6_done wsX6_done) := goodIn_app (goodIn_of _ (by decide +kernel)) ggL_law_X6_done
set_option maxRecDepth 20000 in
theorem ggL_law_X5_remembered : GoodIn wsL_law wsX5_remembered := goodIn_r _ [439, 16, 190, 191, 192, 15, 193, 33, 700, 701, 702, 703, 717, 718, 719, 720, 721, 722, 723, 724, 725, 726, 727, 728, 729, 730] (by decide +kernel) (by decide +kernel)
set_option maxRecDepth 20000 in
theorem gL_law_X5_remembered : GoodIn wsL_law (wsV RL 117 RX5 yX5_remembered wsX5_remembered) := goodIn_app (goodIn_of _ (by decide +kernel)) ggL_law_X5_remembered
set_option maxRecDepth 20000 in
theorem ggL_law_X6_remembered : GoodIn wsL_law wsX6_remembered := goodIn_r _ [443, 224, 444, 445, 446, 5, 447, 71, 265, 266, 267, 268, 704, 705, 706, 707, 708, 709, 710, 711, 712, 713, 714, 715, 716] (by decide +kernel) (by decide +kernel)
set_option maxRecDepth 20000 in
theorem gL_law_X6_remembered : GoodIn wsL_law (wsV RL 120 RX6 yX6_remembered wsX6_remembered) := goodIn_app (goodIn_of _ (by decide +kernel)) ggL_law_X6_remembered
set_option maxRecDepth 20000 in
theorem ggL_law_X5_holds : GoodIn wsL_law wsX5_holds := goodIn_r _ [451, 16, 190, 191, 192, 15, 193, 33, 700, 701, 702, 703, 717, 718, 719, 720, 721, 722, 723, 724, 725, 726, 727, 728, 729, 730] (by decide +kernel) (by decide +kernel)
set_option maxRecDepth 20000 in
theorem gL_law_X5_holds : GoodIn wsL_law (wsV RL 121 RX5 yX5_holds wsX5_holds) := goodIn_app (goodIn_of _ (by decide +kernel)) ggL_law_X5_holds
set_option maxRecDepth 20000 in
theorem ggL_law_X6_holds : GoodIn wsL_law wsX6_holds := goodIn_r _ [455, 224, 71, 704, 705, 706, 707, 708, 709, 710, 711, 712, 713, 714, 715, 716] (by decide +kernel) (by decide +kernel)
set_option maxRecDepth 20000 in
theorem gL_law_X6_holds : GoodIn wsL_law (wsV RL 124 RX6 yX6_holds wsX6_holds) := goodIn_app (goodIn_of _ (by decide +kernel)) ggL_law_X6_holds
set_option maxRecDepth 20000 in
theorem ggL_law_X5_presses : GoodIn wsL_law wsX5_presses := goodIn_r _ [459, 16, 700, 701, 702, 703, 717, 718, 719, 720, 721, 722, 723, 724, 725, 726, 727, 728, 729, 730] (by decide +kernel) (by decide +kernel)
set_option maxRecDepth 20000 in
theorem gL_law_X5_presses : GoodIn wsL_law (wsV RL 125 RX5 yX5_presses wsX5_presses) := goodIn_app (goodIn_of _ (by decide +kernel)) ggL_law_X5_presses
set_option maxRecDepth 20000 in
theorem ggL_law_X6_presses : GoodIn wsL_law wsX6_presses := goodIn_r _ [463, 224, 71, 704, 705, 706, 707, 708, 709, 710, 711, 712, 713, 714, 715, 716] (by decide +kernel) (by decide +kernel)
set_option maxRecDepth 20000 in
theorem gL_law_X6_presses : GoodIn wsL_law (wsV RL 128 RX6 yX6_presses wsX6_presses) := goodIn_app (goodIn_of _ (by decide +kernel)) ggL_law_X6_presses
set_option maxRecDepth 20000 in
theorem ggL_law_L_refused : GoodIn wsL_law wsL_refused := goodIn_ca (goodIn_r _ [466, 380, 467, 468, 469, 2, 470, 16, 89, 90, 91, 385, 386, 387, 388, 389, 211, 179, 180, 36, 181, 47, 46, 700, 701, 702, 703, 717, 718, 719, 720, 721, 722, 723, 724, 725, 726, 727, 728, 729, 730, 740, 741] (by decide +kernel) (by decide +kernel)) (goodIn_sub (fun _ h => List.mem_append_right _ h) (by decide +kernel))
set_option maxRecDepth 20000 in
theorem gL_law_L_refused : GoodIn wsL_law (va_wsS RL 129 yL_refused wsL_refused) := goodIn_app (goodIn_of _ (by decide +kernel)) ggL_law_L_refused
set_option maxRecDepth 20000 in
theorem ggL_law_X6_refused : GoodIn wsL_law wsX6_refused := goodIn_r _ [474, 224, 71, 228, 229, 5, 230, 231, 232, 233, 234, 704, 705, 706, 707, 708, 709, 710, 711, 712, 713, 714, 715, 716] (by decide +kernel) (by decide +kernel)
set_option maxRecDepth 20000 in
theorem gL_law_X6_refused : GoodIn wsL_law (wsV RL 131 RX6 yX6_refused wsX6_refused) := goodIn_app (goodIn_of _ (by decide +kernel)) ggL_law_X6_refused
set_option maxRecDepth 20000 in
theorem ggL_law_X5_row : GoodIn wsL_law wsX5_row := goodIn_r _ [478, 16, 700, 701, 702, 703, 717, 718, 719, 720, 721, 722, 723, 724, 725, 726, 727, 728, 729, 730, 740, 741] (by decide +kernel) (by decide +kernel)
set_option maxRecDepth 20000 in
theorem gL_law_X5_row : GoodIn wsL_law (wsV RL 132 RX5 yX5_row wsX5_row) := goodIn_app (goodIn_of _ (by decide +kernel)) ggL_law_X5_row
set_option maxRecDepth 20000 in
theorem ggL_law_X6_row : GoodIn wsL_law wsX6_row := goodIn_r _ [482, 224, 71, 704, 705, 706, 707, 708, 709, 710, 711, 712, 713, 714, 715, 716] (by decide +kernel) (by decide +kernel)
set_option maxRecDepth 20000 in
theorem gL_law_X6_row : GoodIn wsL_law (wsV RL 135 RX6 yX6_row wsX6_row) := goodIn_app (goodIn_of _ (by decide +kernel)) ggL_law_X6_row
set_option maxRecDepth 20000 in
theorem ggL_law_X5_received : GoodIn wsL_law wsX5_received := goodIn_r _ [486, 16, 700, 701, 702, 703, 717, 718, 719, 720, 721, 722, 723, 724, 725, 726, 727, 728, 729, 730] (by decide +kernel) (by decide +kernel)
set_option maxRecDepth 20000 in
theorem gL_law_X5_received : GoodIn wsL_law (wsV RL 136 RX5 yX5_received wsX5_received) := goodIn_app (goodIn_of _ (by decide +kernel)) ggL_law_X5_received
set_option maxRecDepth 20000 in
theorem ggL_law_X6_received : GoodIn wsL_law wsX6_received := goodIn_r _ [490, 224, 71, 704, 705, 706, 707, 708, 709, 710, 711, 712, 713, 714, 715, 716] (by decide +kernel) (by decide +kernel)
set_option maxRecDepth 20000 in
theorem gL_law_X6_received : GoodIn wsL_law (wsV RL 139 RX6 yX6_received wsX6_received) := goodIn_app (goodIn_of _ (by decide +kernel)) ggL_law_X6_received
set_option maxRecDepth 20000 in
theorem ggL_law_X5_hitShare : GoodIn wsL_law wsX5_hitShare := goodIn_r _ [494, 16, 700, 701, 702, 703, 717, 718, 719, 720, 721, 722, 723, 724, 725, 726, 727, 728, 729, 730] (by decide +kernel) (by decide +kernel)
set_option maxRecDepth 20000 in
theorem gL_law_X5_hitShare : GoodIn wsL_law (wsV RL 140 RX5 yX5_hitShare wsX5_hitShare) := goodIn_app (goodIn_of _ (by decide +kernel)) ggL_law_X5_hitShare
set_option maxRecDepth 20000 in
theorem ggL_law_X6_hitShare : GoodIn wsL_law wsX6_hitShare := goodIn_r _ [498, 224, 71, 704, 705, 706, 707, 708, 709, 710, 711, 712, 713, 714, 715, 716] (by decide +kernel) (by decide +kernel)
set_option maxRecDepth 20000 in
theorem gL_law_X6_hitShare : GoodIn wsL_law (wsV RL 144 RX6 yX6_hitShare wsX6_hitShare) := goodIn_app (goodIn_of _ (by decide +kernel)) ggL_law_X6_hitShare
set_option maxRecDepth 20000 in
theorem ggL_law_L_bit : GoodIn wsL_law wsL_bit := goodIn_ca (goodIn_r _ [501, 81, 502, 503, 504, 2, 505, 86, 87, 88, 89, 90, 91, 92, 93, 94, 95, 96, 506, 141, 142, 143, 144, 145, 146, 147, 148, 149, 507, 158, 159] (by decide +kernel) (by decide +kernel)) (goodIn_sub (fun _ h => List.mem_append_left _ (List.mem_append_left _ (List.mem_append_right _ h))) (by decide +kernel))
set_option maxRecDepth 20000 in
theorem gL_law_L_bit : GoodIn wsL_law (va_wsS RL 145 yL_bit wsL_bit) := goodIn_app (goodIn_of _ (by decide +kernel)) ggL_law_L_bit
set_option maxRecDepth 20000 in
theorem ggL_law_X6_bit : GoodIn wsL_law wsX6_bit := goodIn_r _ [511, 224, 225, 226, 5, 227, 228, 229, 230, 245, 246, 247, 231, 232, 233, 234, 704, 705, 706, 707, 708, 709, 710, 711, 712, 713, 714, 715, 716] (by decide +kernel) (by decide +kernel)
set_option maxRecDepth 20000 in
theorem gL_law_X6_bit : GoodIn wsL_law (wsV RL 147 RX6 yX6_bit wsX6_bit) := goodIn_app (goodIn_of _ (by decide +kernel)) ggL_law_X6_bit
set_option maxRecDepth 20000 in
theorem ggL_law_L_ifFrame : GoodIn wsL_law wsL_ifFrame := goodIn_ca (goodIn_r _ [514, 81, 515, 516, 517, 2, 518, 28, 16, 86, 87, 88, 89, 90, 91, 92, 93, 94, 95, 96, 97, 98, 99, 137, 138, 139, 27, 140, 64, 141, 142, 143, 144, 145, 146, 147, 148, 149, 150, 151, 152, 36, 153, 47, 154, 155, 156, 157, 46, 158, 159, 164, 165, 166, 167, 168, 169, 170, 171, 172, 65, 173, 174, 127, 175, 176, 177, 178, 179, 180, 181, 182, 183, 184, 185, 186, 187, 188, 189, 190, 191, 192, 15, 193, 33, 700, 701, 702, 703, 717, 718, 719, 720, 721, 722, 723, 724, 725, 726, 727, 728, 729, 730, 734, 735, 736, 737, 738, 739, 740, 741] (by decide +kernel) (by decide +kernel)) (goodIn_sub (fun _ h => List.mem_append_left _ (List.mem_append_left _ (List.mem_append_right _ h))) (by decide +kernel))
set_option maxRecDepth 20000 in
theorem gL_law_L_ifFrame : GoodIn wsL_law (va_wsS RL 148 yL_ifFrame wsL_ifFrame) := goodIn_app (goodIn_of _ (by decide +kernel)) ggL_law_L_ifFrame
set_option maxRecDepth 20000 in
theorem ggL_law_X6_ifFrame : GoodIn wsL_law wsX6_ifFrame := goodIn_r _ [522, 224, 225, 226, 5, 227, 228, 229, 230, 523, 524, 525, 526, 527, 528, 529, 530, 72, 71, 240, 241, 242, 243, 75, 244, 245, 246, 247, 248, 249, 250, 251, 252, 253, 254, 255, 256, 76, 257, 258, 259, 260, 261, 262, 263, 264, 265, 266, 267, 268, 269, 270, 271, 272, 273, 274, 275, 276, 531, 532, 533, 534, 231, 232, 233, 234, 704, 705, 706, 707, 708, 709, 710, 711, 712, 713, 714, 715, 716] (by decide +kernel) (by decide +kernel)
set_option maxRecDepth 20000 in
theorem gL_law_X6_ifFrame : GoodIn wsL_law (wsV RL 150 RX6 yX6_ifFrame wsX6_ifFrame) := goodIn_app (goodIn_of _ (by decide +kernel)) ggL_law_X6_ifFrame
set_option maxRecDepth 20000 in
theorem ggL_law_X5_leastStrength : GoodIn wsL_law wsX5_leastStrength := goodIn_r _ [538, 16, 28, 539, 176, 2, 177, 137, 138, 139, 27, 140, 64, 141, 142, 143, 144, 145, 146, 147, 148, 149, 150, 151, 152, 36, 153, 47, 154, 155, 156, 157, 46, 158, 159, 164, 165, 166, 167, 168, 169, 170, 171, 172, 65, 173, 174, 127, 175, 178, 179, 180, 181, 182, 183, 184, 185, 186, 187, 188, 189, 190, 191, 192, 15, 193, 33, 200, 201, 202, 700, 701, 702, 703, 717, 718, 719, 720, 721, 722, 723, 724, 725, 726, 727, 728, 729, 730, 734, 735, 736, 737, 738, 739, 740, 741] (by decide +kernel) (by decide +kernel)
set_option maxRecDepth 20000 in
theorem gL_law_X5_leastStrength : GoodIn wsL_law (wsV RL 151 RX5 yX5_leastStrength wsX5_leastStrength) := goodIn_app (goodIn_of _ (by decide +kernel)) ggL_law_X5_leastStrength
set_option maxRecDepth 20000 in
theorem ggL_law_X6_leastStrength : GoodIn wsL_law wsX6_leastStrength := goodIn_r _ [543, 224, 544, 545, 546, 5, 547, 71, 523, 524, 525, 526, 527, 528, 529, 530, 72, 240, 241, 242, 243, 75, 244, 245, 246, 247, 248, 249, 250, 251, 252, 253, 254, 255, 256, 76, 257, 258, 259, 260, 261, 262, 263, 264, 228, 229, 230, 265, 266, 267, 268, 269, 270, 271, 272, 273, 274, 275, 276, 531, 532, 533, 534, 704, 705, 706, 707, 708, 709, 710, 711, 712, 713, 714, 715, 716] (by decide +kernel) (by decide +kernel)
set_option maxRecDepth 20000 in
theorem gL_law_X6_leastStrength : GoodIn wsL_law (wsV RL 154 RX6 yX6_leastStrength wsX6_leastStrength) := goodIn_app (goodIn_of _ (by decide +kernel)) ggL_law_X6_leastStrength
set_option maxRecDepth 20000 in
theorem ggL_law_X5_refusalsToCome : GoodIn wsL_law wsX5_refusalsToCome := goodIn_r _ [551, 28, 16, 137, 138, 139, 27, 140, 64, 141, 2, 142, 143, 144, 145, 146, 147, 148, 149, 150, 151, 152, 36, 153, 47, 154, 155, 156, 157, 46, 158, 159, 164, 165, 166, 167, 168, 169, 170, 171, 172, 65, 173, 174, 127, 175, 176, 177, 178, 179, 180, 181, 182, 183, 184, 185, 186, 187, 188, 189, 190, 191, 192, 15, 193, 33, 200, 201, 202, 194, 195, 196, 197, 198, 199, 126, 128, 700, 701, 702, 703, 717, 718, 719, 720, 721, 722, 723, 724, 725, 726, 727, 728, 729, 730, 734, 735, 736, 737, 738, 739, 740, 741] (by decide +kernel) (by decide +kernel)
set_option maxRecDepth 20000 in
theorem gL_law_X5_refusalsToCome : GoodIn wsL_law (wsV RL 155 RX5 yX5_refusalsToCome wsX5_refusalsToCome) := goodIn_app (goodIn_of _ (by decide +kernel)) ggL_law_X5_refusalsToCome
set_option maxRecDepth 20000 in
theorem ggL_law_X6_refusalsToCome : GoodIn wsL_law wsX6_refusalsToCome := goodIn_r _ [555, 224, 556, 557, 558, 5, 559, 71, 527, 528, 529, 530, 72, 240, 241, 242, 243, 75, 244, 245, 246, 247, 248, 249, 250, 251, 252, 253, 254, 255, 256, 76, 257, 258, 259, 260, 261, 262, 263, 264, 228, 229, 230, 265, 266, 267, 268, 269, 270, 271, 272, 273, 274, 275, 276, 531, 532, 533, 534, 704, 705, 706, 707, 708, 709, 710, 711, 712, 713, 714, 715, 716] (by decide +kernel) (by decide +kernel)
set_option maxRecDepth 20000 in
theorem gL_law_X6_refusalsToCome : GoodIn wsL_law (wsV RL 158 RX6 yX6_refusalsToCome wsX6_refusalsToCome) := goodIn_app (goodIn_of _ (by decide +kernel)) ggL_law_X6_refusalsToCome
set_option maxRecDepth 20000 in
theorem ggL_law_X5_ticksToForget : GoodIn wsL_law wsX5_ticksToForget := goodIn_r _ [563, 16, 190, 191, 192, 15, 193, 33, 700, 701, 702, 703, 717, 718, 719, 720, 721, 722, 723, 724, 725, 726, 727, 728, 729, 730] (by decide +kernel) (by decide +kernel)
set_option maxRecDepth 20000 in
theorem gL_law_X5_ticksToForget : GoodIn wsL_law (wsV RL 159 RX5 yX5_ticksToForget wsX5_ticksToForget) := goodIn_app (goodIn_of _ (by decide +kernel)) ggL_law_X5_ticksToForget
set_option maxRecDepth 20000 in
theorem ggL_law_X6_ticksToForget : GoodIn wsL_law wsX6_ticksToForget := goodIn_r _ [567, 224, 568, 569, 570, 5, 571, 71, 265, 266, 267, 268, 704, 705, 706, 707, 708, 709, 710, 711, 712, 713, 714, 715, 716] (by decide +kernel) (by decide +kernel)
set_option maxRecDepth 20000 in
theorem gL_law_X6_ticksToForget : GoodIn wsL_law (wsV RL 162 RX6 yX6_ticksToForget wsX6_ticksToForget) := goodIn_app (goodIn_of _ (by decide +kernel)) ggL_law_X6_ticksToForget
set_option maxRecDepth 20000 in
theorem ggL_law_L_append : GoodIn wsL_law wsL_append := goodIn_ca (goodIn_ca (goodIn_r _ [574, 81, 307, 575, 576, 577, 2, 578, 312, 313, 24, 89, 90, 91, 92, 93, 94, 95, 96, 331, 155, 156, 36, 157, 47, 46, 700, 701, 702, 703, 733, 740, 741] (by decide +kernel) (by decide +kernel)) (goodIn_sub (fun _ h => List.mem_append_left _ (List.mem_append_right _ h)) (by decide +kernel))) (goodIn_sub (fun _ h => List.mem_append_left _ (List.mem_append_left _ (List.mem_append_right _ h))) (by decide +kernel))
set_option maxRecDepth 20000 in
theorem gL_law_L_append : GoodIn wsL_law (va_wsS RL 163 yL_append wsL_append) := goodIn_app (goodIn_of _ (by decide +kernel)) ggL_law_L_append
set_option maxRecDepth 20000 in
theorem ggL_law_X6_append : GoodIn wsL_law wsX6_append := goodIn_r _ [582, 224, 583, 74, 228, 229, 5, 230, 231, 232, 233, 234, 704, 705, 706, 707, 708, 709, 710, 711, 712, 713, 714, 715, 716] (by decide +kernel) (by decide +kernel)
set_option maxRecDepth 20000 in
theorem gL_law_X6_append : GoodIn wsL_law (wsV RL 165 RX6 yX6_append wsX6_append) := goodIn_app (goodIn_of _ (by decide +kernel)) ggL_law_X6_append
set_option maxRecDepth 20000 in
theorem ggL_law_X5_clearText : GoodIn wsL_law wsX5_clearText := goodIn_r _ [587, 24, 319, 151, 152, 36, 153, 47, 700, 701, 702, 703, 733, 740, 741] (by decide +kernel) (by decide +kernel)
set_option maxRecDepth 20000 in
theorem gL_law_X5_clearText : GoodIn wsL_law (wsV RL 166 RX5 yX5_clearText wsX5_clearText) := goodIn_app (goodIn_of _ (by decide +kernel)) ggL_law_X5_clearText
set_option maxRecDepth 20000 in
theorem ggL_law_X6_clearText : GoodIn wsL_law wsX6_clearText := goodIn_r _ [591, 224, 583, 704, 705, 706, 707, 708, 709, 710, 711, 712, 713, 714, 715, 716] (by decide +kernel) (by decide +kernel)
set_option maxRecDepth 20000 in
theorem gL_law_X6_clearText : GoodIn wsL_law (wsV RL 169 RX6 yX6_clearText wsX6_clearText) := goodIn_app (goodIn_of _ (by decide +kernel)) ggL_law_X6_clearText
set_option maxRecDepth 20000 in
theorem ggL_law_X5_firstError : GoodIn wsL_law wsX5_firstError := goodIn_r _ [595, 24, 596, 597, 598, 23, 599, 58, 600, 179, 180, 36, 181, 47, 46, 601, 602, 603, 604, 605, 606, 90, 2, 91, 607, 608, 609, 700, 701, 702, 703, 733, 740, 741] (by decide +kernel) (by decide +kernel)
set_option maxRecDepth 20000 in
theorem gL_law_X5_firstError : GoodIn wsL_law (wsV RL 170 RX5 yX5_firstError wsX5_firstError) := goodIn_app (goodIn_of _ (by decide +kernel)) ggL_law_X5_firstError
set_option maxRecDepth 20000 in
theorem ggL_law_X6_firstError : GoodIn wsL_law wsX6_firstError := goodIn_r _ [613, 224, 614, 615, 583, 616, 617, 618, 5, 619, 620, 621, 622, 623, 74, 71, 624, 625, 626, 627, 228, 229, 230, 628, 629, 630, 631, 240, 241, 242, 243, 75, 244, 245, 246, 247, 248, 249, 250, 251, 252, 253, 254, 255, 256, 76, 257, 258, 259, 260, 261, 262, 263, 264, 265, 266, 267, 268, 269, 270, 271, 272, 273, 274, 275, 276, 300, 301, 302, 303, 351, 352, 353, 354, 704, 705, 706, 707, 708, 709, 710, 711, 712, 713, 714, 715, 716] (by decide +kernel) (by decide +kernel)
set_option maxRecDepth 20000 in
theorem gL_law_X6_firstError : GoodIn wsL_law (wsV RL 173 RX6 yX6_firstError wsX6_firstError) := goodIn_app (goodIn_of _ (by decide +kernel)) ggL_law_X6_firstError
set_option maxRecDepth 20000 in
theorem ggL_law_L_run : GoodIn wsL_law wsL_run := goodIn_ca (goodIn_r _ [634, 81, 635, 636, 637, 2, 638, 24, 20, 16, 639, 640, 641, 23, 642, 58, 600, 179, 180, 36, 181, 47, 46, 601, 602, 603, 604, 605, 606, 90, 91, 607, 608, 609, 92, 93, 94, 95, 96, 100, 101, 102, 19, 103, 104, 53, 105, 106, 107, 108, 109, 110, 111, 15, 112, 113, 32, 114, 115, 116, 117, 33, 118, 119, 120, 37, 38, 39, 40, 121, 122, 123, 124, 125, 126, 127, 128, 129, 130, 131, 132, 211, 643, 644, 645, 646, 647, 648, 649, 650, 133, 134, 135, 136, 28, 137, 138, 139, 27, 140, 64, 141, 142, 143, 144, 145, 146, 147, 148, 149, 150, 151, 152, 153, 154, 155, 156, 157, 158, 159, 160, 161, 162, 163, 164, 165, 166, 167, 168, 169, 170, 171, 172, 65, 173, 174, 175, 176, 177, 178, 182, 183, 184, 185, 186, 187, 188, 189, 190, 191, 192, 193, 194, 195, 196, 197, 198, 199, 200, 201, 202, 203, 204, 205, 206, 207, 208, 209, 210, 212, 213, 214, 215, 216, 217, 218, 219, 288, 289, 290, 291, 292, 293, 294, 295, 343, 344, 345, 346, 319, 700, 701, 702, 703, 717, 718, 719, 720, 721, 722, 723, 724, 725, 726, 727, 728, 729, 730, 733, 740, 741, 731, 732, 734, 735, 736, 737, 738, 739] (by decide +kernel) (by decide +kernel)) (goodIn_sub (fun _ h => List.mem_append_left _ (List.mem_append_left _ (List.mem_append_right _ h))) (by decide +kernel))
set_option maxRecDepth 20000 in
theorem gL_law_L_run : GoodIn wsL_law (va_wsS RL 174 yL_run wsL_run) := goodIn_app (goodIn_of _ (by decide +kernel)) ggL_law_L_run
set_option maxRecDepth 20000 in
theorem ggL_law_X6_run : GoodIn wsL_law wsX6_run := goodIn_r _ [654, 224, 614, 71, 583, 616, 617, 618, 5, 619, 615, 620, 621, 622, 623, 74, 624, 625, 626, 627, 228, 229, 230, 628, 629, 630, 631, 240, 241, 242, 243, 75, 244, 245, 246, 247, 248, 249, 250, 251, 252, 253, 254, 255, 256, 76, 257, 258, 259, 260, 261, 262, 263, 264, 265, 266, 267, 268, 269, 270, 271, 272, 273, 274, 275, 276, 300, 301, 302, 303, 351, 352, 353, 354, 231, 232, 233, 234, 235, 236, 237, 238, 239, 73, 704, 705, 706, 707, 708, 709, 710, 711, 712, 713, 714, 715, 716] (by decide +kernel) (by decide +kernel)
set_option maxRecDepth 20000 in
theorem gL_law_X6_run : GoodIn wsL_law (wsV RL 177 RX6 yX6_run wsX6_run) := goodIn_app (goodIn_of _ (by decide +kernel)) ggL_law_X6_run
set_option maxRecDepth 20000 in
theorem ggL_law_L_undo : GoodIn wsL_law wsL_undo := goodIn_ca (goodIn_r _ [657, 307, 658, 659, 660, 2, 661, 312, 313, 20, 16, 662, 663, 664, 19, 665, 104, 53, 109, 110, 111, 15, 112, 113, 32, 114, 115, 116, 117, 33, 118, 119, 120, 37, 38, 39, 40, 121, 122, 123, 36, 124, 46, 125, 126, 127, 128, 129, 130, 131, 132, 47, 700, 701, 702, 703, 731, 732, 717, 718, 719, 720, 721, 722, 723, 724, 725, 726, 727, 728, 729, 730, 740, 741] (by decide +kernel) (by decide +kernel)) (goodIn_sub (fun _ h => List.mem_append_left _ (List.mem_append_right _ h)) (by decide +kernel))
set_option maxRecDepth 20000 in
theorem gL_law_L_undo : GoodIn wsL_law (va_wsS RL 178 yL_undo wsL_undo) := goodIn_app (goodIn_of _ (by decide +kernel)) ggL_law_L_undo
set_option maxRecDepth 20000 in
theorem ggL_law_X6_undo : GoodIn wsL_law wsX6_undo := goodIn_r _ [669, 224, 239, 71, 73, 231, 232, 233, 5, 234, 704, 705, 706, 707, 708, 709, 710, 711, 712, 713, 714, 715, 716] (by decide +kernel) (by decide +kernel)
set_option maxRecDepth 20000 in
theorem gL_law_X6_undo : GoodIn wsL_law (wsV RL 180 RX6 yX6_undo wsX6_undo) := goodIn_app (goodIn_of _ (by decide +kernel)) ggL_law_X6_undo
set_option maxRecDepth 20000 in
theorem ggL_law_X5_savedStates : GoodIn wsL_law wsX5_savedStates := goodIn_r _ [673, 20, 700, 701, 702, 703, 731, 732] (by decide +kernel) (by decide +kernel)
set_option maxRecDepth 20000 in
theorem gL_law_X5_savedStates : GoodIn wsL_law (wsV RL 181 RX5 yX5_savedStates wsX5_savedStates) := goodIn_app (goodIn_of _ (by decide +kernel)) ggL_law_X5_savedStates
set_option maxRecDepth 20000 in
theorem ggL_law_X6_savedStates : GoodIn wsL_law wsX6_savedStates := goodIn_r _ [677, 224, 239, 704, 705, 706, 707, 708, 709, 710, 711, 712, 713, 714, 715, 716] (by decide +kernel) (by decide +kernel)
set_option maxRecDepth 20000 in
theorem gL_law_X6_savedStates : GoodIn wsL_law (wsV RL 184 RX6 yX6_savedStates wsX6_savedStates) := goodIn_app (goodIn_of _ (by decide +kernel)) ggL_law_X6_savedStates
set_option maxRecDepth 20000 in
theorem ggL_law_X5_digest : GoodIn wsL_law wsX5_digest := goodIn_r _ [681, 682, 683, 16, 684, 399, 400, 2, 401, 685, 407, 408, 409, 686, 437, 438, 439, 190, 191, 192, 15, 193, 33, 687, 449, 450, 451, 688, 457, 458, 459, 689, 476, 477, 478, 690, 484, 485, 486, 691, 536, 537, 538, 28, 539, 176, 177, 137, 138, 139, 27, 140, 64, 141, 142, 143, 144, 145, 146, 147, 148, 149, 150, 151, 152, 36, 153, 47, 154, 155, 156, 157, 46, 158, 159, 164, 165, 166, 167, 168, 169, 170, 171, 172, 65, 173, 174, 127, 175, 178, 179, 180, 181, 182, 183, 184, 185, 186, 187, 188, 189, 200, 201, 202, 692, 549, 550, 551, 194, 195, 196, 197, 198, 199, 126, 128, 693, 561, 562, 563, 211, 700, 701, 702, 703, 717, 718, 719, 720, 721, 722, 723, 724, 725, 726, 727, 728, 729, 730, 740, 741, 734, 735, 736, 737, 738, 739] (by decide +kernel) (by decide +kernel)
set_option maxRecDepth 20000 in
theorem gL_law_X5_digest : GoodIn wsL_law (wsV RL 185 RX5 yX5_digest wsX5_digest) := goodIn_app (goodIn_of _ (by decide +kernel)) ggL_law_X5_digest
set_option maxRecDepth 20000 in
theorem ggL_law_X6_digest : GoodIn wsL_law wsX6_digest := goodIn_r _ [697, 224, 698, 699, 71, 444, 445, 446, 5, 447, 265, 266, 267, 268, 544, 545, 546, 547, 523, 524, 525, 526, 527, 528, 529, 530, 72, 240, 241, 242, 243, 75, 244, 245, 246, 247, 248, 249, 250, 251, 252, 253, 254, 255, 256, 76, 257, 258, 259, 260, 261, 262, 263, 264, 228, 229, 230, 269, 270, 271, 272, 273, 274, 275, 276, 531, 532, 533, 534, 556, 557, 558, 559, 568, 569, 570, 571, 704, 705, 706, 707, 708, 709, 710, 711, 712, 713, 714, 715, 716] (by decide +kernel) (by decide +kernel)
set_option maxRecDepth 20000 in
theorem gL_law_X6_digest : GoodIn wsL_law (wsV RL 189 RX6 yX6_digest wsX6_digest) := goodIn_app (goodIn_of _ (by decide +kernel)) ggL_law_X6_digest
