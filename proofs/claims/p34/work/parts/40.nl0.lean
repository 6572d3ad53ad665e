set_option maxRecDepth 20000 in
theorem ggL_shine_L_low : GoodIn wsL_shine wsL_low := goodIn_r _ [4, 5] (by decide +kernel) (by decide +kernel)
set_option maxRecDepth 20000 in
theorem gL_shine_L_low : GoodIn wsL_shine (va_wsS RL 8 yL_low wsL_low) := goodIn_app (goodIn_of _ (by decide +kernel)) ggL_shine_L_low
set_option maxRecDepth 20000 in
theorem ggL_shine_X5_shine : GoodIn wsL_shine wsX5_shine := goodIn_ca (goodIn_ca (goodIn_r _ [10, 11, 12, 13, 14, 15, 16, 9, 17, 18, 19, 20, 21, 22, 23, 24, 25, 26, 27, 28, 29, 30, 31, 32, 33, 34, 35, 36, 37, 38, 39, 40, 41, 42, 43, 44, 45, 46, 47, 48, 49, 50, 51, 52, 53, 54, 55, 56, 57, 58, 59, 60, 61, 62, 63, 64, 65, 66, 67, 68, 69, 70, 71, 72, 73, 74, 75, 76, 77, 78, 79, 80, 81, 82, 83, 84, 85, 86, 87, 88, 89, 90, 91, 92, 93] (by decide +kernel) (by decide +kernel)) (goodIn_sub (fun _ h => List.mem_cons_of_mem _ (List.mem_append_left _ (List.mem_append_right _ h))) (by decide +kernel))) (goodIn_sub (fun _ h => List.mem_cons_of_mem _ (List.mem_append_right _ h)) (by decide +kernel))
set_option maxRecDepth 20000 in
theorem gL_shine_X5_shine : GoodIn wsL_shine (wsV RL 14 RX5 yX5_shine wsX5_shine) := goodIn_app (goodIn_of _ (by decide +kernel)) ggL_shine_X5_shine
set_option maxRecDepth 20000 in
theorem ggL_does_L_low : GoodIn wsL_does wsL_low := goodIn_r _ [4, 5] (by decide +kernel) (by decide +kernel)
set_option maxRecDepth 20000 in
theorem gL_does_L_low : GoodIn wsL_does (va_wsS RL 8 yL_low wsL_low) := goodIn_app (goodIn_of _ (by decide +kernel)) ggL_does_L_low
set_option maxRecDepth 20000 in
theorem ggL_does_X5_frame : GoodIn wsL_does wsX5_frame := goodIn_ca (goodIn_r _ [10, 11, 12, 13, 14, 9, 15, 16, 17, 18, 19, 20, 21, 22, 23, 24, 25, 26, 27, 28, 29, 30, 31, 32, 33, 34, 35, 36, 37, 38, 39, 40, 41, 42, 43, 44, 45, 46, 47, 48, 49, 50, 51, 52, 53, 54, 55, 56, 57, 58, 59, 60, 61, 62, 63, 64, 65, 66, 67, 68, 69, 70, 71, 72, 73, 74, 75, 76, 77, 78, 79, 80, 81, 82, 83, 84, 85, 86, 87, 88, 89, 90, 91, 92, 93, 94, 95, 96, 97, 98, 99, 100, 101, 102, 103, 104, 105, 106, 107, 108, 109, 110, 111, 112, 113, 114, 115, 116, 117, 118, 119, 120, 121, 122, 123, 124, 125, 126, 127, 128, 129, 130, 131, 132, 133, 134, 135, 136, 137, 138, 139, 140, 141, 142, 143, 144, 145, 146, 147, 148, 149, 150, 151, 152, 153, 154, 155, 156, 157, 158, 159, 160, 161, 162, 228, 229, 230, 231, 232, 233, 234, 235, 236, 237, 238, 239, 240, 241, 242, 243, 244, 245, 246, 247, 248, 249, 250, 251, 252, 253, 254, 255] (by decide +kernel) (by decide +kernel)) (goodIn_sub (fun _ h => List.mem_cons_of_mem _ (List.mem_append_left _ (List.mem_append_left _ (List.mem_append_right _ h)))) (by decide +kernel))
set_option maxRecDepth 20000 in
theorem gL_does_X5_frame : GoodIn wsL_does (wsV RL 20 RX5 yX5_frame wsX5_frame) := goodIn_app (goodIn_of _ (by decide +kernel)) ggL_does_X5_frame
set_option maxRecDepth 20000 in
theorem ggL_does_X5_repeat : GoodIn wsL_does wsX5_repeat := goodIn_ca (goodIn_r _ [166, 11, 12, 24, 25, 9, 26, 16, 17, 18, 19, 20, 21, 22, 23, 27, 28, 29, 30, 31, 32, 33, 34, 35, 36, 37, 38, 39, 40, 41, 42, 43, 44, 45, 46, 47, 48, 49, 50, 51, 52, 53, 54, 55, 56, 57, 58, 59, 60, 61, 62, 63, 64, 65, 66, 67, 68, 69, 70, 71, 167, 168, 169, 170, 76, 171, 172, 173, 80, 174, 82, 92, 93, 94, 95, 96, 97, 98, 99, 102, 103, 104, 105, 106, 107, 108, 109, 110, 111, 112, 113, 114, 115, 116, 117, 118, 119, 120, 121, 122, 123, 124, 125, 126, 127, 128, 129, 130, 131, 132, 86, 87, 88, 89, 90, 91, 133, 134, 135, 136, 137, 138, 139, 140, 141, 142, 143, 144, 145, 146, 147, 148, 149, 150, 151, 152, 153, 154, 155, 156, 157, 158, 159, 160, 161, 162, 228, 229, 230, 231, 232, 233, 234, 235, 236, 237, 238, 239, 240, 241, 242, 243, 244, 245, 246, 247, 248, 249, 250, 251, 252, 253, 254, 255] (by decide +kernel) (by decide +kernel)) (goodIn_sub (fun _ h => List.mem_cons_of_mem _ (List.mem_append_left _ (List.mem_append_left _ (List.mem_append_right _ h)))) (by decide +kernel))
set_option maxRecDepth 20000 in
theorem gL_does_X5_repeat : GoodIn wsL_does (wsV RL 24 RX5 yX5_repeat wsX5_repeat) := goodIn_app (goodIn_of _ (by decide +kernel)) ggL_does_X5_repeat
set_option maxRecDepth 20000 in
theorem ggL_does_X5_row : GoodIn wsL_does wsX5_row := goodIn_r _ [178, 12, 228, 229, 230, 231, 234, 235, 236, 237, 238, 239, 240, 241, 242, 243, 244, 245, 246, 247, 248, 249] (by decide +kernel) (by decide +kernel)
set_option maxRecDepth 20000 in
theorem gL_does_X5_row : GoodIn wsL_does (wsV RL 27 RX5 yX5_row wsX5_row) := goodIn_app (goodIn_of _ (by decide +kernel)) ggL_does_X5_row
set_option maxRecDepth 20000 in
theorem ggL_does_L_shine : GoodIn wsL_does wsL_shine := goodIn_ca (goodIn_ca (goodIn_r _ [181, 1, 2, 3, 4, 5, 182, 183, 184, 9, 185, 186, 187, 12, 11, 16, 17, 18, 19, 20, 21, 22, 23, 27, 28, 29, 30, 31, 32, 33, 34, 35, 36, 37, 38, 39, 40, 41, 42, 43, 44, 45, 46, 47, 48, 49, 50, 51, 52, 53, 54, 55, 56, 57, 58, 59, 60, 61, 62, 63, 64, 65, 66, 67, 68, 69, 70, 71, 188, 97, 98, 99, 228, 229, 230, 231, 234, 235, 236, 237, 238, 239, 240, 241, 242, 243, 244, 245, 246, 247, 248, 249, 232, 233] (by decide +kernel) (by decide +kernel)) (goodIn_sub (fun _ h => List.mem_cons_of_mem _ (List.mem_append_left _ (List.mem_append_right _ h))) (by decide +kernel))) (goodIn_sub (fun _ h => List.mem_cons_of_mem _ (List.mem_append_left _ (List.mem_append_left _ (List.mem_append_right _ h)))) (by decide +kernel))
set_option maxRecDepth 20000 in
theorem gL_does_L_shine : GoodIn wsL_does (va_wsS RL 31 yL_shine wsL_shine) := goodIn_app (goodIn_of _ (by decide +kernel)) ggL_does_L_shine
set_option maxRecDepth 20000 in
theorem ggL_does_X5_receive : GoodIn wsL_does wsX5_receive := goodIn_ca (goodIn_ca (goodIn_r _ [192, 186, 187, 12, 11, 76, 24, 25, 9, 26, 16, 17, 18, 19, 20, 21, 22, 23, 27, 28, 29, 30, 31, 32, 33, 34, 35, 36, 37, 38, 39, 40, 41, 42, 43, 44, 45, 46, 47, 48, 49, 50, 51, 52, 53, 54, 55, 56, 57, 58, 59, 60, 61, 62, 63, 64, 65, 66, 67, 68, 69, 70, 71, 193, 194, 195, 80, 196, 82, 197, 198, 93, 94, 95, 102, 103, 104, 105, 106, 107, 108, 109, 110, 111, 112, 113, 114, 115, 116, 117, 118, 119, 120, 92, 121, 122, 123, 124, 96, 97, 98, 99, 125, 126, 127, 128, 129, 130, 131, 132, 86, 87, 88, 89, 90, 91, 133, 134, 135, 136, 137, 138, 139, 140, 141, 142, 143, 144, 145, 146, 147, 148, 149, 150, 151, 152, 153, 154, 155, 156, 157, 158, 159, 160, 161, 162, 228, 229, 230, 231, 234, 235, 236, 237, 238, 239, 240, 241, 242, 243, 244, 245, 246, 247, 248, 249, 232, 233, 250, 251, 252, 253, 254, 255] (by decide +kernel) (by decide +kernel)) (goodIn_sub (fun _ h => List.mem_cons_of_mem _ (List.mem_append_left _ (List.mem_append_right _ h))) (by decide +kernel))) (goodIn_sub (fun _ h => List.mem_cons_of_mem _ (List.mem_append_left _ (List.mem_append_left _ (List.mem_append_right _ h)))) (by decide +kernel))
set_option maxRecDepth 20000 in
theorem gL_does_X5_receive : GoodIn wsL_does (wsV RL 34 RX5 yX5_receive wsX5_receive) := goodIn_app (goodIn_of _ (by decide +kernel)) ggL_does_X5_receive
set_option maxRecDepth 20000 in
theorem ggL_does_X5_pass : GoodIn wsL_does wsX5_pass := goodIn_ca (goodIn_r _ [202, 11, 12, 16, 17, 9, 18, 19, 20, 21, 22, 23, 27, 28, 29, 30, 31, 32, 33, 34, 35, 36, 37, 38, 39, 40, 41, 42, 43, 44, 45, 46, 47, 48, 49, 50, 51, 52, 53, 54, 55, 56, 57, 58, 59, 60, 61, 62, 63, 64, 65, 66, 67, 68, 69, 70, 71, 203, 204, 205, 206, 228, 229, 230, 231, 234, 235, 236, 237, 238, 239, 240, 241, 242, 243, 244, 245, 246, 247, 232, 233, 248, 249] (by decide +kernel) (by decide +kernel)) (goodIn_sub (fun _ h => List.mem_cons_of_mem _ (List.mem_append_left _ (List.mem_append_left _ (List.mem_append_right _ h)))) (by decide +kernel))
set_option maxRecDepth 20000 in
theorem gL_does_X5_pass : GoodIn wsL_does (wsV RL 37 RX5 yX5_pass wsX5_pass) := goodIn_app (goodIn_of _ (by decide +kernel)) ggL_does_X5_pass
set_option maxRecDepth 20000 in
theorem ggL_does_X5_setGlare : GoodIn wsL_does wsX5_setGlare := goodIn_ca (goodIn_r _ [210, 11, 12, 16, 17, 9, 18, 19, 20, 21, 22, 23, 27, 28, 29, 30, 31, 32, 33, 34, 35, 36, 37, 38, 39, 40, 41, 42, 43, 44, 45, 46, 47, 48, 49, 50, 51, 52, 53, 54, 55, 56, 57, 58, 59, 60, 61, 62, 63, 64, 65, 66, 67, 68, 69, 70, 71, 228, 229, 230, 231, 234, 235, 236, 237, 238, 239, 240, 241, 242, 243, 244, 245, 246, 247, 232, 233, 248, 249] (by decide +kernel) (by decide +kernel)) (goodIn_sub (fun _ h => List.mem_cons_of_mem _ (List.mem_append_left _ (List.mem_append_left _ (List.mem_append_right _ h)))) (by decide +kernel))
set_option maxRecDepth 20000 in
theorem gL_does_X5_setGlare : GoodIn wsL_does (wsV RL 40 RX5 yX5_setGlare wsX5_setGlare) := goodIn_app (goodIn_of _ (by decide +kernel)) ggL_does_X5_setGlare
set_option maxRecDepth 20000 in
theorem ggL_does_X5_setAddress : GoodIn wsL_does wsX5_setAddress := goodIn_ca (goodIn_r _ [214, 11, 12, 16, 17, 9, 18, 19, 20, 21, 22, 23, 27, 28, 29, 30, 31, 32, 33, 34, 35, 36, 37, 38, 39, 40, 41, 42, 43, 44, 45, 46, 47, 48, 49, 50, 51, 52, 53, 54, 55, 56, 57, 58, 59, 60, 61, 62, 63, 64, 65, 66, 67, 68, 69, 70, 71, 228, 229, 230, 231, 234, 235, 236, 237, 238, 239, 240, 241, 242, 243, 244, 245, 246, 247, 232, 233, 248, 249] (by decide +kernel) (by decide +kernel)) (goodIn_sub (fun _ h => List.mem_cons_of_mem _ (List.mem_append_left _ (List.mem_append_left _ (List.mem_append_right _ h)))) (by decide +kernel))
set_option maxRecDepth 20000 in
theorem gL_does_X5_setAddress : GoodIn wsL_does (wsV RL 43 RX5 yX5_setAddress wsX5_setAddress) := goodIn_app (goodIn_of _ (by decide +kernel)) ggL_does_X5_setAddress
set_option maxRecDepth 20000 in
theorem ggL_does_X5_learn : GoodIn wsL_does wsX5_learn := goodIn_ca (goodIn_ca (goodIn_r _ [218, 11, 12, 16, 17, 9, 18, 219, 220, 221, 222, 223, 19, 20, 21, 22, 23, 27, 28, 29, 30, 31, 32, 33, 34, 35, 36, 37, 38, 39, 40, 41, 42, 43, 44, 45, 46, 47, 48, 49, 50, 51, 52, 53, 54, 55, 56, 57, 58, 59, 60, 61, 62, 63, 64, 65, 66, 67, 68, 69, 70, 71, 154, 122, 123, 124, 224, 225, 226, 227, 228, 229, 230, 231, 234, 235, 236, 237, 238, 239, 240, 241, 242, 243, 244, 245, 246, 247, 232, 233, 248, 249] (by decide +kernel) (by decide +kernel)) (goodIn_sub (fun _ h => List.mem_cons_of_mem _ (List.mem_append_right _ h)) (by decide +kernel))) (goodIn_sub (fun _ h => List.mem_cons_of_mem _ (List.mem_append_left _ (List.mem_append_left _ (List.mem_append_right _ h)))) (by decide +kernel))
set_option maxRecDepth 20000 in
theorem gL_does_X5_learn : GoodIn wsL_does (wsV RL 46 RX5 yX5_learn wsX5_learn) := goodIn_app (goodIn_of _ (by decide +kernel)) ggL_does_X5_learn
set_option maxRecDepth 20000 in
theorem ggL_refusals_X5_refused : GoodIn wsL_refusals wsX5_refused := goodIn_ca (goodIn_r _ [5, 6, 7, 8, 4, 9, 10, 11, 12, 13, 14, 15, 16, 17, 18, 19, 20, 21, 22, 23, 24, 25, 26, 27, 28, 29, 30, 31, 32, 33, 34, 35, 36, 37, 38, 39, 40, 41] (by decide +kernel) (by decide +kernel)) (goodIn_sub (fun _ h => List.mem_cons_of_mem _ (List.mem_append_right _ h)) (by decide +kernel))
set_option maxRecDepth 20000 in
theorem gL_refusals_X5_refused : GoodIn wsL_refusals (wsV RL 49 RX5 yX5_refused wsX5_refused) := goodIn_app (goodIn_of _ (by decide +kernel)) ggL_refusals_X5_refused
set_option maxRecDepth 20000 in
theorem ggL_isFrameSo_X5_ifFrame : GoodIn wsL_isFrameSo wsX5_ifFrame := goodIn_ca (goodIn_r _ [5, 6, 7, 8, 9, 4, 10, 11, 12, 13, 14, 15, 16, 17, 18, 19, 20, 21, 22, 23, 24, 25, 26, 27, 28, 29, 30, 31, 32, 33, 34, 35, 36, 37, 38, 39, 40, 41, 42, 43, 44, 45, 46, 47, 48, 49, 50, 51, 52, 53, 54, 55, 56, 57, 58, 59, 60, 61, 62, 63, 64, 65, 66, 67, 68, 69, 70, 71, 72, 73, 74, 75, 76, 77, 78, 79, 80, 81, 82, 83, 221, 222, 223, 224, 225, 226, 227, 228, 229, 230, 231, 232, 233, 234, 235, 236, 237, 238, 239, 240, 241, 242, 243, 244, 245, 246] (by decide +kernel) (by decide +kernel)) (goodIn_sub (fun _ h => List.mem_cons_of_mem _ (List.mem_append_left _ (List.mem_append_left _ (List.mem_append_right _ h)))) (by decide +kernel))
set_option maxRecDepth 20000 in
theorem gL_isFrameSo_X5_ifFrame : GoodIn wsL_isFrameSo (wsV RL 52 RX5 yX5_ifFrame wsX5_ifFrame) := goodIn_app (goodIn_of _ (by decide +kernel)) ggL_isFrameSo_X5_ifFrame
set_option maxRecDepth 20000 in
theorem ggL_isFrameSo_X5_gain : GoodIn wsL_isFrameSo wsX5_gain := goodIn_r _ [87, 7, 221, 222, 223, 224, 225, 226, 227, 228, 229, 230, 231, 232, 233, 234, 235, 236, 237, 238] (by decide +kernel) (by decide +kernel)
set_option maxRecDepth 20000 in
theorem gL_isFrameSo_X5_gain : GoodIn wsL_isFrameSo (wsV RL 55 RX5 yX5_gain wsX5_gain) := goodIn_app (goodIn_of _ (by decide +kernel)) ggL_isFrameSo_X5_gain
set_option maxRecDepth 20000 in
theorem ggL_isFrameSo_X5_received : GoodIn wsL_isFrameSo wsX5_received := goodIn_r _ [91, 7, 221, 222, 223, 224, 225, 226, 227, 228, 229, 230, 231, 232, 233, 234, 235, 236, 237, 238] (by decide +kernel) (by decide +kernel)
set_option maxRecDepth 20000 in
theorem gL_isFrameSo_X5_received : GoodIn wsL_isFrameSo (wsV RL 58 RX5 yX5_received wsX5_received) := goodIn_app (goodIn_of _ (by decide +kernel)) ggL_isFrameSo_X5_received
set_option maxRecDepth 20000 in
theorem ggL_isFrameSo_X5_presses : GoodIn wsL_isFrameSo wsX5_presses := goodIn_r _ [95, 7, 221, 222, 223, 224, 225, 226, 227, 228, 229, 230, 231, 232, 233, 234, 235, 236, 237, 238] (by decide +kernel) (by decide +kernel)
set_option maxRecDepth 20000 in
theorem gL_isFrameSo_X5_presses : GoodIn wsL_isFrameSo (wsV RL 61 RX5 yX5_presses wsX5_presses) := goodIn_app (goodIn_of _ (by decide +kernel)) ggL_isFrameSo_X5_presses
set_option maxRecDepth 20000 in
theorem ggL_isFrameSo_X5_done : GoodIn wsL_isFrameSo wsX5_done := goodIn_ca (goodIn_r _ [99, 7, 11, 12, 4, 13, 100, 101, 102, 103, 104, 105, 67, 68, 40, 69, 42, 47, 221, 222, 223, 224, 225, 226, 227, 228, 229, 230, 231, 232, 233, 234, 235, 236, 237, 238, 245, 246] (by decide +kernel) (by decide +kernel)) (goodIn_sub (fun _ h => List.mem_cons_of_mem _ (List.mem_append_left _ (List.mem_append_right _ h))) (by decide +kernel))
set_option maxRecDepth 20000 in
theorem gL_isFrameSo_X5_done : GoodIn wsL_isFrameSo (wsV RL 64 RX5 yX5_done wsX5_done) := goodIn_app (goodIn_of _ (by decide +kernel)) ggL_isFrameSo_X5_done
set_option maxRecDepth 20000 in
theorem ggL_isFrameSo_X5_action : GoodIn wsL_isFrameSo wsX5_action := goodIn_ca (goodIn_r _ [109, 7, 11, 12, 4, 13, 100, 101, 102, 103, 104, 105, 67, 68, 40, 69, 42, 47, 221, 222, 223, 224, 225, 226, 227, 228, 229, 230, 231, 232, 233, 234, 235, 236, 237, 238, 245, 246] (by decide +kernel) (by decide +kernel)) (goodIn_sub (fun _ h => List.mem_cons_of_mem _ (List.mem_append_left _ (List.mem_append_right _ h))) (by decide +kernel))
set_option maxRecDepth 20000 in
theorem gL_isFrameSo_X5_action : GoodIn wsL_isFrameSo (wsV RL 67 RX5 yX5_action wsX5_action) := goodIn_app (goodIn_of _ (by decide +kernel)) ggL_isFrameSo_X5_action
set_option maxRecDepth 20000 in
theorem ggL_isFrameSo_X5_holds : GoodIn wsL_isFrameSo wsX5_holds := goodIn_r _ [113, 7, 78, 79, 80, 81, 82, 83, 221, 222, 223, 224, 225, 226, 227, 228, 229, 230, 231, 232, 233, 234, 235, 236, 237, 238] (by decide +kernel) (by decide +kernel)
set_option maxRecDepth 20000 in
theorem gL_isFrameSo_X5_holds : GoodIn wsL_isFrameSo (wsV RL 70 RX5 yX5_holds wsX5_holds) := goodIn_app (goodIn_of _ (by decide +kernel)) ggL_isFrameSo_X5_holds
set_option maxRecDepth 20000 in
theorem ggL_isFrameSo_X5_remembered : GoodIn wsL_isFrameSo wsX5_remembered := goodIn_r _ [117, 7, 78, 79, 80, 81, 82, 83, 221, 222, 223, 224, 225, 226, 227, 228, 229, 230, 231, 232, 233, 234, 235, 236, 237, 238] (by decide +kernel) (by decide +kernel)
set_option maxRecDepth 20000 in
theorem gL_isFrameSo_X5_remembered : GoodIn wsL_isFrameSo (wsV RL 73 RX5 yX5_remembered wsX5_remembered) := goodIn_app (goodIn_of _ (by decide +kernel)) ggL_isFrameSo_X5_remembered
set_option maxRecDepth 20000 in
theorem ggL_isFrameSo_L_refusals : GoodIn wsL_isFrameSo wsL_refusals := goodIn_ca (goodIn_r _ [121, 122, 123, 124, 4, 125, 7, 11, 12, 13, 100, 101, 102, 103, 104, 105, 67, 68, 40, 69, 42, 47, 221, 222, 223, 224, 225, 226, 227, 228, 229, 230, 231, 232, 233, 234, 235, 236, 237, 238, 245, 246] (by decide +kernel) (by decide +kernel)) (goodIn_sub (fun _ h => List.mem_cons_of_mem _ (List.mem_append_left _ (List.mem_append_right _ h))) (by decide +kernel))
set_option maxRecDepth 20000 in
theorem gL_isFrameSo_L_refusals : GoodIn wsL_isFrameSo (va_wsS RL 76 yL_refusals wsL_refusals) := goodIn_app (goodIn_of _ (by decide +kernel)) ggL_isFrameSo_L_refusals
set_option maxRecDepth 20000 in
theorem ggL_isFrameSo_X5_frame : GoodIn wsL_isFrameSo wsX5_frame := goodIn_ca (goodIn_r _ [129, 130, 7, 8, 9, 4, 10, 11, 12, 13, 14, 15, 16, 17, 18, 19, 20, 21, 131, 132, 133, 134, 135, 136, 137, 138, 139, 140, 141, 142, 143, 144, 81, 145, 146, 147, 148, 149, 150, 151, 83, 152, 153, 154, 155, 156, 157, 158, 159, 160, 161, 40, 162, 47, 163, 164, 62, 165, 166, 167, 168, 169, 42, 170, 171, 172, 173, 6, 22, 23, 24, 25, 26, 27, 28, 29, 30, 31, 32, 33, 34, 35, 36, 37, 38, 39, 41, 43, 44, 45, 46, 48, 49, 174, 175, 176, 177, 50, 51, 52, 53, 54, 55, 56, 57, 58, 59, 60, 61, 63, 64, 65, 66, 67, 68, 69, 70, 71, 72, 73, 74, 75, 76, 77, 78, 79, 80, 82, 178, 179, 180, 181, 182, 183, 184, 185, 186, 187, 188, 189, 190, 191, 192, 193, 194, 105, 195, 196, 197, 198, 199, 200, 201, 202, 221, 222, 223, 224, 247, 248, 225, 226, 227, 228, 229, 230, 231, 232, 233, 234, 235, 236, 237, 238, 245, 246, 239, 240, 241, 242, 243, 244] (by decide +kernel) (by decide +kernel)) (goodIn_sub (fun _ h => List.mem_cons_of_mem _ (List.mem_append_left _ (List.mem_append_left _ (List.mem_append_right _ h)))) (by decide +kernel))
set_option maxRecDepth 20000 in
theorem gL_isFrameSo_X5_frame : GoodIn wsL_isFrameSo (wsV RL 20 RX5 yX5_frame wsX5_frame) := goodIn_app (goodIn_of _ (by decide +kernel)) ggL_isFrameSo_X5_frame
set_option maxRecDepth 20000 in
theorem ggL_isFrameSo_X5_glare : GoodIn wsL_isFrameSo wsX5_glare := goodIn_r _ [206, 7, 221, 222, 223, 224, 225, 226, 227, 228, 229, 230, 231, 232, 233, 234, 235, 236, 237, 238] (by decide +kernel) (by decide +kernel)
set_option maxRecDepth 20000 in
theorem gL_isFrameSo_X5_glare : GoodIn wsL_isFrameSo (wsV RL 80 RX5 yX5_glare wsX5_glare) := goodIn_app (goodIn_of _ (by decide +kernel)) ggL_isFrameSo_X5_glare
set_option maxRecDepth 20000 in
theorem ggL_isFrameSo_X5_ticksToForget : GoodIn wsL_isFrameSo wsX5_ticksToForget := goodIn_r _ [210, 7, 78, 79, 80, 81, 82, 83, 221, 222, 223, 224, 225, 226, 227, 228, 229, 230, 231, 232, 233, 234, 235, 236, 237, 238] (by decide +kernel) (by decide +kernel)
set_option maxRecDepth 20000 in
theorem gL_isFrameSo_X5_ticksToForget : GoodIn wsL_isFrameSo (wsV RL 83 RX5 yX5_ticksToForget wsX5_ticksToForget) := goodIn_app (goodIn_of _ (by decide +kernel)) ggL_isFrameSo_X5_ticksToForget
set_option maxRecDepth 20000 in
theorem ggL_isFrameSo_X5_undo : GoodIn wsL_isFrameSo wsX5_undo := goodIn_ca (goodIn_r _ [214, 215, 216, 130, 7, 217, 218, 219, 134, 220, 136, 137, 142, 143, 144, 81, 145, 146, 147, 148, 149, 150, 151, 83, 152, 153, 154, 155, 156, 157, 158, 159, 160, 161, 40, 162, 47, 163, 164, 62, 165, 166, 167, 168, 169, 42, 221, 222, 223, 224, 247, 248, 225, 226, 227, 228, 229, 230, 231, 232, 233, 234, 235, 236, 237, 238, 245, 246] (by decide +kernel) (by decide +kernel)) (goodIn_sub (fun _ h => List.mem_cons_of_mem _ (List.mem_append_right _ h)) (by decide +kernel))
set_option maxRecDepth 20000 in
theorem gL_isFrameSo_X5_undo : GoodIn wsL_isFrameSo (wsV RL 86 RX5 yX5_undo wsX5_undo) := goodIn_app (goodIn_of _ (by decide +kernel)) ggL_isFrameSo_X5_undo
set_option maxRecDepth 20000 in
theorem ggL_areForecastsSo_X5_leastStrength : GoodIn wsL_areForecastsSo wsX5_leastStrength := goodIn_r _ [5, 6, 7, 8, 9, 4, 10, 11, 12, 13, 14, 15, 16, 17, 18, 19, 20, 21, 22, 23, 24, 25, 26, 27, 28, 29, 30, 31, 32, 33, 34, 35, 36, 37, 38, 39, 40, 41, 42, 43, 44, 45, 46, 47, 48, 49, 50, 51, 52, 53, 54, 55, 56, 57, 58, 59, 60, 61, 62, 63, 64, 65, 66, 67, 68, 69, 70, 71, 72, 73, 201, 202, 203, 204, 205, 206, 207, 208, 209, 210, 211, 212, 213, 214, 215, 216, 217, 218, 219, 220, 221, 222, 223, 224, 225, 226] (by decide +kernel) (by decide +kernel)
set_option maxRecDepth 20000 in
theorem gL_areForecastsSo_X5_leastStrength : GoodIn wsL_areForecastsSo (wsV RL 89 RX5 yX5_leastStrength wsX5_leastStrength) := goodIn_app (goodIn_of _ (by decide +kernel)) ggL_areForecastsSo_X5_leastStrength
set_option maxRecDepth 20000 in
theorem ggL_areForecastsSo_X5_refusalsToCome : GoodIn wsL_areForecastsSo wsX5_refusalsToCome := goodIn_r _ [77, 7, 6, 11, 12, 13, 14, 15, 16, 17, 4, 18, 19, 20, 21, 22, 23, 24, 25, 26, 27, 28, 29, 30, 31, 32, 33, 34, 35, 36, 37, 38, 39, 40, 41, 42, 43, 44, 45, 46, 47, 48, 49, 50, 51, 52, 9, 10, 53, 54, 55, 56, 57, 58, 59, 60, 61, 62, 63, 64, 65, 66, 67, 68, 69, 70, 71, 72, 73, 78, 79, 80, 81, 82, 83, 84, 85, 201, 202, 203, 204, 205, 206, 207, 208, 209, 210, 211, 212, 213, 214, 215, 216, 217, 218, 219, 220, 221, 222, 223, 224, 225, 226] (by decide +kernel) (by decide +kernel)
set_option maxRecDepth 20000 in
theorem gL_areForecastsSo_X5_refusalsToCome : GoodIn wsL_areForecastsSo (wsV RL 92 RX5 yX5_refusalsToCome wsX5_refusalsToCome) := goodIn_app (goodIn_of _ (by decide +kernel)) ggL_areForecastsSo_X5_refusalsToCome
set_option maxRecDepth 20000 in
theorem ggL_areForecastsSo_X5_ticksToForget : GoodIn wsL_areForecastsSo wsX5_ticksToForget := goodIn_r _ [89, 6, 65, 66, 67, 68, 69, 70, 201, 202, 203, 204, 205, 206, 207, 208, 209, 210, 211, 212, 213, 214, 215, 216, 217, 218] (by decide +kernel) (by decide +kernel)
set_option maxRecDepth 20000 in
theorem gL_areForecastsSo_X5_ticksToForget : GoodIn wsL_areForecastsSo (wsV RL 83 RX5 yX5_ticksToForget wsX5_ticksToForget) := goodIn_app (goodIn_of _ (by decide +kernel)) ggL_areForecastsSo_X5_ticksToForget
set_option maxRecDepth 20000 in
theorem ggL_areForecastsSo_X5_remembered : GoodIn wsL_areForecastsSo wsX5_remembered := goodIn_r _ [93, 6, 65, 66, 67, 68, 69, 70, 201, 202, 203, 204, 205, 206, 207, 208, 209, 210, 211, 212, 213, 214, 215, 216, 217, 218] (by decide +kernel) (by decide +kernel)
set_option maxRecDepth 20000 in
theorem gL_areForecastsSo_X5_remembered : GoodIn wsL_areForecastsSo (wsV RL 73 RX5 yX5_remembered wsX5_remembered) := goodIn_app (goodIn_of _ (by decide +kernel)) ggL_areForecastsSo_X5_remembered
set_option maxRecDepth 20000 in
theorem ggL_areForecastsSo_X5_holds : GoodIn wsL_areForecastsSo wsX5_holds := goodIn_r _ [97, 6, 65, 66, 67, 68, 69, 70, 201, 202, 203, 204, 205, 206, 207, 208, 209, 210, 211, 212, 213, 214, 215, 216, 217, 218] (by decide +kernel) (by decide +kernel)
set_option maxRecDepth 20000 in
theorem gL_areForecastsSo_X5_holds : GoodIn wsL_areForecastsSo (wsV RL 70 RX5 yX5_holds wsX5_holds) := goodIn_app (goodIn_of _ (by decide +kernel)) ggL_areForecastsSo_X5_holds
set_option maxRecDepth 20000 in
theorem ggL_areForecastsSo_X5_ifFrame : GoodIn wsL_areForecastsSo wsX5_ifFrame := goodIn_ca (goodIn_r _ [101, 7, 6, 102, 103, 4, 104, 105, 106, 107, 108, 109, 110, 111, 112, 113, 114, 115, 11, 12, 13, 14, 15, 16, 17, 18, 19, 20, 21, 22, 23, 24, 25, 26, 27, 28, 29, 30, 31, 32, 33, 34, 35, 36, 37, 38, 39, 40, 41, 42, 43, 44, 45, 46, 47, 48, 49, 50, 51, 52, 9, 10, 53, 54, 55, 56, 57, 58, 59, 60, 61, 62, 63, 64, 65, 66, 67, 68, 69, 70, 201, 202, 203, 204, 205, 206, 207, 208, 209, 210, 211, 212, 213, 214, 215, 216, 217, 218, 219, 220, 221, 222, 223, 224, 225, 226] (by decide +kernel) (by decide +kernel)) (goodIn_sub (fun _ h => List.mem_cons_of_mem _ (List.mem_append_left _ (List.mem_append_right _ h))) (by decide +kernel))
set_option maxRecDepth 20000 in
theorem gL_areForecastsSo_X5_ifFrame : GoodIn wsL_areForecastsSo (wsV RL 52 RX5 yX5_ifFrame wsX5_ifFrame) := goodIn_app (goodIn_of _ (by decide +kernel)) ggL_areForecastsSo_X5_ifFrame
set_option maxRecDepth 20000 in
theorem ggL_areForecastsSo_X5_pass : GoodIn wsL_areForecastsSo wsX5_pass := goodIn_ca (goodIn_r _ [119, 120, 6, 105, 106, 4, 107, 108, 109, 110, 111, 112, 121, 122, 123, 124, 125, 126, 127, 128, 129, 130, 131, 132, 133, 134, 68, 135, 136, 137, 138, 139, 140, 141, 70, 142, 143, 144, 145, 146, 147, 148, 149, 150, 151, 29, 152, 36, 153, 84, 51, 85, 154, 155, 156, 157, 31, 158, 159, 160, 161, 201, 202, 203, 204, 205, 206, 207, 208, 209, 210, 211, 212, 213, 214, 215, 216, 217, 218, 227, 228, 225, 226] (by decide +kernel) (by decide +kernel)) (goodIn_sub (fun _ h => List.mem_cons_of_mem _ (List.mem_append_left _ (List.mem_append_right _ h))) (by decide +kernel))
set_option maxRecDepth 20000 in
theorem gL_areForecastsSo_X5_pass : GoodIn wsL_areForecastsSo (wsV RL 37 RX5 yX5_pass wsX5_pass) := goodIn_app (goodIn_of _ (by decide +kernel)) ggL_areForecastsSo_X5_pass
set_option maxRecDepth 20000 in
theorem ggL_areForecastsSo_X5_undo : GoodIn wsL_areForecastsSo wsX5_undo := goodIn_ca (goodIn_r _ [165, 166, 167, 120, 6, 168, 169, 170, 124, 171, 126, 127, 132, 133, 134, 68, 135, 136, 137, 138, 139, 140, 141, 70, 142, 143, 144, 145, 146, 147, 148, 149, 150, 151, 29, 152, 36, 153, 84, 51, 85, 154, 155, 156, 157, 31, 201, 202, 203, 204, 227, 228, 205, 206, 207, 208, 209, 210, 211, 212, 213, 214, 215, 216, 217, 218, 225, 226] (by decide +kernel) (by decide +kernel)) (goodIn_sub (fun _ h => List.mem_cons_of_mem _ (List.mem_append_right _ h)) (by decide +kernel))
set_option maxRecDepth 20000 in
theorem gL_areForecastsSo_X5_undo : GoodIn wsL_areForecastsSo (wsV RL 86 RX5 yX5_undo wsX5_undo) := goodIn_app (goodIn_of _ (by decide +kernel)) ggL_areForecastsSo_X5_undo
set_option maxRecDepth 20000 in
theorem ggL_areForecastsSo_X5_frame : GoodIn wsL_areForecastsSo wsX5_frame := goodIn_ca (goodIn_r _ [175, 120, 6, 102, 103, 4, 104, 105, 106, 107, 108, 109, 110, 111, 112, 113, 114, 115, 121, 122, 123, 124, 125, 126, 127, 128, 129, 130, 131, 132, 133, 134, 68, 135, 136, 137, 138, 139, 140, 141, 70, 142, 143, 144, 145, 146, 147, 148, 149, 150, 151, 29, 152, 36, 153, 84, 51, 85, 154, 155, 156, 157, 31, 176, 177, 178, 179, 7, 11, 12, 13, 14, 15, 16, 17, 18, 19, 20, 21, 22, 23, 24, 25, 26, 27, 28, 30, 32, 33, 34, 35, 37, 38, 180, 181, 182, 183, 39, 40, 41, 42, 43, 44, 45, 46, 47, 48, 49, 50, 52, 9, 10, 53, 54, 55, 56, 57, 58, 59, 60, 61, 62, 63, 64, 65, 66, 67, 69, 78, 79, 80, 81, 82, 83, 71, 72, 73, 184, 185, 186, 187, 188, 189, 190, 191, 192, 193, 194, 195, 196, 197, 198, 199, 200, 201, 202, 203, 204, 227, 228, 205, 206, 207, 208, 209, 210, 211, 212, 213, 214, 215, 216, 217, 218, 225, 226, 219, 220, 221, 222, 223, 224] (by decide +kernel) (by decide +kernel)) (goodIn_sub (fun _ h => List.mem_cons_of_mem _ (List.mem_append_left _ (List.mem_append_right _ h))) (by decide +kernel))
set_option maxRecDepth 20000 in
theorem gL_areForecastsSo_X5_frame : GoodIn wsL_areForecastsSo (wsV RL 20 RX5 yX5_frame wsX5_frame) := goodIn_app (goodIn_of _ (by decide +kernel)) ggL_areForecastsSo_X5_frame
set_option maxRecDepth 20000 in
theorem ggL_areBitsSo_X5_bit : GoodIn wsL_areBitsSo wsX5_bit := goodIn_ca (goodIn_r _ [5, 6, 7, 4, 8, 9, 10, 11, 12, 13, 14, 15, 16, 17, 18, 19, 20, 21, 22, 23, 24, 25, 26, 27, 28, 29] (by decide +kernel) (by decide +kernel)) (goodIn_sub (fun _ h => List.mem_cons_of_mem _ (List.mem_append_right _ h)) (by decide +kernel))
set_option maxRecDepth 20000 in
theorem gL_areBitsSo_X5_bit : GoodIn wsL_areBitsSo (wsV RL 95 RX5 yX5_bit wsX5_bit) := goodIn_app (goodIn_of _ (by decide +kernel)) ggL_areBitsSo_X5_bit
