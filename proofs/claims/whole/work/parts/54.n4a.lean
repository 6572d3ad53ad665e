set_option maxRecDepth 20000 in
theorem ggL_frame_X5_frame : GoodIn wsL_frame wsX5_frame := goodIn_ca (goodIn_r _ [6, 7, 8, 9, 10, 5, 11, 12, 13, 14, 15, 16, 17, 18, 19, 20, 21, 22, 23, 24, 25, 26, 27, 28, 29, 30, 31, 32, 33, 34, 35, 36, 37, 38, 39, 40, 41, 42, 43, 44, 45, 46, 47, 48, 49, 50, 51, 52, 53, 54, 55, 56, 57, 58, 59, 60, 61, 62, 63, 64, 65, 66, 67, 68, 69, 70, 71, 72, 73, 74, 75, 76, 77, 78, 79, 80, 81, 82, 83, 84, 85, 86, 87, 88, 89, 90, 91, 92, 93, 94, 95, 96, 97, 98, 99, 100, 101, 102, 103, 104, 105, 106, 107, 108, 109, 110, 111, 112, 113, 114, 115, 116, 117, 118, 119, 120, 121, 122, 123, 124, 125, 126, 127, 128, 129, 130, 131, 132, 133, 134, 135, 136, 137, 138, 139, 140, 141, 142, 143, 144, 145, 146, 147, 148, 149, 150, 151, 152, 153, 154, 155, 156, 157, 158, 159, 160, 161, 162, 163, 164, 165, 166, 167, 168, 169, 170, 171, 172, 173, 174, 175, 176, 177, 178, 179, 180, 181, 182, 183, 184, 185, 186] (by decide +kernel) (by decide +kernel)) (goodIn_sub (fun _ h => List.mem_cons_of_mem _ (List.mem_append_right _ h)) (by decide +kernel))
set_option maxRecDepth 20000 in
theorem gL_frame_X5_frame : GoodIn wsL_frame (wsV RL 7 RX5 yX5_frame wsX5_frame) := goodIn_app (goodIn_of _ (by decide +kernel)) ggL_frame_X5_frame
theorem dL_frame_0 : decode cL_frame 0 = .ok (.aload 5, 2) := by decide +kernel
theorem dL_frame_2 : decode cL_frame 2 = .ok (.iconst 0, 1) := by decide +kernel
theorem dL_frame_3 : decode cL_frame 3 = .ok (.aload_n 0, 1) := by decide +kernel
theorem dL_frame_4 : decode cL_frame 4 = .ok (.iload_n 1, 1) := by decide +kernel
theorem dL_frame_5 : decode cL_frame 5 = .ok (.iload_n 2, 1) := by decide +kernel
theorem dL_frame_6 : decode cL_frame 6 = .ok (.iload_n 3, 1) := by decide +kernel
theorem dL_frame_7 : decode cL_frame 7 = .ok (.iload 4, 2) := by decide +kernel
theorem dL_frame_9 : decode cL_frame 9 = .ok (.invokevirtual 7, 3) := by decide +kernel
theorem dL_frame_12 : decode cL_frame 12 = .ok (.i2l, 1) := by decide +kernel
theorem dL_frame_13 : decode cL_frame 13 = .ok (.lastore, 1) := by decide +kernel
theorem dL_frame_14 : decode cL_frame 14 = .ok (.goto 7, 3) := by decide +kernel
theorem dL_frame_17 : decode cL_frame 17 = .ok (.astore 6, 2) := by decide +kernel
theorem dL_frame_19 : decode cL_frame 19 = .ok (.iconst 1, 1) := by decide +kernel
theorem dL_frame_20 : decode cL_frame 20 = .ok (.ireturn, 1) := by decide +kernel
theorem dL_frame_21 : decode cL_frame 21 = .ok (.iconst 0, 1) := by decide +kernel
theorem dL_frame_22 : decode cL_frame 22 = .ok (.ireturn, 1) := by decide +kernel
set_option maxRecDepth 20000 in
theorem ggL_repeat_X5_repeat : GoodIn wsL_repeat wsX5_repeat := goodIn_ca (goodIn_r _ [6, 7, 8, 9, 10, 5, 11, 12, 13, 14, 15, 16, 17, 18, 19, 20, 21, 22, 23, 24, 25, 26, 27, 28, 29, 30, 31, 32, 33, 34, 35, 36, 37, 38, 39, 40, 41, 42, 43, 44, 45, 46, 47, 48, 49, 50, 51, 52, 53, 54, 55, 56, 57, 58, 59, 60, 61, 62, 63, 64, 65, 66, 67, 68, 69, 70, 71, 72, 73, 74, 75, 76, 77, 78, 79, 80, 81, 82, 83, 84, 85, 86, 87, 88, 89, 90, 91, 92, 93, 94, 95, 96, 97, 98, 99, 100, 101, 102, 103, 104, 105, 106, 107, 108, 109, 110, 111, 112, 113, 114, 115, 116, 117, 118, 119, 120, 121, 122, 123, 124, 125, 126, 127, 128, 129, 130, 131, 132, 133, 134, 135, 136, 137, 138, 139, 140, 141, 142, 143, 144, 145, 146, 147, 148, 149, 150, 151, 152, 153, 154, 155, 156, 157, 158, 159, 160, 161, 162, 163, 164, 165, 166, 167, 168, 169, 170, 171, 172, 173, 174, 175, 176, 177, 178] (by decide +kernel) (by decide +kernel)) (goodIn_sub (fun _ h => List.mem_cons_of_mem _ (List.mem_append_right _ h)) (by decide +kernel))
set_option maxRecDepth 20000 in
theorem gL_repeat_X5_repeat : GoodIn wsL_repeat (wsV RL 15 RX5 yX5_repeat wsX5_repeat) := goodIn_app (goodIn_of _ (by decide +kernel)) ggL_repeat_X5_repeat
theorem dL_repeat_0 : decode cL_repeat 0 = .ok (.aload_n 2, 1) := by decide +kernel
theorem dL_repeat_1 : decode cL_repeat 1 = .ok (.iconst 0, 1) := by decide +kernel
theorem dL_repeat_2 : decode cL_repeat 2 = .ok (.aload_n 0, 1) := by decide +kernel
theorem dL_repeat_3 : decode cL_repeat 3 = .ok (.iload_n 1, 1) := by decide +kernel
theorem dL_repeat_4 : decode cL_repeat 4 = .ok (.invokevirtual 15, 3) := by decide +kernel
theorem dL_repeat_7 : decode cL_repeat 7 = .ok (.i2l, 1) := by decide +kernel
theorem dL_repeat_8 : decode cL_repeat 8 = .ok (.lastore, 1) := by decide +kernel
theorem dL_repeat_9 : decode cL_repeat 9 = .ok (.goto 6, 3) := by decide +kernel
theorem dL_repeat_12 : decode cL_repeat 12 = .ok (.astore_n 3, 1) := by decide +kernel
theorem dL_repeat_13 : decode cL_repeat 13 = .ok (.iconst 1, 1) := by decide +kernel
theorem dL_repeat_14 : decode cL_repeat 14 = .ok (.ireturn, 1) := by decide +kernel
theorem dL_repeat_15 : decode cL_repeat 15 = .ok (.iconst 0, 1) := by decide +kernel
theorem dL_repeat_16 : decode cL_repeat 16 = .ok (.ireturn, 1) := by decide +kernel
set_option maxRecDepth 20000 in
theorem ggL_receive_X5_receive : GoodIn wsL_receive wsX5_receive := goodIn_ca (goodIn_ca (goodIn_r _ [7, 8, 9, 10, 11, 12, 13, 14, 6, 15, 16, 17, 18, 19, 20, 21, 22, 23, 24, 25, 26, 27, 28, 29, 30, 31, 32, 33, 34, 35, 36, 37, 38, 39, 40, 41, 42, 43, 44, 45, 46, 47, 48, 49, 50, 51, 52, 53, 54, 55, 56, 57, 58, 59, 60, 61, 62, 63, 64, 65, 66, 67, 68, 69, 70, 71, 72, 73, 74, 75, 76, 77, 78, 79, 80, 81, 82, 83, 84, 85, 86, 87, 88, 89, 90, 91, 92, 93, 94, 95, 96, 97, 98, 99, 100, 101, 102, 103, 104, 105, 106, 107, 108, 109, 110, 111, 112, 113, 114, 115, 116, 117, 118, 119, 120, 121, 122, 123, 124, 125, 126, 127, 128, 129, 130, 131, 132, 133, 134, 135, 136, 137, 138, 139, 140, 141, 142, 143, 144, 145, 146, 147, 148, 149, 150, 151, 152, 153, 154, 155, 156, 157, 158, 159, 160, 161, 162, 163, 164, 165, 166, 167, 168, 169, 170, 171, 172, 173, 174, 175, 176, 177, 178, 179] (by decide +kernel) (by decide +kernel)) (goodIn_sub (fun _ h => List.mem_cons_of_mem _ (List.mem_append_left _ (List.mem_append_right _ h))) (by decide +kernel))) (goodIn_sub (fun _ h => List.mem_cons_of_mem _ (List.mem_append_right _ h)) (by decide +kernel))
set_option maxRecDepth 20000 in
theorem gL_receive_X5_receive : GoodIn wsL_receive (wsV RL 19 RX5 yX5_receive wsX5_receive) := goodIn_app (goodIn_of _ (by decide +kernel)) ggL_receive_X5_receive
theorem dL_receive_0 : decode cL_receive 0 = .ok (.aload_n 2, 1) := by decide +kernel
theorem dL_receive_1 : decode cL_receive 1 = .ok (.iconst 0, 1) := by decide +kernel
theorem dL_receive_2 : decode cL_receive 2 = .ok (.aload_n 0, 1) := by decide +kernel
theorem dL_receive_3 : decode cL_receive 3 = .ok (.iload_n 1, 1) := by decide +kernel
theorem dL_receive_4 : decode cL_receive 4 = .ok (.invokevirtual 19, 3) := by decide +kernel
theorem dL_receive_7 : decode cL_receive 7 = .ok (.i2l, 1) := by decide +kernel
theorem dL_receive_8 : decode cL_receive 8 = .ok (.lastore, 1) := by decide +kernel
theorem dL_receive_9 : decode cL_receive 9 = .ok (.goto 9, 3) := by decide +kernel
theorem dL_receive_12 : decode cL_receive 12 = .ok (.astore_n 3, 1) := by decide +kernel
theorem dL_receive_13 : decode cL_receive 13 = .ok (.iconst 1, 1) := by decide +kernel
theorem dL_receive_14 : decode cL_receive 14 = .ok (.ireturn, 1) := by decide +kernel
theorem dL_receive_15 : decode cL_receive 15 = .ok (.astore_n 3, 1) := by decide +kernel
theorem dL_receive_16 : decode cL_receive 16 = .ok (.iconst 2, 1) := by decide +kernel
theorem dL_receive_17 : decode cL_receive 17 = .ok (.ireturn, 1) := by decide +kernel
theorem dL_receive_18 : decode cL_receive 18 = .ok (.iconst 0, 1) := by decide +kernel
theorem dL_receive_19 : decode cL_receive 19 = .ok (.ireturn, 1) := by decide +kernel
set_option maxRecDepth 20000 in
theorem ggL_shine_X5_shine : GoodIn wsL_shine wsX5_shine := goodIn_ca (goodIn_ca (goodIn_r _ [7, 8, 9, 10, 11, 12, 13, 6, 14, 15, 16, 17, 18, 19, 20, 21, 22, 23, 24, 25, 26, 27, 28, 29, 30, 31, 32, 33, 34, 35, 36, 37, 38, 39, 40, 41, 42, 43, 44, 45, 46, 47, 48, 49, 50, 51, 52, 53, 54, 55, 56, 57, 58, 59, 60, 61, 62, 63, 64, 65, 66, 67, 68, 69, 70, 71, 72, 73, 74, 75, 76, 77, 78, 79, 80, 81, 82, 83, 84, 85, 86, 87, 88, 89, 90] (by decide +kernel) (by decide +kernel)) (goodIn_sub (fun _ h => List.mem_cons_of_mem _ (List.mem_append_left _ (List.mem_append_right _ h))) (by decide +kernel))) (goodIn_sub (fun _ h => List.mem_cons_of_mem _ (List.mem_append_right _ h)) (by decide +kernel))
set_option maxRecDepth 20000 in
theorem gL_shine_X5_shine : GoodIn wsL_shine (wsV RL 24 RX5 yX5_shine wsX5_shine) := goodIn_app (goodIn_of _ (by decide +kernel)) ggL_shine_X5_shine
theorem dL_shine_0 : decode cL_shine 0 = .ok (.aload_n 2, 1) := by decide +kernel
theorem dL_shine_1 : decode cL_shine 1 = .ok (.iconst 0, 1) := by decide +kernel
theorem dL_shine_2 : decode cL_shine 2 = .ok (.aload_n 0, 1) := by decide +kernel
theorem dL_shine_3 : decode cL_shine 3 = .ok (.iload_n 1, 1) := by decide +kernel
theorem dL_shine_4 : decode cL_shine 4 = .ok (.invokevirtual 24, 3) := by decide +kernel
theorem dL_shine_7 : decode cL_shine 7 = .ok (.i2l, 1) := by decide +kernel
theorem dL_shine_8 : decode cL_shine 8 = .ok (.lastore, 1) := by decide +kernel
theorem dL_shine_9 : decode cL_shine 9 = .ok (.goto 9, 3) := by decide +kernel
theorem dL_shine_12 : decode cL_shine 12 = .ok (.astore_n 3, 1) := by decide +kernel
theorem dL_shine_13 : decode cL_shine 13 = .ok (.iconst 1, 1) := by decide +kernel
theorem dL_shine_14 : decode cL_shine 14 = .ok (.ireturn, 1) := by decide +kernel
theorem dL_shine_15 : decode cL_shine 15 = .ok (.astore_n 3, 1) := by decide +kernel
theorem dL_shine_16 : decode cL_shine 16 = .ok (.iconst 2, 1) := by decide +kernel
theorem dL_shine_17 : decode cL_shine 17 = .ok (.ireturn, 1) := by decide +kernel
theorem dL_shine_18 : decode cL_shine 18 = .ok (.iconst 0, 1) := by decide +kernel
theorem dL_shine_19 : decode cL_shine 19 = .ok (.ireturn, 1) := by decide +kernel
set_option maxRecDepth 20000 in
theorem ggL_pass_X5_pass : GoodIn wsL_pass wsX5_pass := goodIn_ca (goodIn_r _ [6, 7, 8, 9, 10, 5, 11, 12, 13, 14, 15, 16, 17, 18, 19, 20, 21, 22, 23, 24, 25, 26, 27, 28, 29, 30, 31, 32, 33, 34, 35, 36, 37, 38, 39, 40, 41, 42, 43, 44, 45, 46, 47, 48, 49, 50, 51, 52, 53, 54, 55, 56, 57, 58, 59, 60, 61, 62, 63, 64, 65, 66, 67, 68, 69, 70, 71, 72, 73, 74, 75, 76, 77, 78, 79, 80, 81, 82, 83, 84, 85, 86, 87] (by decide +kernel) (by decide +kernel)) (goodIn_sub (fun _ h => List.mem_cons_of_mem _ (List.mem_append_right _ h)) (by decide +kernel))
set_option maxRecDepth 20000 in
theorem gL_pass_X5_pass : GoodIn wsL_pass (wsV RL 27 RX5 yX5_pass wsX5_pass) := goodIn_app (goodIn_of _ (by decide +kernel)) ggL_pass_X5_pass
theorem dL_pass_0 : decode cL_pass 0 = .ok (.aload_n 2, 1) := by decide +kernel
theorem dL_pass_1 : decode cL_pass 1 = .ok (.iconst 0, 1) := by decide +kernel
theorem dL_pass_2 : decode cL_pass 2 = .ok (.aload_n 0, 1) := by decide +kernel
theorem dL_pass_3 : decode cL_pass 3 = .ok (.iload_n 1, 1) := by decide +kernel
theorem dL_pass_4 : decode cL_pass 4 = .ok (.invokevirtual 27, 3) := by decide +kernel
theorem dL_pass_7 : decode cL_pass 7 = .ok (.i2l, 1) := by decide +kernel
theorem dL_pass_8 : decode cL_pass 8 = .ok (.lastore, 1) := by decide +kernel
theorem dL_pass_9 : decode cL_pass 9 = .ok (.goto 6, 3) := by decide +kernel
theorem dL_pass_12 : decode cL_pass 12 = .ok (.astore_n 3, 1) := by decide +kernel
theorem dL_pass_13 : decode cL_pass 13 = .ok (.iconst 1, 1) := by decide +kernel
theorem dL_pass_14 : decode cL_pass 14 = .ok (.ireturn, 1) := by decide +kernel
theorem dL_pass_15 : decode cL_pass 15 = .ok (.iconst 0, 1) := by decide +kernel
theorem dL_pass_16 : decode cL_pass 16 = .ok (.ireturn, 1) := by decide +kernel
set_option maxRecDepth 20000 in
theorem ggL_setGlare_X5_setGlare : GoodIn wsL_setGlare wsX5_setGlare := goodIn_ca (goodIn_r _ [6, 7, 8, 9, 10, 5, 11, 12, 13, 14, 15, 16, 17, 18, 19, 20, 21, 22, 23, 24, 25, 26, 27, 28, 29, 30, 31, 32, 33, 34, 35, 36, 37, 38, 39, 40, 41, 42, 43, 44, 45, 46, 47, 48, 49, 50, 51, 52, 53, 54, 55, 56, 57, 58, 59, 60, 61, 62, 63, 64, 65, 66, 67, 68, 69, 70, 71, 72, 73, 74, 75, 76, 77, 78, 79, 80, 81, 82, 83] (by decide +kernel) (by decide +kernel)) (goodIn_sub (fun _ h => List.mem_cons_of_mem _ (List.mem_append_right _ h)) (by decide +kernel))
set_option maxRecDepth 20000 in
theorem gL_setGlare_X5_setGlare : GoodIn wsL_setGlare (wsV RL 30 RX5 yX5_setGlare wsX5_setGlare) := goodIn_app (goodIn_of _ (by decide +kernel)) ggL_setGlare_X5_setGlare
theorem dL_setGlare_0 : decode cL_setGlare 0 = .ok (.aload_n 2, 1) := by decide +kernel
theorem dL_setGlare_1 : decode cL_setGlare 1 = .ok (.iconst 0, 1) := by decide +kernel
theorem dL_setGlare_2 : decode cL_setGlare 2 = .ok (.aload_n 0, 1) := by decide +kernel
theorem dL_setGlare_3 : decode cL_setGlare 3 = .ok (.iload_n 1, 1) := by decide +kernel
theorem dL_setGlare_4 : decode cL_setGlare 4 = .ok (.invokevirtual 30, 3) := by decide +kernel
theorem dL_setGlare_7 : decode cL_setGlare 7 = .ok (.i2l, 1) := by decide +kernel
theorem dL_setGlare_8 : decode cL_setGlare 8 = .ok (.lastore, 1) := by decide +kernel
theorem dL_setGlare_9 : decode cL_setGlare 9 = .ok (.goto 6, 3) := by decide +kernel
theorem dL_setGlare_12 : decode cL_setGlare 12 = .ok (.astore_n 3, 1) := by decide +kernel
theorem dL_setGlare_13 : decode cL_setGlare 13 = .ok (.iconst 1, 1) := by decide +kernel
theorem dL_setGlare_14 : decode cL_setGlare 14 = .ok (.ireturn, 1) := by decide +kernel
theorem dL_setGlare_15 : decode cL_setGlare 15 = .ok (.iconst 0, 1) := by decide +kernel
theorem dL_setGlare_16 : decode cL_setGlare 16 = .ok (.ireturn, 1) := by decide +kernel
set_option maxRecDepth 20000 in
theorem ggL_setAddress_X5_setAddress : GoodIn wsL_setAddress wsX5_setAddress := goodIn_ca (goodIn_r _ [6, 7, 8, 9, 10, 5, 11, 12, 13, 14, 15, 16, 17, 18, 19, 20, 21, 22, 23, 24, 25, 26, 27, 28, 29, 30, 31, 32, 33, 34, 35, 36, 37, 38, 39, 40, 41, 42, 43, 44, 45, 46, 47, 48, 49, 50, 51, 52, 53, 54, 55, 56, 57, 58, 59, 60, 61, 62, 63, 64, 65, 66, 67, 68, 69, 70, 71, 72, 73, 74, 75, 76, 77, 78, 79, 80, 81, 82, 83] (by decide +kernel) (by decide +kernel)) (goodIn_sub (fun _ h => List.mem_cons_of_mem _ (List.mem_append_right _ h)) (by decide +kernel))
set_option maxRecDepth 20000 in
theorem gL_setAddress_X5_setAddress : GoodIn wsL_setAddress (wsV RL 33 RX5 yX5_setAddress wsX5_setAddress) := goodIn_app (goodIn_of _ (by decide +kernel)) ggL_setAddress_X5_setAddress
theorem dL_setAddress_0 : decode cL_setAddress 0 = .ok (.aload_n 2, 1) := by decide +kernel
theorem dL_setAddress_1 : decode cL_setAddress 1 = .ok (.iconst 0, 1) := by decide +kernel
theorem dL_setAddress_2 : decode cL_setAddress 2 = .ok (.aload_n 0, 1) := by decide +kernel
theorem dL_setAddress_3 : decode cL_setAddress 3 = .ok (.iload_n 1, 1) := by decide +kernel
theorem dL_setAddress_4 : decode cL_setAddress 4 = .ok (.invokevirtual 33, 3) := by decide +kernel
theorem dL_setAddress_7 : decode cL_setAddress 7 = .ok (.i2l, 1) := by decide +kernel
theorem dL_setAddress_8 : decode cL_setAddress 8 = .ok (.lastore, 1) := by decide +kernel
theorem dL_setAddress_9 : decode cL_setAddress 9 = .ok (.goto 6, 3) := by decide +kernel
theorem dL_setAddress_12 : decode cL_setAddress 12 = .ok (.astore_n 3, 1) := by decide +kernel
theorem dL_setAddress_13 : decode cL_setAddress 13 = .ok (.iconst 1, 1) := by decide +kernel
theorem dL_setAddress_14 : decode cL_setAddress 14 = .ok (.ireturn, 1) := by decide +kernel
theorem dL_setAddress_15 : decode cL_setAddress 15 = .ok (.iconst 0, 1) := by decide +kernel
theorem dL_setAddress_16 : decode cL_setAddress 16 = .ok (.ireturn, 1) := by decide +kernel
set_option maxRecDepth 20000 in
theorem ggL_learn_X5_learn : GoodIn wsL_learn wsX5_learn := goodIn_ca (goodIn_ca (goodIn_r _ [7, 8, 9, 10, 11, 6, 12, 13, 14, 15, 16, 17, 18, 19, 20, 21, 22, 23, 24, 25, 26, 27, 28, 29, 30, 31, 32, 33, 34, 35, 36, 37, 38, 39, 40, 41, 42, 43, 44, 45, 46, 47, 48, 49, 50, 51, 52, 53, 54, 55, 56, 57, 58, 59, 60, 61, 62, 63, 64, 65, 66, 67, 68, 69, 70, 71, 72, 73, 74, 75, 76, 77, 78, 79, 80, 81, 82, 83, 84, 85, 86, 87, 88, 89, 90, 91, 92, 93, 94, 95, 96, 97] (by decide +kernel) (by decide +kernel)) (goodIn_sub (fun _ h => List.mem_cons_of_mem _ (List.mem_append_left _ (List.mem_append_right _ h))) (by decide +kernel))) (goodIn_sub (fun _ h => List.mem_cons_of_mem _ (List.mem_append_right _ h)) (by decide +kernel))
set_option maxRecDepth 20000 in
theorem gL_learn_X5_learn : GoodIn wsL_learn (wsV RL 36 RX5 yX5_learn wsX5_learn) := goodIn_app (goodIn_of _ (by decide +kernel)) ggL_learn_X5_learn
theorem dL_learn_0 : decode cL_learn 0 = .ok (.aload_n 3, 1) := by decide +kernel
theorem dL_learn_1 : decode cL_learn 1 = .ok (.iconst 0, 1) := by decide +kernel
theorem dL_learn_2 : decode cL_learn 2 = .ok (.aload_n 0, 1) := by decide +kernel
theorem dL_learn_3 : decode cL_learn 3 = .ok (.iload_n 1, 1) := by decide +kernel
theorem dL_learn_4 : decode cL_learn 4 = .ok (.iload_n 2, 1) := by decide +kernel
theorem dL_learn_5 : decode cL_learn 5 = .ok (.invokevirtual 36, 3) := by decide +kernel
theorem dL_learn_8 : decode cL_learn 8 = .ok (.i2l, 1) := by decide +kernel
theorem dL_learn_9 : decode cL_learn 9 = .ok (.lastore, 1) := by decide +kernel
theorem dL_learn_10 : decode cL_learn 10 = .ok (.goto 11, 3) := by decide +kernel
theorem dL_learn_13 : decode cL_learn 13 = .ok (.astore 4, 2) := by decide +kernel
theorem dL_learn_15 : decode cL_learn 15 = .ok (.iconst 1, 1) := by decide +kernel
theorem dL_learn_16 : decode cL_learn 16 = .ok (.ireturn, 1) := by decide +kernel
theorem dL_learn_17 : decode cL_learn 17 = .ok (.astore 4, 2) := by decide +kernel
theorem dL_learn_19 : decode cL_learn 19 = .ok (.iconst 2, 1) := by decide +kernel
theorem dL_learn_20 : decode cL_learn 20 = .ok (.ireturn, 1) := by decide +kernel
theorem dL_learn_21 : decode cL_learn 21 = .ok (.iconst 0, 1) := by decide +kernel
theorem dL_learn_22 : decode cL_learn 22 = .ok (.ireturn, 1) := by decide +kernel
set_option maxRecDepth 20000 in
theorem ggL_action_X5_action : GoodIn wsL_action wsX5_action := goodIn_ca (goodIn_r _ [6, 7, 8, 9, 5, 10, 11, 12, 13, 14, 15, 16, 17, 18, 19, 20, 21, 22, 23, 24, 25, 26, 27, 28, 29, 30, 31, 32, 33, 34, 35, 36, 37, 38, 39, 40, 41, 42] (by decide +kernel) (by decide +kernel)) (goodIn_sub (fun _ h => List.mem_cons_of_mem _ (List.mem_append_right _ h)) (by decide +kernel))
set_option maxRecDepth 20000 in
theorem gL_action_X5_action : GoodIn wsL_action (wsV RL 42 RX5 yX5_action wsX5_action) := goodIn_app (goodIn_of _ (by decide +kernel)) ggL_action_X5_action
theorem dL_action_0 : decode cL_action 0 = .ok (.aload_n 2, 1) := by decide +kernel
theorem dL_action_1 : decode cL_action 1 = .ok (.iconst 0, 1) := by decide +kernel
theorem dL_action_2 : decode cL_action 2 = .ok (.aload_n 0, 1) := by decide +kernel
theorem dL_action_3 : decode cL_action 3 = .ok (.iload_n 1, 1) := by decide +kernel
theorem dL_action_4 : decode cL_action 4 = .ok (.invokevirtual 42, 3) := by decide +kernel
theorem dL_action_7 : decode cL_action 7 = .ok (.i2l, 1) := by decide +kernel
theorem dL_action_8 : decode cL_action 8 = .ok (.lastore, 1) := by decide +kernel
theorem dL_action_9 : decode cL_action 9 = .ok (.goto 6, 3) := by decide +kernel
theorem dL_action_12 : decode cL_action 12 = .ok (.astore_n 3, 1) := by decide +kernel
theorem dL_action_13 : decode cL_action 13 = .ok (.iconst 1, 1) := by decide +kernel
theorem dL_action_14 : decode cL_action 14 = .ok (.ireturn, 1) := by decide +kernel
theorem dL_action_15 : decode cL_action 15 = .ok (.iconst 0, 1) := by decide +kernel
theorem dL_action_16 : decode cL_action 16 = .ok (.ireturn, 1) := by decide +kernel
set_option maxRecDepth 20000 in
theorem ggL_done_X5_done : GoodIn wsL_done wsX5_done := goodIn_ca (goodIn_r _ [6, 7, 8, 9, 5, 10, 11, 12, 13, 14, 15, 16, 17, 18, 19, 20, 21, 22, 23, 24, 25, 26, 27, 28, 29, 30, 31, 32, 33, 34, 35, 36, 37, 38, 39, 40, 41, 42] (by decide +kernel) (by decide +kernel)) (goodIn_sub (fun _ h => List.mem_cons_of_mem _ (List.mem_append_right _ h)) (by decide +kernel))
set_option maxRecDepth 20000 in
theorem gL_done_X5_done : GoodIn wsL_done (wsV RL 45 RX5 yX5_done wsX5_done) := goodIn_app (goodIn_of _ (by decide +kernel)) ggL_done_X5_done
theorem dL_done_0 : decode cL_done 0 = .ok (.aload_n 2, 1) := by decide +kernel
theorem dL_done_1 : decode cL_done 1 = .ok (.iconst 0, 1) := by decide +kernel
theorem dL_done_2 : decode cL_done 2 = .ok (.aload_n 0, 1) := by decide +kernel
theorem dL_done_3 : decode cL_done 3 = .ok (.iload_n 1, 1) := by decide +kernel
theorem dL_done_4 : decode cL_done 4 = .ok (.invokevirtual 45, 3) := by decide +kernel
theorem dL_done_7 : decode cL_done 7 = .ok (.i2l, 1) := by decide +kernel
theorem dL_done_8 : decode cL_done 8 = .ok (.lastore, 1) := by decide +kernel
theorem dL_done_9 : decode cL_done 9 = .ok (.goto 6, 3) := by decide +kernel
theorem dL_done_12 : decode cL_done 12 = .ok (.astore_n 3, 1) := by decide +kernel
theorem dL_done_13 : decode cL_done 13 = .ok (.iconst 1, 1) := by decide +kernel
theorem dL_done_14 : decode cL_done 14 = .ok (.ireturn, 1) := by decide +kernel
theorem dL_done_15 : decode cL_done 15 = .ok (.iconst 0, 1) := by decide +kernel
theorem dL_done_16 : decode cL_done 16 = .ok (.ireturn, 1) := by decide +kernel
set_option maxRecDepth 20000 in
theorem ggL_refused_X5_refused : GoodIn wsL_refused wsX5_refused := goodIn_ca (goodIn_r _ [6, 7, 8, 9, 5, 10, 11, 12, 13, 14, 15, 16, 17, 18, 19, 20, 21, 22, 23, 24, 25, 26, 27, 28, 29, 30, 31, 32, 33, 34, 35, 36, 37, 38, 39, 40, 41, 42] (by decide +kernel) (by decide +kernel)) (goodIn_sub (fun _ h => List.mem_cons_of_mem _ (List.mem_append_right _ h)) (by decide +kernel))
set_option maxRecDepth 20000 in
theorem gL_refused_X5_refused : GoodIn wsL_refused (wsV RL 48 RX5 yX5_refused wsX5_refused) := goodIn_app (goodIn_of _ (by decide +kernel)) ggL_refused_X5_refused
theorem dL_refused_0 : decode cL_refused 0 = .ok (.aload_n 2, 1) := by decide +kernel
theorem dL_refused_1 : decode cL_refused 1 = .ok (.iconst 0, 1) := by decide +kernel
theorem dL_refused_2 : decode cL_refused 2 = .ok (.aload_n 0, 1) := by decide +kernel
theorem dL_refused_3 : decode cL_refused 3 = .ok (.iload_n 1, 1) := by decide +kernel
theorem dL_refused_4 : decode cL_refused 4 = .ok (.invokevirtual 48, 3) := by decide +kernel
theorem dL_refused_7 : decode cL_refused 7 = .ok (.i2l, 1) := by decide +kernel
theorem dL_refused_8 : decode cL_refused 8 = .ok (.lastore, 1) := by decide +kernel
theorem dL_refused_9 : decode cL_refused 9 = .ok (.goto 6, 3) := by decide +kernel
theorem dL_refused_12 : decode cL_refused 12 = .ok (.astore_n 3, 1) := by decide +kernel
theorem dL_refused_13 : decode cL_refused 13 = .ok (.iconst 1, 1) := by decide +kernel
theorem dL_refused_14 : decode cL_refused 14 = .ok (.ireturn, 1) := by decide +kernel
theorem dL_refused_15 : decode cL_refused 15 = .ok (.iconst 0, 1) := by decide +kernel
theorem dL_refused_16 : decode cL_refused 16 = .ok (.ireturn, 1) := by decide +kernel
set_option maxRecDepth 20000 in
theorem ggL_bit_X5_bit : GoodIn wsL_bit wsX5_bit := goodIn_ca (goodIn_r _ [6, 7, 8, 5, 9, 10, 11, 12, 13, 14, 15, 16, 17, 18, 19, 20, 21, 22, 23, 24, 25, 26, 27, 28, 29, 30] (by decide +kernel) (by decide +kernel)) (goodIn_sub (fun _ h => List.mem_cons_of_mem _ (List.mem_append_right _ h)) (by decide +kernel))
set_option maxRecDepth 20000 in
theorem gL_bit_X5_bit : GoodIn wsL_bit (wsV RL 51 RX5 yX5_bit wsX5_bit) := goodIn_app (goodIn_of _ (by decide +kernel)) ggL_bit_X5_bit
theorem dL_bit_0 : decode cL_bit 0 = .ok (.aload 5, 2) := by decide +kernel
theorem dL_bit_2 : decode cL_bit 2 = .ok (.iconst 0, 1) := by decide +kernel
theorem dL_bit_3 : decode cL_bit 3 = .ok (.aload_n 0, 1) := by decide +kernel
theorem dL_bit_4 : decode cL_bit 4 = .ok (.iload_n 1, 1) := by decide +kernel
theorem dL_bit_5 : decode cL_bit 5 = .ok (.iload_n 2, 1) := by decide +kernel
theorem dL_bit_6 : decode cL_bit 6 = .ok (.iload_n 3, 1) := by decide +kernel
theorem dL_bit_7 : decode cL_bit 7 = .ok (.iload 4, 2) := by decide +kernel
theorem dL_bit_9 : decode cL_bit 9 = .ok (.invokevirtual 51, 3) := by decide +kernel
theorem dL_bit_12 : decode cL_bit 12 = .ok (.i2l, 1) := by decide +kernel
theorem dL_bit_13 : decode cL_bit 13 = .ok (.lastore, 1) := by decide +kernel
theorem dL_bit_14 : decode cL_bit 14 = .ok (.goto 7, 3) := by decide +kernel
theorem dL_bit_17 : decode cL_bit 17 = .ok (.astore 6, 2) := by decide +kernel
theorem dL_bit_19 : decode cL_bit 19 = .ok (.iconst 1, 1) := by decide +kernel
theorem dL_bit_20 : decode cL_bit 20 = .ok (.ireturn, 1) := by decide +kernel
theorem dL_bit_21 : decode cL_bit 21 = .ok (.iconst 0, 1) := by decide +kernel
theorem dL_bit_22 : decode cL_bit 22 = .ok (.ireturn, 1) := by decide +kernel
set_option maxRecDepth 20000 in
theorem ggL_ifFrame_X5_ifFrame : GoodIn wsL_ifFrame wsX5_ifFrame := goodIn_ca (goodIn_r _ [6, 7, 8, 9, 10, 5, 11, 12, 13, 14, 15, 16, 17, 18, 19, 20, 21, 22, 23, 24, 25, 26, 27, 28, 29, 30, 31, 32, 33, 34, 35, 36, 37, 38, 39, 40, 41, 42, 43, 44, 45, 46, 47, 48, 49, 50, 51, 52, 53, 54, 55, 56, 57, 58, 59, 60, 61, 62, 63, 64, 65, 66, 67, 68, 69, 70, 71, 72, 73, 74, 75, 76, 77, 78, 79, 80, 81, 82, 83, 84, 85, 86, 87, 88, 89, 90, 91, 92, 93, 94, 95, 96, 97, 98, 99, 100, 101, 102, 103, 104, 105, 106, 107, 108, 109, 110] (by decide +kernel) (by decide +kernel)) (goodIn_sub (fun _ h => List.mem_cons_of_mem _ (List.mem_append_right _ h)) (by decide +kernel))
set_option maxRecDepth 20000 in
theorem gL_ifFrame_X5_ifFrame : GoodIn wsL_ifFrame (wsV RL 54 RX5 yX5_ifFrame wsX5_ifFrame) := goodIn_app (goodIn_of _ (by decide +kernel)) ggL_ifFrame_X5_ifFrame
theorem dL_ifFrame_0 : decode cL_ifFrame 0 = .ok (.aload 5, 2) := by decide +kernel
theorem dL_ifFrame_2 : decode cL_ifFrame 2 = .ok (.iconst 0, 1) := by decide +kernel
theorem dL_ifFrame_3 : decode cL_ifFrame 3 = .ok (.aload_n 0, 1) := by decide +kernel
theorem dL_ifFrame_4 : decode cL_ifFrame 4 = .ok (.iload_n 1, 1) := by decide +kernel
theorem dL_ifFrame_5 : decode cL_ifFrame 5 = .ok (.iload_n 2, 1) := by decide +kernel
theorem dL_ifFrame_6 : decode cL_ifFrame 6 = .ok (.iload_n 3, 1) := by decide +kernel
theorem dL_ifFrame_7 : decode cL_ifFrame 7 = .ok (.iload 4, 2) := by decide +kernel
theorem dL_ifFrame_9 : decode cL_ifFrame 9 = .ok (.invokevirtual 54, 3) := by decide +kernel
theorem dL_ifFrame_12 : decode cL_ifFrame 12 = .ok (.i2l, 1) := by decide +kernel
theorem dL_ifFrame_13 : decode cL_ifFrame 13 = .ok (.lastore, 1) := by decide +kernel
theorem dL_ifFrame_14 : decode cL_ifFrame 14 = .ok (.goto 7, 3) := by decide +kernel
theorem dL_ifFrame_17 : decode cL_ifFrame 17 = .ok (.astore 6, 2) := by decide +kernel
theorem dL_ifFrame_19 : decode cL_ifFrame 19 = .ok (.iconst 1, 1) := by decide +kernel
theorem dL_ifFrame_20 : decode cL_ifFrame 20 = .ok (.ireturn, 1) := by decide +kernel
theorem dL_ifFrame_21 : decode cL_ifFrame 21 = .ok (.iconst 0, 1) := by decide +kernel
theorem dL_ifFrame_22 : decode cL_ifFrame 22 = .ok (.ireturn, 1) := by decide +kernel
set_option maxRecDepth 20000 in
theorem ggL_append_X5_append : GoodIn wsL_append wsX5_append := goodIn_ca (goodIn_ca (goodIn_r _ [7, 8, 9, 10, 11, 12, 6, 13, 14, 15, 16, 17, 18, 19, 20, 21, 22, 23, 24, 25, 26, 27, 28, 29, 30, 31, 32] (by decide +kernel) (by decide +kernel)) (goodIn_sub (fun _ h => List.mem_cons_of_mem _ (List.mem_append_left _ (List.mem_append_right _ h))) (by decide +kernel))) (goodIn_sub (fun _ h => List.mem_cons_of_mem _ (List.mem_append_right _ h)) (by decide +kernel))
set_option maxRecDepth 20000 in
theorem gL_append_X5_append : GoodIn wsL_append (wsV RL 57 RX5 yX5_append wsX5_append) := goodIn_app (goodIn_of _ (by decide +kernel)) ggL_append_X5_append
theorem dL_append_0 : decode cL_append 0 = .ok (.aload_n 2, 1) := by decide +kernel
theorem dL_append_1 : decode cL_append 1 = .ok (.iconst 0, 1) := by decide +kernel
theorem dL_append_2 : decode cL_append 2 = .ok (.aload_n 0, 1) := by decide +kernel
theorem dL_append_3 : decode cL_append 3 = .ok (.iload_n 1, 1) := by decide +kernel
theorem dL_append_4 : decode cL_append 4 = .ok (.invokevirtual 57, 3) := by decide +kernel
theorem dL_append_7 : decode cL_append 7 = .ok (.i2l, 1) := by decide +kernel
theorem dL_append_8 : decode cL_append 8 = .ok (.lastore, 1) := by decide +kernel
theorem dL_append_9 : decode cL_append 9 = .ok (.goto 9, 3) := by decide +kernel
theorem dL_append_12 : decode cL_append 12 = .ok (.astore_n 3, 1) := by decide +kernel
theorem dL_append_13 : decode cL_append 13 = .ok (.iconst 1, 1) := by decide +kernel
theorem dL_append_14 : decode cL_append 14 = .ok (.ireturn, 1) := by decide +kernel
theorem dL_append_15 : decode cL_append 15 = .ok (.astore_n 3, 1) := by decide +kernel
theorem dL_append_16 : decode cL_append 16 = .ok (.iconst 2, 1) := by decide +kernel
theorem dL_append_17 : decode cL_append 17 = .ok (.ireturn, 1) := by decide +kernel
theorem dL_append_18 : decode cL_append 18 = .ok (.iconst 0, 1) := by decide +kernel
theorem dL_append_19 : decode cL_append 19 = .ok (.ireturn, 1) := by decide +kernel
set_option maxRecDepth 20000 in
theorem ggL_run_X5_run : GoodIn wsL_run wsX5_run := goodIn_ca (goodIn_r _ [6, 7, 8, 9, 10, 11, 12, 13, 14, 15, 16, 17, 18, 19, 20, 21, 22, 23, 24, 25, 26, 27, 28, 29, 5, 30, 31, 32, 33, 34, 35, 36, 37, 38, 39, 40, 41, 42, 43, 44, 45, 46, 47, 48, 49, 50, 51, 52, 53, 54, 55, 56, 57, 58, 59, 60, 61, 62, 63, 64, 65, 66, 67, 68, 69, 70, 71, 72, 73, 74, 75, 76, 77, 78, 79, 80, 81, 82, 83, 84, 85, 86, 87, 88, 89, 90, 91, 92, 93, 94, 95, 96, 97, 98, 99, 100, 101, 102, 103, 104, 105, 106, 107, 108, 109, 110, 111, 112, 113, 114, 115, 116, 117, 118, 119, 120, 121, 122, 123, 124, 125, 126, 127, 128, 129, 130, 131, 132, 133, 134, 135, 136, 137, 138, 139, 140, 141, 142, 143, 144, 145, 146, 147, 148, 149, 150, 151, 152, 153, 154, 155, 156, 157, 158, 159, 160, 161, 162, 163, 164, 165, 166, 167, 168, 169, 170, 171, 172, 173, 174, 175, 176, 177, 178, 179, 180, 181, 182, 183, 184, 185, 186, 187, 188, 189, 190, 191, 192, 193, 194, 195, 196, 197, 198, 199, 200, 201, 202, 203, 204, 205, 206, 207, 208, 209, 210, 211, 212, 213, 214, 215, 216, 217, 218] (by decide +kernel) (by decide +kernel)) (goodIn_sub (fun _ h => List.mem_cons_of_mem _ (List.mem_append_right _ h)) (by decide +kernel))
set_option maxRecDepth 20000 in
theorem gL_run_X5_run : GoodIn wsL_run (wsV RL 60 RX5 yX5_run wsX5_run) := goodIn_app (goodIn_of _ (by decide +kernel)) ggL_run_X5_run
theorem dL_run_0 : decode cL_run 0 = .ok (.aload_n 1, 1) := by decide +kernel
theorem dL_run_1 : decode cL_run 1 = .ok (.iconst 0, 1) := by decide +kernel
theorem dL_run_2 : decode cL_run 2 = .ok (.aload_n 0, 1) := by decide +kernel
theorem dL_run_3 : decode cL_run 3 = .ok (.invokevirtual 60, 3) := by decide +kernel
theorem dL_run_6 : decode cL_run 6 = .ok (.i2l, 1) := by decide +kernel
theorem dL_run_7 : decode cL_run 7 = .ok (.lastore, 1) := by decide +kernel
theorem dL_run_8 : decode cL_run 8 = .ok (.goto 6, 3) := by decide +kernel
theorem dL_run_11 : decode cL_run 11 = .ok (.astore_n 2, 1) := by decide +kernel
theorem dL_run_12 : decode cL_run 12 = .ok (.iconst 1, 1) := by decide +kernel
theorem dL_run_13 : decode cL_run 13 = .ok (.ireturn, 1) := by decide +kernel
theorem dL_run_14 : decode cL_run 14 = .ok (.iconst 0, 1) := by decide +kernel
theorem dL_run_15 : decode cL_run 15 = .ok (.ireturn, 1) := by decide +kernel
set_option maxRecDepth 20000 in
theorem ggL_undo_X5_undo : GoodIn wsL_undo wsX5_undo := goodIn_ca (goodIn_r _ [6, 7, 8, 9, 10, 11, 12, 13, 14, 15, 16, 17, 18, 19, 20, 21, 22, 23, 24, 25, 26, 27, 28, 29, 30, 31, 32, 33, 34, 35, 36, 37, 38, 39, 40, 41, 42, 43, 44, 45, 46, 47, 48, 49, 50, 51, 52, 53, 54, 55, 56, 57, 58, 59, 60, 61, 62, 63, 64, 65, 66, 67, 68, 69, 70, 71, 72, 73] (by decide +kernel) (by decide +kernel)) (goodIn_sub (fun _ h => List.mem_cons_of_mem _ (List.mem_append_right _ h)) (by decide +kernel))
set_option maxRecDepth 20000 in
theorem gL_undo_X5_undo : GoodIn wsL_undo (wsV RL 64 RX5 yX5_undo wsX5_undo) := goodIn_app (goodIn_of _ (by decide +kernel)) ggL_undo_X5_undo
theorem dL_undo_0 : decode cL_undo 0 = .ok (.aload_n 1, 1) := by decide +kernel
theorem dL_undo_1 : decode cL_undo 1 = .ok (.iconst 0, 1) := by decide +kernel
theorem dL_undo_2 : decode cL_undo 2 = .ok (.aload_n 0, 1) := by decide +kernel
theorem dL_undo_3 : decode cL_undo 3 = .ok (.invokevirtual 64, 3) := by decide +kernel
theorem dL_undo_6 : decode cL_undo 6 = .ok (.i2l, 1) := by decide +kernel
theorem dL_undo_7 : decode cL_undo 7 = .ok (.lastore, 1) := by decide +kernel
theorem dL_undo_8 : decode cL_undo 8 = .ok (.goto 6, 3) := by decide +kernel
theorem dL_undo_11 : decode cL_undo 11 = .ok (.astore_n 2, 1) := by decide +kernel
theorem dL_undo_12 : decode cL_undo 12 = .ok (.iconst 1, 1) := by decide +kernel
theorem dL_undo_13 : decode cL_undo 13 = .ok (.ireturn, 1) := by decide +kernel
theorem dL_undo_14 : decode cL_undo 14 = .ok (.iconst 0, 1) := by decide +kernel
theorem dL_undo_15 : decode cL_undo 15 = .ok (.ireturn, 1) := by decide +kernel
