theorem dX5_repeat_20 : decode cX5_repeat 20 = .ok (.ireturn, 1) := by decide +kernel
set_option maxRecDepth 20000 in
theorem ggX5_receive_X5_checkStrength : GoodIn wsX5_receive wsX5_checkStrength := goodIn_ca (goodIn_r _ [9, 10, 11, 8, 12, 13, 14, 15, 16, 17] (by decide +kernel) (by decide +kernel)) (goodIn_sub (fun _ h => List.mem_cons_of_mem _ (List.mem_append_right _ h)) (by decide +kernel))
set_option maxRecDepth 20000 in
theorem gX5_receive_X5_checkStrength : GoodIn wsX5_receive (va_wsS RX5 41 yX5_checkStrength wsX5_checkStrength) := goodIn_app (goodIn_of _ (by decide +kernel)) ggX5_receive_X5_checkStrength
set_option maxRecDepth 20000 in
theorem ggX5_receive_X3_keep : GoodIn wsX5_receive wsX3_keep := goodIn_r _ [22, 23, 24, 25, 26, 27, 21, 28, 29, 30, 31, 32, 33, 34, 35, 36, 37, 38, 39, 40, 41, 42, 43, 44, 45, 46, 47, 48, 49, 50, 51, 52, 53, 54, 55, 56, 57, 58, 59, 60, 61, 62, 166, 167, 150, 151, 152, 153, 154, 155, 156, 157, 158, 159, 160, 161, 162, 163, 164, 165] (by decide +kernel) (by decide +kernel)
set_option maxRecDepth 20000 in
theorem gX5_receive_X3_keep : GoodIn wsX5_receive (wsV RX5 45 RX3 yX3_keep wsX3_keep) := goodIn_app (goodIn_of _ (by decide +kernel)) ggX5_receive_X3_keep
set_option maxRecDepth 20000 in
theorem ggX5_receive_X0_sendRow : GoodIn wsX5_receive wsX0_sendRow := goodIn_r _ [67, 68, 69, 49, 50, 51, 52, 53, 54, 55, 56, 57, 58, 59, 60, 61, 62, 168, 169, 170, 171, 172, 173, 164, 165] (by decide +kernel) (by decide +kernel)
set_option maxRecDepth 20000 in
theorem gX5_receive_X0_sendRow : GoodIn wsX5_receive (wsV RX5 74 RX0 yX0_sendRow wsX0_sendRow) := goodIn_app (goodIn_of _ (by decide +kernel)) ggX5_receive_X0_sendRow
set_option maxRecDepth 20000 in
theorem ggX5_receive_X2_empty : GoodIn wsX5_receive wsX2_empty := goodIn_r _ [73, 62, 164, 165] (by decide +kernel) (by decide +kernel)
set_option maxRecDepth 20000 in
theorem gX5_receive_X2_empty : GoodIn wsX5_receive (wsV RX5 78 RX2 yX2_empty wsX2_empty) := goodIn_app (goodIn_of _ (by decide +kernel)) ggX5_receive_X2_empty
set_option maxRecDepth 20000 in
theorem ggX5_receive_X5_hear : GoodIn wsX5_receive wsX5_hear := goodIn_r _ [77, 3, 78, 79, 80, 8, 81, 5, 82, 83, 84, 66, 85, 86, 87, 68, 88, 89, 56, 90, 91, 92, 93, 71, 72, 51, 73, 62, 94, 95, 96, 97, 53, 98, 99, 100, 101, 102, 103, 104, 105, 106, 107, 108, 109, 110, 111, 112, 113, 114, 115, 116, 117, 118, 32, 119, 40, 120, 121, 122, 123, 124, 125, 55, 57, 126, 127, 128, 129, 130, 131, 132, 133, 134, 135, 136, 137, 138, 139, 140, 141, 142, 143, 144, 145, 146, 147, 148, 149, 150, 151, 152, 153, 154, 155, 156, 157, 158, 159, 160, 161, 162, 163, 168, 169, 170, 171, 172, 173, 164, 165] (by decide +kernel) (by decide +kernel)
set_option maxRecDepth 20000 in
theorem gX5_receive_X5_hear : GoodIn wsX5_receive (wsV RX5 81 RX5 yX5_hear wsX5_hear) := goodIn_app (goodIn_of _ (by decide +kernel)) ggX5_receive_X5_hear
theorem dX5_receive_0 : decode cX5_receive 0 = .ok (.iload_n 1, 1) := by decide +kernel
theorem dX5_receive_1 : decode cX5_receive 1 = .ok (.invokestatic 41, 3) := by decide +kernel
theorem dX5_receive_4 : decode cX5_receive 4 = .ok (.aload_n 0, 1) := by decide +kernel
theorem dX5_receive_5 : decode cX5_receive 5 = .ok (.getfield 12, 3) := by decide +kernel
theorem dX5_receive_8 : decode cX5_receive 8 = .ok (.getfield 57, 3) := by decide +kernel
theorem dX5_receive_11 : decode cX5_receive 11 = .ok (.getfield 61, 3) := by decide +kernel
theorem dX5_receive_14 : decode cX5_receive 14 = .ok (.iconst 2, 1) := by decide +kernel
theorem dX5_receive_15 : decode cX5_receive 15 = .ok (.irem, 1) := by decide +kernel
theorem dX5_receive_16 : decode cX5_receive 16 = .ok (.ifCond .ne 13, 3) := by decide +kernel
theorem dX5_receive_19 : decode cX5_receive 19 = .ok (.new 67, 3) := by decide +kernel
theorem dX5_receive_22 : decode cX5_receive 22 = .ok (.dup, 1) := by decide +kernel
theorem dX5_receive_23 : decode cX5_receive 23 = .ok (.ldc 69, 2) := by decide +kernel
theorem dX5_receive_25 : decode cX5_receive 25 = .ok (.invokespecial 71, 3) := by decide +kernel
theorem dX5_receive_28 : decode cX5_receive 28 = .ok (.athrow, 1) := by decide +kernel
theorem dX5_receive_29 : decode cX5_receive 29 = .ok (.aload_n 0, 1) := by decide +kernel
theorem dX5_receive_30 : decode cX5_receive 30 = .ok (.getfield 19, 3) := by decide +kernel
theorem dX5_receive_33 : decode cX5_receive 33 = .ok (.aload_n 0, 1) := by decide +kernel
theorem dX5_receive_34 : decode cX5_receive 34 = .ok (.getfield 12, 3) := by decide +kernel
theorem dX5_receive_37 : decode cX5_receive 37 = .ok (.invokevirtual 45, 3) := by decide +kernel
theorem dX5_receive_40 : decode cX5_receive 40 = .ok (.aload_n 0, 1) := by decide +kernel
theorem dX5_receive_41 : decode cX5_receive 41 = .ok (.getfield 33, 3) := by decide +kernel
theorem dX5_receive_44 : decode cX5_receive 44 = .ok (.aload_n 0, 1) := by decide +kernel
theorem dX5_receive_45 : decode cX5_receive 45 = .ok (.getfield 12, 3) := by decide +kernel
theorem dX5_receive_48 : decode cX5_receive 48 = .ok (.getfield 57, 3) := by decide +kernel
theorem dX5_receive_51 : decode cX5_receive 51 = .ok (.invokevirtual 74, 3) := by decide +kernel
theorem dX5_receive_54 : decode cX5_receive 54 = .ok (.aload_n 0, 1) := by decide +kernel
theorem dX5_receive_55 : decode cX5_receive 55 = .ok (.getfield 12, 3) := by decide +kernel
theorem dX5_receive_58 : decode cX5_receive 58 = .ok (.getfield 57, 3) := by decide +kernel
theorem dX5_receive_61 : decode cX5_receive 61 = .ok (.invokevirtual 78, 3) := by decide +kernel
theorem dX5_receive_64 : decode cX5_receive 64 = .ok (.aload_n 0, 1) := by decide +kernel
theorem dX5_receive_65 : decode cX5_receive 65 = .ok (.iload_n 1, 1) := by decide +kernel
theorem dX5_receive_66 : decode cX5_receive 66 = .ok (.invokevirtual 81, 3) := by decide +kernel
theorem dX5_receive_69 : decode cX5_receive 69 = .ok (.ireturn, 1) := by decide +kernel
set_option maxRecDepth 20000 in
theorem ggX5_shine_X5_isWithin : GoodIn wsX5_shine wsX5_isWithin := goodIn_r _ [8] (by decide +kernel) (by decide +kernel)
set_option maxRecDepth 20000 in
theorem gX5_shine_X5_isWithin : GoodIn wsX5_shine (va_wsS RX5 84 yX5_isWithin wsX5_isWithin) := goodIn_app (goodIn_of _ (by decide +kernel)) ggX5_shine_X5_isWithin
set_option maxRecDepth 20000 in
theorem ggX5_shine_X5_checkArgument : GoodIn wsX5_shine wsX5_checkArgument := goodIn_ca (goodIn_r _ [11, 12, 13] (by decide +kernel) (by decide +kernel)) (goodIn_sub (fun _ h => List.mem_cons_of_mem _ (List.mem_append_right _ h)) (by decide +kernel))
set_option maxRecDepth 20000 in
theorem gX5_shine_X5_checkArgument : GoodIn wsX5_shine (va_wsS RX5 88 yX5_checkArgument wsX5_checkArgument) := goodIn_app (goodIn_of _ (by decide +kernel)) ggX5_shine_X5_checkArgument
set_option maxRecDepth 20000 in
theorem ggX5_shine_X3_keep : GoodIn wsX5_shine wsX3_keep := goodIn_r _ [18, 19, 20, 21, 22, 23, 17, 24, 25, 26, 27, 28, 29, 30, 31, 32, 33, 34, 35, 36, 37, 38, 39, 40, 41, 42, 43, 44, 45, 46, 47, 48, 49, 50, 51, 52, 53, 54, 55, 56, 57, 58, 83, 84, 67, 68, 69, 70, 71, 72, 73, 74, 75, 76, 77, 78, 79, 80, 81, 82] (by decide +kernel) (by decide +kernel)
set_option maxRecDepth 20000 in
theorem gX5_shine_X3_keep : GoodIn wsX5_shine (wsV RX5 45 RX3 yX3_keep wsX3_keep) := goodIn_app (goodIn_of _ (by decide +kernel)) ggX5_shine_X3_keep
set_option maxRecDepth 20000 in
theorem ggX5_shine_X2_add : GoodIn wsX5_shine wsX2_add := goodIn_r _ [62, 58, 49, 81, 82] (by decide +kernel) (by decide +kernel)
set_option maxRecDepth 20000 in
theorem gX5_shine_X2_add : GoodIn wsX5_shine (wsV RX5 94 RX2 yX2_add wsX2_add) := goodIn_app (goodIn_of _ (by decide +kernel)) ggX5_shine_X2_add
theorem dX5_shine_0 : decode cX5_shine 0 = .ok (.iload_n 1, 1) := by decide +kernel
theorem dX5_shine_1 : decode cX5_shine 1 = .ok (.iconst 1, 1) := by decide +kernel
theorem dX5_shine_2 : decode cX5_shine 2 = .ok (.bipush 40, 2) := by decide +kernel
theorem dX5_shine_4 : decode cX5_shine 4 = .ok (.invokestatic 84, 3) := by decide +kernel
theorem dX5_shine_7 : decode cX5_shine 7 = .ok (.invokestatic 88, 3) := by decide +kernel
theorem dX5_shine_10 : decode cX5_shine 10 = .ok (.aload_n 0, 1) := by decide +kernel
theorem dX5_shine_11 : decode cX5_shine 11 = .ok (.getfield 12, 3) := by decide +kernel
theorem dX5_shine_14 : decode cX5_shine 14 = .ok (.getfield 57, 3) := by decide +kernel
theorem dX5_shine_17 : decode cX5_shine 17 = .ok (.getfield 61, 3) := by decide +kernel
theorem dX5_shine_20 : decode cX5_shine 20 = .ok (.bipush 30, 2) := by decide +kernel
theorem dX5_shine_22 : decode cX5_shine 22 = .ok (.if_icmp .lt 13, 3) := by decide +kernel
theorem dX5_shine_25 : decode cX5_shine 25 = .ok (.new 67, 3) := by decide +kernel
theorem dX5_shine_28 : decode cX5_shine 28 = .ok (.dup, 1) := by decide +kernel
theorem dX5_shine_29 : decode cX5_shine 29 = .ok (.ldc 92, 2) := by decide +kernel
theorem dX5_shine_31 : decode cX5_shine 31 = .ok (.invokespecial 71, 3) := by decide +kernel
theorem dX5_shine_34 : decode cX5_shine 34 = .ok (.athrow, 1) := by decide +kernel
theorem dX5_shine_35 : decode cX5_shine 35 = .ok (.aload_n 0, 1) := by decide +kernel
theorem dX5_shine_36 : decode cX5_shine 36 = .ok (.getfield 19, 3) := by decide +kernel
theorem dX5_shine_39 : decode cX5_shine 39 = .ok (.aload_n 0, 1) := by decide +kernel
theorem dX5_shine_40 : decode cX5_shine 40 = .ok (.getfield 12, 3) := by decide +kernel
theorem dX5_shine_43 : decode cX5_shine 43 = .ok (.invokevirtual 45, 3) := by decide +kernel
theorem dX5_shine_46 : decode cX5_shine 46 = .ok (.aload_n 0, 1) := by decide +kernel
theorem dX5_shine_47 : decode cX5_shine 47 = .ok (.getfield 12, 3) := by decide +kernel
theorem dX5_shine_50 : decode cX5_shine 50 = .ok (.getfield 57, 3) := by decide +kernel
theorem dX5_shine_53 : decode cX5_shine 53 = .ok (.iload_n 1, 1) := by decide +kernel
theorem dX5_shine_54 : decode cX5_shine 54 = .ok (.invokevirtual 94, 3) := by decide +kernel
theorem dX5_shine_57 : decode cX5_shine 57 = .ok (.aload_n 0, 1) := by decide +kernel
theorem dX5_shine_58 : decode cX5_shine 58 = .ok (.getfield 12, 3) := by decide +kernel
theorem dX5_shine_61 : decode cX5_shine 61 = .ok (.getfield 57, 3) := by decide +kernel
theorem dX5_shine_64 : decode cX5_shine 64 = .ok (.getfield 61, 3) := by decide +kernel
theorem dX5_shine_67 : decode cX5_shine 67 = .ok (.ireturn, 1) := by decide +kernel
set_option maxRecDepth 20000 in
theorem ggX5_pass_X5_isWithin : GoodIn wsX5_pass wsX5_isWithin := goodIn_r _ [6] (by decide +kernel) (by decide +kernel)
set_option maxRecDepth 20000 in
theorem gX5_pass_X5_isWithin : GoodIn wsX5_pass (va_wsS RX5 84 yX5_isWithin wsX5_isWithin) := goodIn_app (goodIn_of _ (by decide +kernel)) ggX5_pass_X5_isWithin
set_option maxRecDepth 20000 in
theorem ggX5_pass_X5_checkArgument : GoodIn wsX5_pass wsX5_checkArgument := goodIn_ca (goodIn_r _ [9, 10, 11] (by decide +kernel) (by decide +kernel)) (goodIn_sub (fun _ h => List.mem_cons_of_mem _ (List.mem_append_right _ h)) (by decide +kernel))
set_option maxRecDepth 20000 in
theorem gX5_pass_X5_checkArgument : GoodIn wsX5_pass (va_wsS RX5 88 yX5_checkArgument wsX5_checkArgument) := goodIn_app (goodIn_of _ (by decide +kernel)) ggX5_pass_X5_checkArgument
set_option maxRecDepth 20000 in
theorem ggX5_pass_X3_keep : GoodIn wsX5_pass wsX3_keep := goodIn_r _ [16, 17, 18, 19, 20, 21, 15, 22, 23, 24, 25, 26, 27, 28, 29, 30, 31, 32, 33, 34, 35, 36, 37, 38, 39, 40, 41, 42, 43, 44, 45, 46, 47, 48, 49, 50, 51, 52, 53, 54, 55, 56, 79, 80, 65, 66, 67, 68, 69, 70, 71, 72, 73, 74, 75, 76, 77, 78, 81, 82] (by decide +kernel) (by decide +kernel)
set_option maxRecDepth 20000 in
theorem gX5_pass_X3_keep : GoodIn wsX5_pass (wsV RX5 45 RX3 yX3_keep wsX3_keep) := goodIn_app (goodIn_of _ (by decide +kernel)) ggX5_pass_X3_keep
set_option maxRecDepth 20000 in
theorem ggX5_pass_X5_letPass : GoodIn wsX5_pass wsX5_letPass := goodIn_r _ [60, 2, 61, 62, 63, 64, 65, 66, 67, 68, 69, 70, 71, 72, 73, 74, 75, 76, 77, 78] (by decide +kernel) (by decide +kernel)
set_option maxRecDepth 20000 in
theorem gX5_pass_X5_letPass : GoodIn wsX5_pass (wsV RX5 97 RX5 yX5_letPass wsX5_letPass) := goodIn_app (goodIn_of _ (by decide +kernel)) ggX5_pass_X5_letPass
theorem dX5_pass_0 : decode cX5_pass 0 = .ok (.iload_n 1, 1) := by decide +kernel
theorem dX5_pass_1 : decode cX5_pass 1 = .ok (.iconst 1, 1) := by decide +kernel
theorem dX5_pass_2 : decode cX5_pass 2 = .ok (.bipush 99, 2) := by decide +kernel
theorem dX5_pass_4 : decode cX5_pass 4 = .ok (.invokestatic 84, 3) := by decide +kernel
theorem dX5_pass_7 : decode cX5_pass 7 = .ok (.invokestatic 88, 3) := by decide +kernel
theorem dX5_pass_10 : decode cX5_pass 10 = .ok (.aload_n 0, 1) := by decide +kernel
theorem dX5_pass_11 : decode cX5_pass 11 = .ok (.getfield 19, 3) := by decide +kernel
theorem dX5_pass_14 : decode cX5_pass 14 = .ok (.aload_n 0, 1) := by decide +kernel
theorem dX5_pass_15 : decode cX5_pass 15 = .ok (.getfield 12, 3) := by decide +kernel
theorem dX5_pass_18 : decode cX5_pass 18 = .ok (.invokevirtual 45, 3) := by decide +kernel
theorem dX5_pass_21 : decode cX5_pass 21 = .ok (.aload_n 0, 1) := by decide +kernel
theorem dX5_pass_22 : decode cX5_pass 22 = .ok (.iload_n 1, 1) := by decide +kernel
theorem dX5_pass_23 : decode cX5_pass 23 = .ok (.invokevirtual 97, 3) := by decide +kernel
theorem dX5_pass_26 : decode cX5_pass 26 = .ok (.aload_n 0, 1) := by decide +kernel
theorem dX5_pass_27 : decode cX5_pass 27 = .ok (.getfield 12, 3) := by decide +kernel
theorem dX5_pass_30 : decode cX5_pass 30 = .ok (.getfield 100, 3) := by decide +kernel
theorem dX5_pass_33 : decode cX5_pass 33 = .ok (.ireturn, 1) := by decide +kernel
set_option maxRecDepth 20000 in
theorem ggX5_setGlare_X5_isWithin : GoodIn wsX5_setGlare wsX5_isWithin := goodIn_r _ [6] (by decide +kernel) (by decide +kernel)
set_option maxRecDepth 20000 in
theorem gX5_setGlare_X5_isWithin : GoodIn wsX5_setGlare (va_wsS RX5 84 yX5_isWithin wsX5_isWithin) := goodIn_app (goodIn_of _ (by decide +kernel)) ggX5_setGlare_X5_isWithin
set_option maxRecDepth 20000 in
theorem ggX5_setGlare_X5_checkArgument : GoodIn wsX5_setGlare wsX5_checkArgument := goodIn_ca (goodIn_r _ [9, 10, 11] (by decide +kernel) (by decide +kernel)) (goodIn_sub (fun _ h => List.mem_cons_of_mem _ (List.mem_append_right _ h)) (by decide +kernel))
set_option maxRecDepth 20000 in
theorem gX5_setGlare_X5_checkArgument : GoodIn wsX5_setGlare (va_wsS RX5 88 yX5_checkArgument wsX5_checkArgument) := goodIn_app (goodIn_of _ (by decide +kernel)) ggX5_setGlare_X5_checkArgument
set_option maxRecDepth 20000 in
theorem ggX5_setGlare_X3_keep : GoodIn wsX5_setGlare wsX3_keep := goodIn_r _ [16, 17, 18, 19, 20, 21, 15, 22, 23, 24, 25, 26, 27, 28, 29, 30, 31, 32, 33, 34, 35, 36, 37, 38, 39, 40, 41, 42, 43, 44, 45, 46, 47, 48, 49, 50, 51, 52, 53, 54, 55, 56, 75, 76, 61, 62, 63, 64, 65, 66, 67, 68, 69, 70, 71, 72, 73, 74, 77, 78] (by decide +kernel) (by decide +kernel)
set_option maxRecDepth 20000 in
theorem gX5_setGlare_X3_keep : GoodIn wsX5_setGlare (wsV RX5 45 RX3 yX3_keep wsX3_keep) := goodIn_app (goodIn_of _ (by decide +kernel)) ggX5_setGlare_X3_keep
theorem dX5_setGlare_0 : decode cX5_setGlare 0 = .ok (.iload_n 1, 1) := by decide +kernel
theorem dX5_setGlare_1 : decode cX5_setGlare 1 = .ok (.iconst 0, 1) := by decide +kernel
theorem dX5_setGlare_2 : decode cX5_setGlare 2 = .ok (.bipush 9, 2) := by decide +kernel
theorem dX5_setGlare_4 : decode cX5_setGlare 4 = .ok (.invokestatic 84, 3) := by decide +kernel
theorem dX5_setGlare_7 : decode cX5_setGlare 7 = .ok (.invokestatic 88, 3) := by decide +kernel
theorem dX5_setGlare_10 : decode cX5_setGlare 10 = .ok (.aload_n 0, 1) := by decide +kernel
theorem dX5_setGlare_11 : decode cX5_setGlare 11 = .ok (.getfield 19, 3) := by decide +kernel
theorem dX5_setGlare_14 : decode cX5_setGlare 14 = .ok (.aload_n 0, 1) := by decide +kernel
theorem dX5_setGlare_15 : decode cX5_setGlare 15 = .ok (.getfield 12, 3) := by decide +kernel
theorem dX5_setGlare_18 : decode cX5_setGlare 18 = .ok (.invokevirtual 45, 3) := by decide +kernel
theorem dX5_setGlare_21 : decode cX5_setGlare 21 = .ok (.aload_n 0, 1) := by decide +kernel
theorem dX5_setGlare_22 : decode cX5_setGlare 22 = .ok (.getfield 12, 3) := by decide +kernel
theorem dX5_setGlare_25 : decode cX5_setGlare 25 = .ok (.getfield 103, 3) := by decide +kernel
theorem dX5_setGlare_28 : decode cX5_setGlare 28 = .ok (.istore_n 2, 1) := by decide +kernel
theorem dX5_setGlare_29 : decode cX5_setGlare 29 = .ok (.aload_n 0, 1) := by decide +kernel
theorem dX5_setGlare_30 : decode cX5_setGlare 30 = .ok (.getfield 12, 3) := by decide +kernel
theorem dX5_setGlare_33 : decode cX5_setGlare 33 = .ok (.iload_n 1, 1) := by decide +kernel
theorem dX5_setGlare_34 : decode cX5_setGlare 34 = .ok (.putfield 103, 3) := by decide +kernel
theorem dX5_setGlare_37 : decode cX5_setGlare 37 = .ok (.iload_n 2, 1) := by decide +kernel
theorem dX5_setGlare_38 : decode cX5_setGlare 38 = .ok (.ireturn, 1) := by decide +kernel
set_option maxRecDepth 20000 in
theorem ggX5_setAddress_X5_isWithin : GoodIn wsX5_setAddress wsX5_isWithin := goodIn_r _ [6] (by decide +kernel) (by decide +kernel)
set_option maxRecDepth 20000 in
theorem gX5_setAddress_X5_isWithin : GoodIn wsX5_setAddress (va_wsS RX5 84 yX5_isWithin wsX5_isWithin) := goodIn_app (goodIn_of _ (by decide +kernel)) ggX5_setAddress_X5_isWithin
set_option maxRecDepth 20000 in
theorem ggX5_setAddress_X5_checkArgument : GoodIn wsX5_setAddress wsX5_checkArgument := goodIn_ca (goodIn_r _ [9, 10, 11] (by decide +kernel) (by decide +kernel)) (goodIn_sub (fun _ h => List.mem_cons_of_mem _ (List.mem_append_right _ h)) (by decide +kernel))
set_option maxRecDepth 20000 in
theorem gX5_setAddress_X5_checkArgument : GoodIn wsX5_setAddress (va_wsS RX5 88 yX5_checkArgument wsX5_checkArgument) := goodIn_app (goodIn_of _ (by decide +kernel)) ggX5_setAddress_X5_checkArgument
set_option maxRecDepth 20000 in
theorem ggX5_setAddress_X3_keep : GoodIn wsX5_setAddress wsX3_keep := goodIn_r _ [16, 17, 18, 19, 20, 21, 15, 22, 23, 24, 25, 26, 27, 28, 29, 30, 31, 32, 33, 34, 35, 36, 37, 38, 39, 40, 41, 42, 43, 44, 45, 46, 47, 48, 49, 50, 51, 52, 53, 54, 55, 56, 75, 76, 61, 62, 63, 64, 65, 66, 67, 68, 69, 70, 71, 72, 73, 74, 77, 78] (by decide +kernel) (by decide +kernel)
set_option maxRecDepth 20000 in
theorem gX5_setAddress_X3_keep : GoodIn wsX5_setAddress (wsV RX5 45 RX3 yX3_keep wsX3_keep) := goodIn_app (goodIn_of _ (by decide +kernel)) ggX5_setAddress_X3_keep
theorem dX5_setAddress_0 : decode cX5_setAddress 0 = .ok (.iload_n 1, 1) := by decide +kernel
theorem dX5_setAddress_1 : decode cX5_setAddress 1 = .ok (.iconst 0, 1) := by decide +kernel
theorem dX5_setAddress_2 : decode cX5_setAddress 2 = .ok (.bipush 7, 2) := by decide +kernel
theorem dX5_setAddress_4 : decode cX5_setAddress 4 = .ok (.invokestatic 84, 3) := by decide +kernel
theorem dX5_setAddress_7 : decode cX5_setAddress 7 = .ok (.invokestatic 88, 3) := by decide +kernel
theorem dX5_setAddress_10 : decode cX5_setAddress 10 = .ok (.aload_n 0, 1) := by decide +kernel
theorem dX5_setAddress_11 : decode cX5_setAddress 11 = .ok (.getfield 19, 3) := by decide +kernel
theorem dX5_setAddress_14 : decode cX5_setAddress 14 = .ok (.aload_n 0, 1) := by decide +kernel
theorem dX5_setAddress_15 : decode cX5_setAddress 15 = .ok (.getfield 12, 3) := by decide +kernel
theorem dX5_setAddress_18 : decode cX5_setAddress 18 = .ok (.invokevirtual 45, 3) := by decide +kernel
theorem dX5_setAddress_21 : decode cX5_setAddress 21 = .ok (.aload_n 0, 1) := by decide +kernel
theorem dX5_setAddress_22 : decode cX5_setAddress 22 = .ok (.getfield 12, 3) := by decide +kernel
theorem dX5_setAddress_25 : decode cX5_setAddress 25 = .ok (.getfield 106, 3) := by decide +kernel
theorem dX5_setAddress_28 : decode cX5_setAddress 28 = .ok (.istore_n 2, 1) := by decide +kernel
theorem dX5_setAddress_29 : decode cX5_setAddress 29 = .ok (.aload_n 0, 1) := by decide +kernel
theorem dX5_setAddress_30 : decode cX5_setAddress 30 = .ok (.getfield 12, 3) := by decide +kernel
theorem dX5_setAddress_33 : decode cX5_setAddress 33 = .ok (.iload_n 1, 1) := by decide +kernel
theorem dX5_setAddress_34 : decode cX5_setAddress 34 = .ok (.putfield 106, 3) := by decide +kernel
theorem dX5_setAddress_37 : decode cX5_setAddress 37 = .ok (.iload_n 2, 1) := by decide +kernel
theorem dX5_setAddress_38 : decode cX5_setAddress 38 = .ok (.ireturn, 1) := by decide +kernel
set_option maxRecDepth 20000 in
theorem ggX5_learn_X5_isWithin : GoodIn wsX5_learn wsX5_isWithin := goodIn_r _ [6] (by decide +kernel) (by decide +kernel)
set_option maxRecDepth 20000 in
theorem gX5_learn_X5_isWithin : GoodIn wsX5_learn (va_wsS RX5 84 yX5_isWithin wsX5_isWithin) := goodIn_app (goodIn_of _ (by decide +kernel)) ggX5_learn_X5_isWithin
set_option maxRecDepth 20000 in
theorem ggX5_learn_X5_checkIndex : GoodIn wsX5_learn wsX5_checkIndex := goodIn_ca (goodIn_r _ [9, 10, 11] (by decide +kernel) (by decide +kernel)) (goodIn_sub (fun _ h => List.mem_cons_of_mem _ (List.mem_append_left _ (List.mem_append_right _ h))) (by decide +kernel))
set_option maxRecDepth 20000 in
theorem gX5_learn_X5_checkIndex : GoodIn wsX5_learn (va_wsS RX5 109 yX5_checkIndex wsX5_checkIndex) := goodIn_app (goodIn_of _ (by decide +kernel)) ggX5_learn_X5_checkIndex
set_option maxRecDepth 20000 in
theorem ggX5_learn_X5_checkArgument : GoodIn wsX5_learn wsX5_checkArgument := goodIn_ca (goodIn_r _ [14, 15, 16] (by decide +kernel) (by decide +kernel)) (goodIn_sub (fun _ h => List.mem_cons_of_mem _ (List.mem_append_right _ h)) (by decide +kernel))
set_option maxRecDepth 20000 in
theorem gX5_learn_X5_checkArgument : GoodIn wsX5_learn (va_wsS RX5 88 yX5_checkArgument wsX5_checkArgument) := goodIn_app (goodIn_of _ (by decide +kernel)) ggX5_learn_X5_checkArgument
set_option maxRecDepth 20000 in
theorem ggX5_learn_X3_keep : GoodIn wsX5_learn wsX3_keep := goodIn_r _ [21, 22, 23, 24, 25, 26, 20, 27, 28, 29, 30, 31, 32, 33, 34, 35, 36, 37, 38, 39, 40, 41, 42, 43, 44, 45, 46, 47, 48, 49, 50, 51, 52, 53, 54, 55, 56, 57, 58, 59, 60, 61, 88, 89, 74, 75, 76, 77, 78, 79, 80, 81, 82, 83, 84, 85, 86, 87, 90, 91] (by decide +kernel) (by decide +kernel)
set_option maxRecDepth 20000 in
theorem gX5_learn_X3_keep : GoodIn wsX5_learn (wsV RX5 45 RX3 yX3_keep wsX3_keep) := goodIn_app (goodIn_of _ (by decide +kernel)) ggX5_learn_X3_keep
set_option maxRecDepth 20000 in
theorem ggX5_learn_X2_at : GoodIn wsX5_learn wsX2_at := goodIn_r _ [65, 61, 52, 90, 91] (by decide +kernel) (by decide +kernel)
set_option maxRecDepth 20000 in
theorem gX5_learn_X2_at : GoodIn wsX5_learn (wsV RX5 115 RX2 yX2_at wsX2_at) := goodIn_app (goodIn_of _ (by decide +kernel)) ggX5_learn_X2_at
set_option maxRecDepth 20000 in
theorem ggX5_learn_X2_set : GoodIn wsX5_learn wsX2_set := goodIn_r _ [69, 61, 52, 90, 91] (by decide +kernel) (by decide +kernel)
set_option maxRecDepth 20000 in
theorem gX5_learn_X2_set : GoodIn wsX5_learn (wsV RX5 118 RX2 yX2_set wsX2_set) := goodIn_app (goodIn_of _ (by decide +kernel)) ggX5_learn_X2_set
theorem dX5_learn_0 : decode cX5_learn 0 = .ok (.iload_n 1, 1) := by decide +kernel
theorem dX5_learn_1 : decode cX5_learn 1 = .ok (.iconst 0, 1) := by decide +kernel
theorem dX5_learn_2 : decode cX5_learn 2 = .ok (.bipush 15, 2) := by decide +kernel
theorem dX5_learn_4 : decode cX5_learn 4 = .ok (.invokestatic 84, 3) := by decide +kernel
theorem dX5_learn_7 : decode cX5_learn 7 = .ok (.invokestatic 109, 3) := by decide +kernel
theorem dX5_learn_10 : decode cX5_learn 10 = .ok (.iload_n 2, 1) := by decide +kernel
theorem dX5_learn_11 : decode cX5_learn 11 = .ok (.iconst 0, 1) := by decide +kernel
theorem dX5_learn_12 : decode cX5_learn 12 = .ok (.iconst 2, 1) := by decide +kernel
theorem dX5_learn_13 : decode cX5_learn 13 = .ok (.invokestatic 84, 3) := by decide +kernel
theorem dX5_learn_16 : decode cX5_learn 16 = .ok (.invokestatic 88, 3) := by decide +kernel
theorem dX5_learn_19 : decode cX5_learn 19 = .ok (.aload_n 0, 1) := by decide +kernel
theorem dX5_learn_20 : decode cX5_learn 20 = .ok (.getfield 19, 3) := by decide +kernel
theorem dX5_learn_23 : decode cX5_learn 23 = .ok (.aload_n 0, 1) := by decide +kernel
theorem dX5_learn_24 : decode cX5_learn 24 = .ok (.getfield 12, 3) := by decide +kernel
theorem dX5_learn_27 : decode cX5_learn 27 = .ok (.invokevirtual 45, 3) := by decide +kernel
theorem dX5_learn_30 : decode cX5_learn 30 = .ok (.aload_n 0, 1) := by decide +kernel
theorem dX5_learn_31 : decode cX5_learn 31 = .ok (.getfield 12, 3) := by decide +kernel
theorem dX5_learn_34 : decode cX5_learn 34 = .ok (.getfield 112, 3) := by decide +kernel
theorem dX5_learn_37 : decode cX5_learn 37 = .ok (.iload_n 1, 1) := by decide +kernel
theorem dX5_learn_38 : decode cX5_learn 38 = .ok (.invokevirtual 115, 3) := by decide +kernel
theorem dX5_learn_41 : decode cX5_learn 41 = .ok (.istore_n 3, 1) := by decide +kernel
theorem dX5_learn_42 : decode cX5_learn 42 = .ok (.aload_n 0, 1) := by decide +kernel
theorem dX5_learn_43 : decode cX5_learn 43 = .ok (.getfield 12, 3) := by decide +kernel
theorem dX5_learn_46 : decode cX5_learn 46 = .ok (.getfield 112, 3) := by decide +kernel
theorem dX5_learn_49 : decode cX5_learn 49 = .ok (.iload_n 1, 1) := by decide +kernel
theorem dX5_learn_50 : decode cX5_learn 50 = .ok (.iload_n 2, 1) := by decide +kernel
theorem dX5_learn_51 : decode cX5_learn 51 = .ok (.invokevirtual 118, 3) := by decide +kernel
theorem dX5_learn_54 : decode cX5_learn 54 = .ok (.iload_n 3, 1) := by decide +kernel
theorem dX5_learn_55 : decode cX5_learn 55 = .ok (.ireturn, 1) := by decide +kernel
theorem dX5_glare_0 : decode cX5_glare 0 = .ok (.aload_n 0, 1) := by decide +kernel
theorem dX5_glare_1 : decode cX5_glare 1 = .ok (.getfield 12, 3) := by decide +kernel
theorem dX5_glare_4 : decode cX5_glare 4 = .ok (.getfield 103, 3) := by decide +kernel
theorem dX5_glare_7 : decode cX5_glare 7 = .ok (.ireturn, 1) := by decide +kernel
theorem dX5_gain_0 : decode cX5_gain 0 = .ok (.aload_n 0, 1) := by decide +kernel
theorem dX5_gain_1 : decode cX5_gain 1 = .ok (.getfield 12, 3) := by decide +kernel
theorem dX5_gain_4 : decode cX5_gain 4 = .ok (.getfield 122, 3) := by decide +kernel
theorem dX5_gain_7 : decode cX5_gain 7 = .ok (.ireturn, 1) := by decide +kernel
set_option maxRecDepth 20000 in
theorem ggX5_action_X5_isWithin : GoodIn wsX5_action wsX5_isWithin := goodIn_r _ [5] (by decide +kernel) (by decide +kernel)
set_option maxRecDepth 20000 in
theorem gX5_action_X5_isWithin : GoodIn wsX5_action (va_wsS RX5 84 yX5_isWithin wsX5_isWithin) := goodIn_app (goodIn_of _ (by decide +kernel)) ggX5_action_X5_isWithin
set_option maxRecDepth 20000 in
theorem ggX5_action_X5_checkIndex : GoodIn wsX5_action wsX5_checkIndex := goodIn_ca (goodIn_r _ [8, 9, 10] (by decide +kernel) (by decide +kernel)) (goodIn_sub (fun _ h => List.mem_cons_of_mem _ (List.mem_append_right _ h)) (by decide +kernel))
set_option maxRecDepth 20000 in
theorem gX5_action_X5_checkIndex : GoodIn wsX5_action (va_wsS RX5 109 yX5_checkIndex wsX5_checkIndex) := goodIn_app (goodIn_of _ (by decide +kernel)) ggX5_action_X5_checkIndex
set_option maxRecDepth 20000 in
theorem ggX5_action_X2_at : GoodIn wsX5_action wsX2_at := goodIn_r _ [15, 16, 17, 36, 37] (by decide +kernel) (by decide +kernel)
set_option maxRecDepth 20000 in
theorem gX5_action_X2_at : GoodIn wsX5_action (wsV RX5 115 RX2 yX2_at wsX2_at) := goodIn_app (goodIn_of _ (by decide +kernel)) ggX5_action_X2_at
theorem dX5_action_0 : decode cX5_action 0 = .ok (.iload_n 1, 1) := by decide +kernel
theorem dX5_action_1 : decode cX5_action 1 = .ok (.iconst 0, 1) := by decide +kernel
theorem dX5_action_2 : decode cX5_action 2 = .ok (.bipush 15, 2) := by decide +kernel
theorem dX5_action_4 : decode cX5_action 4 = .ok (.invokestatic 84, 3) := by decide +kernel
theorem dX5_action_7 : decode cX5_action 7 = .ok (.invokestatic 109, 3) := by decide +kernel
theorem dX5_action_10 : decode cX5_action 10 = .ok (.aload_n 0, 1) := by decide +kernel
theorem dX5_action_11 : decode cX5_action 11 = .ok (.getfield 12, 3) := by decide +kernel
theorem dX5_action_14 : decode cX5_action 14 = .ok (.getfield 112, 3) := by decide +kernel
theorem dX5_action_17 : decode cX5_action 17 = .ok (.iload_n 1, 1) := by decide +kernel
theorem dX5_action_18 : decode cX5_action 18 = .ok (.invokevirtual 115, 3) := by decide +kernel
theorem dX5_action_21 : decode cX5_action 21 = .ok (.ireturn, 1) := by decide +kernel
set_option maxRecDepth 20000 in
theorem ggX5_done_X5_isWithin : GoodIn wsX5_done wsX5_isWithin := goodIn_r _ [5] (by decide +kernel) (by decide +kernel)
set_option maxRecDepth 20000 in
theorem gX5_done_X5_isWithin : GoodIn wsX5_done (va_wsS RX5 84 yX5_isWithin wsX5_isWithin) := goodIn_app (goodIn_of _ (by decide +kernel)) ggX5_done_X5_isWithin
set_option maxRecDepth 20000 in
theorem ggX5_done_X5_checkIndex : GoodIn wsX5_done wsX5_checkIndex := goodIn_ca (goodIn_r _ [8, 9, 10] (by decide +kernel) (by decide +kernel)) (goodIn_sub (fun _ h => List.mem_cons_of_mem _ (List.mem_append_right _ h)) (by decide +kernel))
set_option maxRecDepth 20000 in
theorem gX5_done_X5_checkIndex : GoodIn wsX5_done (va_wsS RX5 109 yX5_checkIndex wsX5_checkIndex) := goodIn_app (goodIn_of _ (by decide +kernel)) ggX5_done_X5_checkIndex
set_option maxRecDepth 20000 in
theorem ggX5_done_X2_at : GoodIn wsX5_done wsX2_at := goodIn_r _ [15, 16, 17, 36, 37] (by decide +kernel) (by decide +kernel)
set_option maxRecDepth 20000 in
theorem gX5_done_X2_at : GoodIn wsX5_done (wsV RX5 115 RX2 yX2_at wsX2_at) := goodIn_app (goodIn_of _ (by decide +kernel)) ggX5_done_X2_at
theorem dX5_done_0 : decode cX5_done 0 = .ok (.iload_n 1, 1) := by decide +kernel
theorem dX5_done_1 : decode cX5_done 1 = .ok (.iconst 0, 1) := by decide +kernel
theorem dX5_done_2 : decode cX5_done 2 = .ok (.bipush 15, 2) := by decide +kernel
theorem dX5_done_4 : decode cX5_done 4 = .ok (.invokestatic 84, 3) := by decide +kernel
theorem dX5_done_7 : decode cX5_done 7 = .ok (.invokestatic 109, 3) := by decide +kernel
theorem dX5_done_10 : decode cX5_done 10 = .ok (.aload_n 0, 1) := by decide +kernel
theorem dX5_done_11 : decode cX5_done 11 = .ok (.getfield 12, 3) := by decide +kernel
theorem dX5_done_14 : decode cX5_done 14 = .ok (.getfield 125, 3) := by decide +kernel
theorem dX5_done_17 : decode cX5_done 17 = .ok (.iload_n 1, 1) := by decide +kernel
theorem dX5_done_18 : decode cX5_done 18 = .ok (.invokevirtual 115, 3) := by decide +kernel
theorem dX5_done_21 : decode cX5_done 21 = .ok (.ireturn, 1) := by decide +kernel
set_option maxRecDepth 20000 in
theorem ggX5_remembered_X4_remembers : GoodIn wsX5_remembered wsX4_remembers := goodIn_r _ [6, 7, 12, 13, 14, 15, 16, 17, 18, 19, 20, 21, 22, 23, 24, 25] (by decide +kernel) (by decide +kernel)
set_option maxRecDepth 20000 in
theorem gX5_remembered_X4_remembers : GoodIn wsX5_remembered (wsV RX5 128 RX4 yX4_remembers wsX4_remembers) := goodIn_app (goodIn_of _ (by decide +kernel)) ggX5_remembered_X4_remembers
theorem dX5_remembered_0 : decode cX5_remembered 0 = .ok (.aload_n 0, 1) := by decide +kernel
theorem dX5_remembered_1 : decode cX5_remembered 1 = .ok (.getfield 12, 3) := by decide +kernel
theorem dX5_remembered_4 : decode cX5_remembered 4 = .ok (.invokevirtual 128, 3) := by decide +kernel
theorem dX5_remembered_7 : decode cX5_remembered 7 = .ok (.ifCond .eq 13, 3) := by decide +kernel
theorem dX5_remembered_10 : decode cX5_remembered 10 = .ok (.aload_n 0, 1) := by decide +kernel
theorem dX5_remembered_11 : decode cX5_remembered 11 = .ok (.getfield 12, 3) := by decide +kernel
theorem dX5_remembered_14 : decode cX5_remembered 14 = .ok (.getfield 132, 3) := by decide +kernel
theorem dX5_remembered_17 : decode cX5_remembered 17 = .ok (.goto 4, 3) := by decide +kernel
theorem dX5_remembered_20 : decode cX5_remembered 20 = .ok (.iconst (-1), 1) := by decide +kernel
theorem dX5_remembered_21 : decode cX5_remembered 21 = .ok (.ireturn, 1) := by decide +kernel
set_option maxRecDepth 20000 in
theorem ggX5_holds_X4_remembers : GoodIn wsX5_holds wsX4_remembers := goodIn_r _ [6, 7, 12, 13, 14, 15, 16, 17, 18, 19, 20, 21, 22, 23, 24, 25] (by decide +kernel) (by decide +kernel)
set_option maxRecDepth 20000 in
theorem gX5_holds_X4_remembers : GoodIn wsX5_holds (wsV RX5 128 RX4 yX4_remembers wsX4_remembers) := goodIn_app (goodIn_of _ (by decide +kernel)) ggX5_holds_X4_remembers
theorem dX5_holds_0 : decode cX5_holds 0 = .ok (.aload_n 0, 1) := by decide +kernel
theorem dX5_holds_1 : decode cX5_holds 1 = .ok (.getfield 12, 3) := by decide +kernel
theorem dX5_holds_4 : decode cX5_holds 4 = .ok (.invokevirtual 128, 3) := by decide +kernel
theorem dX5_holds_7 : decode cX5_holds 7 = .ok (.ifCond .eq 13, 3) := by decide +kernel
theorem dX5_holds_10 : decode cX5_holds 10 = .ok (.aload_n 0, 1) := by decide +kernel
theorem dX5_holds_11 : decode cX5_holds 11 = .ok (.getfield 12, 3) := by decide +kernel
theorem dX5_holds_14 : decode cX5_holds 14 = .ok (.getfield 135, 3) := by decide +kernel
theorem dX5_holds_17 : decode cX5_holds 17 = .ok (.goto 4, 3) := by decide +kernel
theorem dX5_holds_20 : decode cX5_holds 20 = .ok (.iconst 0, 1) := by decide +kernel
theorem dX5_holds_21 : decode cX5_holds 21 = .ok (.ireturn, 1) := by decide +kernel
theorem dX5_presses_0 : decode cX5_presses 0 = .ok (.aload_n 0, 1) := by decide +kernel
theorem dX5_presses_1 : decode cX5_presses 1 = .ok (.getfield 12, 3) := by decide +kernel
theorem dX5_presses_4 : decode cX5_presses 4 = .ok (.getfield 138, 3) := by decide +kernel
theorem dX5_presses_7 : decode cX5_presses 7 = .ok (.ireturn, 1) := by decide +kernel
set_option maxRecDepth 20000 in
theorem ggX5_refused_X5_isWithin : GoodIn wsX5_refused wsX5_isWithin := goodIn_r _ [5] (by decide +kernel) (by decide +kernel)
set_option maxRecDepth 20000 in
theorem gX5_refused_X5_isWithin : GoodIn wsX5_refused (va_wsS RX5 84 yX5_isWithin wsX5_isWithin) := goodIn_app (goodIn_of _ (by decide +kernel)) ggX5_refused_X5_isWithin
set_option maxRecDepth 20000 in
theorem ggX5_refused_X5_checkIndex : GoodIn wsX5_refused wsX5_checkIndex := goodIn_ca (goodIn_r _ [8, 9, 10] (by decide +kernel) (by decide +kernel)) (goodIn_sub (fun _ h => List.mem_cons_of_mem _ (List.mem_append_right _ h)) (by decide +kernel))
set_option maxRecDepth 20000 in
theorem gX5_refused_X5_checkIndex : GoodIn wsX5_refused (va_wsS RX5 109 yX5_checkIndex wsX5_checkIndex) := goodIn_app (goodIn_of _ (by decide +kernel)) ggX5_refused_X5_checkIndex
set_option maxRecDepth 20000 in
theorem ggX5_refused_X2_at : GoodIn wsX5_refused wsX2_at := goodIn_r _ [15, 16, 17, 36, 37] (by decide +kernel) (by decide +kernel)
set_option maxRecDepth 20000 in
theorem gX5_refused_X2_at : GoodIn wsX5_refused (wsV RX5 115 RX2 yX2_at wsX2_at) := goodIn_app (goodIn_of _ (by decide +kernel)) ggX5_refused_X2_at
theorem dX5_refused_0 : decode cX5_refused 0 = .ok (.iload_n 1, 1) := by decide +kernel
theorem dX5_refused_1 : decode cX5_refused 1 = .ok (.iconst 1, 1) := by decide +kernel
theorem dX5_refused_2 : decode cX5_refused 2 = .ok (.bipush 6, 2) := by decide +kernel
theorem dX5_refused_4 : decode cX5_refused 4 = .ok (.invokestatic 84, 3) := by decide +kernel
theorem dX5_refused_7 : decode cX5_refused 7 = .ok (.invokestatic 109, 3) := by decide +kernel
theorem dX5_refused_10 : decode cX5_refused 10 = .ok (.aload_n 0, 1) := by decide +kernel
theorem dX5_refused_11 : decode cX5_refused 11 = .ok (.getfield 12, 3) := by decide +kernel
theorem dX5_refused_14 : decode cX5_refused 14 = .ok (.getfield 141, 3) := by decide +kernel
theorem dX5_refused_17 : decode cX5_refused 17 = .ok (.iload_n 1, 1) := by decide +kernel
theorem dX5_refused_18 : decode cX5_refused 18 = .ok (.invokevirtual 115, 3) := by decide +kernel
theorem dX5_refused_21 : decode cX5_refused 21 = .ok (.ireturn, 1) := by decide +kernel
theorem dX5_row_0 : decode cX5_row 0 = .ok (.aload_n 0, 1) := by decide +kernel
theorem dX5_row_1 : decode cX5_row 1 = .ok (.getfield 12, 3) := by decide +kernel
theorem dX5_row_4 : decode cX5_row 4 = .ok (.getfield 57, 3) := by decide +kernel
theorem dX5_row_7 : decode cX5_row 7 = .ok (.getfield 61, 3) := by decide +kernel
theorem dX5_row_10 : decode cX5_row 10 = .ok (.ireturn, 1) := by decide +kernel
theorem dX5_received_0 : decode cX5_received 0 = .ok (.aload_n 0, 1) := by decide +kernel
theorem dX5_received_1 : decode cX5_received 1 = .ok (.getfield 12, 3) := by decide +kernel
theorem dX5_received_4 : decode cX5_received 4 = .ok (.getfield 144, 3) := by decide +kernel
theorem dX5_received_7 : decode cX5_received 7 = .ok (.ireturn, 1) := by decide +kernel
theorem dX5_hitShare_0 : decode cX5_hitShare 0 = .ok (.aload_n 0, 1) := by decide +kernel
theorem dX5_hitShare_1 : decode cX5_hitShare 1 = .ok (.getfield 12, 3) := by decide +kernel
theorem dX5_hitShare_4 : decode cX5_hitShare 4 = .ok (.getfield 144, 3) := by decide +kernel
theorem dX5_hitShare_7 : decode cX5_hitShare 7 = .ok (.ifCond .ne 5, 3) := by decide +kernel
theorem dX5_hitShare_10 : decode cX5_hitShare 10 = .ok (.dconst 1, 1) := by decide +kernel
theorem dX5_hitShare_11 : decode cX5_hitShare 11 = .ok (.dreturn, 1) := by decide +kernel
theorem dX5_hitShare_12 : decode cX5_hitShare 12 = .ok (.aload_n 0, 1) := by decide +kernel
theorem dX5_hitShare_13 : decode cX5_hitShare 13 = .ok (.getfield 12, 3) := by decide +kernel
theorem dX5_hitShare_16 : decode cX5_hitShare 16 = .ok (.getfield 147, 3) := by decide +kernel
theorem dX5_hitShare_19 : decode cX5_hitShare 19 = .ok (.i2d, 1) := by decide +kernel
theorem dX5_hitShare_20 : decode cX5_hitShare 20 = .ok (.aload_n 0, 1) := by decide +kernel
theorem dX5_hitShare_21 : decode cX5_hitShare 21 = .ok (.getfield 12, 3) := by decide +kernel
theorem dX5_hitShare_24 : decode cX5_hitShare 24 = .ok (.getfield 144, 3) := by decide +kernel
theorem dX5_hitShare_27 : decode cX5_hitShare 27 = .ok (.i2d, 1) := by decide +kernel
theorem dX5_hitShare_28 : decode cX5_hitShare 28 = .ok (.ddiv, 1) := by decide +kernel
theorem dX5_hitShare_29 : decode cX5_hitShare 29 = .ok (.dreturn, 1) := by decide +kernel
set_option maxRecDepth 20000 in
theorem ggX5_bit_X5_checkFrame : GoodIn wsX5_bit wsX5_checkFrame := goodIn_ca (goodIn_r _ [4, 5, 6, 3, 7, 8, 9, 10, 11, 12] (by decide +kernel) (by decide +kernel)) (goodIn_sub (fun _ h => List.mem_cons_of_mem _ (List.mem_append_right _ h)) (by decide +kernel))
set_option maxRecDepth 20000 in
theorem gX5_bit_X5_checkFrame : GoodIn wsX5_bit (va_wsS RX5 37 yX5_checkFrame wsX5_checkFrame) := goodIn_app (goodIn_of _ (by decide +kernel)) ggX5_bit_X5_checkFrame
set_option maxRecDepth 20000 in
theorem ggX5_bit_X5_isWithin : GoodIn wsX5_bit wsX5_isWithin := goodIn_r _ [7] (by decide +kernel) (by decide +kernel)
set_option maxRecDepth 20000 in
theorem gX5_bit_X5_isWithin : GoodIn wsX5_bit (va_wsS RX5 84 yX5_isWithin wsX5_isWithin) := goodIn_app (goodIn_of _ (by decide +kernel)) ggX5_bit_X5_isWithin
set_option maxRecDepth 20000 in
theorem ggX5_bit_X5_checkArgument : GoodIn wsX5_bit wsX5_checkArgument := goodIn_ca (goodIn_r _ [10, 11, 12] (by decide +kernel) (by decide +kernel)) (goodIn_sub (fun _ h => List.mem_cons_of_mem _ (List.mem_append_right _ h)) (by decide +kernel))
set_option maxRecDepth 20000 in
theorem gX5_bit_X5_checkArgument : GoodIn wsX5_bit (va_wsS RX5 88 yX5_checkArgument wsX5_checkArgument) := goodIn_app (goodIn_of _ (by decide +kernel)) ggX5_bit_X5_checkArgument
set_option maxRecDepth 20000 in
theorem ggX5_bit_X5_wordOf : GoodIn wsX5_bit wsX5_wordOf := goodIn_r _ [15, 16, 17, 18, 19, 20, 21, 22] (by decide +kernel) (by decide +kernel)
set_option maxRecDepth 20000 in
theorem gX5_bit_X5_wordOf : GoodIn wsX5_bit (va_wsS RX5 150 yX5_wordOf wsX5_wordOf) := goodIn_app (goodIn_of _ (by decide +kernel)) ggX5_bit_X5_wordOf
set_option maxRecDepth 20000 in
theorem ggX5_bit_X5_bitOf : GoodIn wsX5_bit wsX5_bitOf := goodIn_r _ [25] (by decide +kernel) (by decide +kernel)
set_option maxRecDepth 20000 in
theorem gX5_bit_X5_bitOf : GoodIn wsX5_bit (va_wsS RX5 154 yX5_bitOf wsX5_bitOf) := goodIn_app (goodIn_of _ (by decide +kernel)) ggX5_bit_X5_bitOf
theorem dX5_bit_0 : decode cX5_bit 0 = .ok (.iload_n 1, 1) := by decide +kernel
theorem dX5_bit_1 : decode cX5_bit 1 = .ok (.iload_n 2, 1) := by decide +kernel
theorem dX5_bit_2 : decode cX5_bit 2 = .ok (.iload_n 3, 1) := by decide +kernel
theorem dX5_bit_3 : decode cX5_bit 3 = .ok (.invokestatic 37, 3) := by decide +kernel
theorem dX5_bit_6 : decode cX5_bit 6 = .ok (.iload 4, 2) := by decide +kernel
theorem dX5_bit_8 : decode cX5_bit 8 = .ok (.iconst 0, 1) := by decide +kernel
theorem dX5_bit_9 : decode cX5_bit 9 = .ok (.bipush 8, 2) := by decide +kernel
theorem dX5_bit_11 : decode cX5_bit 11 = .ok (.invokestatic 84, 3) := by decide +kernel
theorem dX5_bit_14 : decode cX5_bit 14 = .ok (.invokestatic 88, 3) := by decide +kernel
theorem dX5_bit_17 : decode cX5_bit 17 = .ok (.iload_n 1, 1) := by decide +kernel
theorem dX5_bit_18 : decode cX5_bit 18 = .ok (.iload_n 2, 1) := by decide +kernel
theorem dX5_bit_19 : decode cX5_bit 19 = .ok (.iload_n 3, 1) := by decide +kernel
theorem dX5_bit_20 : decode cX5_bit 20 = .ok (.invokestatic 150, 3) := by decide +kernel
theorem dX5_bit_23 : decode cX5_bit 23 = .ok (.iload 4, 2) := by decide +kernel
theorem dX5_bit_25 : decode cX5_bit 25 = .ok (.invokestatic 154, 3) := by decide +kernel
theorem dX5_bit_28 : decode cX5_bit 28 = .ok (.ireturn, 1) := by decide +kernel
set_option maxRecDepth 20000 in
theorem ggX5_ifFrame_X5_checkFrame : GoodIn wsX5_ifFrame wsX5_checkFrame := goodIn_ca (goodIn_r _ [6, 7, 8, 5, 9, 10, 11, 12, 13, 14] (by decide +kernel) (by decide +kernel)) (goodIn_sub (fun _ h => List.mem_cons_of_mem _ (List.mem_append_right _ h)) (by decide +kernel))
set_option maxRecDepth 20000 in
theorem gX5_ifFrame_X5_checkFrame : GoodIn wsX5_ifFrame (va_wsS RX5 37 yX5_checkFrame wsX5_checkFrame) := goodIn_app (goodIn_of _ (by decide +kernel)) ggX5_ifFrame_X5_checkFrame
set_option maxRecDepth 20000 in
theorem ggX5_ifFrame_X5_checkStrength : GoodIn wsX5_ifFrame wsX5_checkStrength := goodIn_ca (goodIn_r _ [17, 7, 8, 5, 9, 10, 11, 12, 13, 14] (by decide +kernel) (by decide +kernel)) (goodIn_sub (fun _ h => List.mem_cons_of_mem _ (List.mem_append_right _ h)) (by decide +kernel))
set_option maxRecDepth 20000 in
theorem gX5_ifFrame_X5_checkStrength : GoodIn wsX5_ifFrame (va_wsS RX5 41 yX5_checkStrength wsX5_checkStrength) := goodIn_app (goodIn_of _ (by decide +kernel)) ggX5_ifFrame_X5_checkStrength
set_option maxRecDepth 20000 in
theorem ggX5_ifFrame_X0_sendFrame : GoodIn wsX5_ifFrame wsX0_sendFrame := goodIn_r _ [22, 23, 24, 5, 25, 26, 27, 28, 29, 30, 31, 32, 33, 34, 35, 36, 37, 38, 39, 40, 41, 42, 43, 44, 45, 98, 99, 100, 101, 102, 103, 104, 105] (by decide +kernel) (by decide +kernel)
set_option maxRecDepth 20000 in
theorem gX5_ifFrame_X0_sendFrame : GoodIn wsX5_ifFrame (wsV RX5 158 RX0 yX0_sendFrame wsX0_sendFrame) := goodIn_app (goodIn_of _ (by decide +kernel)) ggX5_ifFrame_X0_sendFrame
set_option maxRecDepth 20000 in
theorem ggX5_ifFrame_X5_verdict : GoodIn wsX5_ifFrame wsX5_verdict := goodIn_r _ [49, 1, 2, 50, 51, 52, 21, 53, 54, 55, 23, 56, 57, 58, 59, 60, 5, 61, 33, 34, 35, 36, 37, 38, 62, 63, 64, 65, 43, 39, 40, 41, 42, 66, 67, 68, 69, 70, 71, 72, 73, 27, 28, 29, 30, 31, 32, 74, 75, 76, 77, 78, 79, 80, 81, 82, 83, 84, 85, 86, 87, 88, 89, 90, 91, 92, 93, 94, 95, 96, 97, 98, 99, 100, 101, 102, 103, 104, 105] (by decide +kernel) (by decide +kernel)
set_option maxRecDepth 20000 in
theorem gX5_ifFrame_X5_verdict : GoodIn wsX5_ifFrame (wsV RX5 161 RX5 yX5_verdict wsX5_verdict) := goodIn_app (goodIn_of _ (by decide +kernel)) ggX5_ifFrame_X5_verdict
theorem dX5_ifFrame_0 : decode cX5_ifFrame 0 = .ok (.iload_n 1, 1) := by decide +kernel
theorem dX5_ifFrame_1 : decode cX5_ifFrame 1 = .ok (.iload_n 2, 1) := by decide +kernel
theorem dX5_ifFrame_2 : decode cX5_ifFrame 2 = .ok (.iload_n 3, 1) := by decide +kernel
theorem dX5_ifFrame_3 : decode cX5_ifFrame 3 = .ok (.invokestatic 37, 3) := by decide +kernel
theorem dX5_ifFrame_6 : decode cX5_ifFrame 6 = .ok (.iload 4, 2) := by decide +kernel
theorem dX5_ifFrame_8 : decode cX5_ifFrame 8 = .ok (.invokestatic 41, 3) := by decide +kernel
theorem dX5_ifFrame_11 : decode cX5_ifFrame 11 = .ok (.aload_n 0, 1) := by decide +kernel
theorem dX5_ifFrame_12 : decode cX5_ifFrame 12 = .ok (.getfield 33, 3) := by decide +kernel
theorem dX5_ifFrame_15 : decode cX5_ifFrame 15 = .ok (.iload_n 1, 1) := by decide +kernel
theorem dX5_ifFrame_16 : decode cX5_ifFrame 16 = .ok (.iload_n 2, 1) := by decide +kernel
theorem dX5_ifFrame_17 : decode cX5_ifFrame 17 = .ok (.iload_n 3, 1) := by decide +kernel
theorem dX5_ifFrame_18 : decode cX5_ifFrame 18 = .ok (.invokevirtual 158, 3) := by decide +kernel
theorem dX5_ifFrame_21 : decode cX5_ifFrame 21 = .ok (.aload_n 0, 1) := by decide +kernel
theorem dX5_ifFrame_22 : decode cX5_ifFrame 22 = .ok (.aload_n 0, 1) := by decide +kernel
theorem dX5_ifFrame_23 : decode cX5_ifFrame 23 = .ok (.getfield 12, 3) := by decide +kernel
theorem dX5_ifFrame_26 : decode cX5_ifFrame 26 = .ok (.getfield 122, 3) := by decide +kernel
theorem dX5_ifFrame_29 : decode cX5_ifFrame 29 = .ok (.iload 4, 2) := by decide +kernel
theorem dX5_ifFrame_31 : decode cX5_ifFrame 31 = .ok (.invokevirtual 161, 3) := by decide +kernel
theorem dX5_ifFrame_34 : decode cX5_ifFrame 34 = .ok (.ireturn, 1) := by decide +kernel
set_option maxRecDepth 20000 in
theorem ggX5_leastStrength_X5_weakestHeard : GoodIn wsX5_leastStrength wsX5_weakestHeard := goodIn_r _ [6] (by decide +kernel) (by decide +kernel)
set_option maxRecDepth 20000 in
theorem gX5_leastStrength_X5_weakestHeard : GoodIn wsX5_leastStrength (va_wsS RX5 164 yX5_weakestHeard wsX5_weakestHeard) := goodIn_app (goodIn_of _ (by decide +kernel)) ggX5_leastStrength_X5_weakestHeard
set_option maxRecDepth 20000 in
theorem ggX5_leastStrength_X0_sendFrame : GoodIn wsX5_leastStrength wsX0_sendFrame := goodIn_r _ [11, 12, 13, 5, 14, 15, 16, 17, 18, 19, 20, 21, 22, 23, 24, 25, 26, 27, 28, 29, 30, 31, 32, 33, 34, 88, 89, 90, 91, 92, 93, 94, 95] (by decide +kernel) (by decide +kernel)
set_option maxRecDepth 20000 in
theorem gX5_leastStrength_X0_sendFrame : GoodIn wsX5_leastStrength (wsV RX5 158 RX0 yX0_sendFrame wsX0_sendFrame) := goodIn_app (goodIn_of _ (by decide +kernel)) ggX5_leastStrength_X0_sendFrame
set_option maxRecDepth 20000 in
theorem ggX5_leastStrength_X5_verdict : GoodIn wsX5_leastStrength wsX5_verdict := goodIn_r _ [38, 2, 1, 39, 40, 41, 10, 42, 43, 44, 12, 45, 46, 47, 48, 4, 5, 6, 22, 23, 24, 25, 26, 27, 49, 50, 51, 52, 32, 28, 29, 30, 31, 53, 54, 55, 56, 57, 58, 59, 60, 16, 17, 18, 19, 20, 21, 61, 62, 63, 64, 65, 66, 70, 71, 72, 73, 74, 75, 76, 77, 78, 79, 80, 81, 82, 83, 84, 85, 86, 87, 88, 89, 90, 91, 92, 93, 94, 95] (by decide +kernel) (by decide +kernel)
set_option maxRecDepth 20000 in
theorem gX5_leastStrength_X5_verdict : GoodIn wsX5_leastStrength (wsV RX5 161 RX5 yX5_verdict wsX5_verdict) := goodIn_app (goodIn_of _ (by decide +kernel)) ggX5_leastStrength_X5_verdict
set_option maxRecDepth 20000 in
theorem ggX5_leastStrength_X5_isAccepted : GoodIn wsX5_leastStrength wsX5_isAccepted := goodIn_r _ [69] (by decide +kernel) (by decide +kernel)
set_option maxRecDepth 20000 in
theorem gX5_leastStrength_X5_isAccepted : GoodIn wsX5_leastStrength (va_wsS RX5 167 yX5_isAccepted wsX5_isAccepted) := goodIn_app (goodIn_of _ (by decide +kernel)) ggX5_leastStrength_X5_isAccepted
theorem dX5_leastStrength_0 : decode cX5_leastStrength 0 = .ok (.aload_n 0, 1) := by decide +kernel
theorem dX5_leastStrength_1 : decode cX5_leastStrength 1 = .ok (.getfield 12, 3) := by decide +kernel
theorem dX5_leastStrength_4 : decode cX5_leastStrength 4 = .ok (.getfield 122, 3) := by decide +kernel
theorem dX5_leastStrength_7 : decode cX5_leastStrength 7 = .ok (.invokestatic 164, 3) := by decide +kernel
theorem dX5_leastStrength_10 : decode cX5_leastStrength 10 = .ok (.istore_n 1, 1) := by decide +kernel
theorem dX5_leastStrength_11 : decode cX5_leastStrength 11 = .ok (.aload_n 0, 1) := by decide +kernel
theorem dX5_leastStrength_12 : decode cX5_leastStrength 12 = .ok (.getfield 33, 3) := by decide +kernel
theorem dX5_leastStrength_15 : decode cX5_leastStrength 15 = .ok (.aload_n 0, 1) := by decide +kernel
theorem dX5_leastStrength_16 : decode cX5_leastStrength 16 = .ok (.getfield 12, 3) := by decide +kernel
theorem dX5_leastStrength_19 : decode cX5_leastStrength 19 = .ok (.getfield 106, 3) := by decide +kernel
theorem dX5_leastStrength_22 : decode cX5_leastStrength 22 = .ok (.iconst 0, 1) := by decide +kernel
theorem dX5_leastStrength_23 : decode cX5_leastStrength 23 = .ok (.iconst 0, 1) := by decide +kernel
theorem dX5_leastStrength_24 : decode cX5_leastStrength 24 = .ok (.invokevirtual 158, 3) := by decide +kernel
theorem dX5_leastStrength_27 : decode cX5_leastStrength 27 = .ok (.aload_n 0, 1) := by decide +kernel
theorem dX5_leastStrength_28 : decode cX5_leastStrength 28 = .ok (.aload_n 0, 1) := by decide +kernel
theorem dX5_leastStrength_29 : decode cX5_leastStrength 29 = .ok (.getfield 12, 3) := by decide +kernel
theorem dX5_leastStrength_32 : decode cX5_leastStrength 32 = .ok (.getfield 122, 3) := by decide +kernel
theorem dX5_leastStrength_35 : decode cX5_leastStrength 35 = .ok (.iload_n 1, 1) := by decide +kernel
theorem dX5_leastStrength_36 : decode cX5_leastStrength 36 = .ok (.invokevirtual 161, 3) := by decide +kernel
theorem dX5_leastStrength_39 : decode cX5_leastStrength 39 = .ok (.invokestatic 167, 3) := by decide +kernel
theorem dX5_leastStrength_42 : decode cX5_leastStrength 42 = .ok (.ifCond .eq 7, 3) := by decide +kernel
theorem dX5_leastStrength_45 : decode cX5_leastStrength 45 = .ok (.iload_n 1, 1) := by decide +kernel
theorem dX5_leastStrength_46 : decode cX5_leastStrength 46 = .ok (.goto 4, 3) := by decide +kernel
theorem dX5_leastStrength_49 : decode cX5_leastStrength 49 = .ok (.iconst (-1), 1) := by decide +kernel
theorem dX5_leastStrength_50 : decode cX5_leastStrength 50 = .ok (.ireturn, 1) := by decide +kernel
set_option maxRecDepth 20000 in
theorem ggX5_refusalsToCome_X0_sendFrame : GoodIn wsX5_refusalsToCome wsX0_sendFrame := goodIn_r _ [7, 8, 9, 10, 11, 12, 13, 14, 15, 16, 17, 18, 19, 20, 21, 22, 23, 24, 25, 26, 27, 28, 29, 30, 31, 95, 96, 97, 98, 99, 100, 101, 102] (by decide +kernel) (by decide +kernel)
set_option maxRecDepth 20000 in
theorem gX5_refusalsToCome_X0_sendFrame : GoodIn wsX5_refusalsToCome (wsV RX5 158 RX0 yX0_sendFrame wsX0_sendFrame) := goodIn_app (goodIn_of _ (by decide +kernel)) ggX5_refusalsToCome_X0_sendFrame
set_option maxRecDepth 20000 in
theorem ggX5_refusalsToCome_X5_verdict : GoodIn wsX5_refusalsToCome wsX5_verdict := goodIn_r _ [35, 1, 2, 36, 37, 38, 6, 39, 40, 41, 8, 42, 43, 44, 45, 46, 10, 47, 19, 20, 21, 22, 23, 24, 48, 49, 50, 51, 29, 25, 26, 27, 28, 52, 53, 54, 55, 56, 57, 58, 59, 13, 14, 15, 16, 17, 18, 60, 61, 62, 63, 64, 65, 77, 78, 79, 80, 81, 82, 83, 84, 85, 86, 87, 88, 89, 90, 91, 92, 93, 94, 95, 96, 97, 98, 99, 100, 101, 102] (by decide +kernel) (by decide +kernel)
set_option maxRecDepth 20000 in
theorem gX5_refusalsToCome_X5_verdict : GoodIn wsX5_refusalsToCome (wsV RX5 161 RX5 yX5_verdict wsX5_verdict) := goodIn_app (goodIn_of _ (by decide +kernel)) ggX5_refusalsToCome_X5_verdict
set_option maxRecDepth 20000 in
theorem ggX5_refusalsToCome_X5_isAccepted : GoodIn wsX5_refusalsToCome wsX5_isAccepted := goodIn_r _ [68] (by decide +kernel) (by decide +kernel)
set_option maxRecDepth 20000 in
theorem gX5_refusalsToCome_X5_isAccepted : GoodIn wsX5_refusalsToCome (va_wsS RX5 167 yX5_isAccepted wsX5_isAccepted) := goodIn_app (goodIn_of _ (by decide +kernel)) ggX5_refusalsToCome_X5_isAccepted
set_option maxRecDepth 20000 in
theorem ggX5_refusalsToCome_X5_gainAfter : GoodIn wsX5_refusalsToCome wsX5_gainAfter := goodIn_r _ [72, 1, 73, 43, 44, 45, 2, 74, 75, 76, 77, 78, 79, 80, 95, 96, 97, 98, 99, 100, 81, 82, 83, 84, 85, 86, 87, 88, 89, 90, 91, 92, 93, 94] (by decide +kernel) (by decide +kernel)
set_option maxRecDepth 20000 in
theorem gX5_refusalsToCome_X5_gainAfter : GoodIn wsX5_refusalsToCome (wsV RX5 171 RX5 yX5_gainAfter wsX5_gainAfter) := goodIn_app (goodIn_of _ (by decide +kernel)) ggX5_refusalsToCome_X5_gainAfter
theorem dX5_refusalsToCome_0 : decode cX5_refusalsToCome 0 = .ok (.aload_n 0, 1) := by decide +kernel
theorem dX5_refusalsToCome_1 : decode cX5_refusalsToCome 1 = .ok (.getfield 33, 3) := by decide +kernel
theorem dX5_refusalsToCome_4 : decode cX5_refusalsToCome 4 = .ok (.aload_n 0, 1) := by decide +kernel
theorem dX5_refusalsToCome_5 : decode cX5_refusalsToCome 5 = .ok (.getfield 12, 3) := by decide +kernel
theorem dX5_refusalsToCome_8 : decode cX5_refusalsToCome 8 = .ok (.getfield 106, 3) := by decide +kernel
theorem dX5_refusalsToCome_11 : decode cX5_refusalsToCome 11 = .ok (.iconst 0, 1) := by decide +kernel
theorem dX5_refusalsToCome_12 : decode cX5_refusalsToCome 12 = .ok (.iconst 0, 1) := by decide +kernel
theorem dX5_refusalsToCome_13 : decode cX5_refusalsToCome 13 = .ok (.invokevirtual 158, 3) := by decide +kernel
theorem dX5_refusalsToCome_16 : decode cX5_refusalsToCome 16 = .ok (.aload_n 0, 1) := by decide +kernel
theorem dX5_refusalsToCome_17 : decode cX5_refusalsToCome 17 = .ok (.getfield 12, 3) := by decide +kernel
theorem dX5_refusalsToCome_20 : decode cX5_refusalsToCome 20 = .ok (.getfield 122, 3) := by decide +kernel
theorem dX5_refusalsToCome_23 : decode cX5_refusalsToCome 23 = .ok (.istore_n 1, 1) := by decide +kernel
theorem dX5_refusalsToCome_24 : decode cX5_refusalsToCome 24 = .ok (.iconst 0, 1) := by decide +kernel
theorem dX5_refusalsToCome_25 : decode cX5_refusalsToCome 25 = .ok (.istore_n 2, 1) := by decide +kernel
theorem dX5_refusalsToCome_26 : decode cX5_refusalsToCome 26 = .ok (.iload_n 2, 1) := by decide +kernel
theorem dX5_refusalsToCome_27 : decode cX5_refusalsToCome 27 = .ok (.bipush 20, 2) := by decide +kernel
theorem dX5_refusalsToCome_29 : decode cX5_refusalsToCome 29 = .ok (.if_icmp .gt 30, 3) := by decide +kernel
theorem dX5_refusalsToCome_32 : decode cX5_refusalsToCome 32 = .ok (.aload_n 0, 1) := by decide +kernel
theorem dX5_refusalsToCome_33 : decode cX5_refusalsToCome 33 = .ok (.iload_n 1, 1) := by decide +kernel
theorem dX5_refusalsToCome_34 : decode cX5_refusalsToCome 34 = .ok (.bipush 10, 2) := by decide +kernel
theorem dX5_refusalsToCome_36 : decode cX5_refusalsToCome 36 = .ok (.invokevirtual 161, 3) := by decide +kernel
theorem dX5_refusalsToCome_39 : decode cX5_refusalsToCome 39 = .ok (.invokestatic 167, 3) := by decide +kernel
theorem dX5_refusalsToCome_42 : decode cX5_refusalsToCome 42 = .ok (.ifCond .eq 5, 3) := by decide +kernel
theorem dX5_refusalsToCome_45 : decode cX5_refusalsToCome 45 = .ok (.iload_n 2, 1) := by decide +kernel
theorem dX5_refusalsToCome_46 : decode cX5_refusalsToCome 46 = .ok (.ireturn, 1) := by decide +kernel
theorem dX5_refusalsToCome_47 : decode cX5_refusalsToCome 47 = .ok (.aload_n 0, 1) := by decide +kernel
theorem dX5_refusalsToCome_48 : decode cX5_refusalsToCome 48 = .ok (.iload_n 1, 1) := by decide +kernel
theorem dX5_refusalsToCome_49 : decode cX5_refusalsToCome 49 = .ok (.invokevirtual 171, 3) := by decide +kernel
theorem dX5_refusalsToCome_52 : decode cX5_refusalsToCome 52 = .ok (.istore_n 1, 1) := by decide +kernel
theorem dX5_refusalsToCome_53 : decode cX5_refusalsToCome 53 = .ok (.iinc 2 1, 3) := by decide +kernel
theorem dX5_refusalsToCome_56 : decode cX5_refusalsToCome 56 = .ok (.goto (-30), 3) := by decide +kernel
theorem dX5_refusalsToCome_59 : decode cX5_refusalsToCome 59 = .ok (.iconst (-1), 1) := by decide +kernel
theorem dX5_refusalsToCome_60 : decode cX5_refusalsToCome 60 = .ok (.ireturn, 1) := by decide +kernel
set_option maxRecDepth 20000 in
theorem ggX5_ticksToForget_X4_remembers : GoodIn wsX5_ticksToForget wsX4_remembers := goodIn_r _ [6, 7, 12, 13, 14, 15, 16, 17, 18, 19, 20, 21, 22, 23, 24, 25] (by decide +kernel) (by decide +kernel)
set_option maxRecDepth 20000 in
theorem gX5_ticksToForget_X4_remembers : GoodIn wsX5_ticksToForget (wsV RX5 128 RX4 yX4_remembers wsX4_remembers) := goodIn_app (goodIn_of _ (by decide +kernel)) ggX5_ticksToForget_X4_remembers
theorem dX5_ticksToForget_0 : decode cX5_ticksToForget 0 = .ok (.aload_n 0, 1) := by decide +kernel
theorem dX5_ticksToForget_1 : decode cX5_ticksToForget 1 = .ok (.getfield 12, 3) := by decide +kernel
theorem dX5_ticksToForget_4 : decode cX5_ticksToForget 4 = .ok (.invokevirtual 128, 3) := by decide +kernel
theorem dX5_ticksToForget_7 : decode cX5_ticksToForget 7 = .ok (.ifCond .eq 16, 3) := by decide +kernel
theorem dX5_ticksToForget_10 : decode cX5_ticksToForget 10 = .ok (.bipush 61, 2) := by decide +kernel
theorem dX5_ticksToForget_12 : decode cX5_ticksToForget 12 = .ok (.aload_n 0, 1) := by decide +kernel
theorem dX5_ticksToForget_13 : decode cX5_ticksToForget 13 = .ok (.getfield 12, 3) := by decide +kernel
theorem dX5_ticksToForget_16 : decode cX5_ticksToForget 16 = .ok (.getfield 100, 3) := by decide +kernel
theorem dX5_ticksToForget_19 : decode cX5_ticksToForget 19 = .ok (.isub, 1) := by decide +kernel
theorem dX5_ticksToForget_20 : decode cX5_ticksToForget 20 = .ok (.goto 4, 3) := by decide +kernel
theorem dX5_ticksToForget_23 : decode cX5_ticksToForget 23 = .ok (.iconst (-1), 1) := by decide +kernel
theorem dX5_ticksToForget_24 : decode cX5_ticksToForget 24 = .ok (.ireturn, 1) := by decide +kernel
set_option maxRecDepth 20000 in
theorem ggX5_undo_X3_giveBack : GoodIn wsX5_undo wsX3_giveBack := goodIn_r _ [9, 10, 11, 12, 13, 14, 15, 16, 17, 18, 19, 20, 21, 22, 23, 24, 25, 26, 27, 28, 29, 30, 31, 32, 33, 34, 35, 36, 37, 38, 39, 40, 41, 42, 43, 44, 45, 50, 51, 52, 53, 54, 55, 56, 57, 58, 59, 60, 61, 62, 63, 64, 65, 66, 67] (by decide +kernel) (by decide +kernel)
set_option maxRecDepth 20000 in
theorem gX5_undo_X3_giveBack : GoodIn wsX5_undo (wsV RX5 192 RX3 yX3_giveBack wsX3_giveBack) := goodIn_app (goodIn_of _ (by decide +kernel)) ggX5_undo_X3_giveBack
theorem dX5_undo_0 : decode cX5_undo 0 = .ok (.aload_n 0, 1) := by decide +kernel
theorem dX5_undo_1 : decode cX5_undo 1 = .ok (.getfield 19, 3) := by decide +kernel
theorem dX5_undo_4 : decode cX5_undo 4 = .ok (.getfield 189, 3) := by decide +kernel
theorem dX5_undo_7 : decode cX5_undo 7 = .ok (.ifCond .ne 13, 3) := by decide +kernel
theorem dX5_undo_10 : decode cX5_undo 10 = .ok (.new 67, 3) := by decide +kernel
theorem dX5_undo_13 : decode cX5_undo 13 = .ok (.dup, 1) := by decide +kernel
theorem dX5_undo_14 : decode cX5_undo 14 = .ok (.ldc 190, 2) := by decide +kernel
theorem dX5_undo_16 : decode cX5_undo 16 = .ok (.invokespecial 71, 3) := by decide +kernel
theorem dX5_undo_19 : decode cX5_undo 19 = .ok (.athrow, 1) := by decide +kernel
theorem dX5_undo_20 : decode cX5_undo 20 = .ok (.aload_n 0, 1) := by decide +kernel
theorem dX5_undo_21 : decode cX5_undo 21 = .ok (.getfield 19, 3) := by decide +kernel
theorem dX5_undo_24 : decode cX5_undo 24 = .ok (.aload_n 0, 1) := by decide +kernel
theorem dX5_undo_25 : decode cX5_undo 25 = .ok (.getfield 12, 3) := by decide +kernel
theorem dX5_undo_28 : decode cX5_undo 28 = .ok (.invokevirtual 192, 3) := by decide +kernel
theorem dX5_undo_31 : decode cX5_undo 31 = .ok (.aload_n 0, 1) := by decide +kernel
theorem dX5_undo_32 : decode cX5_undo 32 = .ok (.getfield 19, 3) := by decide +kernel
theorem dX5_undo_35 : decode cX5_undo 35 = .ok (.getfield 189, 3) := by decide +kernel
theorem dX5_undo_38 : decode cX5_undo 38 = .ok (.ireturn, 1) := by decide +kernel
theorem dX5_isWithin_0 : decode cX5_isWithin 0 = .ok (.iload_n 0, 1) := by decide +kernel
theorem dX5_isWithin_1 : decode cX5_isWithin 1 = .ok (.iload_n 1, 1) := by decide +kernel
theorem dX5_isWithin_2 : decode cX5_isWithin 2 = .ok (.if_icmp .lt 12, 3) := by decide +kernel
theorem dX5_isWithin_5 : decode cX5_isWithin 5 = .ok (.iload_n 0, 1) := by decide +kernel
theorem dX5_isWithin_6 : decode cX5_isWithin 6 = .ok (.iload_n 2, 1) := by decide +kernel
theorem dX5_isWithin_7 : decode cX5_isWithin 7 = .ok (.if_icmp .gt 7, 3) := by decide +kernel
theorem dX5_isWithin_10 : decode cX5_isWithin 10 = .ok (.iconst 1, 1) := by decide +kernel
theorem dX5_isWithin_11 : decode cX5_isWithin 11 = .ok (.goto 4, 3) := by decide +kernel
theorem dX5_isWithin_14 : decode cX5_isWithin 14 = .ok (.iconst 0, 1) := by decide +kernel
theorem dX5_isWithin_15 : decode cX5_isWithin 15 = .ok (.ireturn, 1) := by decide +kernel
theorem dX5_checkArgument_0 : decode cX5_checkArgument 0 = .ok (.iload_n 0, 1) := by decide +kernel
theorem dX5_checkArgument_1 : decode cX5_checkArgument 1 = .ok (.ifCond .ne 13, 3) := by decide +kernel
theorem dX5_checkArgument_4 : decode cX5_checkArgument 4 = .ok (.new 224, 3) := by decide +kernel
theorem dX5_checkArgument_7 : decode cX5_checkArgument 7 = .ok (.dup, 1) := by decide +kernel
theorem dX5_checkArgument_8 : decode cX5_checkArgument 8 = .ok (.ldc 226, 2) := by decide +kernel
theorem dX5_checkArgument_10 : decode cX5_checkArgument 10 = .ok (.invokespecial 228, 3) := by decide +kernel
theorem dX5_checkArgument_13 : decode cX5_checkArgument 13 = .ok (.athrow, 1) := by decide +kernel
theorem dX5_checkArgument_14 : decode cX5_checkArgument 14 = .ok (.return_, 1) := by decide +kernel
theorem dX5_checkIndex_0 : decode cX5_checkIndex 0 = .ok (.iload_n 0, 1) := by decide +kernel
theorem dX5_checkIndex_1 : decode cX5_checkIndex 1 = .ok (.ifCond .ne 13, 3) := by decide +kernel
theorem dX5_checkIndex_4 : decode cX5_checkIndex 4 = .ok (.new 229, 3) := by decide +kernel
theorem dX5_checkIndex_7 : decode cX5_checkIndex 7 = .ok (.dup, 1) := by decide +kernel
theorem dX5_checkIndex_8 : decode cX5_checkIndex 8 = .ok (.ldc 231, 2) := by decide +kernel
theorem dX5_checkIndex_10 : decode cX5_checkIndex 10 = .ok (.invokespecial 233, 3) := by decide +kernel
theorem dX5_checkIndex_13 : decode cX5_checkIndex 13 = .ok (.athrow, 1) := by decide +kernel
theorem dX5_checkIndex_14 : decode cX5_checkIndex 14 = .ok (.return_, 1) := by decide +kernel
set_option maxRecDepth 20000 in
theorem ggX5_checkFrame_X5_isWithin : GoodIn wsX5_checkFrame wsX5_isWithin := goodIn_r _ [4] (by decide +kernel) (by decide +kernel)
set_option maxRecDepth 20000 in
theorem gX5_checkFrame_X5_isWithin : GoodIn wsX5_checkFrame (va_wsS RX5 84 yX5_isWithin wsX5_isWithin) := goodIn_app (goodIn_of _ (by decide +kernel)) ggX5_checkFrame_X5_isWithin
set_option maxRecDepth 20000 in
theorem ggX5_checkFrame_X5_checkArgument : GoodIn wsX5_checkFrame wsX5_checkArgument := goodIn_ca (goodIn_r _ [7, 8, 9] (by decide +kernel) (by decide +kernel)) (goodIn_sub (fun _ h => List.mem_cons_of_mem _ (List.mem_append_right _ h)) (by decide +kernel))
set_option maxRecDepth 20000 in
theorem gX5_checkFrame_X5_checkArgument : GoodIn wsX5_checkFrame (va_wsS RX5 88 yX5_checkArgument wsX5_checkArgument) := goodIn_app (goodIn_of _ (by decide +kernel)) ggX5_checkFrame_X5_checkArgument
theorem dX5_checkFrame_0 : decode cX5_checkFrame 0 = .ok (.iload_n 0, 1) := by decide +kernel
theorem dX5_checkFrame_1 : decode cX5_checkFrame 1 = .ok (.iconst 0, 1) := by decide +kernel
theorem dX5_checkFrame_2 : decode cX5_checkFrame 2 = .ok (.bipush 7, 2) := by decide +kernel
theorem dX5_checkFrame_4 : decode cX5_checkFrame 4 = .ok (.invokestatic 84, 3) := by decide +kernel
theorem dX5_checkFrame_7 : decode cX5_checkFrame 7 = .ok (.invokestatic 88, 3) := by decide +kernel
theorem dX5_checkFrame_10 : decode cX5_checkFrame 10 = .ok (.iload_n 1, 1) := by decide +kernel
theorem dX5_checkFrame_11 : decode cX5_checkFrame 11 = .ok (.iconst 0, 1) := by decide +kernel
theorem dX5_checkFrame_12 : decode cX5_checkFrame 12 = .ok (.bipush 15, 2) := by decide +kernel
theorem dX5_checkFrame_14 : decode cX5_checkFrame 14 = .ok (.invokestatic 84, 3) := by decide +kernel
theorem dX5_checkFrame_17 : decode cX5_checkFrame 17 = .ok (.invokestatic 88, 3) := by decide +kernel
theorem dX5_checkFrame_20 : decode cX5_checkFrame 20 = .ok (.iload_n 2, 1) := by decide +kernel
theorem dX5_checkFrame_21 : decode cX5_checkFrame 21 = .ok (.iconst 0, 1) := by decide +kernel
theorem dX5_checkFrame_22 : decode cX5_checkFrame 22 = .ok (.iconst 1, 1) := by decide +kernel
theorem dX5_checkFrame_23 : decode cX5_checkFrame 23 = .ok (.invokestatic 84, 3) := by decide +kernel
theorem dX5_checkFrame_26 : decode cX5_checkFrame 26 = .ok (.invokestatic 88, 3) := by decide +kernel
theorem dX5_checkFrame_29 : decode cX5_checkFrame 29 = .ok (.return_, 1) := by decide +kernel
set_option maxRecDepth 20000 in
theorem ggX5_checkStrength_X5_isWithin : GoodIn wsX5_checkStrength wsX5_isWithin := goodIn_r _ [4] (by decide +kernel) (by decide +kernel)
set_option maxRecDepth 20000 in
theorem gX5_checkStrength_X5_isWithin : GoodIn wsX5_checkStrength (va_wsS RX5 84 yX5_isWithin wsX5_isWithin) := goodIn_app (goodIn_of _ (by decide +kernel)) ggX5_checkStrength_X5_isWithin
set_option maxRecDepth 20000 in
theorem ggX5_checkStrength_X5_checkArgument : GoodIn wsX5_checkStrength wsX5_checkArgument := goodIn_ca (goodIn_r _ [7, 8, 9] (by decide +kernel) (by decide +kernel)) (goodIn_sub (fun _ h => List.mem_cons_of_mem _ (List.mem_append_right _ h)) (by decide +kernel))
set_option maxRecDepth 20000 in
theorem gX5_checkStrength_X5_checkArgument : GoodIn wsX5_checkStrength (va_wsS RX5 88 yX5_checkArgument wsX5_checkArgument) := goodIn_app (goodIn_of _ (by decide +kernel)) ggX5_checkStrength_X5_checkArgument
theorem dX5_checkStrength_0 : decode cX5_checkStrength 0 = .ok (.iload_n 0, 1) := by decide +kernel
theorem dX5_checkStrength_1 : decode cX5_checkStrength 1 = .ok (.iconst 1, 1) := by decide +kernel
theorem dX5_checkStrength_2 : decode cX5_checkStrength 2 = .ok (.bipush 10, 2) := by decide +kernel
theorem dX5_checkStrength_4 : decode cX5_checkStrength 4 = .ok (.invokestatic 84, 3) := by decide +kernel
theorem dX5_checkStrength_7 : decode cX5_checkStrength 7 = .ok (.invokestatic 88, 3) := by decide +kernel
theorem dX5_checkStrength_10 : decode cX5_checkStrength 10 = .ok (.return_, 1) := by decide +kernel
set_option maxRecDepth 20000 in
theorem ggX5_wordOf_J6_bitCount_0f7a4 : GoodIn wsX5_wordOf wsJ6_bitCount_0f7a4 := goodIn_r _ [4, 5, 6, 7] (by decide +kernel) (by decide +kernel)
set_option maxRecDepth 20000 in
theorem gX5_wordOf_J6_bitCount_0f7a4 : GoodIn wsX5_wordOf (va_wsS RX5 234 yJ6_bitCount_0f7a4 wsJ6_bitCount_0f7a4) := goodIn_app (goodIn_of _ (by decide +kernel)) ggX5_wordOf_J6_bitCount_0f7a4
theorem dX5_wordOf_0 : decode cX5_wordOf 0 = .ok (.iload_n 0, 1) := by decide +kernel
theorem dX5_wordOf_1 : decode cX5_wordOf 1 = .ok (.iconst 5, 1) := by decide +kernel
theorem dX5_wordOf_2 : decode cX5_wordOf 2 = .ok (.ishl, 1) := by decide +kernel
theorem dX5_wordOf_3 : decode cX5_wordOf 3 = .ok (.iload_n 1, 1) := by decide +kernel
theorem dX5_wordOf_4 : decode cX5_wordOf 4 = .ok (.iconst 1, 1) := by decide +kernel
theorem dX5_wordOf_5 : decode cX5_wordOf 5 = .ok (.ishl, 1) := by decide +kernel
theorem dX5_wordOf_6 : decode cX5_wordOf 6 = .ok (.ior, 1) := by decide +kernel
theorem dX5_wordOf_7 : decode cX5_wordOf 7 = .ok (.iload_n 2, 1) := by decide +kernel
theorem dX5_wordOf_8 : decode cX5_wordOf 8 = .ok (.ior, 1) := by decide +kernel
theorem dX5_wordOf_9 : decode cX5_wordOf 9 = .ok (.istore_n 3, 1) := by decide +kernel
theorem dX5_wordOf_10 : decode cX5_wordOf 10 = .ok (.iload_n 3, 1) := by decide +kernel
theorem dX5_wordOf_11 : decode cX5_wordOf 11 = .ok (.iconst 1, 1) := by decide +kernel
theorem dX5_wordOf_12 : decode cX5_wordOf 12 = .ok (.ishl, 1) := by decide +kernel
theorem dX5_wordOf_13 : decode cX5_wordOf 13 = .ok (.iload_n 3, 1) := by decide +kernel
theorem dX5_wordOf_14 : decode cX5_wordOf 14 = .ok (.invokestatic 234, 3) := by decide +kernel
theorem dX5_wordOf_17 : decode cX5_wordOf 17 = .ok (.iconst 1, 1) := by decide +kernel
theorem dX5_wordOf_18 : decode cX5_wordOf 18 = .ok (.iand, 1) := by decide +kernel
theorem dX5_wordOf_19 : decode cX5_wordOf 19 = .ok (.ior, 1) := by decide +kernel
theorem dX5_wordOf_20 : decode cX5_wordOf 20 = .ok (.ireturn, 1) := by decide +kernel
theorem dX5_bitOf_0 : decode cX5_bitOf 0 = .ok (.iload_n 0, 1) := by decide +kernel
theorem dX5_bitOf_1 : decode cX5_bitOf 1 = .ok (.bipush 8, 2) := by decide +kernel
theorem dX5_bitOf_3 : decode cX5_bitOf 3 = .ok (.iload_n 1, 1) := by decide +kernel
theorem dX5_bitOf_4 : decode cX5_bitOf 4 = .ok (.isub, 1) := by decide +kernel
theorem dX5_bitOf_5 : decode cX5_bitOf 5 = .ok (.ishr, 1) := by decide +kernel
theorem dX5_bitOf_6 : decode cX5_bitOf 6 = .ok (.iconst 1, 1) := by decide +kernel
theorem dX5_bitOf_7 : decode cX5_bitOf 7 = .ok (.iand, 1) := by decide +kernel
theorem dX5_bitOf_8 : decode cX5_bitOf 8 = .ok (.ireturn, 1) := by decide +kernel
theorem dX5_weakestHeard_0 : decode cX5_weakestHeard 0 = .ok (.bipush 11, 2) := by decide +kernel
theorem dX5_weakestHeard_2 : decode cX5_weakestHeard 2 = .ok (.iload_n 0, 1) := by decide +kernel
theorem dX5_weakestHeard_3 : decode cX5_weakestHeard 3 = .ok (.isub, 1) := by decide +kernel
theorem dX5_weakestHeard_4 : decode cX5_weakestHeard 4 = .ok (.ireturn, 1) := by decide +kernel
set_option maxRecDepth 20000 in
theorem ggX5_hearFrame_X0_sendFrame : GoodIn wsX5_hearFrame wsX0_sendFrame := goodIn_r _ [6, 7, 8, 9, 10, 11, 12, 13, 14, 15, 16, 17, 18, 19, 20, 21, 22, 23, 24, 25, 26, 27, 28, 29, 30, 102, 103, 104, 105, 106, 107, 108, 109] (by decide +kernel) (by decide +kernel)
set_option maxRecDepth 20000 in
theorem gX5_hearFrame_X0_sendFrame : GoodIn wsX5_hearFrame (wsV RX5 158 RX0 yX0_sendFrame wsX0_sendFrame) := goodIn_app (goodIn_of _ (by decide +kernel)) ggX5_hearFrame_X0_sendFrame
set_option maxRecDepth 20000 in
theorem ggX5_hearFrame_X5_hear : GoodIn wsX5_hearFrame wsX5_hear := goodIn_r _ [34, 35, 36, 37, 38, 9, 39, 1, 40, 41, 42, 5, 43, 44, 45, 7, 46, 47, 48, 49, 50, 51, 18, 19, 20, 21, 22, 23, 52, 53, 54, 55, 28, 24, 25, 26, 27, 56, 57, 58, 59, 60, 61, 62, 63, 12, 13, 14, 15, 16, 17, 64, 65, 66, 67, 68, 69, 70, 71, 72, 73, 74, 75, 76, 77, 78, 79, 80, 81, 82, 83, 84, 85, 86, 87, 88, 89, 90, 91, 92, 93, 94, 95, 96, 97, 98, 99, 100, 101, 110, 111, 112, 113, 114, 115, 116, 117, 118, 119, 120, 121, 122, 123, 102, 103, 104, 105, 106, 107, 108, 109] (by decide +kernel) (by decide +kernel)
set_option maxRecDepth 20000 in
theorem gX5_hearFrame_X5_hear : GoodIn wsX5_hearFrame (wsV RX5 81 RX5 yX5_hear wsX5_hear) := goodIn_app (goodIn_of _ (by decide +kernel)) ggX5_hearFrame_X5_hear
theorem dX5_hearFrame_0 : decode cX5_hearFrame 0 = .ok (.aload_n 0, 1) := by decide +kernel
theorem dX5_hearFrame_1 : decode cX5_hearFrame 1 = .ok (.getfield 33, 3) := by decide +kernel
theorem dX5_hearFrame_4 : decode cX5_hearFrame 4 = .ok (.iload_n 1, 1) := by decide +kernel
theorem dX5_hearFrame_5 : decode cX5_hearFrame 5 = .ok (.iload_n 2, 1) := by decide +kernel
theorem dX5_hearFrame_6 : decode cX5_hearFrame 6 = .ok (.iload_n 3, 1) := by decide +kernel
theorem dX5_hearFrame_7 : decode cX5_hearFrame 7 = .ok (.invokevirtual 158, 3) := by decide +kernel
theorem dX5_hearFrame_10 : decode cX5_hearFrame 10 = .ok (.aload_n 0, 1) := by decide +kernel
theorem dX5_hearFrame_11 : decode cX5_hearFrame 11 = .ok (.iload 4, 2) := by decide +kernel
theorem dX5_hearFrame_13 : decode cX5_hearFrame 13 = .ok (.invokevirtual 81, 3) := by decide +kernel
theorem dX5_hearFrame_16 : decode cX5_hearFrame 16 = .ok (.ireturn, 1) := by decide +kernel
set_option maxRecDepth 20000 in
theorem ggX5_hearRepeat_X0_sendRepeat : GoodIn wsX5_hearRepeat wsX0_sendRepeat := goodIn_r _ [6, 7, 8, 9, 10, 11, 12, 13, 14, 15, 16, 17, 18, 97, 98, 99, 100, 101, 102, 103, 104] (by decide +kernel) (by decide +kernel)
set_option maxRecDepth 20000 in
theorem gX5_hearRepeat_X0_sendRepeat : GoodIn wsX5_hearRepeat (wsV RX5 239 RX0 yX0_sendRepeat wsX0_sendRepeat) := goodIn_app (goodIn_of _ (by decide +kernel)) ggX5_hearRepeat_X0_sendRepeat
set_option maxRecDepth 20000 in
theorem ggX5_hearRepeat_X5_hear : GoodIn wsX5_hearRepeat wsX5_hear := goodIn_r _ [23, 24, 25, 26, 27, 22, 28, 1, 29, 30, 31, 5, 32, 33, 34, 7, 35, 36, 37, 38, 39, 40, 8, 9, 10, 11, 12, 13, 41, 42, 43, 44, 18, 14, 15, 16, 17, 45, 46, 47, 48, 49, 50, 51, 52, 53, 54, 55, 56, 57, 58, 59, 60, 61, 62, 63, 64, 65, 66, 67, 68, 69, 70, 71, 72, 73, 74, 75, 76, 77, 78, 79, 80, 81, 82, 83, 84, 85, 86, 87, 88, 89, 90, 91, 92, 93, 94, 95, 96, 105, 106, 107, 108, 109, 110, 111, 112, 113, 114, 115, 116, 117, 118, 97, 98, 99, 100, 101, 102, 103, 104] (by decide +kernel) (by decide +kernel)
set_option maxRecDepth 20000 in
theorem gX5_hearRepeat_X5_hear : GoodIn wsX5_hearRepeat (wsV RX5 81 RX5 yX5_hear wsX5_hear) := goodIn_app (goodIn_of _ (by decide +kernel)) ggX5_hearRepeat_X5_hear
theorem dX5_hearRepeat_0 : decode cX5_hearRepeat 0 = .ok (.aload_n 0, 1) := by decide +kernel
theorem dX5_hearRepeat_1 : decode cX5_hearRepeat 1 = .ok (.getfield 33, 3) := by decide +kernel
theorem dX5_hearRepeat_4 : decode cX5_hearRepeat 4 = .ok (.invokevirtual 239, 3) := by decide +kernel
theorem dX5_hearRepeat_7 : decode cX5_hearRepeat 7 = .ok (.aload_n 0, 1) := by decide +kernel
theorem dX5_hearRepeat_8 : decode cX5_hearRepeat 8 = .ok (.iload_n 1, 1) := by decide +kernel
theorem dX5_hearRepeat_9 : decode cX5_hearRepeat 9 = .ok (.invokevirtual 81, 3) := by decide +kernel
theorem dX5_hearRepeat_12 : decode cX5_hearRepeat 12 = .ok (.ireturn, 1) := by decide +kernel
set_option maxRecDepth 20000 in
theorem ggX5_hear_X5_verdict : GoodIn wsX5_hear wsX5_verdict := goodIn_r _ [6, 7, 1, 8, 9, 10, 11, 12, 13, 14, 15, 16, 17, 18, 19, 20, 5, 21, 22, 23, 24, 25, 26, 27, 28, 29, 30, 31, 32, 33, 34, 35, 36, 37, 38, 39, 40, 41, 42, 43, 44, 45, 46, 47, 48, 49, 50, 51, 52, 53, 54, 55, 56, 85, 86, 87, 88, 89, 90, 91, 92, 93, 94, 95, 96, 97, 98, 99, 100, 101, 102, 103, 104, 105, 106, 107, 108, 109, 110] (by decide +kernel) (by decide +kernel)
set_option maxRecDepth 20000 in
theorem gX5_hear_X5_verdict : GoodIn wsX5_hear (wsV RX5 161 RX5 yX5_verdict wsX5_verdict) := goodIn_app (goodIn_of _ (by decide +kernel)) ggX5_hear_X5_verdict
set_option maxRecDepth 20000 in
theorem ggX5_hear_X5_gainAfter : GoodIn wsX5_hear wsX5_gainAfter := goodIn_r _ [60, 7, 61, 17, 18, 19, 1, 62, 63, 64, 85, 86, 87, 88, 103, 104, 105, 106, 107, 108, 89, 90, 91, 92, 93, 94, 95, 96, 97, 98, 99, 100, 101, 102] (by decide +kernel) (by decide +kernel)
set_option maxRecDepth 20000 in
theorem gX5_hear_X5_gainAfter : GoodIn wsX5_hear (wsV RX5 171 RX5 yX5_gainAfter wsX5_gainAfter) := goodIn_app (goodIn_of _ (by decide +kernel)) ggX5_hear_X5_gainAfter
set_option maxRecDepth 20000 in
theorem ggX5_hear_X5_isAccepted : GoodIn wsX5_hear wsX5_isAccepted := goodIn_r _ [67] (by decide +kernel) (by decide +kernel)
set_option maxRecDepth 20000 in
theorem gX5_hear_X5_isAccepted : GoodIn wsX5_hear (va_wsS RX5 167 yX5_isAccepted wsX5_isAccepted) := goodIn_app (goodIn_of _ (by decide +kernel)) ggX5_hear_X5_isAccepted
set_option maxRecDepth 20000 in
theorem ggX5_hear_X5_accept : GoodIn wsX5_hear wsX5_accept := goodIn_r _ [71, 1, 72, 73, 74, 5, 75, 7, 76, 29, 30, 25, 31, 27, 32, 77, 78, 79, 80, 81, 82, 83, 84, 85, 86, 87, 88, 89, 90, 91, 92, 93, 94, 95, 96, 97, 98, 99, 100, 101, 102, 103, 104, 105, 106, 107, 108, 109, 110] (by decide +kernel) (by decide +kernel)
set_option maxRecDepth 20000 in
theorem gX5_hear_X5_accept : GoodIn wsX5_hear (wsV RX5 242 RX5 yX5_accept wsX5_accept) := goodIn_app (goodIn_of _ (by decide +kernel)) ggX5_hear_X5_accept
set_option maxRecDepth 20000 in
theorem ggX5_hear_X2_increase : GoodIn wsX5_hear wsX2_increase := goodIn_r _ [80, 27, 32, 109, 110] (by decide +kernel) (by decide +kernel)
set_option maxRecDepth 20000 in
theorem gX5_hear_X2_increase : GoodIn wsX5_hear (wsV RX5 245 RX2 yX2_increase wsX2_increase) := goodIn_app (goodIn_of _ (by decide +kernel)) ggX5_hear_X2_increase
theorem dX5_hear_0 : decode cX5_hear 0 = .ok (.aload_n 0, 1) := by decide +kernel
theorem dX5_hear_1 : decode cX5_hear 1 = .ok (.aload_n 0, 1) := by decide +kernel
theorem dX5_hear_2 : decode cX5_hear 2 = .ok (.getfield 12, 3) := by decide +kernel
theorem dX5_hear_5 : decode cX5_hear 5 = .ok (.getfield 122, 3) := by decide +kernel
theorem dX5_hear_8 : decode cX5_hear 8 = .ok (.iload_n 1, 1) := by decide +kernel
theorem dX5_hear_9 : decode cX5_hear 9 = .ok (.invokevirtual 161, 3) := by decide +kernel
theorem dX5_hear_12 : decode cX5_hear 12 = .ok (.istore_n 2, 1) := by decide +kernel
theorem dX5_hear_13 : decode cX5_hear 13 = .ok (.aload_n 0, 1) := by decide +kernel
theorem dX5_hear_14 : decode cX5_hear 14 = .ok (.getfield 12, 3) := by decide +kernel
theorem dX5_hear_17 : decode cX5_hear 17 = .ok (.dup, 1) := by decide +kernel
theorem dX5_hear_18 : decode cX5_hear 18 = .ok (.getfield 144, 3) := by decide +kernel
theorem dX5_hear_21 : decode cX5_hear 21 = .ok (.iconst 1, 1) := by decide +kernel
theorem dX5_hear_22 : decode cX5_hear 22 = .ok (.iadd, 1) := by decide +kernel
theorem dX5_hear_23 : decode cX5_hear 23 = .ok (.putfield 144, 3) := by decide +kernel
theorem dX5_hear_26 : decode cX5_hear 26 = .ok (.aload_n 0, 1) := by decide +kernel
theorem dX5_hear_27 : decode cX5_hear 27 = .ok (.getfield 12, 3) := by decide +kernel
theorem dX5_hear_30 : decode cX5_hear 30 = .ok (.aload_n 0, 1) := by decide +kernel
theorem dX5_hear_31 : decode cX5_hear 31 = .ok (.aload_n 0, 1) := by decide +kernel
theorem dX5_hear_32 : decode cX5_hear 32 = .ok (.getfield 12, 3) := by decide +kernel
theorem dX5_hear_35 : decode cX5_hear 35 = .ok (.getfield 122, 3) := by decide +kernel
theorem dX5_hear_38 : decode cX5_hear 38 = .ok (.invokevirtual 171, 3) := by decide +kernel
theorem dX5_hear_41 : decode cX5_hear 41 = .ok (.putfield 122, 3) := by decide +kernel
theorem dX5_hear_44 : decode cX5_hear 44 = .ok (.iload_n 2, 1) := by decide +kernel
theorem dX5_hear_45 : decode cX5_hear 45 = .ok (.invokestatic 167, 3) := by decide +kernel
theorem dX5_hear_48 : decode cX5_hear 48 = .ok (.ifCond .eq 11, 3) := by decide +kernel
theorem dX5_hear_51 : decode cX5_hear 51 = .ok (.aload_n 0, 1) := by decide +kernel
theorem dX5_hear_52 : decode cX5_hear 52 = .ok (.iload_n 2, 1) := by decide +kernel
theorem dX5_hear_53 : decode cX5_hear 53 = .ok (.invokevirtual 242, 3) := by decide +kernel
theorem dX5_hear_56 : decode cX5_hear 56 = .ok (.goto 14, 3) := by decide +kernel
theorem dX5_hear_59 : decode cX5_hear 59 = .ok (.aload_n 0, 1) := by decide +kernel
theorem dX5_hear_60 : decode cX5_hear 60 = .ok (.getfield 12, 3) := by decide +kernel
theorem dX5_hear_63 : decode cX5_hear 63 = .ok (.getfield 141, 3) := by decide +kernel
theorem dX5_hear_66 : decode cX5_hear 66 = .ok (.iload_n 2, 1) := by decide +kernel
theorem dX5_hear_67 : decode cX5_hear 67 = .ok (.invokevirtual 245, 3) := by decide +kernel
theorem dX5_hear_70 : decode cX5_hear 70 = .ok (.iload_n 2, 1) := by decide +kernel
theorem dX5_hear_71 : decode cX5_hear 71 = .ok (.ireturn, 1) := by decide +kernel
set_option maxRecDepth 20000 in
theorem ggX5_verdict_X0_listen : GoodIn wsX5_verdict wsX0_listen := goodIn_r _ [7, 8, 9, 10, 11, 12, 13, 14, 15, 16, 17, 18, 19, 20, 21, 22, 23, 24, 25, 26, 27, 28, 29, 30, 31, 32, 71, 72, 73, 74, 75, 76, 77, 78] (by decide +kernel) (by decide +kernel)
set_option maxRecDepth 20000 in
theorem gX5_verdict_X0_listen : GoodIn wsX5_verdict (wsV RX5 248 RX0 yX0_listen wsX0_listen) := goodIn_app (goodIn_of _ (by decide +kernel)) ggX5_verdict_X0_listen
set_option maxRecDepth 20000 in
theorem ggX5_verdict_X0_decode : GoodIn wsX5_verdict wsX0_decode := goodIn_r _ [36, 9, 37, 38, 39, 24, 25, 26, 21, 27, 23, 28, 40, 41, 42, 43, 44, 45, 46, 71, 72, 73, 74, 75, 76, 77, 78] (by decide +kernel) (by decide +kernel)
set_option maxRecDepth 20000 in
theorem gX5_verdict_X0_decode : GoodIn wsX5_verdict (wsV RX5 251 RX0 yX0_decode wsX0_decode) := goodIn_app (goodIn_of _ (by decide +kernel)) ggX5_verdict_X0_decode
set_option maxRecDepth 20000 in
theorem ggX5_verdict_X4_remembers : GoodIn wsX5_verdict wsX4_remembers := goodIn_r _ [51, 52, 57, 58, 59, 60, 61, 62, 63, 64, 65, 66, 67, 68, 69, 70] (by decide +kernel) (by decide +kernel)
set_option maxRecDepth 20000 in
theorem gX5_verdict_X4_remembers : GoodIn wsX5_verdict (wsV RX5 128 RX4 yX4_remembers wsX4_remembers) := goodIn_app (goodIn_of _ (by decide +kernel)) ggX5_verdict_X4_remembers
theorem dX5_verdict_0 : decode cX5_verdict 0 = .ok (.aload_n 0, 1) := by decide +kernel
theorem dX5_verdict_1 : decode cX5_verdict 1 = .ok (.getfield 33, 3) := by decide +kernel
theorem dX5_verdict_4 : decode cX5_verdict 4 = .ok (.aload_n 0, 1) := by decide +kernel
theorem dX5_verdict_5 : decode cX5_verdict 5 = .ok (.getfield 12, 3) := by decide +kernel
theorem dX5_verdict_8 : decode cX5_verdict 8 = .ok (.getfield 103, 3) := by decide +kernel
theorem dX5_verdict_11 : decode cX5_verdict 11 = .ok (.iload_n 1, 1) := by decide +kernel
theorem dX5_verdict_12 : decode cX5_verdict 12 = .ok (.iload_n 2, 1) := by decide +kernel
theorem dX5_verdict_13 : decode cX5_verdict 13 = .ok (.invokevirtual 248, 3) := by decide +kernel
theorem dX5_verdict_16 : decode cX5_verdict 16 = .ok (.aload_n 0, 1) := by decide +kernel
theorem dX5_verdict_17 : decode cX5_verdict 17 = .ok (.getfield 33, 3) := by decide +kernel
theorem dX5_verdict_20 : decode cX5_verdict 20 = .ok (.invokevirtual 251, 3) := by decide +kernel
theorem dX5_verdict_23 : decode cX5_verdict 23 = .ok (.istore_n 3, 1) := by decide +kernel
theorem dX5_verdict_24 : decode cX5_verdict 24 = .ok (.iload_n 3, 1) := by decide +kernel
theorem dX5_verdict_25 : decode cX5_verdict 25 = .ok (.bipush 8, 2) := by decide +kernel
theorem dX5_verdict_27 : decode cX5_verdict 27 = .ok (.if_icmp .ne 20, 3) := by decide +kernel
theorem dX5_verdict_30 : decode cX5_verdict 30 = .ok (.aload_n 0, 1) := by decide +kernel
theorem dX5_verdict_31 : decode cX5_verdict 31 = .ok (.getfield 12, 3) := by decide +kernel
theorem dX5_verdict_34 : decode cX5_verdict 34 = .ok (.invokevirtual 128, 3) := by decide +kernel
theorem dX5_verdict_37 : decode cX5_verdict 37 = .ok (.ifCond .eq 7, 3) := by decide +kernel
theorem dX5_verdict_40 : decode cX5_verdict 40 = .ok (.iconst (-1), 1) := by decide +kernel
theorem dX5_verdict_41 : decode cX5_verdict 41 = .ok (.goto 5, 3) := by decide +kernel
theorem dX5_verdict_44 : decode cX5_verdict 44 = .ok (.bipush 6, 2) := by decide +kernel
theorem dX5_verdict_46 : decode cX5_verdict 46 = .ok (.ireturn, 1) := by decide +kernel
theorem dX5_verdict_47 : decode cX5_verdict 47 = .ok (.iload_n 3, 1) := by decide +kernel
theorem dX5_verdict_48 : decode cX5_verdict 48 = .ok (.bipush 7, 2) := by decide +kernel
theorem dX5_verdict_50 : decode cX5_verdict 50 = .ok (.if_icmp .eq 5, 3) := by decide +kernel
theorem dX5_verdict_53 : decode cX5_verdict 53 = .ok (.iload_n 3, 1) := by decide +kernel
theorem dX5_verdict_54 : decode cX5_verdict 54 = .ok (.ireturn, 1) := by decide +kernel
theorem dX5_verdict_55 : decode cX5_verdict 55 = .ok (.aload_n 0, 1) := by decide +kernel
theorem dX5_verdict_56 : decode cX5_verdict 56 = .ok (.getfield 33, 3) := by decide +kernel
theorem dX5_verdict_59 : decode cX5_verdict 59 = .ok (.getfield 254, 3) := by decide +kernel
theorem dX5_verdict_62 : decode cX5_verdict 62 = .ok (.aload_n 0, 1) := by decide +kernel
theorem dX5_verdict_63 : decode cX5_verdict 63 = .ok (.getfield 12, 3) := by decide +kernel
theorem dX5_verdict_66 : decode cX5_verdict 66 = .ok (.getfield 106, 3) := by decide +kernel
theorem dX5_verdict_69 : decode cX5_verdict 69 = .ok (.if_icmp .eq 5, 3) := by decide +kernel
theorem dX5_verdict_72 : decode cX5_verdict 72 = .ok (.iconst 5, 1) := by decide +kernel
theorem dX5_verdict_73 : decode cX5_verdict 73 = .ok (.ireturn, 1) := by decide +kernel
theorem dX5_verdict_74 : decode cX5_verdict 74 = .ok (.aload_n 0, 1) := by decide +kernel
theorem dX5_verdict_75 : decode cX5_verdict 75 = .ok (.getfield 12, 3) := by decide +kernel
theorem dX5_verdict_78 : decode cX5_verdict 78 = .ok (.invokevirtual 128, 3) := by decide +kernel
theorem dX5_verdict_81 : decode cX5_verdict 81 = .ok (.ifCond .eq 41, 3) := by decide +kernel
theorem dX5_verdict_84 : decode cX5_verdict 84 = .ok (.aload_n 0, 1) := by decide +kernel
theorem dX5_verdict_85 : decode cX5_verdict 85 = .ok (.getfield 33, 3) := by decide +kernel
theorem dX5_verdict_88 : decode cX5_verdict 88 = .ok (.getfield 255, 3) := by decide +kernel
theorem dX5_verdict_91 : decode cX5_verdict 91 = .ok (.aload_n 0, 1) := by decide +kernel
theorem dX5_verdict_92 : decode cX5_verdict 92 = .ok (.getfield 12, 3) := by decide +kernel
theorem dX5_verdict_95 : decode cX5_verdict 95 = .ok (.getfield 132, 3) := by decide +kernel
theorem dX5_verdict_98 : decode cX5_verdict 98 = .ok (.if_icmp .ne 24, 3) := by decide +kernel
theorem dX5_verdict_101 : decode cX5_verdict 101 = .ok (.aload_n 0, 1) := by decide +kernel
theorem dX5_verdict_102 : decode cX5_verdict 102 = .ok (.getfield 33, 3) := by decide +kernel
theorem dX5_verdict_105 : decode cX5_verdict 105 = .ok (.getfield 256, 3) := by decide +kernel
theorem dX5_verdict_108 : decode cX5_verdict 108 = .ok (.aload_n 0, 1) := by decide +kernel
theorem dX5_verdict_109 : decode cX5_verdict 109 = .ok (.getfield 12, 3) := by decide +kernel
theorem dX5_verdict_112 : decode cX5_verdict 112 = .ok (.getfield 259, 3) := by decide +kernel
theorem dX5_verdict_115 : decode cX5_verdict 115 = .ok (.if_icmp .ne 7, 3) := by decide +kernel
theorem dX5_verdict_118 : decode cX5_verdict 118 = .ok (.iconst 1, 1) := by decide +kernel
theorem dX5_verdict_119 : decode cX5_verdict 119 = .ok (.goto 4, 3) := by decide +kernel
theorem dX5_verdict_122 : decode cX5_verdict 122 = .ok (.iconst 0, 1) := by decide +kernel
theorem dX5_verdict_123 : decode cX5_verdict 123 = .ok (.istore 4, 2) := by decide +kernel
theorem dX5_verdict_125 : decode cX5_verdict 125 = .ok (.iload 4, 2) := by decide +kernel
theorem dX5_verdict_127 : decode cX5_verdict 127 = .ok (.ifCond .eq 7, 3) := by decide +kernel
theorem dX5_verdict_130 : decode cX5_verdict 130 = .ok (.iconst (-1), 1) := by decide +kernel
theorem dX5_verdict_131 : decode cX5_verdict 131 = .ok (.goto 4, 3) := by decide +kernel
theorem dX5_verdict_134 : decode cX5_verdict 134 = .ok (.iconst 0, 1) := by decide +kernel
theorem dX5_verdict_135 : decode cX5_verdict 135 = .ok (.ireturn, 1) := by decide +kernel
theorem dX5_isAccepted_0 : decode cX5_isAccepted 0 = .ok (.iload_n 0, 1) := by decide +kernel
theorem dX5_isAccepted_1 : decode cX5_isAccepted 1 = .ok (.ifCond .eq 8, 3) := by decide +kernel
theorem dX5_isAccepted_4 : decode cX5_isAccepted 4 = .ok (.iload_n 0, 1) := by decide +kernel
theorem dX5_isAccepted_5 : decode cX5_isAccepted 5 = .ok (.iconst (-1), 1) := by decide +kernel
theorem dX5_isAccepted_6 : decode cX5_isAccepted 6 = .ok (.if_icmp .ne 7, 3) := by decide +kernel
theorem dX5_isAccepted_9 : decode cX5_isAccepted 9 = .ok (.iconst 1, 1) := by decide +kernel
theorem dX5_isAccepted_10 : decode cX5_isAccepted 10 = .ok (.goto 4, 3) := by decide +kernel
theorem dX5_isAccepted_13 : decode cX5_isAccepted 13 = .ok (.iconst 0, 1) := by decide +kernel
theorem dX5_isAccepted_14 : decode cX5_isAccepted 14 = .ok (.ireturn, 1) := by decide +kernel
theorem dX5_gainAfter_0 : decode cX5_gainAfter 0 = .ok (.aload_n 0, 1) := by decide +kernel
theorem dX5_gainAfter_1 : decode cX5_gainAfter 1 = .ok (.getfield 33, 3) := by decide +kernel
theorem dX5_gainAfter_4 : decode cX5_gainAfter 4 = .ok (.getfield 260, 3) := by decide +kernel
theorem dX5_gainAfter_7 : decode cX5_gainAfter 7 = .ok (.ifCond .eq 13, 3) := by decide +kernel
theorem dX5_gainAfter_10 : decode cX5_gainAfter 10 = .ok (.iload_n 1, 1) := by decide +kernel
theorem dX5_gainAfter_11 : decode cX5_gainAfter 11 = .ok (.iconst 1, 1) := by decide +kernel
theorem dX5_gainAfter_12 : decode cX5_gainAfter 12 = .ok (.isub, 1) := by decide +kernel
theorem dX5_gainAfter_13 : decode cX5_gainAfter 13 = .ok (.iconst 1, 1) := by decide +kernel
theorem dX5_gainAfter_14 : decode cX5_gainAfter 14 = .ok (.invokestatic 264, 3) := by decide +kernel
theorem dX5_gainAfter_17 : decode cX5_gainAfter 17 = .ok (.goto 19, 3) := by decide +kernel
theorem dX5_gainAfter_20 : decode cX5_gainAfter 20 = .ok (.iload_n 1, 1) := by decide +kernel
theorem dX5_gainAfter_21 : decode cX5_gainAfter 21 = .ok (.iconst 1, 1) := by decide +kernel
theorem dX5_gainAfter_22 : decode cX5_gainAfter 22 = .ok (.iadd, 1) := by decide +kernel
theorem dX5_gainAfter_23 : decode cX5_gainAfter 23 = .ok (.bipush 10, 2) := by decide +kernel
theorem dX5_gainAfter_25 : decode cX5_gainAfter 25 = .ok (.aload_n 0, 1) := by decide +kernel
theorem dX5_gainAfter_26 : decode cX5_gainAfter 26 = .ok (.getfield 12, 3) := by decide +kernel
theorem dX5_gainAfter_29 : decode cX5_gainAfter 29 = .ok (.getfield 103, 3) := by decide +kernel
theorem dX5_gainAfter_32 : decode cX5_gainAfter 32 = .ok (.isub, 1) := by decide +kernel
theorem dX5_gainAfter_33 : decode cX5_gainAfter 33 = .ok (.invokestatic 269, 3) := by decide +kernel
theorem dX5_gainAfter_36 : decode cX5_gainAfter 36 = .ok (.ireturn, 1) := by decide +kernel
set_option maxRecDepth 20000 in
theorem ggX5_accept_X5_startPress : GoodIn wsX5_accept wsX5_startPress := goodIn_r _ [6, 1, 7, 8, 9, 10, 11, 12, 13, 14, 15, 16, 17, 18, 23, 24, 25, 26, 27, 28, 29, 30, 31, 32, 33, 34, 35, 36, 37, 38, 39, 40, 41, 42, 43, 44, 45, 46, 47, 48] (by decide +kernel) (by decide +kernel)
set_option maxRecDepth 20000 in
theorem gX5_accept_X5_startPress : GoodIn wsX5_accept (wsV RX5 272 RX5 yX5_startPress wsX5_startPress) := goodIn_app (goodIn_of _ (by decide +kernel)) ggX5_accept_X5_startPress
set_option maxRecDepth 20000 in
theorem ggX5_accept_X5_goOnHolding : GoodIn wsX5_accept wsX5_goOnHolding := goodIn_r _ [22, 1, 8, 9, 10, 11, 12, 13, 14, 15, 16, 17, 18, 23, 24, 25, 26, 27, 28, 29, 30, 31, 32, 33, 34, 35, 36, 37, 38, 39, 40, 47, 48] (by decide +kernel) (by decide +kernel)
set_option maxRecDepth 20000 in
theorem gX5_accept_X5_goOnHolding : GoodIn wsX5_accept (wsV RX5 275 RX5 yX5_goOnHolding wsX5_goOnHolding) := goodIn_app (goodIn_of _ (by decide +kernel)) ggX5_accept_X5_goOnHolding
theorem dX5_accept_0 : decode cX5_accept 0 = .ok (.aload_n 0, 1) := by decide +kernel
theorem dX5_accept_1 : decode cX5_accept 1 = .ok (.getfield 12, 3) := by decide +kernel
theorem dX5_accept_4 : decode cX5_accept 4 = .ok (.dup, 1) := by decide +kernel
theorem dX5_accept_5 : decode cX5_accept 5 = .ok (.getfield 147, 3) := by decide +kernel
theorem dX5_accept_8 : decode cX5_accept 8 = .ok (.iconst 1, 1) := by decide +kernel
theorem dX5_accept_9 : decode cX5_accept 9 = .ok (.iadd, 1) := by decide +kernel
theorem dX5_accept_10 : decode cX5_accept 10 = .ok (.putfield 147, 3) := by decide +kernel
theorem dX5_accept_13 : decode cX5_accept 13 = .ok (.aload_n 0, 1) := by decide +kernel
theorem dX5_accept_14 : decode cX5_accept 14 = .ok (.getfield 12, 3) := by decide +kernel
theorem dX5_accept_17 : decode cX5_accept 17 = .ok (.iconst 0, 1) := by decide +kernel
theorem dX5_accept_18 : decode cX5_accept 18 = .ok (.putfield 100, 3) := by decide +kernel
theorem dX5_accept_21 : decode cX5_accept 21 = .ok (.iload_n 1, 1) := by decide +kernel
theorem dX5_accept_22 : decode cX5_accept 22 = .ok (.ifCond .ne 10, 3) := by decide +kernel
theorem dX5_accept_25 : decode cX5_accept 25 = .ok (.aload_n 0, 1) := by decide +kernel
theorem dX5_accept_26 : decode cX5_accept 26 = .ok (.invokevirtual 272, 3) := by decide +kernel
theorem dX5_accept_29 : decode cX5_accept 29 = .ok (.goto 7, 3) := by decide +kernel
theorem dX5_accept_32 : decode cX5_accept 32 = .ok (.aload_n 0, 1) := by decide +kernel
theorem dX5_accept_33 : decode cX5_accept 33 = .ok (.invokevirtual 275, 3) := by decide +kernel
theorem dX5_accept_36 : decode cX5_accept 36 = .ok (.return_, 1) := by decide +kernel
set_option maxRecDepth 20000 in
theorem ggX5_startPress_X2_at : GoodIn wsX5_startPress wsX2_at := goodIn_r _ [7, 8, 9, 38, 39] (by decide +kernel) (by decide +kernel)
set_option maxRecDepth 20000 in
theorem gX5_startPress_X2_at : GoodIn wsX5_startPress (wsV RX5 115 RX2 yX2_at wsX2_at) := goodIn_app (goodIn_of _ (by decide +kernel)) ggX5_startPress_X2_at
set_option maxRecDepth 20000 in
theorem ggX5_startPress_X2_increase : GoodIn wsX5_startPress wsX2_increase := goodIn_r _ [13, 8, 9, 38, 39] (by decide +kernel) (by decide +kernel)
set_option maxRecDepth 20000 in
theorem gX5_startPress_X2_increase : GoodIn wsX5_startPress (wsV RX5 245 RX2 yX2_increase wsX2_increase) := goodIn_app (goodIn_of _ (by decide +kernel)) ggX5_startPress_X2_increase
theorem dX5_startPress_0 : decode cX5_startPress 0 = .ok (.aload_n 0, 1) := by decide +kernel
theorem dX5_startPress_1 : decode cX5_startPress 1 = .ok (.getfield 12, 3) := by decide +kernel
theorem dX5_startPress_4 : decode cX5_startPress 4 = .ok (.dup, 1) := by decide +kernel
theorem dX5_startPress_5 : decode cX5_startPress 5 = .ok (.getfield 138, 3) := by decide +kernel
theorem dX5_startPress_8 : decode cX5_startPress 8 = .ok (.iconst 1, 1) := by decide +kernel
theorem dX5_startPress_9 : decode cX5_startPress 9 = .ok (.iadd, 1) := by decide +kernel
theorem dX5_startPress_10 : decode cX5_startPress 10 = .ok (.putfield 138, 3) := by decide +kernel
theorem dX5_startPress_13 : decode cX5_startPress 13 = .ok (.aload_n 0, 1) := by decide +kernel
theorem dX5_startPress_14 : decode cX5_startPress 14 = .ok (.getfield 12, 3) := by decide +kernel
theorem dX5_startPress_17 : decode cX5_startPress 17 = .ok (.iconst 0, 1) := by decide +kernel
theorem dX5_startPress_18 : decode cX5_startPress 18 = .ok (.putfield 135, 3) := by decide +kernel
theorem dX5_startPress_21 : decode cX5_startPress 21 = .ok (.aload_n 0, 1) := by decide +kernel
theorem dX5_startPress_22 : decode cX5_startPress 22 = .ok (.getfield 12, 3) := by decide +kernel
theorem dX5_startPress_25 : decode cX5_startPress 25 = .ok (.aload_n 0, 1) := by decide +kernel
theorem dX5_startPress_26 : decode cX5_startPress 26 = .ok (.getfield 33, 3) := by decide +kernel
theorem dX5_startPress_29 : decode cX5_startPress 29 = .ok (.getfield 255, 3) := by decide +kernel
theorem dX5_startPress_32 : decode cX5_startPress 32 = .ok (.putfield 132, 3) := by decide +kernel
theorem dX5_startPress_35 : decode cX5_startPress 35 = .ok (.aload_n 0, 1) := by decide +kernel
theorem dX5_startPress_36 : decode cX5_startPress 36 = .ok (.getfield 12, 3) := by decide +kernel
theorem dX5_startPress_39 : decode cX5_startPress 39 = .ok (.aload_n 0, 1) := by decide +kernel
theorem dX5_startPress_40 : decode cX5_startPress 40 = .ok (.getfield 33, 3) := by decide +kernel
theorem dX5_startPress_43 : decode cX5_startPress 43 = .ok (.getfield 256, 3) := by decide +kernel
theorem dX5_startPress_46 : decode cX5_startPress 46 = .ok (.putfield 259, 3) := by decide +kernel
theorem dX5_startPress_49 : decode cX5_startPress 49 = .ok (.aload_n 0, 1) := by decide +kernel
theorem dX5_startPress_50 : decode cX5_startPress 50 = .ok (.getfield 12, 3) := by decide +kernel
theorem dX5_startPress_53 : decode cX5_startPress 53 = .ok (.getfield 112, 3) := by decide +kernel
theorem dX5_startPress_56 : decode cX5_startPress 56 = .ok (.aload_n 0, 1) := by decide +kernel
theorem dX5_startPress_57 : decode cX5_startPress 57 = .ok (.getfield 12, 3) := by decide +kernel
theorem dX5_startPress_60 : decode cX5_startPress 60 = .ok (.getfield 132, 3) := by decide +kernel
theorem dX5_startPress_63 : decode cX5_startPress 63 = .ok (.invokevirtual 115, 3) := by decide +kernel
theorem dX5_startPress_66 : decode cX5_startPress 66 = .ok (.ifCond .eq 20, 3) := by decide +kernel
theorem dX5_startPress_69 : decode cX5_startPress 69 = .ok (.aload_n 0, 1) := by decide +kernel
theorem dX5_startPress_70 : decode cX5_startPress 70 = .ok (.getfield 12, 3) := by decide +kernel
theorem dX5_startPress_73 : decode cX5_startPress 73 = .ok (.getfield 125, 3) := by decide +kernel
theorem dX5_startPress_76 : decode cX5_startPress 76 = .ok (.aload_n 0, 1) := by decide +kernel
theorem dX5_startPress_77 : decode cX5_startPress 77 = .ok (.getfield 12, 3) := by decide +kernel
theorem dX5_startPress_80 : decode cX5_startPress 80 = .ok (.getfield 132, 3) := by decide +kernel
theorem dX5_startPress_83 : decode cX5_startPress 83 = .ok (.invokevirtual 245, 3) := by decide +kernel
theorem dX5_startPress_86 : decode cX5_startPress 86 = .ok (.return_, 1) := by decide +kernel
set_option maxRecDepth 20000 in
theorem ggX5_goOnHolding_X2_at : GoodIn wsX5_goOnHolding wsX2_at := goodIn_r _ [6, 7, 8, 31, 32] (by decide +kernel) (by decide +kernel)
set_option maxRecDepth 20000 in
theorem gX5_goOnHolding_X2_at : GoodIn wsX5_goOnHolding (wsV RX5 115 RX2 yX2_at wsX2_at) := goodIn_app (goodIn_of _ (by decide +kernel)) ggX5_goOnHolding_X2_at
set_option maxRecDepth 20000 in
theorem ggX5_goOnHolding_X2_increase : GoodIn wsX5_goOnHolding wsX2_increase := goodIn_r _ [12, 7, 8, 31, 32] (by decide +kernel) (by decide +kernel)
set_option maxRecDepth 20000 in
theorem gX5_goOnHolding_X2_increase : GoodIn wsX5_goOnHolding (wsV RX5 245 RX2 yX2_increase wsX2_increase) := goodIn_app (goodIn_of _ (by decide +kernel)) ggX5_goOnHolding_X2_increase
theorem dX5_goOnHolding_0 : decode cX5_goOnHolding 0 = .ok (.aload_n 0, 1) := by decide +kernel
theorem dX5_goOnHolding_1 : decode cX5_goOnHolding 1 = .ok (.getfield 12, 3) := by decide +kernel
theorem dX5_goOnHolding_4 : decode cX5_goOnHolding 4 = .ok (.dup, 1) := by decide +kernel
theorem dX5_goOnHolding_5 : decode cX5_goOnHolding 5 = .ok (.getfield 135, 3) := by decide +kernel
theorem dX5_goOnHolding_8 : decode cX5_goOnHolding 8 = .ok (.iconst 1, 1) := by decide +kernel
theorem dX5_goOnHolding_9 : decode cX5_goOnHolding 9 = .ok (.iadd, 1) := by decide +kernel
theorem dX5_goOnHolding_10 : decode cX5_goOnHolding 10 = .ok (.putfield 135, 3) := by decide +kernel
theorem dX5_goOnHolding_13 : decode cX5_goOnHolding 13 = .ok (.aload_n 0, 1) := by decide +kernel
theorem dX5_goOnHolding_14 : decode cX5_goOnHolding 14 = .ok (.getfield 12, 3) := by decide +kernel
theorem dX5_goOnHolding_17 : decode cX5_goOnHolding 17 = .ok (.getfield 112, 3) := by decide +kernel
theorem dX5_goOnHolding_20 : decode cX5_goOnHolding 20 = .ok (.aload_n 0, 1) := by decide +kernel
theorem dX5_goOnHolding_21 : decode cX5_goOnHolding 21 = .ok (.getfield 12, 3) := by decide +kernel
theorem dX5_goOnHolding_24 : decode cX5_goOnHolding 24 = .ok (.getfield 132, 3) := by decide +kernel
theorem dX5_goOnHolding_27 : decode cX5_goOnHolding 27 = .ok (.invokevirtual 115, 3) := by decide +kernel
theorem dX5_goOnHolding_30 : decode cX5_goOnHolding 30 = .ok (.iconst 2, 1) := by decide +kernel
theorem dX5_goOnHolding_31 : decode cX5_goOnHolding 31 = .ok (.if_icmp .ne 32, 3) := by decide +kernel
theorem dX5_goOnHolding_34 : decode cX5_goOnHolding 34 = .ok (.aload_n 0, 1) := by decide +kernel
theorem dX5_goOnHolding_35 : decode cX5_goOnHolding 35 = .ok (.getfield 12, 3) := by decide +kernel
theorem dX5_goOnHolding_38 : decode cX5_goOnHolding 38 = .ok (.getfield 135, 3) := by decide +kernel
theorem dX5_goOnHolding_41 : decode cX5_goOnHolding 41 = .ok (.iconst 2, 1) := by decide +kernel
theorem dX5_goOnHolding_42 : decode cX5_goOnHolding 42 = .ok (.irem, 1) := by decide +kernel
theorem dX5_goOnHolding_43 : decode cX5_goOnHolding 43 = .ok (.ifCond .ne 20, 3) := by decide +kernel
theorem dX5_goOnHolding_46 : decode cX5_goOnHolding 46 = .ok (.aload_n 0, 1) := by decide +kernel
theorem dX5_goOnHolding_47 : decode cX5_goOnHolding 47 = .ok (.getfield 12, 3) := by decide +kernel
theorem dX5_goOnHolding_50 : decode cX5_goOnHolding 50 = .ok (.getfield 125, 3) := by decide +kernel
theorem dX5_goOnHolding_53 : decode cX5_goOnHolding 53 = .ok (.aload_n 0, 1) := by decide +kernel
theorem dX5_goOnHolding_54 : decode cX5_goOnHolding 54 = .ok (.getfield 12, 3) := by decide +kernel
theorem dX5_goOnHolding_57 : decode cX5_goOnHolding 57 = .ok (.getfield 132, 3) := by decide +kernel
theorem dX5_goOnHolding_60 : decode cX5_goOnHolding 60 = .ok (.invokevirtual 245, 3) := by decide +kernel
theorem dX5_goOnHolding_63 : decode cX5_goOnHolding 63 = .ok (.return_, 1) := by decide +kernel
theorem dX5_letPass_0 : decode cX5_letPass 0 = .ok (.aload_n 0, 1) := by decide +kernel
theorem dX5_letPass_1 : decode cX5_letPass 1 = .ok (.getfield 12, 3) := by decide +kernel
theorem dX5_letPass_4 : decode cX5_letPass 4 = .ok (.getfield 100, 3) := by decide +kernel
theorem dX5_letPass_7 : decode cX5_letPass 7 = .ok (.iconst (-1), 1) := by decide +kernel
theorem dX5_letPass_8 : decode cX5_letPass 8 = .ok (.if_icmp .eq 16, 3) := by decide +kernel
theorem dX5_letPass_11 : decode cX5_letPass 11 = .ok (.aload_n 0, 1) := by decide +kernel
theorem dX5_letPass_12 : decode cX5_letPass 12 = .ok (.getfield 12, 3) := by decide +kernel
theorem dX5_letPass_15 : decode cX5_letPass 15 = .ok (.dup, 1) := by decide +kernel
theorem dX5_letPass_16 : decode cX5_letPass 16 = .ok (.getfield 100, 3) := by decide +kernel
theorem dX5_letPass_19 : decode cX5_letPass 19 = .ok (.iload_n 1, 1) := by decide +kernel
theorem dX5_letPass_20 : decode cX5_letPass 20 = .ok (.iadd, 1) := by decide +kernel
theorem dX5_letPass_21 : decode cX5_letPass 21 = .ok (.putfield 100, 3) := by decide +kernel
theorem dX5_letPass_24 : decode cX5_letPass 24 = .ok (.return_, 1) := by decide +kernel
theorem dJ6_bitCount_0f7a4_0 : decode cJ6_bitCount_0f7a4 0 = .ok (.iload_n 0, 1) := by decide +kernel
theorem dJ6_bitCount_0f7a4_1 : decode cJ6_bitCount_0f7a4 1 = .ok (.iload_n 0, 1) := by decide +kernel
theorem dJ6_bitCount_0f7a4_2 : decode cJ6_bitCount_0f7a4 2 = .ok (.iconst 1, 1) := by decide +kernel
theorem dJ6_bitCount_0f7a4_3 : decode cJ6_bitCount_0f7a4 3 = .ok (.iushr, 1) := by decide +kernel
theorem dJ6_bitCount_0f7a4_4 : decode cJ6_bitCount_0f7a4 4 = .ok (.ldc_w 265, 3) := by decide +kernel
theorem dJ6_bitCount_0f7a4_7 : decode cJ6_bitCount_0f7a4 7 = .ok (.iand, 1) := by decide +kernel
theorem dJ6_bitCount_0f7a4_8 : decode cJ6_bitCount_0f7a4 8 = .ok (.isub, 1) := by decide +kernel
theorem dJ6_bitCount_0f7a4_9 : decode cJ6_bitCount_0f7a4 9 = .ok (.istore_n 0, 1) := by decide +kernel
theorem dJ6_bitCount_0f7a4_10 : decode cJ6_bitCount_0f7a4 10 = .ok (.iload_n 0, 1) := by decide +kernel
theorem dJ6_bitCount_0f7a4_11 : decode cJ6_bitCount_0f7a4 11 = .ok (.ldc_w 266, 3) := by decide +kernel
theorem dJ6_bitCount_0f7a4_14 : decode cJ6_bitCount_0f7a4 14 = .ok (.iand, 1) := by decide +kernel
theorem dJ6_bitCount_0f7a4_15 : decode cJ6_bitCount_0f7a4 15 = .ok (.iload_n 0, 1) := by decide +kernel
theorem dJ6_bitCount_0f7a4_16 : decode cJ6_bitCount_0f7a4 16 = .ok (.iconst 2, 1) := by decide +kernel
theorem dJ6_bitCount_0f7a4_17 : decode cJ6_bitCount_0f7a4 17 = .ok (.iushr, 1) := by decide +kernel
theorem dJ6_bitCount_0f7a4_18 : decode cJ6_bitCount_0f7a4 18 = .ok (.ldc_w 266, 3) := by decide +kernel
theorem dJ6_bitCount_0f7a4_21 : decode cJ6_bitCount_0f7a4 21 = .ok (.iand, 1) := by decide +kernel
theorem dJ6_bitCount_0f7a4_22 : decode cJ6_bitCount_0f7a4 22 = .ok (.iadd, 1) := by decide +kernel
theorem dJ6_bitCount_0f7a4_23 : decode cJ6_bitCount_0f7a4 23 = .ok (.istore_n 0, 1) := by decide +kernel
theorem dJ6_bitCount_0f7a4_24 : decode cJ6_bitCount_0f7a4 24 = .ok (.iload_n 0, 1) := by decide +kernel
theorem dJ6_bitCount_0f7a4_25 : decode cJ6_bitCount_0f7a4 25 = .ok (.iload_n 0, 1) := by decide +kernel
theorem dJ6_bitCount_0f7a4_26 : decode cJ6_bitCount_0f7a4 26 = .ok (.iconst 4, 1) := by decide +kernel
theorem dJ6_bitCount_0f7a4_27 : decode cJ6_bitCount_0f7a4 27 = .ok (.iushr, 1) := by decide +kernel
theorem dJ6_bitCount_0f7a4_28 : decode cJ6_bitCount_0f7a4 28 = .ok (.iadd, 1) := by decide +kernel
theorem dJ6_bitCount_0f7a4_29 : decode cJ6_bitCount_0f7a4 29 = .ok (.ldc_w 267, 3) := by decide +kernel
theorem dJ6_bitCount_0f7a4_32 : decode cJ6_bitCount_0f7a4 32 = .ok (.iand, 1) := by decide +kernel
theorem dJ6_bitCount_0f7a4_33 : decode cJ6_bitCount_0f7a4 33 = .ok (.istore_n 0, 1) := by decide +kernel
theorem dJ6_bitCount_0f7a4_34 : decode cJ6_bitCount_0f7a4 34 = .ok (.iload_n 0, 1) := by decide +kernel
theorem dJ6_bitCount_0f7a4_35 : decode cJ6_bitCount_0f7a4 35 = .ok (.iload_n 0, 1) := by decide +kernel
theorem dJ6_bitCount_0f7a4_36 : decode cJ6_bitCount_0f7a4 36 = .ok (.bipush 8, 2) := by decide +kernel
theorem dJ6_bitCount_0f7a4_38 : decode cJ6_bitCount_0f7a4 38 = .ok (.iushr, 1) := by decide +kernel
theorem dJ6_bitCount_0f7a4_39 : decode cJ6_bitCount_0f7a4 39 = .ok (.iadd, 1) := by decide +kernel
theorem dJ6_bitCount_0f7a4_40 : decode cJ6_bitCount_0f7a4 40 = .ok (.istore_n 0, 1) := by decide +kernel
theorem dJ6_bitCount_0f7a4_41 : decode cJ6_bitCount_0f7a4 41 = .ok (.iload_n 0, 1) := by decide +kernel
theorem dJ6_bitCount_0f7a4_42 : decode cJ6_bitCount_0f7a4 42 = .ok (.iload_n 0, 1) := by decide +kernel
theorem dJ6_bitCount_0f7a4_43 : decode cJ6_bitCount_0f7a4 43 = .ok (.bipush 16, 2) := by decide +kernel
theorem dJ6_bitCount_0f7a4_45 : decode cJ6_bitCount_0f7a4 45 = .ok (.iushr, 1) := by decide +kernel
theorem dJ6_bitCount_0f7a4_46 : decode cJ6_bitCount_0f7a4 46 = .ok (.iadd, 1) := by decide +kernel
theorem dJ6_bitCount_0f7a4_47 : decode cJ6_bitCount_0f7a4 47 = .ok (.istore_n 0, 1) := by decide +kernel
theorem dJ6_bitCount_0f7a4_48 : decode cJ6_bitCount_0f7a4 48 = .ok (.iload_n 0, 1) := by decide +kernel
theorem dJ6_bitCount_0f7a4_49 : decode cJ6_bitCount_0f7a4 49 = .ok (.bipush 63, 2) := by decide +kernel
theorem dJ6_bitCount_0f7a4_51 : decode cJ6_bitCount_0f7a4 51 = .ok (.iand, 1) := by decide +kernel
theorem dJ6_bitCount_0f7a4_52 : decode cJ6_bitCount_0f7a4 52 = .ok (.ireturn, 1) := by decide +kernel
theorem dJ9_max_7cf53_0 : decode cJ9_max_7cf53 0 = .ok (.iload_n 0, 1) := by decide +kernel
theorem dJ9_max_7cf53_1 : decode cJ9_max_7cf53 1 = .ok (.iload_n 1, 1) := by decide +kernel
theorem dJ9_max_7cf53_2 : decode cJ9_max_7cf53 2 = .ok (.if_icmp .lt 7, 3) := by decide +kernel
theorem dJ9_max_7cf53_5 : decode cJ9_max_7cf53 5 = .ok (.iload_n 0, 1) := by decide +kernel
theorem dJ9_max_7cf53_6 : decode cJ9_max_7cf53 6 = .ok (.goto 4, 3) := by decide +kernel
theorem dJ9_max_7cf53_9 : decode cJ9_max_7cf53 9 = .ok (.iload_n 1, 1) := by decide +kernel
theorem dJ9_max_7cf53_10 : decode cJ9_max_7cf53 10 = .ok (.ireturn, 1) := by decide +kernel
theorem dJ9_min_7cf53_0 : decode cJ9_min_7cf53 0 = .ok (.iload_n 0, 1) := by decide +kernel
theorem dJ9_min_7cf53_1 : decode cJ9_min_7cf53 1 = .ok (.iload_n 1, 1) := by decide +kernel
theorem dJ9_min_7cf53_2 : decode cJ9_min_7cf53 2 = .ok (.if_icmp .gt 7, 3) := by decide +kernel
theorem dJ9_min_7cf53_5 : decode cJ9_min_7cf53 5 = .ok (.iload_n 0, 1) := by decide +kernel
theorem dJ9_min_7cf53_6 : decode cJ9_min_7cf53 6 = .ok (.goto 4, 3) := by decide +kernel
theorem dJ9_min_7cf53_9 : decode cJ9_min_7cf53 9 = .ok (.iload_n 1, 1) := by decide +kernel
theorem dJ9_min_7cf53_10 : decode cJ9_min_7cf53 10 = .ok (.ireturn, 1) := by decide +kernel
abbrev vwCl : List vw_C := [(RX0, TX0, 6), (RX1, TX1, 1), (RX2, TX2, 2), (RX3, TX3, 2), (RX4, TX4, 14), (RX5, TX5, 4)]
