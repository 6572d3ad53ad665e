theorem dX5_checkArgument_1 : decode cX5_checkArgument 1 = .ok (.ifCond .ne 13, 3) := by decide +kernel
theorem dX5_checkArgument_4 : decode cX5_checkArgument 4 = .ok (.new 224, 3) := by decide +kernel
theorem dX5_checkArgument_7 : decode cX5_checkArgument 7 = .ok (.dup, 1) := by decide +kernel
theorem dX5_checkArgument_8 : decode cX5_checkArgument 8 = .ok (.ldc 226, 2) := by decide +kernel
theorem dX5_checkArgument_10 : decode cX5_checkArgument 10 = .ok (.invokespecial 228, 3) := by decide +kernel
theorem dX5_checkArgument_13 : decode cX5_checkArgument 13 = .ok (.athrow, 1) := by decide +kernel
theorem dX5_checkArgument_14 : decode cX5_checkArgument 14 = .ok (.return_, 1) := by decide +kernel
theorem dX5_checkIndex_0 : decode cX5_checkIndex 0 = .ok (.iload_n 0, 1) := by decide +kernel
theorem dX5_checkIndex_1 : decode cX5_checkIndex 1 = .ok (.ifCond .ne 13, 3) := by decide +kernel
theorem dX5_checkIndex_4 : decode cX5_checkIndex 4 = .ok (.new 229, 3) := by decide +kernel
theorem dX5_checkIndex_7 : decode cX5_checkIndex 7 = .ok (.dup, 1) := by decide +kernel
theorem dX5_checkIndex_8 : decode cX5_checkIndex 8 = .ok (.ldc 231, 2) := by decide +kernel
theorem dX5_checkIndex_10 : decode cX5_checkIndex 10 = .ok (.invokespecial 233, 3) := by decide +kernel
theorem dX5_checkIndex_13 : decode cX5_checkIndex 13 = .ok (.athrow, 1) := by decide +kernel
theorem dX5_checkIndex_14 : decode cX5_checkIndex 14 = .ok (.return_, 1) := by decide +kernel
set_option maxRecDepth 20000 in
theorem ggX5_checkFrame_X5_isWithin : GoodIn wsX5_checkFrame wsX5_isWithin := goodIn_r _ [4] (by decide +kernel) (by decide +kernel)
set_option maxRecDepth 20000 in
theorem gX5_checkFrame_X5_isWithin : GoodIn wsX5_checkFrame (va_wsS RX5 84 yX5_isWithin wsX5_isWithin) := goodIn_app (goodIn_of _ (by decide +kernel)) ggX5_checkFrame_X5_isWithin
set_option maxRecDepth 20000 in
theorem ggX5_checkFrame_X5_checkArgument : GoodIn wsX5_checkFrame wsX5_checkArgument := goodIn_ca (goodIn_r _ [7, 8, 9] (by decide +kernel) (by decide +kernel)) (goodIn_sub (fun _ h => List.mem_cons_of_mem _ (List.mem_append_right _ h)) (by decide +kernel))
set_option maxRecDepth 20000 in
theorem gX5_checkFrame_X5_checkArgument : GoodIn wsX5_checkFrame (va_wsS RX5 88 yX5_checkArgument wsX5_checkArgument) := goodIn_app (goodIn_of _ (by decide +kernel)) ggX5_checkFrame_X5_checkArgument
theorem dX5_checkFrame_0 : decode cX5_checkFrame 0 = .ok (.iload_n 0, 1) := by decide +kernel
theorem dX5_checkFrame_1 : decode cX5_checkFrame 1 = .ok (.iconst 0, 1) := by decide +kernel
theorem dX5_checkFrame_2 : decode cX5_checkFrame 2 = .ok (.bipush 7, 2) := by decide +kernel
theorem dX5_checkFrame_4 : decode cX5_checkFrame 4 = .ok (.invokestatic 84, 3) := by decide +kernel
theorem dX5_checkFrame_7 : decode cX5_checkFrame 7 = .ok (.invokestatic 88, 3) := by decide +kernel
theorem dX5_checkFrame_10 : decode cX5_checkFrame 10 = .ok (.iload_n 1, 1) := by decide +kernel
theorem dX5_checkFrame_11 : decode cX5_checkFrame 11 = .ok (.iconst 0, 1) := by decide +kernel
theorem dX5_checkFrame_12 : decode cX5_checkFrame 12 = .ok (.bipush 15, 2) := by decide +kernel
theorem dX5_checkFrame_14 : decode cX5_checkFrame 14 = .ok (.invokestatic 84, 3) := by decide +kernel
theorem dX5_checkFrame_17 : decode cX5_checkFrame 17 = .ok (.invokestatic 88, 3) := by decide +kernel
theorem dX5_checkFrame_20 : decode cX5_checkFrame 20 = .ok (.iload_n 2, 1) := by decide +kernel
theorem dX5_checkFrame_21 : decode cX5_checkFrame 21 = .ok (.iconst 0, 1) := by decide +kernel
theorem dX5_checkFrame_22 : decode cX5_checkFrame 22 = .ok (.iconst 1, 1) := by decide +kernel
theorem dX5_checkFrame_23 : decode cX5_checkFrame 23 = .ok (.invokestatic 84, 3) := by decide +kernel
theorem dX5_checkFrame_26 : decode cX5_checkFrame 26 = .ok (.invokestatic 88, 3) := by decide +kernel
theorem dX5_checkFrame_29 : decode cX5_checkFrame 29 = .ok (.return_, 1) := by decide +kernel
set_option maxRecDepth 20000 in
theorem ggX5_checkStrength_X5_isWithin : GoodIn wsX5_checkStrength wsX5_isWithin := goodIn_r _ [4] (by decide +kernel) (by decide +kernel)
set_option maxRecDepth 20000 in
theorem gX5_checkStrength_X5_isWithin : GoodIn wsX5_checkStrength (va_wsS RX5 84 yX5_isWithin wsX5_isWithin) := goodIn_app (goodIn_of _ (by decide +kernel)) ggX5_checkStrength_X5_isWithin
set_option maxRecDepth 20000 in
theorem ggX5_checkStrength_X5_checkArgument : GoodIn wsX5_checkStrength wsX5_checkArgument := goodIn_ca (goodIn_r _ [7, 8, 9] (by decide +kernel) (by decide +kernel)) (goodIn_sub (fun _ h => List.mem_cons_of_mem _ (List.mem_append_right _ h)) (by decide +kernel))
set_option maxRecDepth 20000 in
theorem gX5_checkStrength_X5_checkArgument : GoodIn wsX5_checkStrength (va_wsS RX5 88 yX5_checkArgument wsX5_checkArgument) := goodIn_app (goodIn_of _ (by decide +kernel)) ggX5_checkStrength_X5_checkArgument
theorem dX5_checkStrength_0 : decode cX5_checkStrength 0 = .ok (.iload_n 0, 1) := by decide +kernel
theorem dX5_checkStrength_1 : decode cX5_checkStrength 1 = .ok (.iconst 1, 1) := by decide +kernel
theorem dX5_checkStrength_2 : decode cX5_checkStrength 2 = .ok (.bipush 10, 2) := by decide +kernel
theorem dX5_checkStrength_4 : decode cX5_checkStrength 4 = .ok (.invokestatic 84, 3) := by decide +kernel
theorem dX5_checkStrength_7 : decode cX5_checkStrength 7 = .ok (.invokestatic 88, 3) := by decide +kernel
theorem dX5_checkStrength_10 : decode cX5_checkStrength 10 = .ok (.return_, 1) := by decide +kernel
set_option maxRecDepth 20000 in
theorem ggX5_wordOf_J6_bitCount_0f7a4 : GoodIn wsX5_wordOf wsJ6_bitCount_0f7a4 := goodIn_r _ [4, 5, 6, 7] (by decide +kernel) (by decide +kernel)
set_option maxRecDepth 20000 in
theorem gX5_wordOf_J6_bitCount_0f7a4 : GoodIn wsX5_wordOf (va_wsS RX5 234 yJ6_bitCount_0f7a4 wsJ6_bitCount_0f7a4) := goodIn_app (goodIn_of _ (by decide +kernel)) ggX5_wordOf_J6_bitCount_0f7a4
theorem dX5_wordOf_0 : decode cX5_wordOf 0 = .ok (.iload_n 0, 1) := by decide +kernel
theorem dX5_wordOf_1 : decode cX5_wordOf 1 = .ok (.iconst 5, 1) := by decide +kernel
theorem dX5_wordOf_2 : decode cX5_wordOf 2 = .ok (.ishl, 1) := by decide +kernel
theorem dX5_wordOf_3 : decode cX5_wordOf 3 = .ok (.iload_n 1, 1) := by decide +kernel
theorem dX5_wordOf_4 : decode cX5_wordOf 4 = .ok (.iconst 1, 1) := by decide +kernel
theorem dX5_wordOf_5 : decode cX5_wordOf 5 = .ok (.ishl, 1) := by decide +kernel
theorem dX5_wordOf_6 : decode cX5_wordOf 6 = .ok (.ior, 1) := by decide +kernel
theorem dX5_wordOf_7 : decode cX5_wordOf 7 = .ok (.iload_n 2, 1) := by decide +kernel
theorem dX5_wordOf_8 : decode cX5_wordOf 8 = .ok (.ior, 1) := by decide +kernel
theorem dX5_wordOf_9 : decode cX5_wordOf 9 = .ok (.istore_n 3, 1) := by decide +kernel
theorem dX5_wordOf_10 : decode cX5_wordOf 10 = .ok (.iload_n 3, 1) := by decide +kernel
theorem dX5_wordOf_11 : decode cX5_wordOf 11 = .ok (.iconst 1, 1) := by decide +kernel
theorem dX5_wordOf_12 : decode cX5_wordOf 12 = .ok (.ishl, 1) := by decide +kernel
theorem dX5_wordOf_13 : decode cX5_wordOf 13 = .ok (.iload_n 3, 1) := by decide +kernel
theorem dX5_wordOf_14 : decode cX5_wordOf 14 = .ok (.invokestatic 234, 3) := by decide +kernel
theorem dX5_wordOf_17 : decode cX5_wordOf 17 = .ok (.iconst 1, 1) := by decide +kernel
theorem dX5_wordOf_18 : decode cX5_wordOf 18 = .ok (.iand, 1) := by decide +kernel
theorem dX5_wordOf_19 : decode cX5_wordOf 19 = .ok (.ior, 1) := by decide +kernel
theorem dX5_wordOf_20 : decode cX5_wordOf 20 = .ok (.ireturn, 1) := by decide +kernel
theorem dX5_bitOf_0 : decode cX5_bitOf 0 = .ok (.iload_n 0, 1) := by decide +kernel
theorem dX5_bitOf_1 : decode cX5_bitOf 1 = .ok (.bipush 8, 2) := by decide +kernel
theorem dX5_bitOf_3 : decode cX5_bitOf 3 = .ok (.iload_n 1, 1) := by decide +kernel
theorem dX5_bitOf_4 : decode cX5_bitOf 4 = .ok (.isub, 1) := by decide +kernel
theorem dX5_bitOf_5 : decode cX5_bitOf 5 = .ok (.ishr, 1) := by decide +kernel
theorem dX5_bitOf_6 : decode cX5_bitOf 6 = .ok (.iconst 1, 1) := by decide +kernel
theorem dX5_bitOf_7 : decode cX5_bitOf 7 = .ok (.iand, 1) := by decide +kernel
theorem dX5_bitOf_8 : decode cX5_bitOf 8 = .ok (.ireturn, 1) := by decide +kernel
theorem dX5_weakestHeard_0 : decode cX5_weakestHeard 0 = .ok (.bipush 11, 2) := by decide +kernel
theorem dX5_weakestHeard_2 : decode cX5_weakestHeard 2 = .ok (.iload_n 0, 1) := by decide +kernel
theorem dX5_weakestHeard_3 : decode cX5_weakestHeard 3 = .ok (.isub, 1) := by decide +kernel
theorem dX5_weakestHeard_4 : decode cX5_weakestHeard 4 = .ok (.ireturn, 1) := by decide +kernel
set_option maxRecDepth 20000 in
theorem ggX5_hearFrame_X0_sendFrame : GoodIn wsX5_hearFrame wsX0_sendFrame := goodIn_r _ [6, 7, 8, 9, 10, 11, 12, 13, 14, 15, 16, 17, 18, 19, 20, 21, 22, 23, 24, 25, 26, 27, 28, 29, 30, 102, 103, 104, 105, 106, 107, 108, 109] (by decide +kernel) (by decide +kernel)
set_option maxRecDepth 20000 in
theorem gX5_hearFrame_X0_sendFrame : GoodIn wsX5_hearFrame (wsV RX5 158 RX0 yX0_sendFrame wsX0_sendFrame) := goodIn_app (goodIn_of _ (by decide +kernel)) ggX5_hearFrame_X0_sendFrame
set_option maxRecDepth 20000 in
theorem ggX5_hearFrame_X5_hear : GoodIn wsX5_hearFrame wsX5_hear := goodIn_r _ [34, 35, 36, 37, 38, 9, 39, 1, 40, 41, 42, 5, 43, 44, 45, 7, 46, 47, 48, 49, 50, 51, 18, 19, 20, 21, 22, 23, 52, 53, 54, 55, 28, 24, 25, 26, 27, 56, 57, 58, 59, 60, 61, 62, 63, 12, 13, 14, 15, 16, 17, 64, 65, 66, 67, 68, 69, 70, 71, 72, 73, 74, 75, 76, 77, 78, 79, 80, 81, 82, 83, 84, 85, 86, 87, 88, 89, 90, 91, 92, 93, 94, 95, 96, 97, 98, 99, 100, 101, 110, 111, 112, 113, 114, 115, 116, 117, 118, 119, 120, 121, 122, 123, 102, 103, 104, 105, 106, 107, 108, 109] (by decide +kernel) (by decide +kernel)
set_option maxRecDepth 20000 in
theorem gX5_hearFrame_X5_hear : GoodIn wsX5_hearFrame (wsV RX5 81 RX5 yX5_hear wsX5_hear) := goodIn_app (goodIn_of _ (by decide +kernel)) ggX5_hearFrame_X5_hear
theorem dX5_hearFrame_0 : decode cX5_hearFrame 0 = .ok (.aload_n 0, 1) := by decide +kernel
theorem dX5_hearFrame_1 : decode cX5_hearFrame 1 = .ok (.getfield 33, 3) := by decide +kernel
theorem dX5_hearFrame_4 : decode cX5_hearFrame 4 = .ok (.iload_n 1, 1) := by decide +kernel
theorem dX5_hearFrame_5 : decode cX5_hearFrame 5 = .ok (.iload_n 2, 1) := by decide +kernel
theorem dX5_hearFrame_6 : decode cX5_hearFrame 6 = .ok (.iload_n 3, 1) := by decide +kernel
theorem dX5_hearFrame_7 : decode cX5_hearFrame 7 = .ok (.invokevirtual 158, 3) := by decide +kernel
theorem dX5_hearFrame_10 : decode cX5_hearFrame 10 = .ok (.aload_n 0, 1) := by decide +kernel
theorem dX5_hearFrame_11 : decode cX5_hearFrame 11 = .ok (.iload 4, 2) := by decide +kernel
theorem dX5_hearFrame_13 : decode cX5_hearFrame 13 = .ok (.invokevirtual 81, 3) := by decide +kernel
theorem dX5_hearFrame_16 : decode cX5_hearFrame 16 = .ok (.ireturn, 1) := by decide +kernel
set_option maxRecDepth 20000 in
theorem ggX5_hearRepeat_X0_sendRepeat : GoodIn wsX5_hearRepeat wsX0_sendRepeat := goodIn_r _ [6, 7, 8, 9, 10, 11, 12, 13, 14, 15, 16, 17, 18, 97, 98, 99, 100, 101, 102, 103, 104] (by decide +kernel) (by decide +kernel)
set_option maxRecDepth 20000 in
theorem gX5_hearRepeat_X0_sendRepeat : GoodIn wsX5_hearRepeat (wsV RX5 239 RX0 yX0_sendRepeat wsX0_sendRepeat) := goodIn_app (goodIn_of _ (by decide +kernel)) ggX5_hearRepeat_X0_sendRepeat
set_option maxRecDepth 20000 in
theorem ggX5_hearRepeat_X5_hear : GoodIn wsX5_hearRepeat wsX5_hear := goodIn_r _ [23, 24, 25, 26, 27, 22, 28, 1, 29, 30, 31, 5, 32, 33, 34, 7, 35, 36, 37, 38, 39, 40, 8, 9, 10, 11, 12, 13, 41, 42, 43, 44, 18, 14, 15, 16, 17, 45, 46, 47, 48, 49, 50, 51, 52, 53, 54, 55, 56, 57, 58, 59, 60, 61, 62, 63, 64, 65, 66, 67, 68, 69, 70, 71, 72, 73, 74, 75, 76, 77, 78, 79, 80, 81, 82, 83, 84, 85, 86, 87, 88, 89, 90, 91, 92, 93, 94, 95, 96, 105, 106, 107, 108, 109, 110, 111, 112, 113, 114, 115, 116, 117, 118, 97, 98, 99, 100, 101, 102, 103, 104] (by decide +kernel) (by decide +kernel)
set_option maxRecDepth 20000 in
theorem gX5_hearRepeat_X5_hear : GoodIn wsX5_hearRepeat (wsV RX5 81 RX5 yX5_hear wsX5_hear) := goodIn_app (goodIn_of _ (by decide +kernel)) ggX5_hearRepeat_X5_hear
theorem dX5_hearRepeat_0 : decode cX5_hearRepeat 0 = .ok (.aload_n 0, 1) := by decide +kernel
theorem dX5_hearRepeat_1 : decode cX5_hearRepeat 1 = .ok (.getfield 33, 3) := by decide +kernel
theorem dX5_hearRepeat_4 : decode cX5_hearRepeat 4 = .ok (.invokevirtual 239, 3) := by decide +kernel
theorem dX5_hearRepeat_7 : decode cX5_hearRepeat 7 = .ok (.aload_n 0, 1) := by decide +kernel
theorem dX5_hearRepeat_8 : decode cX5_hearRepeat 8 = .ok (.iload_n 1, 1) := by decide +kernel
theorem dX5_hearRepeat_9 : decode cX5_hearRepeat 9 = .ok (.invokevirtual 81, 3) := by decide +kernel
theorem dX5_hearRepeat_12 : decode cX5_hearRepeat 12 = .ok (.ireturn, 1) := by decide +kernel
set_option maxRecDepth 20000 in
theorem ggX5_hear_X5_verdict : GoodIn wsX5_hear wsX5_verdict := goodIn_r _ [6, 7, 1, 8, 9, 10, 11, 12, 13, 14, 15, 16, 17, 18, 19, 20, 5, 21, 22, 23, 24, 25, 26, 27, 28, 29, 30, 31, 32, 33, 34, 35, 36, 37, 38, 39, 40, 41, 42, 43, 44, 45, 46, 47, 48, 49, 50, 51, 52, 53, 54, 55, 56, 85, 86, 87, 88, 89, 90, 91, 92, 93, 94, 95, 96, 97, 98, 99, 100, 101, 102, 103, 104, 105, 106, 107, 108, 109, 110] (by decide +kernel) (by decide +kernel)
set_option maxRecDepth 20000 in
theorem gX5_hear_X5_verdict : GoodIn wsX5_hear (wsV RX5 161 RX5 yX5_verdict wsX5_verdict) := goodIn_app (goodIn_of _ (by decide +kernel)) ggX5_hear_X5_verdict
set_option maxRecDepth 20000 in
theorem ggX5_hear_X5_gainAfter : GoodIn wsX5_hear wsX5_gainAfter := goodIn_r _ [60, 7, 61, 17, 18, 19, 1, 62, 63, 64, 85, 86, 87, 88, 103, 104, 105, 106, 107, 108, 89, 90, 91, 92, 93, 94, 95, 96, 97, 98, 99, 100, 101, 102] (by decide +kernel) (by decide +kernel)
set_option maxRecDepth 20000 in
theorem gX5_hear_X5_gainAfter : GoodIn wsX5_hear (wsV RX5 171 RX5 yX5_gainAfter wsX5_gainAfter) := goodIn_app (goodIn_of _ (by decide +kernel)) ggX5_hear_X5_gainAfter
set_option maxRecDepth 20000 in
theorem ggX5_hear_X5_isAccepted : GoodIn wsX5_hear wsX5_isAccepted := goodIn_r _ [67] (by decide +kernel) (by decide +kernel)
set_option maxRecDepth 20000 in
theorem gX5_hear_X5_isAccepted : GoodIn wsX5_hear (va_wsS RX5 167 yX5_isAccepted wsX5_isAccepted) := goodIn_app (goodIn_of _ (by decide +kernel)) ggX5_hear_X5_isAccepted
set_option maxRecDepth 20000 in
theorem ggX5_hear_X5_accept : GoodIn wsX5_hear wsX5_accept := goodIn_r _ [71, 1, 72, 73, 74, 5, 75, 7, 76, 29, 30, 25, 31, 27, 32, 77, 78, 79, 80, 81, 82, 83, 84, 85, 86, 87, 88, 89, 90, 91, 92, 93, 94, 95, 96, 97, 98, 99, 100, 101, 102, 103, 104, 105, 106, 107, 108, 109, 110] (by decide +kernel) (by decide +kernel)
set_option maxRecDepth 20000 in
theorem gX5_hear_X5_accept : GoodIn wsX5_hear (wsV RX5 242 RX5 yX5_accept wsX5_accept) := goodIn_app (goodIn_of _ (by decide +kernel)) ggX5_hear_X5_accept
set_option maxRecDepth 20000 in
theorem ggX5_hear_X2_increase : GoodIn wsX5_hear wsX2_increase := goodIn_r _ [80, 27, 32, 109, 110] (by decide +kernel) (by decide +kernel)
set_option maxRecDepth 20000 in
theorem gX5_hear_X2_increase : GoodIn wsX5_hear (wsV RX5 245 RX2 yX2_increase wsX2_increase) := goodIn_app (goodIn_of _ (by decide +kernel)) ggX5_hear_X2_increase
theorem dX5_hear_0 : decode cX5_hear 0 = .ok (.aload_n 0, 1) := by decide +kernel
theorem dX5_hear_1 : decode cX5_hear 1 = .ok (.aload_n 0, 1) := by decide +kernel
theorem dX5_hear_2 : decode cX5_hear 2 = .ok (.getfield 12, 3) := by decide +kernel
theorem dX5_hear_5 : decode cX5_hear 5 = .ok (.getfield 122, 3) := by decide +kernel
theorem dX5_hear_8 : decode cX5_hear 8 = .ok (.iload_n 1, 1) := by decide +kernel
theorem dX5_hear_9 : decode cX5_hear 9 = .ok (.invokevirtual 161, 3) := by decide +kernel
theorem dX5_hear_12 : decode cX5_hear 12 = .ok (.istore_n 2, 1) := by decide +kernel
theorem dX5_hear_13 : decode cX5_hear 13 = .ok (.aload_n 0, 1) := by decide +kernel
theorem dX5_hear_14 : decode cX5_hear 14 = .ok (.getfield 12, 3) := by decide +kernel
theorem dX5_hear_17 : decode cX5_hear 17 = .ok (.dup, 1) := by decide +kernel
theorem dX5_hear_18 : decode cX5_hear 18 = .ok (.getfield 144, 3) := by decide +kernel
theorem dX5_hear_21 : decode cX5_hear 21 = .ok (.iconst 1, 1) := by decide +kernel
theorem dX5_hear_22 : decode cX5_hear 22 = .ok (.iadd, 1) := by decide +kernel
theorem dX5_hear_23 : decode cX5_hear 23 = .ok (.putfield 144, 3) := by decide +kernel
theorem dX5_hear_26 : decode cX5_hear 26 = .ok (.aload_n 0, 1) := by decide +kernel
theorem dX5_hear_27 : decode cX5_hear 27 = .ok (.getfield 12, 3) := by decide +kernel
theorem dX5_hear_30 : decode cX5_hear 30 = .ok (.aload_n 0, 1) := by decide +kernel
theorem dX5_hear_31 : decode cX5_hear 31 = .ok (.aload_n 0, 1) := by decide +kernel
theorem dX5_hear_32 : decode cX5_hear 32 = .ok (.getfield 12, 3) := by decide +kernel
theorem dX5_hear_35 : decode cX5_hear 35 = .ok (.getfield 122, 3) := by decide +kernel
theorem dX5_hear_38 : decode cX5_hear 38 = .ok (.invokevirtual 171, 3) := by decide +kernel
theorem dX5_hear_41 : decode cX5_hear 41 = .ok (.putfield 122, 3) := by decide +kernel
theorem dX5_hear_44 : decode cX5_hear 44 = .ok (.iload_n 2, 1) := by decide +kernel
theorem dX5_hear_45 : decode cX5_hear 45 = .ok (.invokestatic 167, 3) := by decide +kernel
theorem dX5_hear_48 : decode cX5_hear 48 = .ok (.ifCond .eq 11, 3) := by decide +kernel
theorem dX5_hear_51 : decode cX5_hear 51 = .ok (.aload_n 0, 1) := by decide +kernel
theorem dX5_hear_52 : decode cX5_hear 52 = .ok (.iload_n 2, 1) := by decide +kernel
theorem dX5_hear_53 : decode cX5_hear 53 = .ok (.invokevirtual 242, 3) := by decide +kernel
theorem dX5_hear_56 : decode cX5_hear 56 = .ok (.goto 14, 3) := by decide +kernel
theorem dX5_hear_59 : decode cX5_hear 59 = .ok (.aload_n 0, 1) := by decide +kernel
theorem dX5_hear_60 : decode cX5_hear 60 = .ok (.getfield 12, 3) := by decide +kernel
theorem dX5_hear_63 : decode cX5_hear 63 = .ok (.getfield 141, 3) := by decide +kernel
theorem dX5_hear_66 : decode cX5_hear 66 = .ok (.iload_n 2, 1) := by decide +kernel
theorem dX5_hear_67 : decode cX5_hear 67 = .ok (.invokevirtual 245, 3) := by decide +kernel
theorem dX5_hear_70 : decode cX5_hear 70 = .ok (.iload_n 2, 1) := by decide +kernel
theorem dX5_hear_71 : decode cX5_hear 71 = .ok (.ireturn, 1) := by decide +kernel
set_option maxRecDepth 20000 in
theorem ggX5_verdict_X0_listen : GoodIn wsX5_verdict wsX0_listen := goodIn_r _ [7, 8, 9, 10, 11, 12, 13, 14, 15, 16, 17, 18, 19, 20, 21, 22, 23, 24, 25, 26, 27, 28, 29, 30, 31, 32, 71, 72, 73, 74, 75, 76, 77, 78] (by decide +kernel) (by decide +kernel)
set_option maxRecDepth 20000 in
theorem gX5_verdict_X0_listen : GoodIn wsX5_verdict (wsV RX5 248 RX0 yX0_listen wsX0_listen) := goodIn_app (goodIn_of _ (by decide +kernel)) ggX5_verdict_X0_listen
set_option maxRecDepth 20000 in
theorem ggX5_verdict_X0_decode : GoodIn wsX5_verdict wsX0_decode := goodIn_r _ [36, 9, 37, 38, 39, 24, 25, 26, 21, 27, 23, 28, 40, 41, 42, 43, 44, 45, 46, 71, 72, 73, 74, 75, 76, 77, 78] (by decide +kernel) (by decide +kernel)
set_option maxRecDepth 20000 in
theorem gX5_verdict_X0_decode : GoodIn wsX5_verdict (wsV RX5 251 RX0 yX0_decode wsX0_decode) := goodIn_app (goodIn_of _ (by decide +kernel)) ggX5_verdict_X0_decode
set_option maxRecDepth 20000 in
theorem ggX5_verdict_X4_remembers : GoodIn wsX5_verdict wsX4_remembers := goodIn_r _ [51, 52, 57, 58, 59, 60, 61, 62, 63, 64, 65, 66, 67, 68, 69, 70] (by decide +kernel) (by decide +kernel)
set_option maxRecDepth 20000 in
theorem gX5_verdict_X4_remembers : GoodIn wsX5_verdict (wsV RX5 128 RX4 yX4_remembers wsX4_remembers) := goodIn_app (goodIn_of _ (by decide +kernel)) ggX5_verdict_X4_remembers
theorem dX5_verdict_0 : decode cX5_verdict 0 = .ok (.aload_n 0, 1) := by decide +kernel
theorem dX5_verdict_1 : decode cX5_verdict 1 = .ok (.getfield 33, 3) := by decide +kernel
theorem dX5_verdict_4 : decode cX5_verdict 4 = .ok (.aload_n 0, 1) := by decide +kernel
theorem dX5_verdict_5 : decode cX5_verdict 5 = .ok (.getfield 12, 3) := by decide +kernel
theorem dX5_verdict_8 : decode cX5_verdict 8 = .ok (.getfield 103, 3) := by decide +kernel
theorem dX5_verdict_11 : decode cX5_verdict 11 = .ok (.iload_n 1, 1) := by decide +kernel
theorem dX5_verdict_12 : decode cX5_verdict 12 = .ok (.iload_n 2, 1) := by decide +kernel
theorem dX5_verdict_13 : decode cX5_verdict 13 = .ok (.invokevirtual 248, 3) := by decide +kernel
theorem dX5_verdict_16 : decode cX5_verdict 16 = .ok (.aload_n 0, 1) := by decide +kernel
theorem dX5_verdict_17 : decode cX5_verdict 17 = .ok (.getfield 33, 3) := by decide +kernel
theorem dX5_verdict_20 : decode cX5_verdict 20 = .ok (.invokevirtual 251, 3) := by decide +kernel
theorem dX5_verdict_23 : decode cX5_verdict 23 = .ok (.istore_n 3, 1) := by decide +kernel
theorem dX5_verdict_24 : decode cX5_verdict 24 = .ok (.iload_n 3, 1) := by decide +kernel
theorem dX5_verdict_25 : decode cX5_verdict 25 = .ok (.bipush 8, 2) := by decide +kernel
theorem dX5_verdict_27 : decode cX5_verdict 27 = .ok (.if_icmp .ne 20, 3) := by decide +kernel
theorem dX5_verdict_30 : decode cX5_verdict 30 = .ok (.aload_n 0, 1) := by decide +kernel
theorem dX5_verdict_31 : decode cX5_verdict 31 = .ok (.getfield 12, 3) := by decide +kernel
theorem dX5_verdict_34 : decode cX5_verdict 34 = .ok (.invokevirtual 128, 3) := by decide +kernel
theorem dX5_verdict_37 : decode cX5_verdict 37 = .ok (.ifCond .eq 7, 3) := by decide +kernel
theorem dX5_verdict_40 : decode cX5_verdict 40 = .ok (.iconst (-1), 1) := by decide +kernel
theorem dX5_verdict_41 : decode cX5_verdict 41 = .ok (.goto 5, 3) := by decide +kernel
theorem dX5_verdict_44 : decode cX5_verdict 44 = .ok (.bipush 6, 2) := by decide +kernel
theorem dX5_verdict_46 : decode cX5_verdict 46 = .ok (.ireturn, 1) := by decide +kernel
theorem dX5_verdict_47 : decode cX5_verdict 47 = .ok (.iload_n 3, 1) := by decide +kernel
theorem dX5_verdict_48 : decode cX5_verdict 48 = .ok (.bipush 7, 2) := by decide +kernel
theorem dX5_verdict_50 : decode cX5_verdict 50 = .ok (.if_icmp .eq 5, 3) := by decide +kernel
theorem dX5_verdict_53 : decode cX5_verdict 53 = .ok (.iload_n 3, 1) := by decide +kernel
theorem dX5_verdict_54 : decode cX5_verdict 54 = .ok (.ireturn, 1) := by decide +kernel
theorem dX5_verdict_55 : decode cX5_verdict 55 = .ok (.aload_n 0, 1) := by decide +kernel
theorem dX5_verdict_56 : decode cX5_verdict 56 = .ok (.getfield 33, 3) := by decide +kernel
theorem dX5_verdict_59 : decode cX5_verdict 59 = .ok (.getfield 254, 3) := by decide +kernel
theorem dX5_verdict_62 : decode cX5_verdict 62 = .ok (.aload_n 0, 1) := by decide +kernel
theorem dX5_verdict_63 : decode cX5_verdict 63 = .ok (.getfield 12, 3) := by decide +kernel
theorem dX5_verdict_66 : decode cX5_verdict 66 = .ok (.getfield 106, 3) := by decide +kernel
theorem dX5_verdict_69 : decode cX5_verdict 69 = .ok (.if_icmp .eq 5, 3) := by decide +kernel
theorem dX5_verdict_72 : decode cX5_verdict 72 = .ok (.iconst 5, 1) := by decide +kernel
theorem dX5_verdict_73 : decode cX5_verdict 73 = .ok (.ireturn, 1) := by decide +kernel
theorem dX5_verdict_74 : decode cX5_verdict 74 = .ok (.aload_n 0, 1) := by decide +kernel
theorem dX5_verdict_75 : decode cX5_verdict 75 = .ok (.getfield 12, 3) := by decide +kernel
theorem dX5_verdict_78 : decode cX5_verdict 78 = .ok (.invokevirtual 128, 3) := by decide +kernel
theorem dX5_verdict_81 : decode cX5_verdict 81 = .ok (.ifCond .eq 41, 3) := by decide +kernel
theorem dX5_verdict_84 : decode cX5_verdict 84 = .ok (.aload_n 0, 1) := by decide +kernel
theorem dX5_verdict_85 : decode cX5_verdict 85 = .ok (.getfield 33, 3) := by decide +kernel
theorem dX5_verdict_88 : decode cX5_verdict 88 = .ok (.getfield 255, 3) := by decide +kernel
theorem dX5_verdict_91 : decode cX5_verdict 91 = .ok (.aload_n 0, 1) := by decide +kernel
theorem dX5_verdict_92 : decode cX5_verdict 92 = .ok (.getfield 12, 3) := by decide +kernel
theorem dX5_verdict_95 : decode cX5_verdict 95 = .ok (.getfield 132, 3) := by decide +kernel
theorem dX5_verdict_98 : decode cX5_verdict 98 = .ok (.if_icmp .ne 24, 3) := by decide +kernel
theorem dX5_verdict_101 : decode cX5_verdict 101 = .ok (.aload_n 0, 1) := by decide +kernel
theorem dX5_verdict_102 : decode cX5_verdict 102 = .ok (.getfield 33, 3) := by decide +kernel
theorem dX5_verdict_105 : decode cX5_verdict 105 = .ok (.getfield 256, 3) := by decide +kernel
theorem dX5_verdict_108 : decode cX5_verdict 108 = .ok (.aload_n 0, 1) := by decide +kernel
theorem dX5_verdict_109 : decode cX5_verdict 109 = .ok (.getfield 12, 3) := by decide +kernel
theorem dX5_verdict_112 : decode cX5_verdict 112 = .ok (.getfield 259, 3) := by decide +kernel
theorem dX5_verdict_115 : decode cX5_verdict 115 = .ok (.if_icmp .ne 7, 3) := by decide +kernel
theorem dX5_verdict_118 : decode cX5_verdict 118 = .ok (.iconst 1, 1) := by decide +kernel
theorem dX5_verdict_119 : decode cX5_verdict 119 = .ok (.goto 4, 3) := by decide +kernel
theorem dX5_verdict_122 : decode cX5_verdict 122 = .ok (.iconst 0, 1) := by decide +kernel
theorem dX5_verdict_123 : decode cX5_verdict 123 = .ok (.istore 4, 2) := by decide +kernel
theorem dX5_verdict_125 : decode cX5_verdict 125 = .ok (.iload 4, 2) := by decide +kernel
theorem dX5_verdict_127 : decode cX5_verdict 127 = .ok (.ifCond .eq 7, 3) := by decide +kernel
theorem dX5_verdict_130 : decode cX5_verdict 130 = .ok (.iconst (-1), 1) := by decide +kernel
theorem dX5_verdict_131 : decode cX5_verdict 131 = .ok (.goto 4, 3) := by decide +kernel
theorem dX5_verdict_134 : decode cX5_verdict 134 = .ok (.iconst 0, 1) := by decide +kernel
theorem dX5_verdict_135 : decode cX5_verdict 135 = .ok (.ireturn, 1) := by decide +kernel
theorem dX5_isAccepted_0 : decode cX5_isAccepted 0 = .ok (.iload_n 0, 1) := by decide +kernel
theorem dX5_isAccepted_1 : decode cX5_isAccepted 1 = .ok (.ifCond .eq 8, 3) := by decide +kernel
theorem dX5_isAccepted_4 : decode cX5_isAccepted 4 = .ok (.iload_n 0, 1) := by decide +kernel
theorem dX5_isAccepted_5 : decode cX5_isAccepted 5 = .ok (.iconst (-1), 1) := by decide +kernel
theorem dX5_isAccepted_6 : decode cX5_isAccepted 6 = .ok (.if_icmp .ne 7, 3) := by decide +kernel
theorem dX5_isAccepted_9 : decode cX5_isAccepted 9 = .ok (.iconst 1, 1) := by decide +kernel
theorem dX5_isAccepted_10 : decode cX5_isAccepted 10 = .ok (.goto 4, 3) := by decide +kernel
theorem dX5_isAccepted_13 : decode cX5_isAccepted 13 = .ok (.iconst 0, 1) := by decide +kernel
theorem dX5_isAccepted_14 : decode cX5_isAccepted 14 = .ok (.ireturn, 1) := by decide +kernel
theorem dX5_gainAfter_0 : decode cX5_gainAfter 0 = .ok (.aload_n 0, 1) := by decide +kernel
theorem dX5_gainAfter_1 : decode cX5_gainAfter 1 = .ok (.getfield 33, 3) := by decide +kernel
theorem dX5_gainAfter_4 : decode cX5_gainAfter 4 = .ok (.getfield 260, 3) := by decide +kernel
theorem dX5_gainAfter_7 : decode cX5_gainAfter 7 = .ok (.ifCond .eq 13, 3) := by decide +kernel
theorem dX5_gainAfter_10 : decode cX5_gainAfter 10 = .ok (.iload_n 1, 1) := by decide +kernel
theorem dX5_gainAfter_11 : decode cX5_gainAfter 11 = .ok (.iconst 1, 1) := by decide +kernel
theorem dX5_gainAfter_12 : decode cX5_gainAfter 12 = .ok (.isub, 1) := by decide +kernel
theorem dX5_gainAfter_13 : decode cX5_gainAfter 13 = .ok (.iconst 1, 1) := by decide +kernel
theorem dX5_gainAfter_14 : decode cX5_gainAfter 14 = .ok (.invokestatic 264, 3) := by decide +kernel
theorem dX5_gainAfter_17 : decode cX5_gainAfter 17 = .ok (.goto 19, 3) := by decide +kernel
theorem dX5_gainAfter_20 : decode cX5_gainAfter 20 = .ok (.iload_n 1, 1) := by decide +kernel
theorem dX5_gainAfter_21 : decode cX5_gainAfter 21 = .ok (.iconst 1, 1) := by decide +kernel
theorem dX5_gainAfter_22 : decode cX5_gainAfter 22 = .ok (.iadd, 1) := by decide +kernel
theorem dX5_gainAfter_23 : decode cX5_gainAfter 23 = .ok (.bipush 10, 2) := by decide +kernel
theorem dX5_gainAfter_25 : decode cX5_gainAfter 25 = .ok (.aload_n 0, 1) := by decide +kernel
theorem dX5_gainAfter_26 : decode cX5_gainAfter 26 = .ok (.getfield 12, 3) := by decide +kernel
theorem dX5_gainAfter_29 : decode cX5_gainAfter 29 = .ok (.getfield 103, 3) := by decide +kernel
theorem dX5_gainAfter_32 : decode cX5_gainAfter 32 = .ok (.isub, 1) := by decide +kernel
theorem dX5_gainAfter_33 : decode cX5_gainAfter 33 = .ok (.invokestatic 269, 3) := by decide +kernel
theorem dX5_gainAfter_36 : decode cX5_gainAfter 36 = .ok (.ireturn, 1) := by decide +kernel
set_option maxRecDepth 20000 in
theorem ggX5_accept_X5_startPress : GoodIn wsX5_accept wsX5_startPress := goodIn_r _ [6, 1, 7, 8, 9, 10, 11, 12, 13, 14, 15, 16, 17, 18, 23, 24, 25, 26, 27, 28, 29, 30, 31, 32, 33, 34, 35, 36, 37, 38, 39, 40, 41, 42, 43, 44, 45, 46, 47, 48] (by decide +kernel) (by decide +kernel)
set_option maxRecDepth 20000 in
theorem gX5_accept_X5_startPress : GoodIn wsX5_accept (wsV RX5 272 RX5 yX5_startPress wsX5_startPress) := goodIn_app (goodIn_of _ (by decide +kernel)) ggX5_accept_X5_startPress
set_option maxRecDepth 20000 in
theorem ggX5_accept_X5_goOnHolding : GoodIn wsX5_accept wsX5_goOnHolding := goodIn_r _ [22, 1, 8, 9, 10, 11, 12, 13, 14, 15, 16, 17, 18, 23, 24, 25, 26, 27, 28, 29, 30, 31, 32, 33, 34, 35, 36, 37, 38, 39, 40, 47, 48] (by decide +kernel) (by decide +kernel)
set_option maxRecDepth 20000 in
theorem gX5_accept_X5_goOnHolding : GoodIn wsX5_accept (wsV RX5 275 RX5 yX5_goOnHolding wsX5_goOnHolding) := goodIn_app (goodIn_of _ (by decide +kernel)) ggX5_accept_X5_goOnHolding
theorem dX5_accept_0 : decode cX5_accept 0 = .ok (.aload_n 0, 1) := by decide +kernel
theorem dX5_accept_1 : decode cX5_accept 1 = .ok (.getfield 12, 3) := by decide +kernel
theorem dX5_accept_4 : decode cX5_accept 4 = .ok (.dup, 1) := by decide +kernel
theorem dX5_accept_5 : decode cX5_accept 5 = .ok (.getfield 147, 3) := by decide +kernel
theorem dX5_accept_8 : decode cX5_accept 8 = .ok (.iconst 1, 1) := by decide +kernel
theorem dX5_accept_9 : decode cX5_accept 9 = .ok (.iadd, 1) := by decide +kernel
theorem dX5_accept_10 : decode cX5_accept 10 = .ok (.putfield 147, 3) := by decide +kernel
theorem dX5_accept_13 : decode cX5_accept 13 = .ok (.aload_n 0, 1) := by decide +kernel
theorem dX5_accept_14 : decode cX5_accept 14 = .ok (.getfield 12, 3) := by decide +kernel
theorem dX5_accept_17 : decode cX5_accept 17 = .ok (.iconst 0, 1) := by decide +kernel
theorem dX5_accept_18 : decode cX5_accept 18 = .ok (.putfield 100, 3) := by decide +kernel
theorem dX5_accept_21 : decode cX5_accept 21 = .ok (.iload_n 1, 1) := by decide +kernel
theorem dX5_accept_22 : decode cX5_accept 22 = .ok (.ifCond .ne 10, 3) := by decide +kernel
theorem dX5_accept_25 : decode cX5_accept 25 = .ok (.aload_n 0, 1) := by decide +kernel
theorem dX5_accept_26 : decode cX5_accept 26 = .ok (.invokevirtual 272, 3) := by decide +kernel
theorem dX5_accept_29 : decode cX5_accept 29 = .ok (.goto 7, 3) := by decide +kernel
theorem dX5_accept_32 : decode cX5_accept 32 = .ok (.aload_n 0, 1) := by decide +kernel
theorem dX5_accept_33 : decode cX5_accept 33 = .ok (.invokevirtual 275, 3) := by decide +kernel
theorem dX5_accept_36 : decode cX5_accept 36 = .ok (.return_, 1) := by decide +kernel
set_option maxRecDepth 20000 in
theorem ggX5_startPress_X2_at : GoodIn wsX5_startPress wsX2_at := goodIn_r _ [7, 8, 9, 38, 39] (by decide +kernel) (by decide +kernel)
set_option maxRecDepth 20000 in
theorem gX5_startPress_X2_at : GoodIn wsX5_startPress (wsV RX5 115 RX2 yX2_at wsX2_at) := goodIn_app (goodIn_of _ (by decide +kernel)) ggX5_startPress_X2_at
set_option maxRecDepth 20000 in
theorem ggX5_startPress_X2_increase : GoodIn wsX5_startPress wsX2_increase := goodIn_r _ [13, 8, 9, 38, 39] (by decide +kernel) (by decide +kernel)
set_option maxRecDepth 20000 in
theorem gX5_startPress_X2_increase : GoodIn wsX5_startPress (wsV RX5 245 RX2 yX2_increase wsX2_increase) := goodIn_app (goodIn_of _ (by decide +kernel)) ggX5_startPress_X2_increase
theorem dX5_startPress_0 : decode cX5_startPress 0 = .ok (.aload_n 0, 1) := by decide +kernel
theorem dX5_startPress_1 : decode cX5_startPress 1 = .ok (.getfield 12, 3) := by decide +kernel
theorem dX5_startPress_4 : decode cX5_startPress 4 = .ok (.dup, 1) := by decide +kernel
theorem dX5_startPress_5 : decode cX5_startPress 5 = .ok (.getfield 138, 3) := by decide +kernel
theorem dX5_startPress_8 : decode cX5_startPress 8 = .ok (.iconst 1, 1) := by decide +kernel
theorem dX5_startPress_9 : decode cX5_startPress 9 = .ok (.iadd, 1) := by decide +kernel
theorem dX5_startPress_10 : decode cX5_startPress 10 = .ok (.putfield 138, 3) := by decide +kernel
theorem dX5_startPress_13 : decode cX5_startPress 13 = .ok (.aload_n 0, 1) := by decide +kernel
theorem dX5_startPress_14 : decode cX5_startPress 14 = .ok (.getfield 12, 3) := by decide +kernel
theorem dX5_startPress_17 : decode cX5_startPress 17 = .ok (.iconst 0, 1) := by decide +kernel
theorem dX5_startPress_18 : decode cX5_startPress 18 = .ok (.putfield 135, 3) := by decide +kernel
theorem dX5_startPress_21 : decode cX5_startPress 21 = .ok (.aload_n 0, 1) := by decide +kernel
theorem dX5_startPress_22 : decode cX5_startPress 22 = .ok (.getfield 12, 3) := by decide +kernel
theorem dX5_startPress_25 : decode cX5_startPress 25 = .ok (.aload_n 0, 1) := by decide +kernel
theorem dX5_startPress_26 : decode cX5_startPress 26 = .ok (.getfield 33, 3) := by decide +kernel
theorem dX5_startPress_29 : decode cX5_startPress 29 = .ok (.getfield 255, 3) := by decide +kernel
theorem dX5_startPress_32 : decode cX5_startPress 32 = .ok (.putfield 132, 3) := by decide +kernel
theorem dX5_startPress_35 : decode cX5_startPress 35 = .ok (.aload_n 0, 1) := by decide +kernel
theorem dX5_startPress_36 : decode cX5_startPress 36 = .ok (.getfield 12, 3) := by decide +kernel
theorem dX5_startPress_39 : decode cX5_startPress 39 = .ok (.aload_n 0, 1) := by decide +kernel
theorem dX5_startPress_40 : decode cX5_startPress 40 = .ok (.getfield 33, 3) := by decide +kernel
theorem dX5_startPress_43 : decode cX5_startPress 43 = .ok (.getfield 256, 3) := by decide +kernel
theorem dX5_startPress_46 : decode cX5_startPress 46 = .ok (.putfield 259, 3) := by decide +kernel
theorem dX5_startPress_49 : decode cX5_startPress 49 = .ok (.aload_n 0, 1) := by decide +kernel
theorem dX5_startPress_50 : decode cX5_startPress 50 = .ok (.getfield 12, 3) := by decide +kernel
theorem dX5_startPress_53 : decode cX5_startPress 53 = .ok (.getfield 112, 3) := by decide +kernel
theorem dX5_startPress_56 : decode cX5_startPress 56 = .ok (.aload_n 0, 1) := by decide +kernel
theorem dX5_startPress_57 : decode cX5_startPress 57 = .ok (.getfield 12, 3) := by decide +kernel
theorem dX5_startPress_60 : decode cX5_startPress 60 = .ok (.getfield 132, 3) := by decide +kernel
theorem dX5_startPress_63 : decode cX5_startPress 63 = .ok (.invokevirtual 115, 3) := by decide +kernel
theorem dX5_startPress_66 : decode cX5_startPress 66 = .ok (.ifCond .eq 20, 3) := by decide +kernel
theorem dX5_startPress_69 : decode cX5_startPress 69 = .ok (.aload_n 0, 1) := by decide +kernel
theorem dX5_startPress_70 : decode cX5_startPress 70 = .ok (.getfield 12, 3) := by decide +kernel
theorem dX5_startPress_73 : decode cX5_startPress 73 = .ok (.getfield 125, 3) := by decide +kernel
theorem dX5_startPress_76 : decode cX5_startPress 76 = .ok (.aload_n 0, 1) := by decide +kernel
theorem dX5_startPress_77 : decode cX5_startPress 77 = .ok (.getfield 12, 3) := by decide +kernel
theorem dX5_startPress_80 : decode cX5_startPress 80 = .ok (.getfield 132, 3) := by decide +kernel
theorem dX5_startPress_83 : decode cX5_startPress 83 = .ok (.invokevirtual 245, 3) := by decide +kernel
theorem dX5_startPress_86 : decode cX5_startPress 86 = .ok (.return_, 1) := by decide +kernel
set_option maxRecDepth 20000 in
theorem ggX5_goOnHolding_X2_at : GoodIn wsX5_goOnHolding wsX2_at := goodIn_r _ [6, 7, 8, 31, 32] (by decide +kernel) (by decide +kernel)
set_option maxRecDepth 20000 in
theorem gX5_goOnHolding_X2_at : GoodIn wsX5_goOnHolding (wsV RX5 115 RX2 yX2_at wsX2_at) := goodIn_app (goodIn_of _ (by decide +kernel)) ggX5_goOnHolding_X2_at
set_option maxRecDepth 20000 in
theorem ggX5_goOnHolding_X2_increase : GoodIn wsX5_goOnHolding wsX2_increase := goodIn_r _ [12, 7, 8, 31, 32] (by decide +kernel) (by decide +kernel)
set_option maxRecDepth 20000 in
theorem gX5_goOnHolding_X2_increase : GoodIn wsX5_goOnHolding (wsV RX5 245 RX2 yX2_increase wsX2_increase) := goodIn_app (goodIn_of _ (by decide +kernel)) ggX5_goOnHolding_X2_increase
theorem dX5_goOnHolding_0 : decode cX5_goOnHolding 0 = .ok (.aload_n 0, 1) := by decide +kernel
theorem dX5_goOnHolding_1 : decode cX5_goOnHolding 1 = .ok (.getfield 12, 3) := by decide +kernel
theorem dX5_goOnHolding_4 : decode cX5_goOnHolding 4 = .ok (.dup, 1) := by decide +kernel
theorem dX5_goOnHolding_5 : decode cX5_goOnHolding 5 = .ok (.getfield 135, 3) := by decide +kernel
theorem dX5_goOnHolding_8 : decode cX5_goOnHolding 8 = .ok (.iconst 1, 1) := by decide +kernel
theorem dX5_goOnHolding_9 : decode cX5_goOnHolding 9 = .ok (.iadd, 1) := by decide +kernel
theorem dX5_goOnHolding_10 : decode cX5_goOnHolding 10 = .ok (.putfield 135, 3) := by decide +kernel
theorem dX5_goOnHolding_13 : decode cX5_goOnHolding 13 = .ok (.aload_n 0, 1) := by decide +kernel
theorem dX5_goOnHolding_14 : decode cX5_goOnHolding 14 = .ok (.getfield 12, 3) := by decide +kernel
theorem dX5_goOnHolding_17 : decode cX5_goOnHolding 17 = .ok (.getfield 112, 3) := by decide +kernel
theorem dX5_goOnHolding_20 : decode cX5_goOnHolding 20 = .ok (.aload_n 0, 1) := by decide +kernel
theorem dX5_goOnHolding_21 : decode cX5_goOnHolding 21 = .ok (.getfield 12, 3) := by decide +kernel
theorem dX5_goOnHolding_24 : decode cX5_goOnHolding 24 = .ok (.getfield 132, 3) := by decide +kernel
theorem dX5_goOnHolding_27 : decode cX5_goOnHolding 27 = .ok (.invokevirtual 115, 3) := by decide +kernel
theorem dX5_goOnHolding_30 : decode cX5_goOnHolding 30 = .ok (.iconst 2, 1) := by decide +kernel
theorem dX5_goOnHolding_31 : decode cX5_goOnHolding 31 = .ok (.if_icmp .ne 32, 3) := by decide +kernel
theorem dX5_goOnHolding_34 : decode cX5_goOnHolding 34 = .ok (.aload_n 0, 1) := by decide +kernel
theorem dX5_goOnHolding_35 : decode cX5_goOnHolding 35 = .ok (.getfield 12, 3) := by decide +kernel
theorem dX5_goOnHolding_38 : decode cX5_goOnHolding 38 = .ok (.getfield 135, 3) := by decide +kernel
theorem dX5_goOnHolding_41 : decode cX5_goOnHolding 41 = .ok (.iconst 2, 1) := by decide +kernel
theorem dX5_goOnHolding_42 : decode cX5_goOnHolding 42 = .ok (.irem, 1) := by decide +kernel
theorem dX5_goOnHolding_43 : decode cX5_goOnHolding 43 = .ok (.ifCond .ne 20, 3) := by decide +kernel
theorem dX5_goOnHolding_46 : decode cX5_goOnHolding 46 = .ok (.aload_n 0, 1) := by decide +kernel
theorem dX5_goOnHolding_47 : decode cX5_goOnHolding 47 = .ok (.getfield 12, 3) := by decide +kernel
theorem dX5_goOnHolding_50 : decode cX5_goOnHolding 50 = .ok (.getfield 125, 3) := by decide +kernel
theorem dX5_goOnHolding_53 : decode cX5_goOnHolding 53 = .ok (.aload_n 0, 1) := by decide +kernel
theorem dX5_goOnHolding_54 : decode cX5_goOnHolding 54 = .ok (.getfield 12, 3) := by decide +kernel
theorem dX5_goOnHolding_57 : decode cX5_goOnHolding 57 = .ok (.getfield 132, 3) := by decide +kernel
theorem dX5_goOnHolding_60 : decode cX5_goOnHolding 60 = .ok (.invokevirtual 245, 3) := by decide +kernel
theorem dX5_goOnHolding_63 : decode cX5_goOnHolding 63 = .ok (.return_, 1) := by decide +kernel
theorem dX5_letPass_0 : decode cX5_letPass 0 = .ok (.aload_n 0, 1) := by decide +kernel
theorem dX5_letPass_1 : decode cX5_letPass 1 = .ok (.getfield 12, 3) := by decide +kernel
theorem dX5_letPass_4 : decode cX5_letPass 4 = .ok (.getfield 100, 3) := by decide +kernel
theorem dX5_letPass_7 : decode cX5_letPass 7 = .ok (.iconst (-1), 1) := by decide +kernel
theorem dX5_letPass_8 : decode cX5_letPass 8 = .ok (.if_icmp .eq 16, 3) := by decide +kernel
theorem dX5_letPass_11 : decode cX5_letPass 11 = .ok (.aload_n 0, 1) := by decide +kernel
theorem dX5_letPass_12 : decode cX5_letPass 12 = .ok (.getfield 12, 3) := by decide +kernel
theorem dX5_letPass_15 : decode cX5_letPass 15 = .ok (.dup, 1) := by decide +kernel
theorem dX5_letPass_16 : decode cX5_letPass 16 = .ok (.getfield 100, 3) := by decide +kernel
theorem dX5_letPass_19 : decode cX5_letPass 19 = .ok (.iload_n 1, 1) := by decide +kernel
theorem dX5_letPass_20 : decode cX5_letPass 20 = .ok (.iadd, 1) := by decide +kernel
theorem dX5_letPass_21 : decode cX5_letPass 21 = .ok (.putfield 100, 3) := by decide +kernel
theorem dX5_letPass_24 : decode cX5_letPass 24 = .ok (.return_, 1) := by decide +kernel
set_option maxRecDepth 20000 in
theorem ggX5_doPart_X2_at : GoodIn wsX5_doPart wsX2_at := goodIn_r _ [7, 8, 9, 141, 142] (by decide +kernel) (by decide +kernel)
set_option maxRecDepth 20000 in
theorem gX5_doPart_X2_at : GoodIn wsX5_doPart (wsV RX5 115 RX2 yX2_at wsX2_at) := goodIn_app (goodIn_of _ (by decide +kernel)) ggX5_doPart_X2_at
set_option maxRecDepth 20000 in
theorem ggX5_doPart_X1_number : GoodIn wsX5_doPart wsX1_number := goodIn_r _ [14, 15, 16, 4, 5, 6, 7, 8, 9, 126, 141, 142] (by decide +kernel) (by decide +kernel)
set_option maxRecDepth 20000 in
theorem gX5_doPart_X1_number : GoodIn wsX5_doPart (wsV RX5 278 RX1 yX1_number wsX1_number) := goodIn_app (goodIn_of _ (by decide +kernel)) ggX5_doPart_X1_number
set_option maxRecDepth 20000 in
theorem ggX5_doPart_X5_hearFrame : GoodIn wsX5_doPart wsX5_hearFrame := goodIn_r _ [21, 22, 23, 24, 25, 26, 27, 28, 29, 20, 30, 31, 32, 33, 34, 35, 36, 37, 38, 39, 40, 6, 41, 8, 42, 43, 44, 45, 9, 46, 47, 48, 49, 50, 51, 2, 52, 53, 54, 55, 56, 57, 58, 59, 60, 61, 62, 63, 64, 65, 66, 67, 68, 4, 5, 7, 69, 70, 71, 72, 73, 74, 75, 76, 77, 78, 79, 80, 81, 82, 83, 84, 85, 86, 87, 88, 89, 90, 91, 92, 93, 94, 95, 96, 97, 98, 99, 100, 101, 3, 102, 103, 104, 105, 106, 107, 108, 109, 122, 123, 124, 125, 143, 144, 145, 146, 147, 148, 141, 142, 127, 128, 129, 130, 131, 132, 133, 134, 135, 136, 137, 138, 139, 140] (by decide +kernel) (by decide +kernel)
set_option maxRecDepth 20000 in
theorem gX5_doPart_X5_hearFrame : GoodIn wsX5_doPart (wsV RX5 49 RX5 yX5_hearFrame wsX5_hearFrame) := goodIn_app (goodIn_of _ (by decide +kernel)) ggX5_doPart_X5_hearFrame
set_option maxRecDepth 20000 in
theorem ggX5_doPart_X5_hearRepeat : GoodIn wsX5_doPart wsX5_hearRepeat := goodIn_r _ [113, 22, 114, 115, 116, 26, 117, 28, 38, 39, 40, 6, 41, 8, 42, 43, 44, 45, 9, 48, 49, 50, 20, 51, 2, 52, 53, 54, 55, 56, 57, 58, 59, 60, 61, 62, 63, 64, 65, 66, 67, 68, 4, 5, 7, 69, 70, 71, 72, 73, 74, 75, 76, 32, 33, 34, 35, 36, 37, 77, 78, 79, 80, 81, 82, 83, 84, 85, 86, 87, 88, 89, 90, 91, 92, 93, 94, 95, 96, 97, 98, 99, 100, 101, 3, 102, 103, 104, 105, 106, 107, 108, 109, 122, 123, 124, 125, 143, 144, 145, 146, 147, 148, 141, 142, 127, 128, 129, 130, 131, 132, 133, 134, 135, 136, 137, 138, 139, 140] (by decide +kernel) (by decide +kernel)
set_option maxRecDepth 20000 in
theorem gX5_doPart_X5_hearRepeat : GoodIn wsX5_doPart (wsV RX5 53 RX5 yX5_hearRepeat wsX5_hearRepeat) := goodIn_app (goodIn_of _ (by decide +kernel)) ggX5_doPart_X5_hearRepeat
set_option maxRecDepth 20000 in
theorem ggX5_doPart_X5_letPass : GoodIn wsX5_doPart wsX5_letPass := goodIn_r _ [121, 2, 122, 123, 124, 125, 127, 128, 129, 130, 131, 132, 133, 134, 135, 136, 137, 138, 139, 140] (by decide +kernel) (by decide +kernel)
set_option maxRecDepth 20000 in
theorem gX5_doPart_X5_letPass : GoodIn wsX5_doPart (wsV RX5 97 RX5 yX5_letPass wsX5_letPass) := goodIn_app (goodIn_of _ (by decide +kernel)) ggX5_doPart_X5_letPass
theorem dX5_doPart_0 : decode cX5_doPart 0 = .ok (.aload_n 0, 1) := by decide +kernel
theorem dX5_doPart_1 : decode cX5_doPart 1 = .ok (.getfield 26, 3) := by decide +kernel
theorem dX5_doPart_4 : decode cX5_doPart 4 = .ok (.getfield 174, 3) := by decide +kernel
theorem dX5_doPart_7 : decode cX5_doPart 7 = .ok (.iload_n 1, 1) := by decide +kernel
theorem dX5_doPart_8 : decode cX5_doPart 8 = .ok (.invokevirtual 115, 3) := by decide +kernel
theorem dX5_doPart_11 : decode cX5_doPart 11 = .ok (.lookupswitch 125 #[(102, 41), (103, 104), (114, 76), (116, 86)], 41) := by decide +kernel
theorem dX5_doPart_52 : decode cX5_doPart 52 = .ok (.aload_n 0, 1) := by decide +kernel
theorem dX5_doPart_53 : decode cX5_doPart 53 = .ok (.iconst 0, 1) := by decide +kernel
theorem dX5_doPart_54 : decode cX5_doPart 54 = .ok (.aload_n 0, 1) := by decide +kernel
theorem dX5_doPart_55 : decode cX5_doPart 55 = .ok (.getfield 26, 3) := by decide +kernel
theorem dX5_doPart_58 : decode cX5_doPart 58 = .ok (.iload_n 1, 1) := by decide +kernel
theorem dX5_doPart_59 : decode cX5_doPart 59 = .ok (.iconst 1, 1) := by decide +kernel
theorem dX5_doPart_60 : decode cX5_doPart 60 = .ok (.iadd, 1) := by decide +kernel
theorem dX5_doPart_61 : decode cX5_doPart 61 = .ok (.iload_n 1, 1) := by decide +kernel
theorem dX5_doPart_62 : decode cX5_doPart 62 = .ok (.iconst 3, 1) := by decide +kernel
theorem dX5_doPart_63 : decode cX5_doPart 63 = .ok (.iadd, 1) := by decide +kernel
theorem dX5_doPart_64 : decode cX5_doPart 64 = .ok (.invokevirtual 278, 3) := by decide +kernel
theorem dX5_doPart_67 : decode cX5_doPart 67 = .ok (.aload_n 0, 1) := by decide +kernel
theorem dX5_doPart_68 : decode cX5_doPart 68 = .ok (.getfield 26, 3) := by decide +kernel
theorem dX5_doPart_71 : decode cX5_doPart 71 = .ok (.iload_n 1, 1) := by decide +kernel
theorem dX5_doPart_72 : decode cX5_doPart 72 = .ok (.iconst 3, 1) := by decide +kernel
theorem dX5_doPart_73 : decode cX5_doPart 73 = .ok (.iadd, 1) := by decide +kernel
theorem dX5_doPart_74 : decode cX5_doPart 74 = .ok (.iload_n 2, 1) := by decide +kernel
theorem dX5_doPart_75 : decode cX5_doPart 75 = .ok (.invokevirtual 278, 3) := by decide +kernel
theorem dX5_doPart_78 : decode cX5_doPart 78 = .ok (.bipush 10, 2) := by decide +kernel
theorem dX5_doPart_80 : decode cX5_doPart 80 = .ok (.invokevirtual 49, 3) := by decide +kernel
theorem dX5_doPart_83 : decode cX5_doPart 83 = .ok (.pop, 1) := by decide +kernel
theorem dX5_doPart_84 : decode cX5_doPart 84 = .ok (.goto 52, 3) := by decide +kernel
theorem dX5_doPart_87 : decode cX5_doPart 87 = .ok (.aload_n 0, 1) := by decide +kernel
theorem dX5_doPart_88 : decode cX5_doPart 88 = .ok (.bipush 10, 2) := by decide +kernel
theorem dX5_doPart_90 : decode cX5_doPart 90 = .ok (.invokevirtual 53, 3) := by decide +kernel
theorem dX5_doPart_93 : decode cX5_doPart 93 = .ok (.pop, 1) := by decide +kernel
theorem dX5_doPart_94 : decode cX5_doPart 94 = .ok (.goto 42, 3) := by decide +kernel
theorem dX5_doPart_97 : decode cX5_doPart 97 = .ok (.aload_n 0, 1) := by decide +kernel
theorem dX5_doPart_98 : decode cX5_doPart 98 = .ok (.aload_n 0, 1) := by decide +kernel
theorem dX5_doPart_99 : decode cX5_doPart 99 = .ok (.getfield 26, 3) := by decide +kernel
theorem dX5_doPart_102 : decode cX5_doPart 102 = .ok (.iload_n 1, 1) := by decide +kernel
theorem dX5_doPart_103 : decode cX5_doPart 103 = .ok (.iconst 1, 1) := by decide +kernel
theorem dX5_doPart_104 : decode cX5_doPart 104 = .ok (.iadd, 1) := by decide +kernel
theorem dX5_doPart_105 : decode cX5_doPart 105 = .ok (.iload_n 2, 1) := by decide +kernel
theorem dX5_doPart_106 : decode cX5_doPart 106 = .ok (.invokevirtual 278, 3) := by decide +kernel
theorem dX5_doPart_109 : decode cX5_doPart 109 = .ok (.invokevirtual 97, 3) := by decide +kernel
theorem dX5_doPart_112 : decode cX5_doPart 112 = .ok (.goto 24, 3) := by decide +kernel
theorem dX5_doPart_115 : decode cX5_doPart 115 = .ok (.aload_n 0, 1) := by decide +kernel
theorem dX5_doPart_116 : decode cX5_doPart 116 = .ok (.getfield 12, 3) := by decide +kernel
theorem dX5_doPart_119 : decode cX5_doPart 119 = .ok (.aload_n 0, 1) := by decide +kernel
theorem dX5_doPart_120 : decode cX5_doPart 120 = .ok (.getfield 26, 3) := by decide +kernel
theorem dX5_doPart_123 : decode cX5_doPart 123 = .ok (.iload_n 1, 1) := by decide +kernel
theorem dX5_doPart_124 : decode cX5_doPart 124 = .ok (.iconst 1, 1) := by decide +kernel
theorem dX5_doPart_125 : decode cX5_doPart 125 = .ok (.iadd, 1) := by decide +kernel
theorem dX5_doPart_126 : decode cX5_doPart 126 = .ok (.iload_n 2, 1) := by decide +kernel
theorem dX5_doPart_127 : decode cX5_doPart 127 = .ok (.invokevirtual 278, 3) := by decide +kernel
theorem dX5_doPart_130 : decode cX5_doPart 130 = .ok (.putfield 103, 3) := by decide +kernel
theorem dX5_doPart_133 : decode cX5_doPart 133 = .ok (.goto 3, 3) := by decide +kernel
theorem dX5_doPart_136 : decode cX5_doPart 136 = .ok (.return_, 1) := by decide +kernel
theorem dX6_init_0 : decode cX6_init 0 = .ok (.aload_n 0, 1) := by decide +kernel
theorem dX6_init_1 : decode cX6_init 1 = .ok (.invokespecial 1, 3) := by decide +kernel
theorem dX6_init_4 : decode cX6_init 4 = .ok (.aload_n 0, 1) := by decide +kernel
theorem dX6_init_5 : decode cX6_init 5 = .ok (.bipush 80, 2) := by decide +kernel
theorem dX6_init_7 : decode cX6_init 7 = .ok (.newarray .int, 2) := by decide +kernel
theorem dX6_init_9 : decode cX6_init 9 = .ok (.putfield 7, 3) := by decide +kernel
theorem dX6_init_12 : decode cX6_init 12 = .ok (.aload_n 0, 1) := by decide +kernel
theorem dX6_init_13 : decode cX6_init 13 = .ok (.bipush 80, 2) := by decide +kernel
theorem dX6_init_15 : decode cX6_init 15 = .ok (.newarray .int, 2) := by decide +kernel
theorem dX6_init_17 : decode cX6_init 17 = .ok (.putfield 13, 3) := by decide +kernel
theorem dX6_init_20 : decode cX6_init 20 = .ok (.aload_n 0, 1) := by decide +kernel
theorem dX6_init_21 : decode cX6_init 21 = .ok (.sipush 480, 3) := by decide +kernel
theorem dX6_init_24 : decode cX6_init 24 = .ok (.newarray .int, 2) := by decide +kernel
theorem dX6_init_26 : decode cX6_init 26 = .ok (.putfield 16, 3) := by decide +kernel
theorem dX6_init_29 : decode cX6_init 29 = .ok (.aload_n 0, 1) := by decide +kernel
theorem dX6_init_30 : decode cX6_init 30 = .ok (.bipush 60, 2) := by decide +kernel
theorem dX6_init_32 : decode cX6_init 32 = .ok (.newarray .int, 2) := by decide +kernel
theorem dX6_init_34 : decode cX6_init 34 = .ok (.putfield 19, 3) := by decide +kernel
theorem dX6_init_37 : decode cX6_init 37 = .ok (.aload_n 0, 1) := by decide +kernel
theorem dX6_init_38 : decode cX6_init 38 = .ok (.bipush 30, 2) := by decide +kernel
theorem dX6_init_40 : decode cX6_init 40 = .ok (.newarray .int, 2) := by decide +kernel
theorem dX6_init_42 : decode cX6_init 42 = .ok (.putfield 22, 3) := by decide +kernel
theorem dX6_init_45 : decode cX6_init 45 = .ok (.aload_n 0, 1) := by decide +kernel
theorem dX6_init_46 : decode cX6_init 46 = .ok (.bipush 30, 2) := by decide +kernel
theorem dX6_init_48 : decode cX6_init 48 = .ok (.newarray .int, 2) := by decide +kernel
theorem dX6_init_50 : decode cX6_init 50 = .ok (.putfield 25, 3) := by decide +kernel
theorem dX6_init_53 : decode cX6_init 53 = .ok (.aload_n 0, 1) := by decide +kernel
theorem dX6_init_54 : decode cX6_init 54 = .ok (.getfield 7, 3) := by decide +kernel
theorem dX6_init_57 : decode cX6_init 57 = .ok (.iconst 1, 1) := by decide +kernel
theorem dX6_init_58 : decode cX6_init 58 = .ok (.bipush 10, 2) := by decide +kernel
theorem dX6_init_60 : decode cX6_init 60 = .ok (.iastore, 1) := by decide +kernel
theorem dX6_init_61 : decode cX6_init 61 = .ok (.aload_n 0, 1) := by decide +kernel
theorem dX6_init_62 : decode cX6_init 62 = .ok (.getfield 7, 3) := by decide +kernel
theorem dX6_init_65 : decode cX6_init 65 = .ok (.iconst 3, 1) := by decide +kernel
theorem dX6_init_66 : decode cX6_init 66 = .ok (.iconst (-1), 1) := by decide +kernel
theorem dX6_init_67 : decode cX6_init 67 = .ok (.iastore, 1) := by decide +kernel
theorem dX6_init_68 : decode cX6_init 68 = .ok (.aload_n 0, 1) := by decide +kernel
theorem dX6_init_69 : decode cX6_init 69 = .ok (.getfield 7, 3) := by decide +kernel
theorem dX6_init_72 : decode cX6_init 72 = .ok (.bipush 6, 2) := by decide +kernel
theorem dX6_init_74 : decode cX6_init 74 = .ok (.iconst (-1), 1) := by decide +kernel
theorem dX6_init_75 : decode cX6_init 75 = .ok (.iastore, 1) := by decide +kernel
theorem dX6_init_76 : decode cX6_init 76 = .ok (.return_, 1) := by decide +kernel
theorem dX6_thrown_0 : decode cX6_thrown 0 = .ok (.aload_n 0, 1) := by decide +kernel
theorem dX6_thrown_1 : decode cX6_thrown 1 = .ok (.getfield 28, 3) := by decide +kernel
theorem dX6_thrown_4 : decode cX6_thrown 4 = .ok (.ireturn, 1) := by decide +kernel
theorem dX6_throwing_0 : decode cX6_throwing 0 = .ok (.aload_n 0, 1) := by decide +kernel
theorem dX6_throwing_1 : decode cX6_throwing 1 = .ok (.iload_n 1, 1) := by decide +kernel
theorem dX6_throwing_2 : decode cX6_throwing 2 = .ok (.putfield 28, 3) := by decide +kernel
theorem dX6_throwing_5 : decode cX6_throwing 5 = .ok (.iconst 0, 1) := by decide +kernel
theorem dX6_throwing_6 : decode cX6_throwing 6 = .ok (.ireturn, 1) := by decide +kernel
theorem dX6_in_0 : decode cX6_in 0 = .ok (.iload_n 0, 1) := by decide +kernel
theorem dX6_in_1 : decode cX6_in 1 = .ok (.iload_n 1, 1) := by decide +kernel
theorem dX6_in_2 : decode cX6_in 2 = .ok (.if_icmp .lt 12, 3) := by decide +kernel
theorem dX6_in_5 : decode cX6_in 5 = .ok (.iload_n 0, 1) := by decide +kernel
theorem dX6_in_6 : decode cX6_in 6 = .ok (.iload_n 2, 1) := by decide +kernel
theorem dX6_in_7 : decode cX6_in 7 = .ok (.if_icmp .gt 7, 3) := by decide +kernel
theorem dX6_in_10 : decode cX6_in 10 = .ok (.iconst 1, 1) := by decide +kernel
theorem dX6_in_11 : decode cX6_in 11 = .ok (.goto 4, 3) := by decide +kernel
theorem dX6_in_14 : decode cX6_in 14 = .ok (.iconst 0, 1) := by decide +kernel
theorem dX6_in_15 : decode cX6_in 15 = .ok (.ireturn, 1) := by decide +kernel
theorem dX6_putAside_0 : decode cX6_putAside 0 = .ok (.iconst 0, 1) := by decide +kernel
theorem dX6_putAside_1 : decode cX6_putAside 1 = .ok (.istore_n 1, 1) := by decide +kernel
theorem dX6_putAside_2 : decode cX6_putAside 2 = .ok (.iload_n 1, 1) := by decide +kernel
theorem dX6_putAside_3 : decode cX6_putAside 3 = .ok (.bipush 80, 2) := by decide +kernel
theorem dX6_putAside_5 : decode cX6_putAside 5 = .ok (.if_icmp .ge 21, 3) := by decide +kernel
theorem dX6_putAside_8 : decode cX6_putAside 8 = .ok (.aload_n 0, 1) := by decide +kernel
theorem dX6_putAside_9 : decode cX6_putAside 9 = .ok (.getfield 13, 3) := by decide +kernel
theorem dX6_putAside_12 : decode cX6_putAside 12 = .ok (.iload_n 1, 1) := by decide +kernel
theorem dX6_putAside_13 : decode cX6_putAside 13 = .ok (.aload_n 0, 1) := by decide +kernel
theorem dX6_putAside_14 : decode cX6_putAside 14 = .ok (.getfield 7, 3) := by decide +kernel
theorem dX6_putAside_17 : decode cX6_putAside 17 = .ok (.iload_n 1, 1) := by decide +kernel
theorem dX6_putAside_18 : decode cX6_putAside 18 = .ok (.iaload, 1) := by decide +kernel
theorem dX6_putAside_19 : decode cX6_putAside 19 = .ok (.iastore, 1) := by decide +kernel
theorem dX6_putAside_20 : decode cX6_putAside 20 = .ok (.iinc 1 1, 3) := by decide +kernel
theorem dX6_putAside_23 : decode cX6_putAside 23 = .ok (.goto (-21), 3) := by decide +kernel
theorem dX6_putAside_26 : decode cX6_putAside 26 = .ok (.return_, 1) := by decide +kernel
theorem dX6_putBack_0 : decode cX6_putBack 0 = .ok (.iconst 0, 1) := by decide +kernel
theorem dX6_putBack_1 : decode cX6_putBack 1 = .ok (.istore_n 1, 1) := by decide +kernel
theorem dX6_putBack_2 : decode cX6_putBack 2 = .ok (.iload_n 1, 1) := by decide +kernel
theorem dX6_putBack_3 : decode cX6_putBack 3 = .ok (.bipush 80, 2) := by decide +kernel
theorem dX6_putBack_5 : decode cX6_putBack 5 = .ok (.if_icmp .ge 21, 3) := by decide +kernel
theorem dX6_putBack_8 : decode cX6_putBack 8 = .ok (.aload_n 0, 1) := by decide +kernel
theorem dX6_putBack_9 : decode cX6_putBack 9 = .ok (.getfield 7, 3) := by decide +kernel
theorem dX6_putBack_12 : decode cX6_putBack 12 = .ok (.iload_n 1, 1) := by decide +kernel
theorem dX6_putBack_13 : decode cX6_putBack 13 = .ok (.aload_n 0, 1) := by decide +kernel
theorem dX6_putBack_14 : decode cX6_putBack 14 = .ok (.getfield 13, 3) := by decide +kernel
theorem dX6_putBack_17 : decode cX6_putBack 17 = .ok (.iload_n 1, 1) := by decide +kernel
theorem dX6_putBack_18 : decode cX6_putBack 18 = .ok (.iaload, 1) := by decide +kernel
theorem dX6_putBack_19 : decode cX6_putBack 19 = .ok (.iastore, 1) := by decide +kernel
theorem dX6_putBack_20 : decode cX6_putBack 20 = .ok (.iinc 1 1, 3) := by decide +kernel
theorem dX6_putBack_23 : decode cX6_putBack 23 = .ok (.goto (-21), 3) := by decide +kernel
theorem dX6_putBack_26 : decode cX6_putBack 26 = .ok (.return_, 1) := by decide +kernel
theorem dX6_save_0 : decode cX6_save 0 = .ok (.aload_n 0, 1) := by decide +kernel
theorem dX6_save_1 : decode cX6_save 1 = .ok (.getfield 32, 3) := by decide +kernel
theorem dX6_save_4 : decode cX6_save 4 = .ok (.bipush 6, 2) := by decide +kernel
theorem dX6_save_6 : decode cX6_save 6 = .ok (.if_icmp .ne 43, 3) := by decide +kernel
theorem dX6_save_9 : decode cX6_save 9 = .ok (.iconst 0, 1) := by decide +kernel
theorem dX6_save_10 : decode cX6_save 10 = .ok (.istore_n 1, 1) := by decide +kernel
theorem dX6_save_11 : decode cX6_save 11 = .ok (.iload_n 1, 1) := by decide +kernel
theorem dX6_save_12 : decode cX6_save 12 = .ok (.sipush 400, 3) := by decide +kernel
theorem dX6_save_15 : decode cX6_save 15 = .ok (.if_icmp .ge 24, 3) := by decide +kernel
theorem dX6_save_18 : decode cX6_save 18 = .ok (.aload_n 0, 1) := by decide +kernel
theorem dX6_save_19 : decode cX6_save 19 = .ok (.getfield 16, 3) := by decide +kernel
theorem dX6_save_22 : decode cX6_save 22 = .ok (.iload_n 1, 1) := by decide +kernel
theorem dX6_save_23 : decode cX6_save 23 = .ok (.aload_n 0, 1) := by decide +kernel
theorem dX6_save_24 : decode cX6_save 24 = .ok (.getfield 16, 3) := by decide +kernel
theorem dX6_save_27 : decode cX6_save 27 = .ok (.bipush 80, 2) := by decide +kernel
theorem dX6_save_29 : decode cX6_save 29 = .ok (.iload_n 1, 1) := by decide +kernel
theorem dX6_save_30 : decode cX6_save 30 = .ok (.iadd, 1) := by decide +kernel
theorem dX6_save_31 : decode cX6_save 31 = .ok (.iaload, 1) := by decide +kernel
theorem dX6_save_32 : decode cX6_save 32 = .ok (.iastore, 1) := by decide +kernel
theorem dX6_save_33 : decode cX6_save 33 = .ok (.iinc 1 1, 3) := by decide +kernel
theorem dX6_save_36 : decode cX6_save 36 = .ok (.goto (-25), 3) := by decide +kernel
theorem dX6_save_39 : decode cX6_save 39 = .ok (.aload_n 0, 1) := by decide +kernel
theorem dX6_save_40 : decode cX6_save 40 = .ok (.dup, 1) := by decide +kernel
theorem dX6_save_41 : decode cX6_save 41 = .ok (.getfield 32, 3) := by decide +kernel
theorem dX6_save_44 : decode cX6_save 44 = .ok (.iconst 1, 1) := by decide +kernel
theorem dX6_save_45 : decode cX6_save 45 = .ok (.isub, 1) := by decide +kernel
theorem dX6_save_46 : decode cX6_save 46 = .ok (.putfield 32, 3) := by decide +kernel
theorem dX6_save_49 : decode cX6_save 49 = .ok (.iconst 0, 1) := by decide +kernel
theorem dX6_save_50 : decode cX6_save 50 = .ok (.istore_n 1, 1) := by decide +kernel
theorem dX6_save_51 : decode cX6_save 51 = .ok (.iload_n 1, 1) := by decide +kernel
theorem dX6_save_52 : decode cX6_save 52 = .ok (.bipush 80, 2) := by decide +kernel
theorem dX6_save_54 : decode cX6_save 54 = .ok (.if_icmp .ge 29, 3) := by decide +kernel
theorem dX6_save_57 : decode cX6_save 57 = .ok (.aload_n 0, 1) := by decide +kernel
theorem dX6_save_58 : decode cX6_save 58 = .ok (.getfield 16, 3) := by decide +kernel
theorem dX6_save_61 : decode cX6_save 61 = .ok (.bipush 80, 2) := by decide +kernel
theorem dX6_save_63 : decode cX6_save 63 = .ok (.aload_n 0, 1) := by decide +kernel
theorem dX6_save_64 : decode cX6_save 64 = .ok (.getfield 32, 3) := by decide +kernel
theorem dX6_save_67 : decode cX6_save 67 = .ok (.imul, 1) := by decide +kernel
theorem dX6_save_68 : decode cX6_save 68 = .ok (.iload_n 1, 1) := by decide +kernel
theorem dX6_save_69 : decode cX6_save 69 = .ok (.iadd, 1) := by decide +kernel
theorem dX6_save_70 : decode cX6_save 70 = .ok (.aload_n 0, 1) := by decide +kernel
theorem dX6_save_71 : decode cX6_save 71 = .ok (.getfield 7, 3) := by decide +kernel
theorem dX6_save_74 : decode cX6_save 74 = .ok (.iload_n 1, 1) := by decide +kernel
theorem dX6_save_75 : decode cX6_save 75 = .ok (.iaload, 1) := by decide +kernel
theorem dX6_save_76 : decode cX6_save 76 = .ok (.iastore, 1) := by decide +kernel
theorem dX6_save_77 : decode cX6_save 77 = .ok (.iinc 1 1, 3) := by decide +kernel
theorem dX6_save_80 : decode cX6_save 80 = .ok (.goto (-29), 3) := by decide +kernel
theorem dX6_save_83 : decode cX6_save 83 = .ok (.aload_n 0, 1) := by decide +kernel
theorem dX6_save_84 : decode cX6_save 84 = .ok (.dup, 1) := by decide +kernel
theorem dX6_save_85 : decode cX6_save 85 = .ok (.getfield 32, 3) := by decide +kernel
theorem dX6_save_88 : decode cX6_save 88 = .ok (.iconst 1, 1) := by decide +kernel
theorem dX6_save_89 : decode cX6_save 89 = .ok (.iadd, 1) := by decide +kernel
theorem dX6_save_90 : decode cX6_save 90 = .ok (.putfield 32, 3) := by decide +kernel
theorem dX6_save_93 : decode cX6_save 93 = .ok (.return_, 1) := by decide +kernel
set_option maxRecDepth 20000 in
theorem ggX6_areFrame_X6_in : GoodIn wsX6_areFrame wsX6_in := goodIn_r _ [4] (by decide +kernel) (by decide +kernel)
set_option maxRecDepth 20000 in
theorem gX6_areFrame_X6_in : GoodIn wsX6_areFrame (va_wsS RX6 35 yX6_in wsX6_in) := goodIn_app (goodIn_of _ (by decide +kernel)) ggX6_areFrame_X6_in
theorem dX6_areFrame_0 : decode cX6_areFrame 0 = .ok (.iload_n 0, 1) := by decide +kernel
theorem dX6_areFrame_1 : decode cX6_areFrame 1 = .ok (.iconst 0, 1) := by decide +kernel
theorem dX6_areFrame_2 : decode cX6_areFrame 2 = .ok (.bipush 7, 2) := by decide +kernel
theorem dX6_areFrame_4 : decode cX6_areFrame 4 = .ok (.invokestatic 35, 3) := by decide +kernel
theorem dX6_areFrame_7 : decode cX6_areFrame 7 = .ok (.ifCond .eq 26, 3) := by decide +kernel
theorem dX6_areFrame_10 : decode cX6_areFrame 10 = .ok (.iload_n 1, 1) := by decide +kernel
theorem dX6_areFrame_11 : decode cX6_areFrame 11 = .ok (.iconst 0, 1) := by decide +kernel
theorem dX6_areFrame_12 : decode cX6_areFrame 12 = .ok (.bipush 15, 2) := by decide +kernel
theorem dX6_areFrame_14 : decode cX6_areFrame 14 = .ok (.invokestatic 35, 3) := by decide +kernel
theorem dX6_areFrame_17 : decode cX6_areFrame 17 = .ok (.ifCond .eq 16, 3) := by decide +kernel
theorem dX6_areFrame_20 : decode cX6_areFrame 20 = .ok (.iload_n 2, 1) := by decide +kernel
theorem dX6_areFrame_21 : decode cX6_areFrame 21 = .ok (.iconst 0, 1) := by decide +kernel
theorem dX6_areFrame_22 : decode cX6_areFrame 22 = .ok (.iconst 1, 1) := by decide +kernel
theorem dX6_areFrame_23 : decode cX6_areFrame 23 = .ok (.invokestatic 35, 3) := by decide +kernel
theorem dX6_areFrame_26 : decode cX6_areFrame 26 = .ok (.ifCond .eq 7, 3) := by decide +kernel
theorem dX6_areFrame_29 : decode cX6_areFrame 29 = .ok (.iconst 1, 1) := by decide +kernel
theorem dX6_areFrame_30 : decode cX6_areFrame 30 = .ok (.goto 4, 3) := by decide +kernel
theorem dX6_areFrame_33 : decode cX6_areFrame 33 = .ok (.iconst 0, 1) := by decide +kernel
theorem dX6_areFrame_34 : decode cX6_areFrame 34 = .ok (.ireturn, 1) := by decide +kernel
theorem dX6_bitOf_0 : decode cX6_bitOf 0 = .ok (.bipush 32, 2) := by decide +kernel
theorem dX6_bitOf_2 : decode cX6_bitOf 2 = .ok (.iload_n 0, 1) := by decide +kernel
theorem dX6_bitOf_3 : decode cX6_bitOf 3 = .ok (.imul, 1) := by decide +kernel
theorem dX6_bitOf_4 : decode cX6_bitOf 4 = .ok (.iconst 2, 1) := by decide +kernel
theorem dX6_bitOf_5 : decode cX6_bitOf 5 = .ok (.iload_n 1, 1) := by decide +kernel
theorem dX6_bitOf_6 : decode cX6_bitOf 6 = .ok (.imul, 1) := by decide +kernel
theorem dX6_bitOf_7 : decode cX6_bitOf 7 = .ok (.iadd, 1) := by decide +kernel
theorem dX6_bitOf_8 : decode cX6_bitOf 8 = .ok (.iload_n 2, 1) := by decide +kernel
theorem dX6_bitOf_9 : decode cX6_bitOf 9 = .ok (.iadd, 1) := by decide +kernel
theorem dX6_bitOf_10 : decode cX6_bitOf 10 = .ok (.istore 4, 2) := by decide +kernel
theorem dX6_bitOf_12 : decode cX6_bitOf 12 = .ok (.iload_n 3, 1) := by decide +kernel
theorem dX6_bitOf_13 : decode cX6_bitOf 13 = .ok (.bipush 8, 2) := by decide +kernel
theorem dX6_bitOf_15 : decode cX6_bitOf 15 = .ok (.if_icmp .ge 13, 3) := by decide +kernel
theorem dX6_bitOf_18 : decode cX6_bitOf 18 = .ok (.iload 4, 2) := by decide +kernel
theorem dX6_bitOf_20 : decode cX6_bitOf 20 = .ok (.bipush 7, 2) := by decide +kernel
theorem dX6_bitOf_22 : decode cX6_bitOf 22 = .ok (.iload_n 3, 1) := by decide +kernel
theorem dX6_bitOf_23 : decode cX6_bitOf 23 = .ok (.isub, 1) := by decide +kernel
theorem dX6_bitOf_24 : decode cX6_bitOf 24 = .ok (.ishr, 1) := by decide +kernel
theorem dX6_bitOf_25 : decode cX6_bitOf 25 = .ok (.iconst 1, 1) := by decide +kernel
theorem dX6_bitOf_26 : decode cX6_bitOf 26 = .ok (.iand, 1) := by decide +kernel
theorem dX6_bitOf_27 : decode cX6_bitOf 27 = .ok (.ireturn, 1) := by decide +kernel
theorem dX6_bitOf_28 : decode cX6_bitOf 28 = .ok (.iconst 0, 1) := by decide +kernel
theorem dX6_bitOf_29 : decode cX6_bitOf 29 = .ok (.istore 5, 2) := by decide +kernel
theorem dX6_bitOf_31 : decode cX6_bitOf 31 = .ok (.iconst 0, 1) := by decide +kernel
theorem dX6_bitOf_32 : decode cX6_bitOf 32 = .ok (.istore 6, 2) := by decide +kernel
theorem dX6_bitOf_34 : decode cX6_bitOf 34 = .ok (.iload 6, 2) := by decide +kernel
theorem dX6_bitOf_36 : decode cX6_bitOf 36 = .ok (.bipush 8, 2) := by decide +kernel
theorem dX6_bitOf_38 : decode cX6_bitOf 38 = .ok (.if_icmp .ge 21, 3) := by decide +kernel
theorem dX6_bitOf_41 : decode cX6_bitOf 41 = .ok (.iload 5, 2) := by decide +kernel
theorem dX6_bitOf_43 : decode cX6_bitOf 43 = .ok (.iload 4, 2) := by decide +kernel
theorem dX6_bitOf_45 : decode cX6_bitOf 45 = .ok (.iload 6, 2) := by decide +kernel
theorem dX6_bitOf_47 : decode cX6_bitOf 47 = .ok (.ishr, 1) := by decide +kernel
theorem dX6_bitOf_48 : decode cX6_bitOf 48 = .ok (.iconst 1, 1) := by decide +kernel
theorem dX6_bitOf_49 : decode cX6_bitOf 49 = .ok (.iand, 1) := by decide +kernel
theorem dX6_bitOf_50 : decode cX6_bitOf 50 = .ok (.iadd, 1) := by decide +kernel
theorem dX6_bitOf_51 : decode cX6_bitOf 51 = .ok (.istore 5, 2) := by decide +kernel
theorem dX6_bitOf_53 : decode cX6_bitOf 53 = .ok (.iinc 6 1, 3) := by decide +kernel
theorem dX6_bitOf_56 : decode cX6_bitOf 56 = .ok (.goto (-22), 3) := by decide +kernel
theorem dX6_bitOf_59 : decode cX6_bitOf 59 = .ok (.iload 5, 2) := by decide +kernel
theorem dX6_bitOf_61 : decode cX6_bitOf 61 = .ok (.iconst 2, 1) := by decide +kernel
theorem dX6_bitOf_62 : decode cX6_bitOf 62 = .ok (.irem, 1) := by decide +kernel
theorem dX6_bitOf_63 : decode cX6_bitOf 63 = .ok (.ireturn, 1) := by decide +kernel
set_option maxRecDepth 20000 in
theorem ggX6_layFrame_X6_bitOf : GoodIn wsX6_layFrame wsX6_bitOf := goodIn_r _ [6] (by decide +kernel) (by decide +kernel)
set_option maxRecDepth 20000 in
theorem gX6_layFrame_X6_bitOf : GoodIn wsX6_layFrame (va_wsS RX6 39 yX6_bitOf wsX6_bitOf) := goodIn_app (goodIn_of _ (by decide +kernel)) ggX6_layFrame_X6_bitOf
theorem dX6_layFrame_0 : decode cX6_layFrame 0 = .ok (.aload_n 0, 1) := by decide +kernel
theorem dX6_layFrame_1 : decode cX6_layFrame 1 = .ok (.getfield 22, 3) := by decide +kernel
theorem dX6_layFrame_4 : decode cX6_layFrame 4 = .ok (.iconst 0, 1) := by decide +kernel
theorem dX6_layFrame_5 : decode cX6_layFrame 5 = .ok (.bipush 16, 2) := by decide +kernel
theorem dX6_layFrame_7 : decode cX6_layFrame 7 = .ok (.iastore, 1) := by decide +kernel
theorem dX6_layFrame_8 : decode cX6_layFrame 8 = .ok (.aload_n 0, 1) := by decide +kernel
theorem dX6_layFrame_9 : decode cX6_layFrame 9 = .ok (.getfield 22, 3) := by decide +kernel
theorem dX6_layFrame_12 : decode cX6_layFrame 12 = .ok (.iconst 1, 1) := by decide +kernel
theorem dX6_layFrame_13 : decode cX6_layFrame 13 = .ok (.bipush 8, 2) := by decide +kernel
theorem dX6_layFrame_15 : decode cX6_layFrame 15 = .ok (.iastore, 1) := by decide +kernel
theorem dX6_layFrame_16 : decode cX6_layFrame 16 = .ok (.iconst 0, 1) := by decide +kernel
theorem dX6_layFrame_17 : decode cX6_layFrame 17 = .ok (.istore 4, 2) := by decide +kernel
theorem dX6_layFrame_19 : decode cX6_layFrame 19 = .ok (.iload 4, 2) := by decide +kernel
theorem dX6_layFrame_21 : decode cX6_layFrame 21 = .ok (.bipush 9, 2) := by decide +kernel
theorem dX6_layFrame_23 : decode cX6_layFrame 23 = .ok (.if_icmp .ge 50, 3) := by decide +kernel
theorem dX6_layFrame_26 : decode cX6_layFrame 26 = .ok (.aload_n 0, 1) := by decide +kernel
theorem dX6_layFrame_27 : decode cX6_layFrame 27 = .ok (.getfield 22, 3) := by decide +kernel
theorem dX6_layFrame_30 : decode cX6_layFrame 30 = .ok (.iconst 2, 1) := by decide +kernel
theorem dX6_layFrame_31 : decode cX6_layFrame 31 = .ok (.iconst 2, 1) := by decide +kernel
theorem dX6_layFrame_32 : decode cX6_layFrame 32 = .ok (.iload 4, 2) := by decide +kernel
theorem dX6_layFrame_34 : decode cX6_layFrame 34 = .ok (.imul, 1) := by decide +kernel
theorem dX6_layFrame_35 : decode cX6_layFrame 35 = .ok (.iadd, 1) := by decide +kernel
theorem dX6_layFrame_36 : decode cX6_layFrame 36 = .ok (.iconst 4, 1) := by decide +kernel
theorem dX6_layFrame_37 : decode cX6_layFrame 37 = .ok (.iastore, 1) := by decide +kernel
theorem dX6_layFrame_38 : decode cX6_layFrame 38 = .ok (.aload_n 0, 1) := by decide +kernel
theorem dX6_layFrame_39 : decode cX6_layFrame 39 = .ok (.getfield 22, 3) := by decide +kernel
theorem dX6_layFrame_42 : decode cX6_layFrame 42 = .ok (.iconst 3, 1) := by decide +kernel
theorem dX6_layFrame_43 : decode cX6_layFrame 43 = .ok (.iconst 2, 1) := by decide +kernel
theorem dX6_layFrame_44 : decode cX6_layFrame 44 = .ok (.iload 4, 2) := by decide +kernel
theorem dX6_layFrame_46 : decode cX6_layFrame 46 = .ok (.imul, 1) := by decide +kernel
theorem dX6_layFrame_47 : decode cX6_layFrame 47 = .ok (.iadd, 1) := by decide +kernel
theorem dX6_layFrame_48 : decode cX6_layFrame 48 = .ok (.iload_n 1, 1) := by decide +kernel
theorem dX6_layFrame_49 : decode cX6_layFrame 49 = .ok (.iload_n 2, 1) := by decide +kernel
theorem dX6_layFrame_50 : decode cX6_layFrame 50 = .ok (.iload_n 3, 1) := by decide +kernel
theorem dX6_layFrame_51 : decode cX6_layFrame 51 = .ok (.iload 4, 2) := by decide +kernel
theorem dX6_layFrame_53 : decode cX6_layFrame 53 = .ok (.invokestatic 39, 3) := by decide +kernel
theorem dX6_layFrame_56 : decode cX6_layFrame 56 = .ok (.iconst 1, 1) := by decide +kernel
theorem dX6_layFrame_57 : decode cX6_layFrame 57 = .ok (.if_icmp .ne 8, 3) := by decide +kernel
theorem dX6_layFrame_60 : decode cX6_layFrame 60 = .ok (.bipush 12, 2) := by decide +kernel
theorem dX6_layFrame_62 : decode cX6_layFrame 62 = .ok (.goto 4, 3) := by decide +kernel
theorem dX6_layFrame_65 : decode cX6_layFrame 65 = .ok (.iconst 4, 1) := by decide +kernel
theorem dX6_layFrame_66 : decode cX6_layFrame 66 = .ok (.iastore, 1) := by decide +kernel
theorem dX6_layFrame_67 : decode cX6_layFrame 67 = .ok (.iinc 4 1, 3) := by decide +kernel
theorem dX6_layFrame_70 : decode cX6_layFrame 70 = .ok (.goto (-51), 3) := by decide +kernel
theorem dX6_layFrame_73 : decode cX6_layFrame 73 = .ok (.aload_n 0, 1) := by decide +kernel
theorem dX6_layFrame_74 : decode cX6_layFrame 74 = .ok (.getfield 22, 3) := by decide +kernel
theorem dX6_layFrame_77 : decode cX6_layFrame 77 = .ok (.bipush 20, 2) := by decide +kernel
theorem dX6_layFrame_79 : decode cX6_layFrame 79 = .ok (.iconst 4, 1) := by decide +kernel
theorem dX6_layFrame_80 : decode cX6_layFrame 80 = .ok (.iastore, 1) := by decide +kernel
theorem dX6_layFrame_81 : decode cX6_layFrame 81 = .ok (.aload_n 0, 1) := by decide +kernel
theorem dX6_layFrame_82 : decode cX6_layFrame 82 = .ok (.bipush 21, 2) := by decide +kernel
theorem dX6_layFrame_84 : decode cX6_layFrame 84 = .ok (.putfield 43, 3) := by decide +kernel
theorem dX6_layFrame_87 : decode cX6_layFrame 87 = .ok (.return_, 1) := by decide +kernel
theorem dX6_layRepeat_0 : decode cX6_layRepeat 0 = .ok (.aload_n 0, 1) := by decide +kernel
theorem dX6_layRepeat_1 : decode cX6_layRepeat 1 = .ok (.getfield 22, 3) := by decide +kernel
theorem dX6_layRepeat_4 : decode cX6_layRepeat 4 = .ok (.iconst 0, 1) := by decide +kernel
theorem dX6_layRepeat_5 : decode cX6_layRepeat 5 = .ok (.bipush 16, 2) := by decide +kernel
theorem dX6_layRepeat_7 : decode cX6_layRepeat 7 = .ok (.iastore, 1) := by decide +kernel
theorem dX6_layRepeat_8 : decode cX6_layRepeat 8 = .ok (.aload_n 0, 1) := by decide +kernel
theorem dX6_layRepeat_9 : decode cX6_layRepeat 9 = .ok (.getfield 22, 3) := by decide +kernel
theorem dX6_layRepeat_12 : decode cX6_layRepeat 12 = .ok (.iconst 1, 1) := by decide +kernel
theorem dX6_layRepeat_13 : decode cX6_layRepeat 13 = .ok (.iconst 4, 1) := by decide +kernel
theorem dX6_layRepeat_14 : decode cX6_layRepeat 14 = .ok (.iastore, 1) := by decide +kernel
theorem dX6_layRepeat_15 : decode cX6_layRepeat 15 = .ok (.aload_n 0, 1) := by decide +kernel
theorem dX6_layRepeat_16 : decode cX6_layRepeat 16 = .ok (.getfield 22, 3) := by decide +kernel
theorem dX6_layRepeat_19 : decode cX6_layRepeat 19 = .ok (.iconst 2, 1) := by decide +kernel
theorem dX6_layRepeat_20 : decode cX6_layRepeat 20 = .ok (.iconst 4, 1) := by decide +kernel
theorem dX6_layRepeat_21 : decode cX6_layRepeat 21 = .ok (.iastore, 1) := by decide +kernel
theorem dX6_layRepeat_22 : decode cX6_layRepeat 22 = .ok (.aload_n 0, 1) := by decide +kernel
theorem dX6_layRepeat_23 : decode cX6_layRepeat 23 = .ok (.iconst 3, 1) := by decide +kernel
theorem dX6_layRepeat_24 : decode cX6_layRepeat 24 = .ok (.putfield 43, 3) := by decide +kernel
theorem dX6_layRepeat_27 : decode cX6_layRepeat 27 = .ok (.return_, 1) := by decide +kernel
theorem dX6_layLeft_0 : decode cX6_layLeft 0 = .ok (.aload_n 0, 1) := by decide +kernel
theorem dX6_layLeft_1 : decode cX6_layLeft 1 = .ok (.getfield 7, 3) := by decide +kernel
theorem dX6_layLeft_4 : decode cX6_layLeft 4 = .ok (.iconst 0, 1) := by decide +kernel
theorem dX6_layLeft_5 : decode cX6_layLeft 5 = .ok (.iaload, 1) := by decide +kernel
theorem dX6_layLeft_6 : decode cX6_layLeft 6 = .ok (.aload_n 0, 1) := by decide +kernel
theorem dX6_layLeft_7 : decode cX6_layLeft 7 = .ok (.getfield 7, 3) := by decide +kernel
theorem dX6_layLeft_10 : decode cX6_layLeft 10 = .ok (.iconst 1, 1) := by decide +kernel
theorem dX6_layLeft_11 : decode cX6_layLeft 11 = .ok (.iaload, 1) := by decide +kernel
theorem dX6_layLeft_12 : decode cX6_layLeft 12 = .ok (.imul, 1) := by decide +kernel
theorem dX6_layLeft_13 : decode cX6_layLeft 13 = .ok (.bipush 20, 2) := by decide +kernel
theorem dX6_layLeft_15 : decode cX6_layLeft 15 = .ok (.idiv, 1) := by decide +kernel
theorem dX6_layLeft_16 : decode cX6_layLeft 16 = .ok (.istore_n 2, 1) := by decide +kernel
theorem dX6_layLeft_17 : decode cX6_layLeft 17 = .ok (.iload_n 1, 1) := by decide +kernel
theorem dX6_layLeft_18 : decode cX6_layLeft 18 = .ok (.bipush 11, 2) := by decide +kernel
theorem dX6_layLeft_20 : decode cX6_layLeft 20 = .ok (.aload_n 0, 1) := by decide +kernel
theorem dX6_layLeft_21 : decode cX6_layLeft 21 = .ok (.getfield 7, 3) := by decide +kernel
theorem dX6_layLeft_24 : decode cX6_layLeft 24 = .ok (.iconst 1, 1) := by decide +kernel
theorem dX6_layLeft_25 : decode cX6_layLeft 25 = .ok (.iaload, 1) := by decide +kernel
theorem dX6_layLeft_26 : decode cX6_layLeft 26 = .ok (.isub, 1) := by decide +kernel
theorem dX6_layLeft_27 : decode cX6_layLeft 27 = .ok (.if_icmp .ge 7, 3) := by decide +kernel
theorem dX6_layLeft_30 : decode cX6_layLeft 30 = .ok (.iconst 1, 1) := by decide +kernel
theorem dX6_layLeft_31 : decode cX6_layLeft 31 = .ok (.goto 4, 3) := by decide +kernel
theorem dX6_layLeft_34 : decode cX6_layLeft 34 = .ok (.iconst 0, 1) := by decide +kernel
theorem dX6_layLeft_35 : decode cX6_layLeft 35 = .ok (.istore_n 3, 1) := by decide +kernel
theorem dX6_layLeft_36 : decode cX6_layLeft 36 = .ok (.iconst 0, 1) := by decide +kernel
theorem dX6_layLeft_37 : decode cX6_layLeft 37 = .ok (.istore 4, 2) := by decide +kernel
theorem dX6_layLeft_39 : decode cX6_layLeft 39 = .ok (.iconst 0, 1) := by decide +kernel
theorem dX6_layLeft_40 : decode cX6_layLeft 40 = .ok (.istore 5, 2) := by decide +kernel
theorem dX6_layLeft_42 : decode cX6_layLeft 42 = .ok (.aload_n 0, 1) := by decide +kernel
theorem dX6_layLeft_43 : decode cX6_layLeft 43 = .ok (.iconst 0, 1) := by decide +kernel
theorem dX6_layLeft_44 : decode cX6_layLeft 44 = .ok (.putfield 46, 3) := by decide +kernel
theorem dX6_layLeft_47 : decode cX6_layLeft 47 = .ok (.iconst 0, 1) := by decide +kernel
theorem dX6_layLeft_48 : decode cX6_layLeft 48 = .ok (.istore 6, 2) := by decide +kernel
theorem dX6_layLeft_50 : decode cX6_layLeft 50 = .ok (.iload 6, 2) := by decide +kernel
theorem dX6_layLeft_52 : decode cX6_layLeft 52 = .ok (.aload_n 0, 1) := by decide +kernel
theorem dX6_layLeft_53 : decode cX6_layLeft 53 = .ok (.getfield 43, 3) := by decide +kernel
theorem dX6_layLeft_56 : decode cX6_layLeft 56 = .ok (.if_icmp .ge 171, 3) := by decide +kernel
theorem dX6_layLeft_59 : decode cX6_layLeft 59 = .ok (.iload 6, 2) := by decide +kernel
theorem dX6_layLeft_61 : decode cX6_layLeft 61 = .ok (.iconst 2, 1) := by decide +kernel
theorem dX6_layLeft_62 : decode cX6_layLeft 62 = .ok (.irem, 1) := by decide +kernel
theorem dX6_layLeft_63 : decode cX6_layLeft 63 = .ok (.iconst 1, 1) := by decide +kernel
theorem dX6_layLeft_64 : decode cX6_layLeft 64 = .ok (.if_icmp .ne 15, 3) := by decide +kernel
theorem dX6_layLeft_67 : decode cX6_layLeft 67 = .ok (.aload_n 0, 1) := by decide +kernel
theorem dX6_layLeft_68 : decode cX6_layLeft 68 = .ok (.getfield 22, 3) := by decide +kernel
theorem dX6_layLeft_71 : decode cX6_layLeft 71 = .ok (.iload 6, 2) := by decide +kernel
theorem dX6_layLeft_73 : decode cX6_layLeft 73 = .ok (.iaload, 1) := by decide +kernel
theorem dX6_layLeft_74 : decode cX6_layLeft 74 = .ok (.iload_n 2, 1) := by decide +kernel
theorem dX6_layLeft_75 : decode cX6_layLeft 75 = .ok (.iadd, 1) := by decide +kernel
theorem dX6_layLeft_76 : decode cX6_layLeft 76 = .ok (.goto 27, 3) := by decide +kernel
theorem dX6_layLeft_79 : decode cX6_layLeft 79 = .ok (.aload_n 0, 1) := by decide +kernel
theorem dX6_layLeft_80 : decode cX6_layLeft 80 = .ok (.getfield 22, 3) := by decide +kernel
theorem dX6_layLeft_83 : decode cX6_layLeft 83 = .ok (.iload 6, 2) := by decide +kernel
theorem dX6_layLeft_85 : decode cX6_layLeft 85 = .ok (.iaload, 1) := by decide +kernel
theorem dX6_layLeft_86 : decode cX6_layLeft 86 = .ok (.iload_n 2, 1) := by decide +kernel
theorem dX6_layLeft_87 : decode cX6_layLeft 87 = .ok (.if_icmp .le 15, 3) := by decide +kernel
theorem dX6_layLeft_90 : decode cX6_layLeft 90 = .ok (.aload_n 0, 1) := by decide +kernel
theorem dX6_layLeft_91 : decode cX6_layLeft 91 = .ok (.getfield 22, 3) := by decide +kernel
theorem dX6_layLeft_94 : decode cX6_layLeft 94 = .ok (.iload 6, 2) := by decide +kernel
theorem dX6_layLeft_96 : decode cX6_layLeft 96 = .ok (.iaload, 1) := by decide +kernel
theorem dX6_layLeft_97 : decode cX6_layLeft 97 = .ok (.iload_n 2, 1) := by decide +kernel
theorem dX6_layLeft_98 : decode cX6_layLeft 98 = .ok (.isub, 1) := by decide +kernel
theorem dX6_layLeft_99 : decode cX6_layLeft 99 = .ok (.goto 4, 3) := by decide +kernel
theorem dX6_layLeft_102 : decode cX6_layLeft 102 = .ok (.iconst 0, 1) := by decide +kernel
theorem dX6_layLeft_103 : decode cX6_layLeft 103 = .ok (.istore 7, 2) := by decide +kernel
theorem dX6_layLeft_105 : decode cX6_layLeft 105 = .ok (.iload 6, 2) := by decide +kernel
theorem dX6_layLeft_107 : decode cX6_layLeft 107 = .ok (.iconst 2, 1) := by decide +kernel
theorem dX6_layLeft_108 : decode cX6_layLeft 108 = .ok (.irem, 1) := by decide +kernel
theorem dX6_layLeft_109 : decode cX6_layLeft 109 = .ok (.ifCond .ne 17, 3) := by decide +kernel
theorem dX6_layLeft_112 : decode cX6_layLeft 112 = .ok (.iload_n 3, 1) := by decide +kernel
theorem dX6_layLeft_113 : decode cX6_layLeft 113 = .ok (.ifCond .ne 9, 3) := by decide +kernel
theorem dX6_layLeft_116 : decode cX6_layLeft 116 = .ok (.iload 7, 2) := by decide +kernel
theorem dX6_layLeft_118 : decode cX6_layLeft 118 = .ok (.iconst 2, 1) := by decide +kernel
theorem dX6_layLeft_119 : decode cX6_layLeft 119 = .ok (.if_icmp .ge 7, 3) := by decide +kernel
theorem dX6_layLeft_122 : decode cX6_layLeft 122 = .ok (.iconst 1, 1) := by decide +kernel
theorem dX6_layLeft_123 : decode cX6_layLeft 123 = .ok (.goto 4, 3) := by decide +kernel
theorem dX6_layLeft_126 : decode cX6_layLeft 126 = .ok (.iconst 0, 1) := by decide +kernel
theorem dX6_layLeft_127 : decode cX6_layLeft 127 = .ok (.istore 8, 2) := by decide +kernel
theorem dX6_layLeft_129 : decode cX6_layLeft 129 = .ok (.iload 4, 2) := by decide +kernel
theorem dX6_layLeft_131 : decode cX6_layLeft 131 = .ok (.ifCond .ne 8, 3) := by decide +kernel
theorem dX6_layLeft_134 : decode cX6_layLeft 134 = .ok (.iload 8, 2) := by decide +kernel
theorem dX6_layLeft_136 : decode cX6_layLeft 136 = .ok (.ifCond .eq 7, 3) := by decide +kernel
theorem dX6_layLeft_139 : decode cX6_layLeft 139 = .ok (.iconst 1, 1) := by decide +kernel
theorem dX6_layLeft_140 : decode cX6_layLeft 140 = .ok (.goto 4, 3) := by decide +kernel
theorem dX6_layLeft_143 : decode cX6_layLeft 143 = .ok (.iconst 0, 1) := by decide +kernel
theorem dX6_layLeft_144 : decode cX6_layLeft 144 = .ok (.istore 4, 2) := by decide +kernel
theorem dX6_layLeft_146 : decode cX6_layLeft 146 = .ok (.iload 6, 2) := by decide +kernel
theorem dX6_layLeft_148 : decode cX6_layLeft 148 = .ok (.iconst 2, 1) := by decide +kernel
theorem dX6_layLeft_149 : decode cX6_layLeft 149 = .ok (.irem, 1) := by decide +kernel
theorem dX6_layLeft_150 : decode cX6_layLeft 150 = .ok (.iconst 1, 1) := by decide +kernel
theorem dX6_layLeft_151 : decode cX6_layLeft 151 = .ok (.if_icmp .eq 8, 3) := by decide +kernel
theorem dX6_layLeft_154 : decode cX6_layLeft 154 = .ok (.iload 8, 2) := by decide +kernel
theorem dX6_layLeft_156 : decode cX6_layLeft 156 = .ok (.ifCond .eq 13, 3) := by decide +kernel
theorem dX6_layLeft_159 : decode cX6_layLeft 159 = .ok (.iload 5, 2) := by decide +kernel
theorem dX6_layLeft_161 : decode cX6_layLeft 161 = .ok (.iload 7, 2) := by decide +kernel
theorem dX6_layLeft_163 : decode cX6_layLeft 163 = .ok (.iadd, 1) := by decide +kernel
theorem dX6_layLeft_164 : decode cX6_layLeft 164 = .ok (.istore 5, 2) := by decide +kernel
theorem dX6_layLeft_166 : decode cX6_layLeft 166 = .ok (.goto 55, 3) := by decide +kernel
theorem dX6_layLeft_169 : decode cX6_layLeft 169 = .ok (.aload_n 0, 1) := by decide +kernel
theorem dX6_layLeft_170 : decode cX6_layLeft 170 = .ok (.getfield 46, 3) := by decide +kernel
theorem dX6_layLeft_173 : decode cX6_layLeft 173 = .ok (.ifCond .le 24, 3) := by decide +kernel
theorem dX6_layLeft_176 : decode cX6_layLeft 176 = .ok (.aload_n 0, 1) := by decide +kernel
theorem dX6_layLeft_177 : decode cX6_layLeft 177 = .ok (.getfield 25, 3) := by decide +kernel
theorem dX6_layLeft_180 : decode cX6_layLeft 180 = .ok (.aload_n 0, 1) := by decide +kernel
theorem dX6_layLeft_181 : decode cX6_layLeft 181 = .ok (.getfield 46, 3) := by decide +kernel
theorem dX6_layLeft_184 : decode cX6_layLeft 184 = .ok (.iload 5, 2) := by decide +kernel
theorem dX6_layLeft_186 : decode cX6_layLeft 186 = .ok (.iastore, 1) := by decide +kernel
theorem dX6_layLeft_187 : decode cX6_layLeft 187 = .ok (.aload_n 0, 1) := by decide +kernel
theorem dX6_layLeft_188 : decode cX6_layLeft 188 = .ok (.dup, 1) := by decide +kernel
theorem dX6_layLeft_189 : decode cX6_layLeft 189 = .ok (.getfield 46, 3) := by decide +kernel
theorem dX6_layLeft_192 : decode cX6_layLeft 192 = .ok (.iconst 1, 1) := by decide +kernel
theorem dX6_layLeft_193 : decode cX6_layLeft 193 = .ok (.iadd, 1) := by decide +kernel
theorem dX6_layLeft_194 : decode cX6_layLeft 194 = .ok (.putfield 46, 3) := by decide +kernel
theorem dX6_layLeft_197 : decode cX6_layLeft 197 = .ok (.aload_n 0, 1) := by decide +kernel
theorem dX6_layLeft_198 : decode cX6_layLeft 198 = .ok (.getfield 25, 3) := by decide +kernel
theorem dX6_layLeft_201 : decode cX6_layLeft 201 = .ok (.aload_n 0, 1) := by decide +kernel
theorem dX6_layLeft_202 : decode cX6_layLeft 202 = .ok (.getfield 46, 3) := by decide +kernel
theorem dX6_layLeft_205 : decode cX6_layLeft 205 = .ok (.iload 7, 2) := by decide +kernel
theorem dX6_layLeft_207 : decode cX6_layLeft 207 = .ok (.iastore, 1) := by decide +kernel
theorem dX6_layLeft_208 : decode cX6_layLeft 208 = .ok (.aload_n 0, 1) := by decide +kernel
theorem dX6_layLeft_209 : decode cX6_layLeft 209 = .ok (.dup, 1) := by decide +kernel
theorem dX6_layLeft_210 : decode cX6_layLeft 210 = .ok (.getfield 46, 3) := by decide +kernel
theorem dX6_layLeft_213 : decode cX6_layLeft 213 = .ok (.iconst 1, 1) := by decide +kernel
theorem dX6_layLeft_214 : decode cX6_layLeft 214 = .ok (.iadd, 1) := by decide +kernel
theorem dX6_layLeft_215 : decode cX6_layLeft 215 = .ok (.putfield 46, 3) := by decide +kernel
theorem dX6_layLeft_218 : decode cX6_layLeft 218 = .ok (.iconst 0, 1) := by decide +kernel
theorem dX6_layLeft_219 : decode cX6_layLeft 219 = .ok (.istore 5, 2) := by decide +kernel
theorem dX6_layLeft_221 : decode cX6_layLeft 221 = .ok (.iinc 6 1, 3) := by decide +kernel
theorem dX6_layLeft_224 : decode cX6_layLeft 224 = .ok (.goto (-174), 3) := by decide +kernel
theorem dX6_layLeft_227 : decode cX6_layLeft 227 = .ok (.iload 4, 2) := by decide +kernel
theorem dX6_layLeft_229 : decode cX6_layLeft 229 = .ok (.ireturn, 1) := by decide +kernel
theorem dX6_isRemembered_0 : decode cX6_isRemembered 0 = .ok (.aload_n 0, 1) := by decide +kernel
theorem dX6_isRemembered_1 : decode cX6_isRemembered 1 = .ok (.getfield 7, 3) := by decide +kernel
theorem dX6_isRemembered_4 : decode cX6_isRemembered 4 = .ok (.iconst 3, 1) := by decide +kernel
theorem dX6_isRemembered_5 : decode cX6_isRemembered 5 = .ok (.iaload, 1) := by decide +kernel
theorem dX6_isRemembered_6 : decode cX6_isRemembered 6 = .ok (.ifCond .lt 19, 3) := by decide +kernel
theorem dX6_isRemembered_9 : decode cX6_isRemembered 9 = .ok (.aload_n 0, 1) := by decide +kernel
theorem dX6_isRemembered_10 : decode cX6_isRemembered 10 = .ok (.getfield 7, 3) := by decide +kernel
theorem dX6_isRemembered_13 : decode cX6_isRemembered 13 = .ok (.bipush 6, 2) := by decide +kernel
theorem dX6_isRemembered_15 : decode cX6_isRemembered 15 = .ok (.iaload, 1) := by decide +kernel
theorem dX6_isRemembered_16 : decode cX6_isRemembered 16 = .ok (.bipush 60, 2) := by decide +kernel
theorem dX6_isRemembered_18 : decode cX6_isRemembered 18 = .ok (.if_icmp .gt 7, 3) := by decide +kernel
theorem dX6_isRemembered_21 : decode cX6_isRemembered 21 = .ok (.iconst 1, 1) := by decide +kernel
theorem dX6_isRemembered_22 : decode cX6_isRemembered 22 = .ok (.goto 4, 3) := by decide +kernel
theorem dX6_isRemembered_25 : decode cX6_isRemembered 25 = .ok (.iconst 0, 1) := by decide +kernel
theorem dX6_isRemembered_26 : decode cX6_isRemembered 26 = .ok (.ireturn, 1) := by decide +kernel
theorem dX6_refuse_0 : decode cX6_refuse 0 = .ok (.aload_n 0, 1) := by decide +kernel
theorem dX6_refuse_1 : decode cX6_refuse 1 = .ok (.getfield 7, 3) := by decide +kernel
theorem dX6_refuse_4 : decode cX6_refuse 4 = .ok (.bipush 9, 2) := by decide +kernel
theorem dX6_refuse_6 : decode cX6_refuse 6 = .ok (.iload_n 1, 1) := by decide +kernel
theorem dX6_refuse_7 : decode cX6_refuse 7 = .ok (.iadd, 1) := by decide +kernel
theorem dX6_refuse_8 : decode cX6_refuse 8 = .ok (.dup2, 1) := by decide +kernel
theorem dX6_refuse_9 : decode cX6_refuse 9 = .ok (.iaload, 1) := by decide +kernel
theorem dX6_refuse_10 : decode cX6_refuse 10 = .ok (.iconst 1, 1) := by decide +kernel
theorem dX6_refuse_11 : decode cX6_refuse 11 = .ok (.iadd, 1) := by decide +kernel
theorem dX6_refuse_12 : decode cX6_refuse 12 = .ok (.iastore, 1) := by decide +kernel
theorem dX6_refuse_13 : decode cX6_refuse 13 = .ok (.iload_n 1, 1) := by decide +kernel
theorem dX6_refuse_14 : decode cX6_refuse 14 = .ok (.ireturn, 1) := by decide +kernel
theorem dX6_hold_0 : decode cX6_hold 0 = .ok (.aload_n 0, 1) := by decide +kernel
theorem dX6_hold_1 : decode cX6_hold 1 = .ok (.getfield 7, 3) := by decide +kernel
theorem dX6_hold_4 : decode cX6_hold 4 = .ok (.bipush 6, 2) := by decide +kernel
theorem dX6_hold_6 : decode cX6_hold 6 = .ok (.iconst 0, 1) := by decide +kernel
theorem dX6_hold_7 : decode cX6_hold 7 = .ok (.iastore, 1) := by decide +kernel
theorem dX6_hold_8 : decode cX6_hold 8 = .ok (.aload_n 0, 1) := by decide +kernel
theorem dX6_hold_9 : decode cX6_hold 9 = .ok (.getfield 7, 3) := by decide +kernel
theorem dX6_hold_12 : decode cX6_hold 12 = .ok (.iconst 5, 1) := by decide +kernel
theorem dX6_hold_13 : decode cX6_hold 13 = .ok (.dup2, 1) := by decide +kernel
theorem dX6_hold_14 : decode cX6_hold 14 = .ok (.iaload, 1) := by decide +kernel
theorem dX6_hold_15 : decode cX6_hold 15 = .ok (.iconst 1, 1) := by decide +kernel
theorem dX6_hold_16 : decode cX6_hold 16 = .ok (.iadd, 1) := by decide +kernel
theorem dX6_hold_17 : decode cX6_hold 17 = .ok (.iastore, 1) := by decide +kernel
theorem dX6_hold_18 : decode cX6_hold 18 = .ok (.aload_n 0, 1) := by decide +kernel
theorem dX6_hold_19 : decode cX6_hold 19 = .ok (.getfield 7, 3) := by decide +kernel
theorem dX6_hold_22 : decode cX6_hold 22 = .ok (.bipush 32, 2) := by decide +kernel
theorem dX6_hold_24 : decode cX6_hold 24 = .ok (.aload_n 0, 1) := by decide +kernel
theorem dX6_hold_25 : decode cX6_hold 25 = .ok (.getfield 7, 3) := by decide +kernel
theorem dX6_hold_28 : decode cX6_hold 28 = .ok (.iconst 3, 1) := by decide +kernel
theorem dX6_hold_29 : decode cX6_hold 29 = .ok (.iaload, 1) := by decide +kernel
theorem dX6_hold_30 : decode cX6_hold 30 = .ok (.iadd, 1) := by decide +kernel
theorem dX6_hold_31 : decode cX6_hold 31 = .ok (.dup2, 1) := by decide +kernel
theorem dX6_hold_32 : decode cX6_hold 32 = .ok (.iaload, 1) := by decide +kernel
theorem dX6_hold_33 : decode cX6_hold 33 = .ok (.aload_n 0, 1) := by decide +kernel
theorem dX6_hold_34 : decode cX6_hold 34 = .ok (.getfield 7, 3) := by decide +kernel
theorem dX6_hold_37 : decode cX6_hold 37 = .ok (.bipush 16, 2) := by decide +kernel
theorem dX6_hold_39 : decode cX6_hold 39 = .ok (.aload_n 0, 1) := by decide +kernel
theorem dX6_hold_40 : decode cX6_hold 40 = .ok (.getfield 7, 3) := by decide +kernel
theorem dX6_hold_43 : decode cX6_hold 43 = .ok (.iconst 3, 1) := by decide +kernel
theorem dX6_hold_44 : decode cX6_hold 44 = .ok (.iaload, 1) := by decide +kernel
theorem dX6_hold_45 : decode cX6_hold 45 = .ok (.iadd, 1) := by decide +kernel
theorem dX6_hold_46 : decode cX6_hold 46 = .ok (.iaload, 1) := by decide +kernel
theorem dX6_hold_47 : decode cX6_hold 47 = .ok (.iconst 2, 1) := by decide +kernel
theorem dX6_hold_48 : decode cX6_hold 48 = .ok (.if_icmp .ne 18, 3) := by decide +kernel
theorem dX6_hold_51 : decode cX6_hold 51 = .ok (.aload_n 0, 1) := by decide +kernel
theorem dX6_hold_52 : decode cX6_hold 52 = .ok (.getfield 7, 3) := by decide +kernel
theorem dX6_hold_55 : decode cX6_hold 55 = .ok (.iconst 5, 1) := by decide +kernel
theorem dX6_hold_56 : decode cX6_hold 56 = .ok (.iaload, 1) := by decide +kernel
theorem dX6_hold_57 : decode cX6_hold 57 = .ok (.iconst 2, 1) := by decide +kernel
theorem dX6_hold_58 : decode cX6_hold 58 = .ok (.irem, 1) := by decide +kernel
theorem dX6_hold_59 : decode cX6_hold 59 = .ok (.ifCond .ne 7, 3) := by decide +kernel
theorem dX6_hold_62 : decode cX6_hold 62 = .ok (.iconst 1, 1) := by decide +kernel
theorem dX6_hold_63 : decode cX6_hold 63 = .ok (.goto 4, 3) := by decide +kernel
theorem dX6_hold_66 : decode cX6_hold 66 = .ok (.iconst 0, 1) := by decide +kernel
theorem dX6_hold_67 : decode cX6_hold 67 = .ok (.iadd, 1) := by decide +kernel
theorem dX6_hold_68 : decode cX6_hold 68 = .ok (.iastore, 1) := by decide +kernel
theorem dX6_hold_69 : decode cX6_hold 69 = .ok (.iconst (-1), 1) := by decide +kernel
theorem dX6_hold_70 : decode cX6_hold 70 = .ok (.ireturn, 1) := by decide +kernel
set_option maxRecDepth 20000 in
theorem ggX6_accept_X6_isRemembered : GoodIn wsX6_accept wsX6_isRemembered := goodIn_r _ [6, 1, 11, 12, 13, 14, 15, 16, 17, 18, 19, 20, 21, 22, 23] (by decide +kernel) (by decide +kernel)
set_option maxRecDepth 20000 in
theorem gX6_accept_X6_isRemembered : GoodIn wsX6_accept (wsV RX6 49 RX6 yX6_isRemembered wsX6_isRemembered) := goodIn_app (goodIn_of _ (by decide +kernel)) ggX6_accept_X6_isRemembered
set_option maxRecDepth 20000 in
theorem ggX6_accept_X6_hold : GoodIn wsX6_accept wsX6_hold := goodIn_r _ [10, 1, 11, 12, 13, 14, 15, 16, 17, 18, 19, 20, 21, 22, 23] (by decide +kernel) (by decide +kernel)
set_option maxRecDepth 20000 in
theorem gX6_accept_X6_hold : GoodIn wsX6_accept (wsV RX6 53 RX6 yX6_hold wsX6_hold) := goodIn_app (goodIn_of _ (by decide +kernel)) ggX6_accept_X6_hold
theorem dX6_accept_0 : decode cX6_accept 0 = .ok (.aload_n 0, 1) := by decide +kernel
theorem dX6_accept_1 : decode cX6_accept 1 = .ok (.invokevirtual 49, 3) := by decide +kernel
theorem dX6_accept_4 : decode cX6_accept 4 = .ok (.ifCond .eq 28, 3) := by decide +kernel
theorem dX6_accept_7 : decode cX6_accept 7 = .ok (.aload_n 0, 1) := by decide +kernel
theorem dX6_accept_8 : decode cX6_accept 8 = .ok (.getfield 7, 3) := by decide +kernel
theorem dX6_accept_11 : decode cX6_accept 11 = .ok (.iconst 3, 1) := by decide +kernel
theorem dX6_accept_12 : decode cX6_accept 12 = .ok (.iaload, 1) := by decide +kernel
theorem dX6_accept_13 : decode cX6_accept 13 = .ok (.iload_n 1, 1) := by decide +kernel
theorem dX6_accept_14 : decode cX6_accept 14 = .ok (.if_icmp .ne 18, 3) := by decide +kernel
theorem dX6_accept_17 : decode cX6_accept 17 = .ok (.aload_n 0, 1) := by decide +kernel
theorem dX6_accept_18 : decode cX6_accept 18 = .ok (.getfield 7, 3) := by decide +kernel
theorem dX6_accept_21 : decode cX6_accept 21 = .ok (.iconst 4, 1) := by decide +kernel
theorem dX6_accept_22 : decode cX6_accept 22 = .ok (.iaload, 1) := by decide +kernel
theorem dX6_accept_23 : decode cX6_accept 23 = .ok (.iload_n 2, 1) := by decide +kernel
theorem dX6_accept_24 : decode cX6_accept 24 = .ok (.if_icmp .ne 8, 3) := by decide +kernel
theorem dX6_accept_27 : decode cX6_accept 27 = .ok (.aload_n 0, 1) := by decide +kernel
theorem dX6_accept_28 : decode cX6_accept 28 = .ok (.invokevirtual 53, 3) := by decide +kernel
theorem dX6_accept_31 : decode cX6_accept 31 = .ok (.ireturn, 1) := by decide +kernel
theorem dX6_accept_32 : decode cX6_accept 32 = .ok (.aload_n 0, 1) := by decide +kernel
theorem dX6_accept_33 : decode cX6_accept 33 = .ok (.getfield 7, 3) := by decide +kernel
theorem dX6_accept_36 : decode cX6_accept 36 = .ok (.bipush 6, 2) := by decide +kernel
theorem dX6_accept_38 : decode cX6_accept 38 = .ok (.iconst 0, 1) := by decide +kernel
theorem dX6_accept_39 : decode cX6_accept 39 = .ok (.iastore, 1) := by decide +kernel
theorem dX6_accept_40 : decode cX6_accept 40 = .ok (.aload_n 0, 1) := by decide +kernel
theorem dX6_accept_41 : decode cX6_accept 41 = .ok (.getfield 7, 3) := by decide +kernel
theorem dX6_accept_44 : decode cX6_accept 44 = .ok (.iconst 3, 1) := by decide +kernel
theorem dX6_accept_45 : decode cX6_accept 45 = .ok (.iload_n 1, 1) := by decide +kernel
theorem dX6_accept_46 : decode cX6_accept 46 = .ok (.iastore, 1) := by decide +kernel
theorem dX6_accept_47 : decode cX6_accept 47 = .ok (.aload_n 0, 1) := by decide +kernel
theorem dX6_accept_48 : decode cX6_accept 48 = .ok (.getfield 7, 3) := by decide +kernel
theorem dX6_accept_51 : decode cX6_accept 51 = .ok (.iconst 4, 1) := by decide +kernel
theorem dX6_accept_52 : decode cX6_accept 52 = .ok (.iload_n 2, 1) := by decide +kernel
theorem dX6_accept_53 : decode cX6_accept 53 = .ok (.iastore, 1) := by decide +kernel
theorem dX6_accept_54 : decode cX6_accept 54 = .ok (.aload_n 0, 1) := by decide +kernel
theorem dX6_accept_55 : decode cX6_accept 55 = .ok (.getfield 7, 3) := by decide +kernel
theorem dX6_accept_58 : decode cX6_accept 58 = .ok (.iconst 5, 1) := by decide +kernel
theorem dX6_accept_59 : decode cX6_accept 59 = .ok (.iconst 0, 1) := by decide +kernel
theorem dX6_accept_60 : decode cX6_accept 60 = .ok (.iastore, 1) := by decide +kernel
theorem dX6_accept_61 : decode cX6_accept 61 = .ok (.aload_n 0, 1) := by decide +kernel
theorem dX6_accept_62 : decode cX6_accept 62 = .ok (.getfield 7, 3) := by decide +kernel
theorem dX6_accept_65 : decode cX6_accept 65 = .ok (.bipush 7, 2) := by decide +kernel
theorem dX6_accept_67 : decode cX6_accept 67 = .ok (.dup2, 1) := by decide +kernel
theorem dX6_accept_68 : decode cX6_accept 68 = .ok (.iaload, 1) := by decide +kernel
theorem dX6_accept_69 : decode cX6_accept 69 = .ok (.iconst 1, 1) := by decide +kernel
theorem dX6_accept_70 : decode cX6_accept 70 = .ok (.iadd, 1) := by decide +kernel
theorem dX6_accept_71 : decode cX6_accept 71 = .ok (.iastore, 1) := by decide +kernel
theorem dX6_accept_72 : decode cX6_accept 72 = .ok (.aload_n 0, 1) := by decide +kernel
theorem dX6_accept_73 : decode cX6_accept 73 = .ok (.getfield 7, 3) := by decide +kernel
theorem dX6_accept_76 : decode cX6_accept 76 = .ok (.bipush 32, 2) := by decide +kernel
theorem dX6_accept_78 : decode cX6_accept 78 = .ok (.iload_n 1, 1) := by decide +kernel
theorem dX6_accept_79 : decode cX6_accept 79 = .ok (.iadd, 1) := by decide +kernel
theorem dX6_accept_80 : decode cX6_accept 80 = .ok (.dup2, 1) := by decide +kernel
theorem dX6_accept_81 : decode cX6_accept 81 = .ok (.iaload, 1) := by decide +kernel
theorem dX6_accept_82 : decode cX6_accept 82 = .ok (.aload_n 0, 1) := by decide +kernel
theorem dX6_accept_83 : decode cX6_accept 83 = .ok (.getfield 7, 3) := by decide +kernel
theorem dX6_accept_86 : decode cX6_accept 86 = .ok (.bipush 16, 2) := by decide +kernel
theorem dX6_accept_88 : decode cX6_accept 88 = .ok (.iload_n 1, 1) := by decide +kernel
theorem dX6_accept_89 : decode cX6_accept 89 = .ok (.iadd, 1) := by decide +kernel
theorem dX6_accept_90 : decode cX6_accept 90 = .ok (.iaload, 1) := by decide +kernel
theorem dX6_accept_91 : decode cX6_accept 91 = .ok (.ifCond .le 7, 3) := by decide +kernel
theorem dX6_accept_94 : decode cX6_accept 94 = .ok (.iconst 1, 1) := by decide +kernel
theorem dX6_accept_95 : decode cX6_accept 95 = .ok (.goto 4, 3) := by decide +kernel
theorem dX6_accept_98 : decode cX6_accept 98 = .ok (.iconst 0, 1) := by decide +kernel
theorem dX6_accept_99 : decode cX6_accept 99 = .ok (.iadd, 1) := by decide +kernel
theorem dX6_accept_100 : decode cX6_accept 100 = .ok (.iastore, 1) := by decide +kernel
theorem dX6_accept_101 : decode cX6_accept 101 = .ok (.iconst 0, 1) := by decide +kernel
theorem dX6_accept_102 : decode cX6_accept 102 = .ok (.ireturn, 1) := by decide +kernel
set_option maxRecDepth 20000 in
theorem ggX6_decode_X6_refuse : GoodIn wsX6_decode wsX6_refuse := goodIn_r _ [8, 3, 24, 25, 26, 27, 28, 29, 30, 31, 32, 33, 34, 35, 36] (by decide +kernel) (by decide +kernel)
set_option maxRecDepth 20000 in
theorem gX6_decode_X6_refuse : GoodIn wsX6_decode (wsV RX6 57 RX6 yX6_refuse wsX6_refuse) := goodIn_app (goodIn_of _ (by decide +kernel)) ggX6_decode_X6_refuse
set_option maxRecDepth 20000 in
theorem ggX6_decode_X6_in : GoodIn wsX6_decode wsX6_in := goodIn_r _ [11] (by decide +kernel) (by decide +kernel)
set_option maxRecDepth 20000 in
theorem gX6_decode_X6_in : GoodIn wsX6_decode (va_wsS RX6 35 yX6_in wsX6_in) := goodIn_app (goodIn_of _ (by decide +kernel)) ggX6_decode_X6_in
set_option maxRecDepth 20000 in
theorem ggX6_decode_X6_isRemembered : GoodIn wsX6_decode wsX6_isRemembered := goodIn_r _ [15, 3, 24, 25, 26, 27, 28, 29, 30, 31, 32, 33, 34, 35, 36] (by decide +kernel) (by decide +kernel)
set_option maxRecDepth 20000 in
theorem gX6_decode_X6_isRemembered : GoodIn wsX6_decode (wsV RX6 49 RX6 yX6_isRemembered wsX6_isRemembered) := goodIn_app (goodIn_of _ (by decide +kernel)) ggX6_decode_X6_isRemembered
set_option maxRecDepth 20000 in
theorem ggX6_decode_X6_hold : GoodIn wsX6_decode wsX6_hold := goodIn_r _ [19, 3, 24, 25, 26, 27, 28, 29, 30, 31, 32, 33, 34, 35, 36] (by decide +kernel) (by decide +kernel)
set_option maxRecDepth 20000 in
theorem gX6_decode_X6_hold : GoodIn wsX6_decode (wsV RX6 53 RX6 yX6_hold wsX6_hold) := goodIn_app (goodIn_of _ (by decide +kernel)) ggX6_decode_X6_hold
set_option maxRecDepth 20000 in
theorem ggX6_decode_X6_accept : GoodIn wsX6_decode wsX6_accept := goodIn_r _ [23, 3, 12, 13, 14, 7, 15, 16, 17, 18, 19, 24, 25, 26, 27, 28, 29, 30, 31, 32, 33, 34, 35, 36] (by decide +kernel) (by decide +kernel)
set_option maxRecDepth 20000 in
theorem gX6_decode_X6_accept : GoodIn wsX6_decode (wsV RX6 61 RX6 yX6_accept wsX6_accept) := goodIn_app (goodIn_of _ (by decide +kernel)) ggX6_decode_X6_accept
theorem dX6_decode_0 : decode cX6_decode 0 = .ok (.aload_n 0, 1) := by decide +kernel
theorem dX6_decode_1 : decode cX6_decode 1 = .ok (.getfield 46, 3) := by decide +kernel
theorem dX6_decode_4 : decode cX6_decode 4 = .ok (.iconst 1, 1) := by decide +kernel
theorem dX6_decode_5 : decode cX6_decode 5 = .ok (.iadd, 1) := by decide +kernel
theorem dX6_decode_6 : decode cX6_decode 6 = .ok (.iconst 2, 1) := by decide +kernel
theorem dX6_decode_7 : decode cX6_decode 7 = .ok (.idiv, 1) := by decide +kernel
theorem dX6_decode_8 : decode cX6_decode 8 = .ok (.istore_n 1, 1) := by decide +kernel
theorem dX6_decode_9 : decode cX6_decode 9 = .ok (.iload_n 1, 1) := by decide +kernel
theorem dX6_decode_10 : decode cX6_decode 10 = .ok (.iconst 2, 1) := by decide +kernel
theorem dX6_decode_11 : decode cX6_decode 11 = .ok (.if_icmp .eq 15, 3) := by decide +kernel
theorem dX6_decode_14 : decode cX6_decode 14 = .ok (.iload_n 1, 1) := by decide +kernel
theorem dX6_decode_15 : decode cX6_decode 15 = .ok (.bipush 11, 2) := by decide +kernel
theorem dX6_decode_17 : decode cX6_decode 17 = .ok (.if_icmp .eq 9, 3) := by decide +kernel
theorem dX6_decode_20 : decode cX6_decode 20 = .ok (.aload_n 0, 1) := by decide +kernel
theorem dX6_decode_21 : decode cX6_decode 21 = .ok (.iconst 1, 1) := by decide +kernel
theorem dX6_decode_22 : decode cX6_decode 22 = .ok (.invokevirtual 57, 3) := by decide +kernel
theorem dX6_decode_25 : decode cX6_decode 25 = .ok (.ireturn, 1) := by decide +kernel
theorem dX6_decode_26 : decode cX6_decode 26 = .ok (.aload_n 0, 1) := by decide +kernel
theorem dX6_decode_27 : decode cX6_decode 27 = .ok (.getfield 25, 3) := by decide +kernel
theorem dX6_decode_30 : decode cX6_decode 30 = .ok (.iconst 0, 1) := by decide +kernel
theorem dX6_decode_31 : decode cX6_decode 31 = .ok (.iaload, 1) := by decide +kernel
theorem dX6_decode_32 : decode cX6_decode 32 = .ok (.bipush 10, 2) := by decide +kernel
theorem dX6_decode_34 : decode cX6_decode 34 = .ok (.bipush 20, 2) := by decide +kernel
theorem dX6_decode_36 : decode cX6_decode 36 = .ok (.invokestatic 35, 3) := by decide +kernel
theorem dX6_decode_39 : decode cX6_decode 39 = .ok (.ifCond .ne 9, 3) := by decide +kernel
theorem dX6_decode_42 : decode cX6_decode 42 = .ok (.aload_n 0, 1) := by decide +kernel
theorem dX6_decode_43 : decode cX6_decode 43 = .ok (.iconst 2, 1) := by decide +kernel
theorem dX6_decode_44 : decode cX6_decode 44 = .ok (.invokevirtual 57, 3) := by decide +kernel
theorem dX6_decode_47 : decode cX6_decode 47 = .ok (.ireturn, 1) := by decide +kernel
theorem dX6_decode_48 : decode cX6_decode 48 = .ok (.iload_n 1, 1) := by decide +kernel
theorem dX6_decode_49 : decode cX6_decode 49 = .ok (.iconst 2, 1) := by decide +kernel
theorem dX6_decode_50 : decode cX6_decode 50 = .ok (.if_icmp .ne 43, 3) := by decide +kernel
theorem dX6_decode_53 : decode cX6_decode 53 = .ok (.aload_n 0, 1) := by decide +kernel
theorem dX6_decode_54 : decode cX6_decode 54 = .ok (.getfield 25, 3) := by decide +kernel
theorem dX6_decode_57 : decode cX6_decode 57 = .ok (.iconst 1, 1) := by decide +kernel
theorem dX6_decode_58 : decode cX6_decode 58 = .ok (.iaload, 1) := by decide +kernel
theorem dX6_decode_59 : decode cX6_decode 59 = .ok (.bipush 7, 2) := by decide +kernel
theorem dX6_decode_61 : decode cX6_decode 61 = .ok (.if_icmp .lt 11, 3) := by decide +kernel
theorem dX6_decode_64 : decode cX6_decode 64 = .ok (.aload_n 0, 1) := by decide +kernel
theorem dX6_decode_65 : decode cX6_decode 65 = .ok (.iconst 3, 1) := by decide +kernel
theorem dX6_decode_66 : decode cX6_decode 66 = .ok (.invokevirtual 57, 3) := by decide +kernel
theorem dX6_decode_69 : decode cX6_decode 69 = .ok (.goto 23, 3) := by decide +kernel
theorem dX6_decode_72 : decode cX6_decode 72 = .ok (.aload_n 0, 1) := by decide +kernel
theorem dX6_decode_73 : decode cX6_decode 73 = .ok (.invokevirtual 49, 3) := by decide +kernel
theorem dX6_decode_76 : decode cX6_decode 76 = .ok (.ifCond .eq 10, 3) := by decide +kernel
theorem dX6_decode_79 : decode cX6_decode 79 = .ok (.aload_n 0, 1) := by decide +kernel
theorem dX6_decode_80 : decode cX6_decode 80 = .ok (.invokevirtual 53, 3) := by decide +kernel
theorem dX6_decode_83 : decode cX6_decode 83 = .ok (.goto 9, 3) := by decide +kernel
theorem dX6_decode_86 : decode cX6_decode 86 = .ok (.aload_n 0, 1) := by decide +kernel
theorem dX6_decode_87 : decode cX6_decode 87 = .ok (.bipush 6, 2) := by decide +kernel
theorem dX6_decode_89 : decode cX6_decode 89 = .ok (.invokevirtual 57, 3) := by decide +kernel
theorem dX6_decode_92 : decode cX6_decode 92 = .ok (.ireturn, 1) := by decide +kernel
theorem dX6_decode_93 : decode cX6_decode 93 = .ok (.iconst 0, 1) := by decide +kernel
theorem dX6_decode_94 : decode cX6_decode 94 = .ok (.istore_n 2, 1) := by decide +kernel
theorem dX6_decode_95 : decode cX6_decode 95 = .ok (.iconst 0, 1) := by decide +kernel
theorem dX6_decode_96 : decode cX6_decode 96 = .ok (.istore_n 3, 1) := by decide +kernel
theorem dX6_decode_97 : decode cX6_decode 97 = .ok (.iconst 0, 1) := by decide +kernel
theorem dX6_decode_98 : decode cX6_decode 98 = .ok (.istore 4, 2) := by decide +kernel
theorem dX6_decode_100 : decode cX6_decode 100 = .ok (.iload 4, 2) := by decide +kernel
theorem dX6_decode_102 : decode cX6_decode 102 = .ok (.bipush 9, 2) := by decide +kernel
theorem dX6_decode_104 : decode cX6_decode 104 = .ok (.if_icmp .ge 44, 3) := by decide +kernel
theorem dX6_decode_107 : decode cX6_decode 107 = .ok (.aload_n 0, 1) := by decide +kernel
theorem dX6_decode_108 : decode cX6_decode 108 = .ok (.getfield 25, 3) := by decide +kernel
theorem dX6_decode_111 : decode cX6_decode 111 = .ok (.iconst 3, 1) := by decide +kernel
theorem dX6_decode_112 : decode cX6_decode 112 = .ok (.iconst 2, 1) := by decide +kernel
theorem dX6_decode_113 : decode cX6_decode 113 = .ok (.iload 4, 2) := by decide +kernel
theorem dX6_decode_115 : decode cX6_decode 115 = .ok (.imul, 1) := by decide +kernel
theorem dX6_decode_116 : decode cX6_decode 116 = .ok (.iadd, 1) := by decide +kernel
theorem dX6_decode_117 : decode cX6_decode 117 = .ok (.iaload, 1) := by decide +kernel
theorem dX6_decode_118 : decode cX6_decode 118 = .ok (.bipush 9, 2) := by decide +kernel
theorem dX6_decode_120 : decode cX6_decode 120 = .ok (.if_icmp .ge 7, 3) := by decide +kernel
theorem dX6_decode_123 : decode cX6_decode 123 = .ok (.iconst 0, 1) := by decide +kernel
theorem dX6_decode_124 : decode cX6_decode 124 = .ok (.goto 4, 3) := by decide +kernel
theorem dX6_decode_127 : decode cX6_decode 127 = .ok (.iconst 1, 1) := by decide +kernel
theorem dX6_decode_128 : decode cX6_decode 128 = .ok (.istore 5, 2) := by decide +kernel
theorem dX6_decode_130 : decode cX6_decode 130 = .ok (.iconst 2, 1) := by decide +kernel
theorem dX6_decode_131 : decode cX6_decode 131 = .ok (.iload_n 2, 1) := by decide +kernel
theorem dX6_decode_132 : decode cX6_decode 132 = .ok (.imul, 1) := by decide +kernel
theorem dX6_decode_133 : decode cX6_decode 133 = .ok (.iload 5, 2) := by decide +kernel
theorem dX6_decode_135 : decode cX6_decode 135 = .ok (.iadd, 1) := by decide +kernel
theorem dX6_decode_136 : decode cX6_decode 136 = .ok (.istore_n 2, 1) := by decide +kernel
theorem dX6_decode_137 : decode cX6_decode 137 = .ok (.iload_n 3, 1) := by decide +kernel
theorem dX6_decode_138 : decode cX6_decode 138 = .ok (.iload 5, 2) := by decide +kernel
theorem dX6_decode_140 : decode cX6_decode 140 = .ok (.iadd, 1) := by decide +kernel
theorem dX6_decode_141 : decode cX6_decode 141 = .ok (.istore_n 3, 1) := by decide +kernel
theorem dX6_decode_142 : decode cX6_decode 142 = .ok (.iinc 4 1, 3) := by decide +kernel
theorem dX6_decode_145 : decode cX6_decode 145 = .ok (.goto (-45), 3) := by decide +kernel
theorem dX6_decode_148 : decode cX6_decode 148 = .ok (.iload_n 3, 1) := by decide +kernel
theorem dX6_decode_149 : decode cX6_decode 149 = .ok (.iconst 2, 1) := by decide +kernel
theorem dX6_decode_150 : decode cX6_decode 150 = .ok (.irem, 1) := by decide +kernel
theorem dX6_decode_151 : decode cX6_decode 151 = .ok (.iconst 1, 1) := by decide +kernel
theorem dX6_decode_152 : decode cX6_decode 152 = .ok (.if_icmp .ne 9, 3) := by decide +kernel
theorem dX6_decode_155 : decode cX6_decode 155 = .ok (.aload_n 0, 1) := by decide +kernel
theorem dX6_decode_156 : decode cX6_decode 156 = .ok (.iconst 4, 1) := by decide +kernel
theorem dX6_decode_157 : decode cX6_decode 157 = .ok (.invokevirtual 57, 3) := by decide +kernel
theorem dX6_decode_160 : decode cX6_decode 160 = .ok (.ireturn, 1) := by decide +kernel
theorem dX6_decode_161 : decode cX6_decode 161 = .ok (.iload_n 2, 1) := by decide +kernel
theorem dX6_decode_162 : decode cX6_decode 162 = .ok (.bipush 64, 2) := by decide +kernel
theorem dX6_decode_164 : decode cX6_decode 164 = .ok (.idiv, 1) := by decide +kernel
theorem dX6_decode_165 : decode cX6_decode 165 = .ok (.aload_n 0, 1) := by decide +kernel
theorem dX6_decode_166 : decode cX6_decode 166 = .ok (.getfield 7, 3) := by decide +kernel
theorem dX6_decode_169 : decode cX6_decode 169 = .ok (.iconst 2, 1) := by decide +kernel
theorem dX6_decode_170 : decode cX6_decode 170 = .ok (.iaload, 1) := by decide +kernel
theorem dX6_decode_171 : decode cX6_decode 171 = .ok (.if_icmp .eq 11, 3) := by decide +kernel
theorem dX6_decode_174 : decode cX6_decode 174 = .ok (.aload_n 0, 1) := by decide +kernel
theorem dX6_decode_175 : decode cX6_decode 175 = .ok (.iconst 5, 1) := by decide +kernel
theorem dX6_decode_176 : decode cX6_decode 176 = .ok (.invokevirtual 57, 3) := by decide +kernel
theorem dX6_decode_179 : decode cX6_decode 179 = .ok (.goto 18, 3) := by decide +kernel
theorem dX6_decode_182 : decode cX6_decode 182 = .ok (.aload_n 0, 1) := by decide +kernel
theorem dX6_decode_183 : decode cX6_decode 183 = .ok (.iload_n 2, 1) := by decide +kernel
theorem dX6_decode_184 : decode cX6_decode 184 = .ok (.iconst 4, 1) := by decide +kernel
theorem dX6_decode_185 : decode cX6_decode 185 = .ok (.idiv, 1) := by decide +kernel
theorem dX6_decode_186 : decode cX6_decode 186 = .ok (.bipush 16, 2) := by decide +kernel
theorem dX6_decode_188 : decode cX6_decode 188 = .ok (.irem, 1) := by decide +kernel
theorem dX6_decode_189 : decode cX6_decode 189 = .ok (.iload_n 2, 1) := by decide +kernel
theorem dX6_decode_190 : decode cX6_decode 190 = .ok (.iconst 2, 1) := by decide +kernel
theorem dX6_decode_191 : decode cX6_decode 191 = .ok (.idiv, 1) := by decide +kernel
theorem dX6_decode_192 : decode cX6_decode 192 = .ok (.iconst 2, 1) := by decide +kernel
theorem dX6_decode_193 : decode cX6_decode 193 = .ok (.irem, 1) := by decide +kernel
theorem dX6_decode_194 : decode cX6_decode 194 = .ok (.invokevirtual 61, 3) := by decide +kernel
theorem dX6_decode_197 : decode cX6_decode 197 = .ok (.ireturn, 1) := by decide +kernel
set_option maxRecDepth 20000 in
theorem ggX6_get_X6_layLeft : GoodIn wsX6_get wsX6_layLeft := goodIn_r _ [6, 1, 7, 8, 9, 10, 34, 35, 36, 37, 38, 39, 40, 41, 42, 43, 44, 45, 46] (by decide +kernel) (by decide +kernel)
set_option maxRecDepth 20000 in
theorem gX6_get_X6_layLeft : GoodIn wsX6_get (wsV RX6 65 RX6 yX6_layLeft wsX6_layLeft) := goodIn_app (goodIn_of _ (by decide +kernel)) ggX6_get_X6_layLeft
set_option maxRecDepth 20000 in
theorem ggX6_get_X6_decode : GoodIn wsX6_get wsX6_decode := goodIn_r _ [14, 7, 10, 1, 15, 16, 17, 5, 18, 19, 20, 21, 22, 23, 24, 25, 26, 27, 28, 29, 30, 31, 32, 33, 34, 35, 36, 37, 38, 39, 40, 41, 42, 43, 44, 45, 46] (by decide +kernel) (by decide +kernel)
set_option maxRecDepth 20000 in
theorem gX6_get_X6_decode : GoodIn wsX6_get (wsV RX6 69 RX6 yX6_decode wsX6_decode) := goodIn_app (goodIn_of _ (by decide +kernel)) ggX6_get_X6_decode
theorem dX6_get_0 : decode cX6_get 0 = .ok (.aload_n 0, 1) := by decide +kernel
theorem dX6_get_1 : decode cX6_get 1 = .ok (.iload_n 1, 1) := by decide +kernel
theorem dX6_get_2 : decode cX6_get 2 = .ok (.invokevirtual 65, 3) := by decide +kernel
theorem dX6_get_5 : decode cX6_get 5 = .ok (.istore_n 2, 1) := by decide +kernel
theorem dX6_get_6 : decode cX6_get 6 = .ok (.aload_n 0, 1) := by decide +kernel
theorem dX6_get_7 : decode cX6_get 7 = .ok (.invokevirtual 69, 3) := by decide +kernel
theorem dX6_get_10 : decode cX6_get 10 = .ok (.istore_n 3, 1) := by decide +kernel
theorem dX6_get_11 : decode cX6_get 11 = .ok (.aload_n 0, 1) := by decide +kernel
theorem dX6_get_12 : decode cX6_get 12 = .ok (.getfield 7, 3) := by decide +kernel
theorem dX6_get_15 : decode cX6_get 15 = .ok (.iconst 1, 1) := by decide +kernel
theorem dX6_get_16 : decode cX6_get 16 = .ok (.iaload, 1) := by decide +kernel
theorem dX6_get_17 : decode cX6_get 17 = .ok (.iconst 1, 1) := by decide +kernel
theorem dX6_get_18 : decode cX6_get 18 = .ok (.iadd, 1) := by decide +kernel
theorem dX6_get_19 : decode cX6_get 19 = .ok (.bipush 10, 2) := by decide +kernel
theorem dX6_get_21 : decode cX6_get 21 = .ok (.aload_n 0, 1) := by decide +kernel
theorem dX6_get_22 : decode cX6_get 22 = .ok (.getfield 7, 3) := by decide +kernel
theorem dX6_get_25 : decode cX6_get 25 = .ok (.iconst 0, 1) := by decide +kernel
theorem dX6_get_26 : decode cX6_get 26 = .ok (.iaload, 1) := by decide +kernel
theorem dX6_get_27 : decode cX6_get 27 = .ok (.isub, 1) := by decide +kernel
theorem dX6_get_28 : decode cX6_get 28 = .ok (.if_icmp .ge 14, 3) := by decide +kernel
theorem dX6_get_31 : decode cX6_get 31 = .ok (.aload_n 0, 1) := by decide +kernel
theorem dX6_get_32 : decode cX6_get 32 = .ok (.getfield 7, 3) := by decide +kernel
theorem dX6_get_35 : decode cX6_get 35 = .ok (.iconst 1, 1) := by decide +kernel
theorem dX6_get_36 : decode cX6_get 36 = .ok (.iaload, 1) := by decide +kernel
theorem dX6_get_37 : decode cX6_get 37 = .ok (.iconst 1, 1) := by decide +kernel
theorem dX6_get_38 : decode cX6_get 38 = .ok (.iadd, 1) := by decide +kernel
theorem dX6_get_39 : decode cX6_get 39 = .ok (.goto 12, 3) := by decide +kernel
theorem dX6_get_42 : decode cX6_get 42 = .ok (.bipush 10, 2) := by decide +kernel
theorem dX6_get_44 : decode cX6_get 44 = .ok (.aload_n 0, 1) := by decide +kernel
theorem dX6_get_45 : decode cX6_get 45 = .ok (.getfield 7, 3) := by decide +kernel
theorem dX6_get_48 : decode cX6_get 48 = .ok (.iconst 0, 1) := by decide +kernel
theorem dX6_get_49 : decode cX6_get 49 = .ok (.iaload, 1) := by decide +kernel
theorem dX6_get_50 : decode cX6_get 50 = .ok (.isub, 1) := by decide +kernel
theorem dX6_get_51 : decode cX6_get 51 = .ok (.istore 4, 2) := by decide +kernel
theorem dX6_get_53 : decode cX6_get 53 = .ok (.aload_n 0, 1) := by decide +kernel
theorem dX6_get_54 : decode cX6_get 54 = .ok (.getfield 7, 3) := by decide +kernel
theorem dX6_get_57 : decode cX6_get 57 = .ok (.iconst 1, 1) := by decide +kernel
theorem dX6_get_58 : decode cX6_get 58 = .ok (.iload_n 2, 1) := by decide +kernel
theorem dX6_get_59 : decode cX6_get 59 = .ok (.ifCond .ne 8, 3) := by decide +kernel
theorem dX6_get_62 : decode cX6_get 62 = .ok (.iload 4, 2) := by decide +kernel
theorem dX6_get_64 : decode cX6_get 64 = .ok (.goto 25, 3) := by decide +kernel
theorem dX6_get_67 : decode cX6_get 67 = .ok (.aload_n 0, 1) := by decide +kernel
theorem dX6_get_68 : decode cX6_get 68 = .ok (.getfield 7, 3) := by decide +kernel
theorem dX6_get_71 : decode cX6_get 71 = .ok (.iconst 1, 1) := by decide +kernel
theorem dX6_get_72 : decode cX6_get 72 = .ok (.iaload, 1) := by decide +kernel
theorem dX6_get_73 : decode cX6_get 73 = .ok (.iconst 1, 1) := by decide +kernel
theorem dX6_get_74 : decode cX6_get 74 = .ok (.if_icmp .le 14, 3) := by decide +kernel
theorem dX6_get_77 : decode cX6_get 77 = .ok (.aload_n 0, 1) := by decide +kernel
theorem dX6_get_78 : decode cX6_get 78 = .ok (.getfield 7, 3) := by decide +kernel
theorem dX6_get_81 : decode cX6_get 81 = .ok (.iconst 1, 1) := by decide +kernel
theorem dX6_get_82 : decode cX6_get 82 = .ok (.iaload, 1) := by decide +kernel
theorem dX6_get_83 : decode cX6_get 83 = .ok (.iconst 1, 1) := by decide +kernel
theorem dX6_get_84 : decode cX6_get 84 = .ok (.isub, 1) := by decide +kernel
theorem dX6_get_85 : decode cX6_get 85 = .ok (.goto 4, 3) := by decide +kernel
theorem dX6_get_88 : decode cX6_get 88 = .ok (.iconst 1, 1) := by decide +kernel
theorem dX6_get_89 : decode cX6_get 89 = .ok (.iastore, 1) := by decide +kernel
theorem dX6_get_90 : decode cX6_get 90 = .ok (.aload_n 0, 1) := by decide +kernel
theorem dX6_get_91 : decode cX6_get 91 = .ok (.getfield 7, 3) := by decide +kernel
theorem dX6_get_94 : decode cX6_get 94 = .ok (.bipush 8, 2) := by decide +kernel
theorem dX6_get_96 : decode cX6_get 96 = .ok (.dup2, 1) := by decide +kernel
theorem dX6_get_97 : decode cX6_get 97 = .ok (.iaload, 1) := by decide +kernel
theorem dX6_get_98 : decode cX6_get 98 = .ok (.iconst 1, 1) := by decide +kernel
theorem dX6_get_99 : decode cX6_get 99 = .ok (.iadd, 1) := by decide +kernel
theorem dX6_get_100 : decode cX6_get 100 = .ok (.iastore, 1) := by decide +kernel
theorem dX6_get_101 : decode cX6_get 101 = .ok (.iload_n 3, 1) := by decide +kernel
theorem dX6_get_102 : decode cX6_get 102 = .ok (.ireturn, 1) := by decide +kernel
set_option maxRecDepth 20000 in
theorem ggX6_passes_X6_isRemembered : GoodIn wsX6_passes wsX6_isRemembered := goodIn_r _ [6, 1, 7, 8, 9, 10, 11, 12, 13, 14, 15, 16, 17, 18, 19] (by decide +kernel) (by decide +kernel)
set_option maxRecDepth 20000 in
theorem gX6_passes_X6_isRemembered : GoodIn wsX6_passes (wsV RX6 49 RX6 yX6_isRemembered wsX6_isRemembered) := goodIn_app (goodIn_of _ (by decide +kernel)) ggX6_passes_X6_isRemembered
theorem dX6_passes_0 : decode cX6_passes 0 = .ok (.aload_n 0, 1) := by decide +kernel
theorem dX6_passes_1 : decode cX6_passes 1 = .ok (.getfield 7, 3) := by decide +kernel
theorem dX6_passes_4 : decode cX6_passes 4 = .ok (.bipush 6, 2) := by decide +kernel
theorem dX6_passes_6 : decode cX6_passes 6 = .ok (.dup2, 1) := by decide +kernel
theorem dX6_passes_7 : decode cX6_passes 7 = .ok (.iaload, 1) := by decide +kernel
theorem dX6_passes_8 : decode cX6_passes 8 = .ok (.aload_n 0, 1) := by decide +kernel
theorem dX6_passes_9 : decode cX6_passes 9 = .ok (.getfield 7, 3) := by decide +kernel
theorem dX6_passes_12 : decode cX6_passes 12 = .ok (.bipush 6, 2) := by decide +kernel
theorem dX6_passes_14 : decode cX6_passes 14 = .ok (.iaload, 1) := by decide +kernel
theorem dX6_passes_15 : decode cX6_passes 15 = .ok (.ifCond .ge 7, 3) := by decide +kernel
theorem dX6_passes_18 : decode cX6_passes 18 = .ok (.iconst 0, 1) := by decide +kernel
theorem dX6_passes_19 : decode cX6_passes 19 = .ok (.goto 4, 3) := by decide +kernel
theorem dX6_passes_22 : decode cX6_passes 22 = .ok (.iload_n 1, 1) := by decide +kernel
theorem dX6_passes_23 : decode cX6_passes 23 = .ok (.iadd, 1) := by decide +kernel
theorem dX6_passes_24 : decode cX6_passes 24 = .ok (.iastore, 1) := by decide +kernel
theorem dX6_passes_25 : decode cX6_passes 25 = .ok (.aload_n 0, 1) := by decide +kernel
theorem dX6_passes_26 : decode cX6_passes 26 = .ok (.invokevirtual 49, 3) := by decide +kernel
theorem dX6_passes_29 : decode cX6_passes 29 = .ok (.ifCond .ne 10, 3) := by decide +kernel
theorem dX6_passes_32 : decode cX6_passes 32 = .ok (.aload_n 0, 1) := by decide +kernel
theorem dX6_passes_33 : decode cX6_passes 33 = .ok (.getfield 7, 3) := by decide +kernel
theorem dX6_passes_36 : decode cX6_passes 36 = .ok (.iconst 5, 1) := by decide +kernel
theorem dX6_passes_37 : decode cX6_passes 37 = .ok (.iconst 0, 1) := by decide +kernel
theorem dX6_passes_38 : decode cX6_passes 38 = .ok (.iastore, 1) := by decide +kernel
theorem dX6_passes_39 : decode cX6_passes 39 = .ok (.return_, 1) := by decide +kernel
set_option maxRecDepth 20000 in
theorem ggX6_frame_X6_areFrame : GoodIn wsX6_frame wsX6_areFrame := goodIn_r _ [5, 6, 7, 4, 8] (by decide +kernel) (by decide +kernel)
set_option maxRecDepth 20000 in
theorem gX6_frame_X6_areFrame : GoodIn wsX6_frame (va_wsS RX6 72 yX6_areFrame wsX6_areFrame) := goodIn_app (goodIn_of _ (by decide +kernel)) ggX6_frame_X6_areFrame
set_option maxRecDepth 20000 in
theorem ggX6_frame_X6_in : GoodIn wsX6_frame wsX6_in := goodIn_r _ [8] (by decide +kernel) (by decide +kernel)
set_option maxRecDepth 20000 in
theorem gX6_frame_X6_in : GoodIn wsX6_frame (va_wsS RX6 35 yX6_in wsX6_in) := goodIn_app (goodIn_of _ (by decide +kernel)) ggX6_frame_X6_in
set_option maxRecDepth 20000 in
theorem ggX6_frame_X6_throwing : GoodIn wsX6_frame wsX6_throwing := goodIn_r _ [12, 1, 59, 60, 61, 62, 63, 64, 65, 66, 67, 68, 69, 70, 71] (by decide +kernel) (by decide +kernel)
set_option maxRecDepth 20000 in
theorem gX6_frame_X6_throwing : GoodIn wsX6_frame (wsV RX6 75 RX6 yX6_throwing wsX6_throwing) := goodIn_app (goodIn_of _ (by decide +kernel)) ggX6_frame_X6_throwing
set_option maxRecDepth 20000 in
theorem ggX6_frame_X6_save : GoodIn wsX6_frame wsX6_save := goodIn_r _ [16, 17, 18, 19, 59, 60, 61, 62, 63, 64, 65, 66, 67, 68, 69, 70, 71] (by decide +kernel) (by decide +kernel)
set_option maxRecDepth 20000 in
theorem gX6_frame_X6_save : GoodIn wsX6_frame (wsV RX6 78 RX6 yX6_save wsX6_save) := goodIn_app (goodIn_of _ (by decide +kernel)) ggX6_frame_X6_save
set_option maxRecDepth 20000 in
theorem ggX6_frame_X6_layFrame : GoodIn wsX6_frame wsX6_layFrame := goodIn_r _ [23, 24, 25, 26, 27, 4, 28, 59, 60, 61, 62, 63, 64, 65, 66, 67, 68, 69, 70, 71] (by decide +kernel) (by decide +kernel)
set_option maxRecDepth 20000 in
theorem gX6_frame_X6_layFrame : GoodIn wsX6_frame (wsV RX6 81 RX6 yX6_layFrame wsX6_layFrame) := goodIn_app (goodIn_of _ (by decide +kernel)) ggX6_frame_X6_layFrame
set_option maxRecDepth 20000 in
theorem ggX6_frame_X6_get : GoodIn wsX6_frame wsX6_get := goodIn_r _ [32, 19, 33, 34, 35, 4, 36, 37, 25, 24, 38, 39, 40, 41, 42, 43, 44, 45, 46, 6, 7, 8, 47, 48, 49, 50, 51, 52, 53, 54, 55, 56, 57, 58, 59, 60, 61, 62, 63, 64, 65, 66, 67, 68, 69, 70, 71] (by decide +kernel) (by decide +kernel)
set_option maxRecDepth 20000 in
theorem gX6_frame_X6_get : GoodIn wsX6_frame (wsV RX6 85 RX6 yX6_get wsX6_get) := goodIn_app (goodIn_of _ (by decide +kernel)) ggX6_frame_X6_get
theorem dX6_frame_0 : decode cX6_frame 0 = .ok (.aload_n 0, 1) := by decide +kernel
theorem dX6_frame_1 : decode cX6_frame 1 = .ok (.iconst 0, 1) := by decide +kernel
theorem dX6_frame_2 : decode cX6_frame 2 = .ok (.putfield 28, 3) := by decide +kernel
theorem dX6_frame_5 : decode cX6_frame 5 = .ok (.iload_n 1, 1) := by decide +kernel
theorem dX6_frame_6 : decode cX6_frame 6 = .ok (.iload_n 2, 1) := by decide +kernel
theorem dX6_frame_7 : decode cX6_frame 7 = .ok (.iload_n 3, 1) := by decide +kernel
theorem dX6_frame_8 : decode cX6_frame 8 = .ok (.invokestatic 72, 3) := by decide +kernel
theorem dX6_frame_11 : decode cX6_frame 11 = .ok (.ifCond .eq 14, 3) := by decide +kernel
theorem dX6_frame_14 : decode cX6_frame 14 = .ok (.iload 4, 2) := by decide +kernel
theorem dX6_frame_16 : decode cX6_frame 16 = .ok (.iconst 1, 1) := by decide +kernel
theorem dX6_frame_17 : decode cX6_frame 17 = .ok (.bipush 10, 2) := by decide +kernel
theorem dX6_frame_19 : decode cX6_frame 19 = .ok (.invokestatic 35, 3) := by decide +kernel
theorem dX6_frame_22 : decode cX6_frame 22 = .ok (.ifCond .ne 9, 3) := by decide +kernel
theorem dX6_frame_25 : decode cX6_frame 25 = .ok (.aload_n 0, 1) := by decide +kernel
theorem dX6_frame_26 : decode cX6_frame 26 = .ok (.iconst 1, 1) := by decide +kernel
theorem dX6_frame_27 : decode cX6_frame 27 = .ok (.invokevirtual 75, 3) := by decide +kernel
theorem dX6_frame_30 : decode cX6_frame 30 = .ok (.ireturn, 1) := by decide +kernel
theorem dX6_frame_31 : decode cX6_frame 31 = .ok (.aload_n 0, 1) := by decide +kernel
theorem dX6_frame_32 : decode cX6_frame 32 = .ok (.invokevirtual 78, 3) := by decide +kernel
theorem dX6_frame_35 : decode cX6_frame 35 = .ok (.aload_n 0, 1) := by decide +kernel
theorem dX6_frame_36 : decode cX6_frame 36 = .ok (.iload_n 1, 1) := by decide +kernel
theorem dX6_frame_37 : decode cX6_frame 37 = .ok (.iload_n 2, 1) := by decide +kernel
theorem dX6_frame_38 : decode cX6_frame 38 = .ok (.iload_n 3, 1) := by decide +kernel
theorem dX6_frame_39 : decode cX6_frame 39 = .ok (.invokevirtual 81, 3) := by decide +kernel
theorem dX6_frame_42 : decode cX6_frame 42 = .ok (.aload_n 0, 1) := by decide +kernel
theorem dX6_frame_43 : decode cX6_frame 43 = .ok (.iload 4, 2) := by decide +kernel
theorem dX6_frame_45 : decode cX6_frame 45 = .ok (.invokevirtual 85, 3) := by decide +kernel
theorem dX6_frame_48 : decode cX6_frame 48 = .ok (.ireturn, 1) := by decide +kernel
set_option maxRecDepth 20000 in
theorem ggX6_repeat_X6_in : GoodIn wsX6_repeat wsX6_in := goodIn_r _ [5] (by decide +kernel) (by decide +kernel)
set_option maxRecDepth 20000 in
theorem gX6_repeat_X6_in : GoodIn wsX6_repeat (va_wsS RX6 35 yX6_in wsX6_in) := goodIn_app (goodIn_of _ (by decide +kernel)) ggX6_repeat_X6_in
set_option maxRecDepth 20000 in
theorem ggX6_repeat_X6_throwing : GoodIn wsX6_repeat wsX6_throwing := goodIn_r _ [9, 1, 53, 54, 55, 56, 57, 58, 59, 60, 61, 62, 63, 64, 65] (by decide +kernel) (by decide +kernel)
set_option maxRecDepth 20000 in
theorem gX6_repeat_X6_throwing : GoodIn wsX6_repeat (wsV RX6 75 RX6 yX6_throwing wsX6_throwing) := goodIn_app (goodIn_of _ (by decide +kernel)) ggX6_repeat_X6_throwing
set_option maxRecDepth 20000 in
theorem ggX6_repeat_X6_save : GoodIn wsX6_repeat wsX6_save := goodIn_r _ [13, 14, 15, 16, 53, 54, 55, 56, 57, 58, 59, 60, 61, 62, 63, 64, 65] (by decide +kernel) (by decide +kernel)
set_option maxRecDepth 20000 in
theorem gX6_repeat_X6_save : GoodIn wsX6_repeat (wsV RX6 78 RX6 yX6_save wsX6_save) := goodIn_app (goodIn_of _ (by decide +kernel)) ggX6_repeat_X6_save
set_option maxRecDepth 20000 in
theorem ggX6_repeat_X6_layRepeat : GoodIn wsX6_repeat wsX6_layRepeat := goodIn_r _ [20, 21, 22, 53, 54, 55, 56, 57, 58, 59, 60, 61, 62, 63, 64, 65] (by decide +kernel) (by decide +kernel)
set_option maxRecDepth 20000 in
theorem gX6_repeat_X6_layRepeat : GoodIn wsX6_repeat (wsV RX6 88 RX6 yX6_layRepeat wsX6_layRepeat) := goodIn_app (goodIn_of _ (by decide +kernel)) ggX6_repeat_X6_layRepeat
set_option maxRecDepth 20000 in
theorem ggX6_repeat_X6_get : GoodIn wsX6_repeat wsX6_get := goodIn_r _ [26, 16, 27, 28, 29, 4, 30, 31, 22, 21, 32, 33, 34, 35, 36, 37, 38, 39, 40, 2, 3, 5, 41, 42, 43, 44, 45, 46, 47, 48, 49, 50, 51, 52, 53, 54, 55, 56, 57, 58, 59, 60, 61, 62, 63, 64, 65] (by decide +kernel) (by decide +kernel)
set_option maxRecDepth 20000 in
theorem gX6_repeat_X6_get : GoodIn wsX6_repeat (wsV RX6 85 RX6 yX6_get wsX6_get) := goodIn_app (goodIn_of _ (by decide +kernel)) ggX6_repeat_X6_get
theorem dX6_repeat_0 : decode cX6_repeat 0 = .ok (.aload_n 0, 1) := by decide +kernel
theorem dX6_repeat_1 : decode cX6_repeat 1 = .ok (.iconst 0, 1) := by decide +kernel
theorem dX6_repeat_2 : decode cX6_repeat 2 = .ok (.putfield 28, 3) := by decide +kernel
theorem dX6_repeat_5 : decode cX6_repeat 5 = .ok (.iload_n 1, 1) := by decide +kernel
theorem dX6_repeat_6 : decode cX6_repeat 6 = .ok (.iconst 1, 1) := by decide +kernel
theorem dX6_repeat_7 : decode cX6_repeat 7 = .ok (.bipush 10, 2) := by decide +kernel
theorem dX6_repeat_9 : decode cX6_repeat 9 = .ok (.invokestatic 35, 3) := by decide +kernel
theorem dX6_repeat_12 : decode cX6_repeat 12 = .ok (.ifCond .ne 9, 3) := by decide +kernel
theorem dX6_repeat_15 : decode cX6_repeat 15 = .ok (.aload_n 0, 1) := by decide +kernel
theorem dX6_repeat_16 : decode cX6_repeat 16 = .ok (.iconst 1, 1) := by decide +kernel
theorem dX6_repeat_17 : decode cX6_repeat 17 = .ok (.invokevirtual 75, 3) := by decide +kernel
theorem dX6_repeat_20 : decode cX6_repeat 20 = .ok (.ireturn, 1) := by decide +kernel
theorem dX6_repeat_21 : decode cX6_repeat 21 = .ok (.aload_n 0, 1) := by decide +kernel
theorem dX6_repeat_22 : decode cX6_repeat 22 = .ok (.invokevirtual 78, 3) := by decide +kernel
theorem dX6_repeat_25 : decode cX6_repeat 25 = .ok (.aload_n 0, 1) := by decide +kernel
theorem dX6_repeat_26 : decode cX6_repeat 26 = .ok (.invokevirtual 88, 3) := by decide +kernel
theorem dX6_repeat_29 : decode cX6_repeat 29 = .ok (.aload_n 0, 1) := by decide +kernel
theorem dX6_repeat_30 : decode cX6_repeat 30 = .ok (.iload_n 1, 1) := by decide +kernel
theorem dX6_repeat_31 : decode cX6_repeat 31 = .ok (.invokevirtual 85, 3) := by decide +kernel
theorem dX6_repeat_34 : decode cX6_repeat 34 = .ok (.ireturn, 1) := by decide +kernel
set_option maxRecDepth 20000 in
theorem ggX6_receive_X6_in : GoodIn wsX6_receive wsX6_in := goodIn_r _ [8] (by decide +kernel) (by decide +kernel)
set_option maxRecDepth 20000 in
theorem gX6_receive_X6_in : GoodIn wsX6_receive (va_wsS RX6 35 yX6_in wsX6_in) := goodIn_app (goodIn_of _ (by decide +kernel)) ggX6_receive_X6_in
set_option maxRecDepth 20000 in
theorem ggX6_receive_X6_throwing : GoodIn wsX6_receive wsX6_throwing := goodIn_r _ [12, 1, 49, 50, 51, 52, 53, 54, 55, 56, 57, 58, 59, 60, 61] (by decide +kernel) (by decide +kernel)
set_option maxRecDepth 20000 in
theorem gX6_receive_X6_throwing : GoodIn wsX6_receive (wsV RX6 75 RX6 yX6_throwing wsX6_throwing) := goodIn_app (goodIn_of _ (by decide +kernel)) ggX6_receive_X6_throwing
set_option maxRecDepth 20000 in
theorem ggX6_receive_X6_save : GoodIn wsX6_receive wsX6_save := goodIn_r _ [16, 17, 18, 2, 49, 50, 51, 52, 53, 54, 55, 56, 57, 58, 59, 60, 61] (by decide +kernel) (by decide +kernel)
set_option maxRecDepth 20000 in
theorem gX6_receive_X6_save : GoodIn wsX6_receive (wsV RX6 78 RX6 yX6_save wsX6_save) := goodIn_app (goodIn_of _ (by decide +kernel)) ggX6_receive_X6_save
set_option maxRecDepth 20000 in
theorem ggX6_receive_X6_get : GoodIn wsX6_receive wsX6_get := goodIn_r _ [22, 2, 23, 24, 25, 7, 26, 27, 3, 4, 28, 29, 30, 31, 32, 33, 34, 35, 36, 5, 6, 8, 37, 38, 39, 40, 41, 42, 43, 44, 45, 46, 47, 48, 49, 50, 51, 52, 53, 54, 55, 56, 57, 58, 59, 60, 61] (by decide +kernel) (by decide +kernel)
set_option maxRecDepth 20000 in
theorem gX6_receive_X6_get : GoodIn wsX6_receive (wsV RX6 85 RX6 yX6_get wsX6_get) := goodIn_app (goodIn_of _ (by decide +kernel)) ggX6_receive_X6_get
