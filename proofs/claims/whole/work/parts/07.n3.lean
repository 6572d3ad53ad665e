theorem dX6_receive_0 : decode cX6_receive 0 = .ok (.aload_n 0, 1) := by decide +kernel
theorem dX6_receive_1 : decode cX6_receive 1 = .ok (.iconst 0, 1) := by decide +kernel
theorem dX6_receive_2 : decode cX6_receive 2 = .ok (.putfield 28, 3) := by decide +kernel
theorem dX6_receive_5 : decode cX6_receive 5 = .ok (.iload_n 1, 1) := by decide +kernel
theorem dX6_receive_6 : decode cX6_receive 6 = .ok (.iconst 1, 1) := by decide +kernel
theorem dX6_receive_7 : decode cX6_receive 7 = .ok (.bipush 10, 2) := by decide +kernel
theorem dX6_receive_9 : decode cX6_receive 9 = .ok (.invokestatic 35, 3) := by decide +kernel
theorem dX6_receive_12 : decode cX6_receive 12 = .ok (.ifCond .ne 9, 3) := by decide +kernel
theorem dX6_receive_15 : decode cX6_receive 15 = .ok (.aload_n 0, 1) := by decide +kernel
theorem dX6_receive_16 : decode cX6_receive 16 = .ok (.iconst 1, 1) := by decide +kernel
theorem dX6_receive_17 : decode cX6_receive 17 = .ok (.invokevirtual 75, 3) := by decide +kernel
theorem dX6_receive_20 : decode cX6_receive 20 = .ok (.ireturn, 1) := by decide +kernel
theorem dX6_receive_21 : decode cX6_receive 21 = .ok (.aload_n 0, 1) := by decide +kernel
theorem dX6_receive_22 : decode cX6_receive 22 = .ok (.getfield 7, 3) := by decide +kernel
theorem dX6_receive_25 : decode cX6_receive 25 = .ok (.bipush 48, 2) := by decide +kernel
theorem dX6_receive_27 : decode cX6_receive 27 = .ok (.iaload, 1) := by decide +kernel
theorem dX6_receive_28 : decode cX6_receive 28 = .ok (.iconst 2, 1) := by decide +kernel
theorem dX6_receive_29 : decode cX6_receive 29 = .ok (.irem, 1) := by decide +kernel
theorem dX6_receive_30 : decode cX6_receive 30 = .ok (.ifCond .ne 9, 3) := by decide +kernel
theorem dX6_receive_33 : decode cX6_receive 33 = .ok (.aload_n 0, 1) := by decide +kernel
theorem dX6_receive_34 : decode cX6_receive 34 = .ok (.iconst 2, 1) := by decide +kernel
theorem dX6_receive_35 : decode cX6_receive 35 = .ok (.invokevirtual 75, 3) := by decide +kernel
theorem dX6_receive_38 : decode cX6_receive 38 = .ok (.ireturn, 1) := by decide +kernel
theorem dX6_receive_39 : decode cX6_receive 39 = .ok (.aload_n 0, 1) := by decide +kernel
theorem dX6_receive_40 : decode cX6_receive 40 = .ok (.invokevirtual 78, 3) := by decide +kernel
theorem dX6_receive_43 : decode cX6_receive 43 = .ok (.aload_n 0, 1) := by decide +kernel
theorem dX6_receive_44 : decode cX6_receive 44 = .ok (.aload_n 0, 1) := by decide +kernel
theorem dX6_receive_45 : decode cX6_receive 45 = .ok (.getfield 7, 3) := by decide +kernel
theorem dX6_receive_48 : decode cX6_receive 48 = .ok (.bipush 48, 2) := by decide +kernel
theorem dX6_receive_50 : decode cX6_receive 50 = .ok (.iaload, 1) := by decide +kernel
theorem dX6_receive_51 : decode cX6_receive 51 = .ok (.putfield 43, 3) := by decide +kernel
theorem dX6_receive_54 : decode cX6_receive 54 = .ok (.iconst 0, 1) := by decide +kernel
theorem dX6_receive_55 : decode cX6_receive 55 = .ok (.istore_n 2, 1) := by decide +kernel
theorem dX6_receive_56 : decode cX6_receive 56 = .ok (.iload_n 2, 1) := by decide +kernel
theorem dX6_receive_57 : decode cX6_receive 57 = .ok (.bipush 30, 2) := by decide +kernel
theorem dX6_receive_59 : decode cX6_receive 59 = .ok (.if_icmp .ge 34, 3) := by decide +kernel
theorem dX6_receive_62 : decode cX6_receive 62 = .ok (.aload_n 0, 1) := by decide +kernel
theorem dX6_receive_63 : decode cX6_receive 63 = .ok (.getfield 22, 3) := by decide +kernel
theorem dX6_receive_66 : decode cX6_receive 66 = .ok (.iload_n 2, 1) := by decide +kernel
theorem dX6_receive_67 : decode cX6_receive 67 = .ok (.aload_n 0, 1) := by decide +kernel
theorem dX6_receive_68 : decode cX6_receive 68 = .ok (.getfield 7, 3) := by decide +kernel
theorem dX6_receive_71 : decode cX6_receive 71 = .ok (.bipush 49, 2) := by decide +kernel
theorem dX6_receive_73 : decode cX6_receive 73 = .ok (.iload_n 2, 1) := by decide +kernel
theorem dX6_receive_74 : decode cX6_receive 74 = .ok (.iadd, 1) := by decide +kernel
theorem dX6_receive_75 : decode cX6_receive 75 = .ok (.iaload, 1) := by decide +kernel
theorem dX6_receive_76 : decode cX6_receive 76 = .ok (.iastore, 1) := by decide +kernel
theorem dX6_receive_77 : decode cX6_receive 77 = .ok (.aload_n 0, 1) := by decide +kernel
theorem dX6_receive_78 : decode cX6_receive 78 = .ok (.getfield 7, 3) := by decide +kernel
theorem dX6_receive_81 : decode cX6_receive 81 = .ok (.bipush 49, 2) := by decide +kernel
theorem dX6_receive_83 : decode cX6_receive 83 = .ok (.iload_n 2, 1) := by decide +kernel
theorem dX6_receive_84 : decode cX6_receive 84 = .ok (.iadd, 1) := by decide +kernel
theorem dX6_receive_85 : decode cX6_receive 85 = .ok (.iconst 0, 1) := by decide +kernel
theorem dX6_receive_86 : decode cX6_receive 86 = .ok (.iastore, 1) := by decide +kernel
theorem dX6_receive_87 : decode cX6_receive 87 = .ok (.iinc 2 1, 3) := by decide +kernel
theorem dX6_receive_90 : decode cX6_receive 90 = .ok (.goto (-34), 3) := by decide +kernel
theorem dX6_receive_93 : decode cX6_receive 93 = .ok (.aload_n 0, 1) := by decide +kernel
theorem dX6_receive_94 : decode cX6_receive 94 = .ok (.getfield 7, 3) := by decide +kernel
theorem dX6_receive_97 : decode cX6_receive 97 = .ok (.bipush 48, 2) := by decide +kernel
theorem dX6_receive_99 : decode cX6_receive 99 = .ok (.iconst 0, 1) := by decide +kernel
theorem dX6_receive_100 : decode cX6_receive 100 = .ok (.iastore, 1) := by decide +kernel
theorem dX6_receive_101 : decode cX6_receive 101 = .ok (.aload_n 0, 1) := by decide +kernel
theorem dX6_receive_102 : decode cX6_receive 102 = .ok (.iload_n 1, 1) := by decide +kernel
theorem dX6_receive_103 : decode cX6_receive 103 = .ok (.invokevirtual 85, 3) := by decide +kernel
theorem dX6_receive_106 : decode cX6_receive 106 = .ok (.ireturn, 1) := by decide +kernel
set_option maxRecDepth 20000 in
theorem ggX6_shine_X6_in : GoodIn wsX6_shine wsX6_in := goodIn_r _ [6] (by decide +kernel) (by decide +kernel)
set_option maxRecDepth 20000 in
theorem gX6_shine_X6_in : GoodIn wsX6_shine (va_wsS RX6 35 yX6_in wsX6_in) := goodIn_app (goodIn_of _ (by decide +kernel)) ggX6_shine_X6_in
set_option maxRecDepth 20000 in
theorem ggX6_shine_X6_throwing : GoodIn wsX6_shine wsX6_throwing := goodIn_r _ [10, 1, 17, 18, 19, 20, 21, 22, 23, 24, 25, 26, 27, 28, 29] (by decide +kernel) (by decide +kernel)
set_option maxRecDepth 20000 in
theorem gX6_shine_X6_throwing : GoodIn wsX6_shine (wsV RX6 75 RX6 yX6_throwing wsX6_throwing) := goodIn_app (goodIn_of _ (by decide +kernel)) ggX6_shine_X6_throwing
set_option maxRecDepth 20000 in
theorem ggX6_shine_X6_save : GoodIn wsX6_shine wsX6_save := goodIn_r _ [14, 15, 16, 2, 17, 18, 19, 20, 21, 22, 23, 24, 25, 26, 27, 28, 29] (by decide +kernel) (by decide +kernel)
set_option maxRecDepth 20000 in
theorem gX6_shine_X6_save : GoodIn wsX6_shine (wsV RX6 78 RX6 yX6_save wsX6_save) := goodIn_app (goodIn_of _ (by decide +kernel)) ggX6_shine_X6_save
theorem dX6_shine_0 : decode cX6_shine 0 = .ok (.aload_n 0, 1) := by decide +kernel
theorem dX6_shine_1 : decode cX6_shine 1 = .ok (.iconst 0, 1) := by decide +kernel
theorem dX6_shine_2 : decode cX6_shine 2 = .ok (.putfield 28, 3) := by decide +kernel
theorem dX6_shine_5 : decode cX6_shine 5 = .ok (.iload_n 1, 1) := by decide +kernel
theorem dX6_shine_6 : decode cX6_shine 6 = .ok (.iconst 1, 1) := by decide +kernel
theorem dX6_shine_7 : decode cX6_shine 7 = .ok (.bipush 40, 2) := by decide +kernel
theorem dX6_shine_9 : decode cX6_shine 9 = .ok (.invokestatic 35, 3) := by decide +kernel
theorem dX6_shine_12 : decode cX6_shine 12 = .ok (.ifCond .ne 9, 3) := by decide +kernel
theorem dX6_shine_15 : decode cX6_shine 15 = .ok (.aload_n 0, 1) := by decide +kernel
theorem dX6_shine_16 : decode cX6_shine 16 = .ok (.iconst 1, 1) := by decide +kernel
theorem dX6_shine_17 : decode cX6_shine 17 = .ok (.invokevirtual 75, 3) := by decide +kernel
theorem dX6_shine_20 : decode cX6_shine 20 = .ok (.ireturn, 1) := by decide +kernel
theorem dX6_shine_21 : decode cX6_shine 21 = .ok (.aload_n 0, 1) := by decide +kernel
theorem dX6_shine_22 : decode cX6_shine 22 = .ok (.getfield 7, 3) := by decide +kernel
theorem dX6_shine_25 : decode cX6_shine 25 = .ok (.bipush 48, 2) := by decide +kernel
theorem dX6_shine_27 : decode cX6_shine 27 = .ok (.iaload, 1) := by decide +kernel
theorem dX6_shine_28 : decode cX6_shine 28 = .ok (.bipush 30, 2) := by decide +kernel
theorem dX6_shine_30 : decode cX6_shine 30 = .ok (.if_icmp .ne 9, 3) := by decide +kernel
theorem dX6_shine_33 : decode cX6_shine 33 = .ok (.aload_n 0, 1) := by decide +kernel
theorem dX6_shine_34 : decode cX6_shine 34 = .ok (.iconst 2, 1) := by decide +kernel
theorem dX6_shine_35 : decode cX6_shine 35 = .ok (.invokevirtual 75, 3) := by decide +kernel
theorem dX6_shine_38 : decode cX6_shine 38 = .ok (.ireturn, 1) := by decide +kernel
theorem dX6_shine_39 : decode cX6_shine 39 = .ok (.aload_n 0, 1) := by decide +kernel
theorem dX6_shine_40 : decode cX6_shine 40 = .ok (.invokevirtual 78, 3) := by decide +kernel
theorem dX6_shine_43 : decode cX6_shine 43 = .ok (.aload_n 0, 1) := by decide +kernel
theorem dX6_shine_44 : decode cX6_shine 44 = .ok (.getfield 7, 3) := by decide +kernel
theorem dX6_shine_47 : decode cX6_shine 47 = .ok (.bipush 49, 2) := by decide +kernel
theorem dX6_shine_49 : decode cX6_shine 49 = .ok (.aload_n 0, 1) := by decide +kernel
theorem dX6_shine_50 : decode cX6_shine 50 = .ok (.getfield 7, 3) := by decide +kernel
theorem dX6_shine_53 : decode cX6_shine 53 = .ok (.bipush 48, 2) := by decide +kernel
theorem dX6_shine_55 : decode cX6_shine 55 = .ok (.iaload, 1) := by decide +kernel
theorem dX6_shine_56 : decode cX6_shine 56 = .ok (.iadd, 1) := by decide +kernel
theorem dX6_shine_57 : decode cX6_shine 57 = .ok (.iload_n 1, 1) := by decide +kernel
theorem dX6_shine_58 : decode cX6_shine 58 = .ok (.iastore, 1) := by decide +kernel
theorem dX6_shine_59 : decode cX6_shine 59 = .ok (.aload_n 0, 1) := by decide +kernel
theorem dX6_shine_60 : decode cX6_shine 60 = .ok (.getfield 7, 3) := by decide +kernel
theorem dX6_shine_63 : decode cX6_shine 63 = .ok (.bipush 48, 2) := by decide +kernel
theorem dX6_shine_65 : decode cX6_shine 65 = .ok (.dup2, 1) := by decide +kernel
theorem dX6_shine_66 : decode cX6_shine 66 = .ok (.iaload, 1) := by decide +kernel
theorem dX6_shine_67 : decode cX6_shine 67 = .ok (.iconst 1, 1) := by decide +kernel
theorem dX6_shine_68 : decode cX6_shine 68 = .ok (.iadd, 1) := by decide +kernel
theorem dX6_shine_69 : decode cX6_shine 69 = .ok (.iastore, 1) := by decide +kernel
theorem dX6_shine_70 : decode cX6_shine 70 = .ok (.aload_n 0, 1) := by decide +kernel
theorem dX6_shine_71 : decode cX6_shine 71 = .ok (.getfield 7, 3) := by decide +kernel
theorem dX6_shine_74 : decode cX6_shine 74 = .ok (.bipush 48, 2) := by decide +kernel
theorem dX6_shine_76 : decode cX6_shine 76 = .ok (.iaload, 1) := by decide +kernel
theorem dX6_shine_77 : decode cX6_shine 77 = .ok (.ireturn, 1) := by decide +kernel
set_option maxRecDepth 20000 in
theorem ggX6_pass_X6_in : GoodIn wsX6_pass wsX6_in := goodIn_r _ [6] (by decide +kernel) (by decide +kernel)
set_option maxRecDepth 20000 in
theorem gX6_pass_X6_in : GoodIn wsX6_pass (va_wsS RX6 35 yX6_in wsX6_in) := goodIn_app (goodIn_of _ (by decide +kernel)) ggX6_pass_X6_in
set_option maxRecDepth 20000 in
theorem ggX6_pass_X6_throwing : GoodIn wsX6_pass wsX6_throwing := goodIn_r _ [10, 1, 25, 26, 27, 28, 29, 30, 31, 32, 33, 34, 35, 36, 37] (by decide +kernel) (by decide +kernel)
set_option maxRecDepth 20000 in
theorem gX6_pass_X6_throwing : GoodIn wsX6_pass (wsV RX6 75 RX6 yX6_throwing wsX6_throwing) := goodIn_app (goodIn_of _ (by decide +kernel)) ggX6_pass_X6_throwing
set_option maxRecDepth 20000 in
theorem ggX6_pass_X6_save : GoodIn wsX6_pass wsX6_save := goodIn_r _ [14, 15, 16, 2, 25, 26, 27, 28, 29, 30, 31, 32, 33, 34, 35, 36, 37] (by decide +kernel) (by decide +kernel)
set_option maxRecDepth 20000 in
theorem gX6_pass_X6_save : GoodIn wsX6_pass (wsV RX6 78 RX6 yX6_save wsX6_save) := goodIn_app (goodIn_of _ (by decide +kernel)) ggX6_pass_X6_save
set_option maxRecDepth 20000 in
theorem ggX6_pass_X6_passes : GoodIn wsX6_pass wsX6_passes := goodIn_r _ [20, 2, 21, 22, 23, 5, 24, 25, 26, 27, 28, 29, 30, 31, 32, 33, 34, 35, 36, 37] (by decide +kernel) (by decide +kernel)
set_option maxRecDepth 20000 in
theorem gX6_pass_X6_passes : GoodIn wsX6_pass (wsV RX6 91 RX6 yX6_passes wsX6_passes) := goodIn_app (goodIn_of _ (by decide +kernel)) ggX6_pass_X6_passes
theorem dX6_pass_0 : decode cX6_pass 0 = .ok (.aload_n 0, 1) := by decide +kernel
theorem dX6_pass_1 : decode cX6_pass 1 = .ok (.iconst 0, 1) := by decide +kernel
theorem dX6_pass_2 : decode cX6_pass 2 = .ok (.putfield 28, 3) := by decide +kernel
theorem dX6_pass_5 : decode cX6_pass 5 = .ok (.iload_n 1, 1) := by decide +kernel
theorem dX6_pass_6 : decode cX6_pass 6 = .ok (.iconst 1, 1) := by decide +kernel
theorem dX6_pass_7 : decode cX6_pass 7 = .ok (.bipush 99, 2) := by decide +kernel
theorem dX6_pass_9 : decode cX6_pass 9 = .ok (.invokestatic 35, 3) := by decide +kernel
theorem dX6_pass_12 : decode cX6_pass 12 = .ok (.ifCond .ne 9, 3) := by decide +kernel
theorem dX6_pass_15 : decode cX6_pass 15 = .ok (.aload_n 0, 1) := by decide +kernel
theorem dX6_pass_16 : decode cX6_pass 16 = .ok (.iconst 1, 1) := by decide +kernel
theorem dX6_pass_17 : decode cX6_pass 17 = .ok (.invokevirtual 75, 3) := by decide +kernel
theorem dX6_pass_20 : decode cX6_pass 20 = .ok (.ireturn, 1) := by decide +kernel
theorem dX6_pass_21 : decode cX6_pass 21 = .ok (.aload_n 0, 1) := by decide +kernel
theorem dX6_pass_22 : decode cX6_pass 22 = .ok (.invokevirtual 78, 3) := by decide +kernel
theorem dX6_pass_25 : decode cX6_pass 25 = .ok (.aload_n 0, 1) := by decide +kernel
theorem dX6_pass_26 : decode cX6_pass 26 = .ok (.iload_n 1, 1) := by decide +kernel
theorem dX6_pass_27 : decode cX6_pass 27 = .ok (.invokevirtual 91, 3) := by decide +kernel
theorem dX6_pass_30 : decode cX6_pass 30 = .ok (.aload_n 0, 1) := by decide +kernel
theorem dX6_pass_31 : decode cX6_pass 31 = .ok (.getfield 7, 3) := by decide +kernel
theorem dX6_pass_34 : decode cX6_pass 34 = .ok (.bipush 6, 2) := by decide +kernel
theorem dX6_pass_36 : decode cX6_pass 36 = .ok (.iaload, 1) := by decide +kernel
theorem dX6_pass_37 : decode cX6_pass 37 = .ok (.ireturn, 1) := by decide +kernel
set_option maxRecDepth 20000 in
theorem ggX6_setGlare_X6_in : GoodIn wsX6_setGlare wsX6_in := goodIn_r _ [6] (by decide +kernel) (by decide +kernel)
set_option maxRecDepth 20000 in
theorem gX6_setGlare_X6_in : GoodIn wsX6_setGlare (va_wsS RX6 35 yX6_in wsX6_in) := goodIn_app (goodIn_of _ (by decide +kernel)) ggX6_setGlare_X6_in
set_option maxRecDepth 20000 in
theorem ggX6_setGlare_X6_throwing : GoodIn wsX6_setGlare wsX6_throwing := goodIn_r _ [10, 1, 17, 18, 19, 20, 21, 22, 23, 24, 25, 26, 27, 28, 29] (by decide +kernel) (by decide +kernel)
set_option maxRecDepth 20000 in
theorem gX6_setGlare_X6_throwing : GoodIn wsX6_setGlare (wsV RX6 75 RX6 yX6_throwing wsX6_throwing) := goodIn_app (goodIn_of _ (by decide +kernel)) ggX6_setGlare_X6_throwing
set_option maxRecDepth 20000 in
theorem ggX6_setGlare_X6_save : GoodIn wsX6_setGlare wsX6_save := goodIn_r _ [14, 15, 16, 2, 17, 18, 19, 20, 21, 22, 23, 24, 25, 26, 27, 28, 29] (by decide +kernel) (by decide +kernel)
set_option maxRecDepth 20000 in
theorem gX6_setGlare_X6_save : GoodIn wsX6_setGlare (wsV RX6 78 RX6 yX6_save wsX6_save) := goodIn_app (goodIn_of _ (by decide +kernel)) ggX6_setGlare_X6_save
theorem dX6_setGlare_0 : decode cX6_setGlare 0 = .ok (.aload_n 0, 1) := by decide +kernel
theorem dX6_setGlare_1 : decode cX6_setGlare 1 = .ok (.iconst 0, 1) := by decide +kernel
theorem dX6_setGlare_2 : decode cX6_setGlare 2 = .ok (.putfield 28, 3) := by decide +kernel
theorem dX6_setGlare_5 : decode cX6_setGlare 5 = .ok (.iload_n 1, 1) := by decide +kernel
theorem dX6_setGlare_6 : decode cX6_setGlare 6 = .ok (.iconst 0, 1) := by decide +kernel
theorem dX6_setGlare_7 : decode cX6_setGlare 7 = .ok (.bipush 9, 2) := by decide +kernel
theorem dX6_setGlare_9 : decode cX6_setGlare 9 = .ok (.invokestatic 35, 3) := by decide +kernel
theorem dX6_setGlare_12 : decode cX6_setGlare 12 = .ok (.ifCond .ne 9, 3) := by decide +kernel
theorem dX6_setGlare_15 : decode cX6_setGlare 15 = .ok (.aload_n 0, 1) := by decide +kernel
theorem dX6_setGlare_16 : decode cX6_setGlare 16 = .ok (.iconst 1, 1) := by decide +kernel
theorem dX6_setGlare_17 : decode cX6_setGlare 17 = .ok (.invokevirtual 75, 3) := by decide +kernel
theorem dX6_setGlare_20 : decode cX6_setGlare 20 = .ok (.ireturn, 1) := by decide +kernel
theorem dX6_setGlare_21 : decode cX6_setGlare 21 = .ok (.aload_n 0, 1) := by decide +kernel
theorem dX6_setGlare_22 : decode cX6_setGlare 22 = .ok (.invokevirtual 78, 3) := by decide +kernel
theorem dX6_setGlare_25 : decode cX6_setGlare 25 = .ok (.aload_n 0, 1) := by decide +kernel
theorem dX6_setGlare_26 : decode cX6_setGlare 26 = .ok (.getfield 7, 3) := by decide +kernel
theorem dX6_setGlare_29 : decode cX6_setGlare 29 = .ok (.iconst 0, 1) := by decide +kernel
theorem dX6_setGlare_30 : decode cX6_setGlare 30 = .ok (.iaload, 1) := by decide +kernel
theorem dX6_setGlare_31 : decode cX6_setGlare 31 = .ok (.istore_n 2, 1) := by decide +kernel
theorem dX6_setGlare_32 : decode cX6_setGlare 32 = .ok (.aload_n 0, 1) := by decide +kernel
theorem dX6_setGlare_33 : decode cX6_setGlare 33 = .ok (.getfield 7, 3) := by decide +kernel
theorem dX6_setGlare_36 : decode cX6_setGlare 36 = .ok (.iconst 0, 1) := by decide +kernel
theorem dX6_setGlare_37 : decode cX6_setGlare 37 = .ok (.iload_n 1, 1) := by decide +kernel
theorem dX6_setGlare_38 : decode cX6_setGlare 38 = .ok (.iastore, 1) := by decide +kernel
theorem dX6_setGlare_39 : decode cX6_setGlare 39 = .ok (.iload_n 2, 1) := by decide +kernel
theorem dX6_setGlare_40 : decode cX6_setGlare 40 = .ok (.ireturn, 1) := by decide +kernel
set_option maxRecDepth 20000 in
theorem ggX6_setAddress_X6_in : GoodIn wsX6_setAddress wsX6_in := goodIn_r _ [6] (by decide +kernel) (by decide +kernel)
set_option maxRecDepth 20000 in
theorem gX6_setAddress_X6_in : GoodIn wsX6_setAddress (va_wsS RX6 35 yX6_in wsX6_in) := goodIn_app (goodIn_of _ (by decide +kernel)) ggX6_setAddress_X6_in
set_option maxRecDepth 20000 in
theorem ggX6_setAddress_X6_throwing : GoodIn wsX6_setAddress wsX6_throwing := goodIn_r _ [10, 1, 17, 18, 19, 20, 21, 22, 23, 24, 25, 26, 27, 28, 29] (by decide +kernel) (by decide +kernel)
set_option maxRecDepth 20000 in
theorem gX6_setAddress_X6_throwing : GoodIn wsX6_setAddress (wsV RX6 75 RX6 yX6_throwing wsX6_throwing) := goodIn_app (goodIn_of _ (by decide +kernel)) ggX6_setAddress_X6_throwing
set_option maxRecDepth 20000 in
theorem ggX6_setAddress_X6_save : GoodIn wsX6_setAddress wsX6_save := goodIn_r _ [14, 15, 16, 2, 17, 18, 19, 20, 21, 22, 23, 24, 25, 26, 27, 28, 29] (by decide +kernel) (by decide +kernel)
set_option maxRecDepth 20000 in
theorem gX6_setAddress_X6_save : GoodIn wsX6_setAddress (wsV RX6 78 RX6 yX6_save wsX6_save) := goodIn_app (goodIn_of _ (by decide +kernel)) ggX6_setAddress_X6_save
theorem dX6_setAddress_0 : decode cX6_setAddress 0 = .ok (.aload_n 0, 1) := by decide +kernel
theorem dX6_setAddress_1 : decode cX6_setAddress 1 = .ok (.iconst 0, 1) := by decide +kernel
theorem dX6_setAddress_2 : decode cX6_setAddress 2 = .ok (.putfield 28, 3) := by decide +kernel
theorem dX6_setAddress_5 : decode cX6_setAddress 5 = .ok (.iload_n 1, 1) := by decide +kernel
theorem dX6_setAddress_6 : decode cX6_setAddress 6 = .ok (.iconst 0, 1) := by decide +kernel
theorem dX6_setAddress_7 : decode cX6_setAddress 7 = .ok (.bipush 7, 2) := by decide +kernel
theorem dX6_setAddress_9 : decode cX6_setAddress 9 = .ok (.invokestatic 35, 3) := by decide +kernel
theorem dX6_setAddress_12 : decode cX6_setAddress 12 = .ok (.ifCond .ne 9, 3) := by decide +kernel
theorem dX6_setAddress_15 : decode cX6_setAddress 15 = .ok (.aload_n 0, 1) := by decide +kernel
theorem dX6_setAddress_16 : decode cX6_setAddress 16 = .ok (.iconst 1, 1) := by decide +kernel
theorem dX6_setAddress_17 : decode cX6_setAddress 17 = .ok (.invokevirtual 75, 3) := by decide +kernel
theorem dX6_setAddress_20 : decode cX6_setAddress 20 = .ok (.ireturn, 1) := by decide +kernel
theorem dX6_setAddress_21 : decode cX6_setAddress 21 = .ok (.aload_n 0, 1) := by decide +kernel
theorem dX6_setAddress_22 : decode cX6_setAddress 22 = .ok (.invokevirtual 78, 3) := by decide +kernel
theorem dX6_setAddress_25 : decode cX6_setAddress 25 = .ok (.aload_n 0, 1) := by decide +kernel
theorem dX6_setAddress_26 : decode cX6_setAddress 26 = .ok (.getfield 7, 3) := by decide +kernel
theorem dX6_setAddress_29 : decode cX6_setAddress 29 = .ok (.iconst 2, 1) := by decide +kernel
theorem dX6_setAddress_30 : decode cX6_setAddress 30 = .ok (.iaload, 1) := by decide +kernel
theorem dX6_setAddress_31 : decode cX6_setAddress 31 = .ok (.istore_n 2, 1) := by decide +kernel
theorem dX6_setAddress_32 : decode cX6_setAddress 32 = .ok (.aload_n 0, 1) := by decide +kernel
theorem dX6_setAddress_33 : decode cX6_setAddress 33 = .ok (.getfield 7, 3) := by decide +kernel
theorem dX6_setAddress_36 : decode cX6_setAddress 36 = .ok (.iconst 2, 1) := by decide +kernel
theorem dX6_setAddress_37 : decode cX6_setAddress 37 = .ok (.iload_n 1, 1) := by decide +kernel
theorem dX6_setAddress_38 : decode cX6_setAddress 38 = .ok (.iastore, 1) := by decide +kernel
theorem dX6_setAddress_39 : decode cX6_setAddress 39 = .ok (.iload_n 2, 1) := by decide +kernel
theorem dX6_setAddress_40 : decode cX6_setAddress 40 = .ok (.ireturn, 1) := by decide +kernel
set_option maxRecDepth 20000 in
theorem ggX6_learn_X6_in : GoodIn wsX6_learn wsX6_in := goodIn_r _ [6] (by decide +kernel) (by decide +kernel)
set_option maxRecDepth 20000 in
theorem gX6_learn_X6_in : GoodIn wsX6_learn (va_wsS RX6 35 yX6_in wsX6_in) := goodIn_app (goodIn_of _ (by decide +kernel)) ggX6_learn_X6_in
set_option maxRecDepth 20000 in
theorem ggX6_learn_X6_throwing : GoodIn wsX6_learn wsX6_throwing := goodIn_r _ [10, 1, 17, 18, 19, 20, 21, 22, 23, 24, 25, 26, 27, 28, 29] (by decide +kernel) (by decide +kernel)
set_option maxRecDepth 20000 in
theorem gX6_learn_X6_throwing : GoodIn wsX6_learn (wsV RX6 75 RX6 yX6_throwing wsX6_throwing) := goodIn_app (goodIn_of _ (by decide +kernel)) ggX6_learn_X6_throwing
set_option maxRecDepth 20000 in
theorem ggX6_learn_X6_save : GoodIn wsX6_learn wsX6_save := goodIn_r _ [14, 15, 16, 2, 17, 18, 19, 20, 21, 22, 23, 24, 25, 26, 27, 28, 29] (by decide +kernel) (by decide +kernel)
set_option maxRecDepth 20000 in
theorem gX6_learn_X6_save : GoodIn wsX6_learn (wsV RX6 78 RX6 yX6_save wsX6_save) := goodIn_app (goodIn_of _ (by decide +kernel)) ggX6_learn_X6_save
theorem dX6_learn_0 : decode cX6_learn 0 = .ok (.aload_n 0, 1) := by decide +kernel
theorem dX6_learn_1 : decode cX6_learn 1 = .ok (.iconst 0, 1) := by decide +kernel
theorem dX6_learn_2 : decode cX6_learn 2 = .ok (.putfield 28, 3) := by decide +kernel
theorem dX6_learn_5 : decode cX6_learn 5 = .ok (.iload_n 1, 1) := by decide +kernel
theorem dX6_learn_6 : decode cX6_learn 6 = .ok (.iconst 0, 1) := by decide +kernel
theorem dX6_learn_7 : decode cX6_learn 7 = .ok (.bipush 15, 2) := by decide +kernel
theorem dX6_learn_9 : decode cX6_learn 9 = .ok (.invokestatic 35, 3) := by decide +kernel
theorem dX6_learn_12 : decode cX6_learn 12 = .ok (.ifCond .ne 9, 3) := by decide +kernel
theorem dX6_learn_15 : decode cX6_learn 15 = .ok (.aload_n 0, 1) := by decide +kernel
theorem dX6_learn_16 : decode cX6_learn 16 = .ok (.iconst 1, 1) := by decide +kernel
theorem dX6_learn_17 : decode cX6_learn 17 = .ok (.invokevirtual 75, 3) := by decide +kernel
theorem dX6_learn_20 : decode cX6_learn 20 = .ok (.ireturn, 1) := by decide +kernel
theorem dX6_learn_21 : decode cX6_learn 21 = .ok (.iload_n 2, 1) := by decide +kernel
theorem dX6_learn_22 : decode cX6_learn 22 = .ok (.iconst 0, 1) := by decide +kernel
theorem dX6_learn_23 : decode cX6_learn 23 = .ok (.iconst 2, 1) := by decide +kernel
theorem dX6_learn_24 : decode cX6_learn 24 = .ok (.invokestatic 35, 3) := by decide +kernel
theorem dX6_learn_27 : decode cX6_learn 27 = .ok (.ifCond .ne 9, 3) := by decide +kernel
theorem dX6_learn_30 : decode cX6_learn 30 = .ok (.aload_n 0, 1) := by decide +kernel
theorem dX6_learn_31 : decode cX6_learn 31 = .ok (.iconst 2, 1) := by decide +kernel
theorem dX6_learn_32 : decode cX6_learn 32 = .ok (.invokevirtual 75, 3) := by decide +kernel
theorem dX6_learn_35 : decode cX6_learn 35 = .ok (.ireturn, 1) := by decide +kernel
theorem dX6_learn_36 : decode cX6_learn 36 = .ok (.aload_n 0, 1) := by decide +kernel
theorem dX6_learn_37 : decode cX6_learn 37 = .ok (.invokevirtual 78, 3) := by decide +kernel
theorem dX6_learn_40 : decode cX6_learn 40 = .ok (.aload_n 0, 1) := by decide +kernel
theorem dX6_learn_41 : decode cX6_learn 41 = .ok (.getfield 7, 3) := by decide +kernel
theorem dX6_learn_44 : decode cX6_learn 44 = .ok (.bipush 16, 2) := by decide +kernel
theorem dX6_learn_46 : decode cX6_learn 46 = .ok (.iload_n 1, 1) := by decide +kernel
theorem dX6_learn_47 : decode cX6_learn 47 = .ok (.iadd, 1) := by decide +kernel
theorem dX6_learn_48 : decode cX6_learn 48 = .ok (.iaload, 1) := by decide +kernel
theorem dX6_learn_49 : decode cX6_learn 49 = .ok (.istore_n 3, 1) := by decide +kernel
theorem dX6_learn_50 : decode cX6_learn 50 = .ok (.aload_n 0, 1) := by decide +kernel
theorem dX6_learn_51 : decode cX6_learn 51 = .ok (.getfield 7, 3) := by decide +kernel
theorem dX6_learn_54 : decode cX6_learn 54 = .ok (.bipush 16, 2) := by decide +kernel
theorem dX6_learn_56 : decode cX6_learn 56 = .ok (.iload_n 1, 1) := by decide +kernel
theorem dX6_learn_57 : decode cX6_learn 57 = .ok (.iadd, 1) := by decide +kernel
theorem dX6_learn_58 : decode cX6_learn 58 = .ok (.iload_n 2, 1) := by decide +kernel
theorem dX6_learn_59 : decode cX6_learn 59 = .ok (.iastore, 1) := by decide +kernel
theorem dX6_learn_60 : decode cX6_learn 60 = .ok (.iload_n 3, 1) := by decide +kernel
theorem dX6_learn_61 : decode cX6_learn 61 = .ok (.ireturn, 1) := by decide +kernel
theorem dX6_glare_0 : decode cX6_glare 0 = .ok (.aload_n 0, 1) := by decide +kernel
theorem dX6_glare_1 : decode cX6_glare 1 = .ok (.iconst 0, 1) := by decide +kernel
theorem dX6_glare_2 : decode cX6_glare 2 = .ok (.putfield 28, 3) := by decide +kernel
theorem dX6_glare_5 : decode cX6_glare 5 = .ok (.aload_n 0, 1) := by decide +kernel
theorem dX6_glare_6 : decode cX6_glare 6 = .ok (.getfield 7, 3) := by decide +kernel
theorem dX6_glare_9 : decode cX6_glare 9 = .ok (.iconst 0, 1) := by decide +kernel
theorem dX6_glare_10 : decode cX6_glare 10 = .ok (.iaload, 1) := by decide +kernel
theorem dX6_glare_11 : decode cX6_glare 11 = .ok (.ireturn, 1) := by decide +kernel
theorem dX6_gain_0 : decode cX6_gain 0 = .ok (.aload_n 0, 1) := by decide +kernel
theorem dX6_gain_1 : decode cX6_gain 1 = .ok (.iconst 0, 1) := by decide +kernel
theorem dX6_gain_2 : decode cX6_gain 2 = .ok (.putfield 28, 3) := by decide +kernel
theorem dX6_gain_5 : decode cX6_gain 5 = .ok (.aload_n 0, 1) := by decide +kernel
theorem dX6_gain_6 : decode cX6_gain 6 = .ok (.getfield 7, 3) := by decide +kernel
theorem dX6_gain_9 : decode cX6_gain 9 = .ok (.iconst 1, 1) := by decide +kernel
theorem dX6_gain_10 : decode cX6_gain 10 = .ok (.iaload, 1) := by decide +kernel
theorem dX6_gain_11 : decode cX6_gain 11 = .ok (.ireturn, 1) := by decide +kernel
set_option maxRecDepth 20000 in
theorem ggX6_action_X6_in : GoodIn wsX6_action wsX6_in := goodIn_r _ [6] (by decide +kernel) (by decide +kernel)
set_option maxRecDepth 20000 in
theorem gX6_action_X6_in : GoodIn wsX6_action (va_wsS RX6 35 yX6_in wsX6_in) := goodIn_app (goodIn_of _ (by decide +kernel)) ggX6_action_X6_in
set_option maxRecDepth 20000 in
theorem ggX6_action_X6_throwing : GoodIn wsX6_action wsX6_throwing := goodIn_r _ [10, 1, 11, 12, 13, 14, 15, 16, 17, 18, 19, 20, 21, 22, 23] (by decide +kernel) (by decide +kernel)
set_option maxRecDepth 20000 in
theorem gX6_action_X6_throwing : GoodIn wsX6_action (wsV RX6 75 RX6 yX6_throwing wsX6_throwing) := goodIn_app (goodIn_of _ (by decide +kernel)) ggX6_action_X6_throwing
theorem dX6_action_0 : decode cX6_action 0 = .ok (.aload_n 0, 1) := by decide +kernel
theorem dX6_action_1 : decode cX6_action 1 = .ok (.iconst 0, 1) := by decide +kernel
theorem dX6_action_2 : decode cX6_action 2 = .ok (.putfield 28, 3) := by decide +kernel
theorem dX6_action_5 : decode cX6_action 5 = .ok (.iload_n 1, 1) := by decide +kernel
theorem dX6_action_6 : decode cX6_action 6 = .ok (.iconst 0, 1) := by decide +kernel
theorem dX6_action_7 : decode cX6_action 7 = .ok (.bipush 15, 2) := by decide +kernel
theorem dX6_action_9 : decode cX6_action 9 = .ok (.invokestatic 35, 3) := by decide +kernel
theorem dX6_action_12 : decode cX6_action 12 = .ok (.ifCond .eq 15, 3) := by decide +kernel
theorem dX6_action_15 : decode cX6_action 15 = .ok (.aload_n 0, 1) := by decide +kernel
theorem dX6_action_16 : decode cX6_action 16 = .ok (.getfield 7, 3) := by decide +kernel
theorem dX6_action_19 : decode cX6_action 19 = .ok (.bipush 16, 2) := by decide +kernel
theorem dX6_action_21 : decode cX6_action 21 = .ok (.iload_n 1, 1) := by decide +kernel
theorem dX6_action_22 : decode cX6_action 22 = .ok (.iadd, 1) := by decide +kernel
theorem dX6_action_23 : decode cX6_action 23 = .ok (.iaload, 1) := by decide +kernel
theorem dX6_action_24 : decode cX6_action 24 = .ok (.goto 8, 3) := by decide +kernel
theorem dX6_action_27 : decode cX6_action 27 = .ok (.aload_n 0, 1) := by decide +kernel
theorem dX6_action_28 : decode cX6_action 28 = .ok (.iconst 1, 1) := by decide +kernel
theorem dX6_action_29 : decode cX6_action 29 = .ok (.invokevirtual 75, 3) := by decide +kernel
theorem dX6_action_32 : decode cX6_action 32 = .ok (.ireturn, 1) := by decide +kernel
set_option maxRecDepth 20000 in
theorem ggX6_done_X6_in : GoodIn wsX6_done wsX6_in := goodIn_r _ [6] (by decide +kernel) (by decide +kernel)
set_option maxRecDepth 20000 in
theorem gX6_done_X6_in : GoodIn wsX6_done (va_wsS RX6 35 yX6_in wsX6_in) := goodIn_app (goodIn_of _ (by decide +kernel)) ggX6_done_X6_in
set_option maxRecDepth 20000 in
theorem ggX6_done_X6_throwing : GoodIn wsX6_done wsX6_throwing := goodIn_r _ [10, 1, 11, 12, 13, 14, 15, 16, 17, 18, 19, 20, 21, 22, 23] (by decide +kernel) (by decide +kernel)
set_option maxRecDepth 20000 in
theorem gX6_done_X6_throwing : GoodIn wsX6_done (wsV RX6 75 RX6 yX6_throwing wsX6_throwing) := goodIn_app (goodIn_of _ (by decide +kernel)) ggX6_done_X6_throwing
theorem dX6_done_0 : decode cX6_done 0 = .ok (.aload_n 0, 1) := by decide +kernel
theorem dX6_done_1 : decode cX6_done 1 = .ok (.iconst 0, 1) := by decide +kernel
theorem dX6_done_2 : decode cX6_done 2 = .ok (.putfield 28, 3) := by decide +kernel
theorem dX6_done_5 : decode cX6_done 5 = .ok (.iload_n 1, 1) := by decide +kernel
theorem dX6_done_6 : decode cX6_done 6 = .ok (.iconst 0, 1) := by decide +kernel
theorem dX6_done_7 : decode cX6_done 7 = .ok (.bipush 15, 2) := by decide +kernel
theorem dX6_done_9 : decode cX6_done 9 = .ok (.invokestatic 35, 3) := by decide +kernel
theorem dX6_done_12 : decode cX6_done 12 = .ok (.ifCond .eq 15, 3) := by decide +kernel
theorem dX6_done_15 : decode cX6_done 15 = .ok (.aload_n 0, 1) := by decide +kernel
theorem dX6_done_16 : decode cX6_done 16 = .ok (.getfield 7, 3) := by decide +kernel
theorem dX6_done_19 : decode cX6_done 19 = .ok (.bipush 32, 2) := by decide +kernel
theorem dX6_done_21 : decode cX6_done 21 = .ok (.iload_n 1, 1) := by decide +kernel
theorem dX6_done_22 : decode cX6_done 22 = .ok (.iadd, 1) := by decide +kernel
theorem dX6_done_23 : decode cX6_done 23 = .ok (.iaload, 1) := by decide +kernel
theorem dX6_done_24 : decode cX6_done 24 = .ok (.goto 8, 3) := by decide +kernel
theorem dX6_done_27 : decode cX6_done 27 = .ok (.aload_n 0, 1) := by decide +kernel
theorem dX6_done_28 : decode cX6_done 28 = .ok (.iconst 1, 1) := by decide +kernel
theorem dX6_done_29 : decode cX6_done 29 = .ok (.invokevirtual 75, 3) := by decide +kernel
theorem dX6_done_32 : decode cX6_done 32 = .ok (.ireturn, 1) := by decide +kernel
set_option maxRecDepth 20000 in
theorem ggX6_code_X6_isRemembered : GoodIn wsX6_code wsX6_isRemembered := goodIn_r _ [6, 1, 7, 8, 9, 10, 11, 12, 13, 14, 15, 16, 17, 18, 19] (by decide +kernel) (by decide +kernel)
set_option maxRecDepth 20000 in
theorem gX6_code_X6_isRemembered : GoodIn wsX6_code (wsV RX6 49 RX6 yX6_isRemembered wsX6_isRemembered) := goodIn_app (goodIn_of _ (by decide +kernel)) ggX6_code_X6_isRemembered
theorem dX6_code_0 : decode cX6_code 0 = .ok (.aload_n 0, 1) := by decide +kernel
theorem dX6_code_1 : decode cX6_code 1 = .ok (.invokevirtual 49, 3) := by decide +kernel
theorem dX6_code_4 : decode cX6_code 4 = .ok (.ifCond .eq 12, 3) := by decide +kernel
theorem dX6_code_7 : decode cX6_code 7 = .ok (.aload_n 0, 1) := by decide +kernel
theorem dX6_code_8 : decode cX6_code 8 = .ok (.getfield 7, 3) := by decide +kernel
theorem dX6_code_11 : decode cX6_code 11 = .ok (.iconst 3, 1) := by decide +kernel
theorem dX6_code_12 : decode cX6_code 12 = .ok (.iaload, 1) := by decide +kernel
theorem dX6_code_13 : decode cX6_code 13 = .ok (.goto 4, 3) := by decide +kernel
theorem dX6_code_16 : decode cX6_code 16 = .ok (.iconst (-1), 1) := by decide +kernel
theorem dX6_code_17 : decode cX6_code 17 = .ok (.ireturn, 1) := by decide +kernel
set_option maxRecDepth 20000 in
theorem ggX6_remembered_X6_code : GoodIn wsX6_remembered wsX6_code := goodIn_r _ [6, 7, 8, 9, 10, 5, 11, 12, 13, 14, 15, 16, 17, 18, 19, 20, 21, 22, 23, 24] (by decide +kernel) (by decide +kernel)
set_option maxRecDepth 20000 in
theorem gX6_remembered_X6_code : GoodIn wsX6_remembered (wsV RX6 95 RX6 yX6_code wsX6_code) := goodIn_app (goodIn_of _ (by decide +kernel)) ggX6_remembered_X6_code
theorem dX6_remembered_0 : decode cX6_remembered 0 = .ok (.aload_n 0, 1) := by decide +kernel
theorem dX6_remembered_1 : decode cX6_remembered 1 = .ok (.iconst 0, 1) := by decide +kernel
theorem dX6_remembered_2 : decode cX6_remembered 2 = .ok (.putfield 28, 3) := by decide +kernel
theorem dX6_remembered_5 : decode cX6_remembered 5 = .ok (.aload_n 0, 1) := by decide +kernel
theorem dX6_remembered_6 : decode cX6_remembered 6 = .ok (.invokevirtual 95, 3) := by decide +kernel
theorem dX6_remembered_9 : decode cX6_remembered 9 = .ok (.ireturn, 1) := by decide +kernel
theorem dX6_holds_0 : decode cX6_holds 0 = .ok (.aload_n 0, 1) := by decide +kernel
theorem dX6_holds_1 : decode cX6_holds 1 = .ok (.iconst 0, 1) := by decide +kernel
theorem dX6_holds_2 : decode cX6_holds 2 = .ok (.putfield 28, 3) := by decide +kernel
theorem dX6_holds_5 : decode cX6_holds 5 = .ok (.aload_n 0, 1) := by decide +kernel
theorem dX6_holds_6 : decode cX6_holds 6 = .ok (.getfield 7, 3) := by decide +kernel
theorem dX6_holds_9 : decode cX6_holds 9 = .ok (.iconst 5, 1) := by decide +kernel
theorem dX6_holds_10 : decode cX6_holds 10 = .ok (.iaload, 1) := by decide +kernel
theorem dX6_holds_11 : decode cX6_holds 11 = .ok (.ireturn, 1) := by decide +kernel
theorem dX6_presses_0 : decode cX6_presses 0 = .ok (.aload_n 0, 1) := by decide +kernel
theorem dX6_presses_1 : decode cX6_presses 1 = .ok (.iconst 0, 1) := by decide +kernel
theorem dX6_presses_2 : decode cX6_presses 2 = .ok (.putfield 28, 3) := by decide +kernel
theorem dX6_presses_5 : decode cX6_presses 5 = .ok (.aload_n 0, 1) := by decide +kernel
theorem dX6_presses_6 : decode cX6_presses 6 = .ok (.getfield 7, 3) := by decide +kernel
theorem dX6_presses_9 : decode cX6_presses 9 = .ok (.bipush 7, 2) := by decide +kernel
theorem dX6_presses_11 : decode cX6_presses 11 = .ok (.iaload, 1) := by decide +kernel
theorem dX6_presses_12 : decode cX6_presses 12 = .ok (.ireturn, 1) := by decide +kernel
set_option maxRecDepth 20000 in
theorem ggX6_refused_X6_in : GoodIn wsX6_refused wsX6_in := goodIn_r _ [6] (by decide +kernel) (by decide +kernel)
set_option maxRecDepth 20000 in
theorem gX6_refused_X6_in : GoodIn wsX6_refused (va_wsS RX6 35 yX6_in wsX6_in) := goodIn_app (goodIn_of _ (by decide +kernel)) ggX6_refused_X6_in
set_option maxRecDepth 20000 in
theorem ggX6_refused_X6_throwing : GoodIn wsX6_refused wsX6_throwing := goodIn_r _ [10, 1, 11, 12, 13, 14, 15, 16, 17, 18, 19, 20, 21, 22, 23] (by decide +kernel) (by decide +kernel)
set_option maxRecDepth 20000 in
theorem gX6_refused_X6_throwing : GoodIn wsX6_refused (wsV RX6 75 RX6 yX6_throwing wsX6_throwing) := goodIn_app (goodIn_of _ (by decide +kernel)) ggX6_refused_X6_throwing
theorem dX6_refused_0 : decode cX6_refused 0 = .ok (.aload_n 0, 1) := by decide +kernel
theorem dX6_refused_1 : decode cX6_refused 1 = .ok (.iconst 0, 1) := by decide +kernel
theorem dX6_refused_2 : decode cX6_refused 2 = .ok (.putfield 28, 3) := by decide +kernel
theorem dX6_refused_5 : decode cX6_refused 5 = .ok (.iload_n 1, 1) := by decide +kernel
theorem dX6_refused_6 : decode cX6_refused 6 = .ok (.iconst 1, 1) := by decide +kernel
theorem dX6_refused_7 : decode cX6_refused 7 = .ok (.bipush 6, 2) := by decide +kernel
theorem dX6_refused_9 : decode cX6_refused 9 = .ok (.invokestatic 35, 3) := by decide +kernel
theorem dX6_refused_12 : decode cX6_refused 12 = .ok (.ifCond .eq 15, 3) := by decide +kernel
theorem dX6_refused_15 : decode cX6_refused 15 = .ok (.aload_n 0, 1) := by decide +kernel
theorem dX6_refused_16 : decode cX6_refused 16 = .ok (.getfield 7, 3) := by decide +kernel
theorem dX6_refused_19 : decode cX6_refused 19 = .ok (.bipush 9, 2) := by decide +kernel
theorem dX6_refused_21 : decode cX6_refused 21 = .ok (.iload_n 1, 1) := by decide +kernel
theorem dX6_refused_22 : decode cX6_refused 22 = .ok (.iadd, 1) := by decide +kernel
theorem dX6_refused_23 : decode cX6_refused 23 = .ok (.iaload, 1) := by decide +kernel
theorem dX6_refused_24 : decode cX6_refused 24 = .ok (.goto 8, 3) := by decide +kernel
theorem dX6_refused_27 : decode cX6_refused 27 = .ok (.aload_n 0, 1) := by decide +kernel
theorem dX6_refused_28 : decode cX6_refused 28 = .ok (.iconst 1, 1) := by decide +kernel
theorem dX6_refused_29 : decode cX6_refused 29 = .ok (.invokevirtual 75, 3) := by decide +kernel
theorem dX6_refused_32 : decode cX6_refused 32 = .ok (.ireturn, 1) := by decide +kernel
theorem dX6_row_0 : decode cX6_row 0 = .ok (.aload_n 0, 1) := by decide +kernel
theorem dX6_row_1 : decode cX6_row 1 = .ok (.iconst 0, 1) := by decide +kernel
theorem dX6_row_2 : decode cX6_row 2 = .ok (.putfield 28, 3) := by decide +kernel
theorem dX6_row_5 : decode cX6_row 5 = .ok (.aload_n 0, 1) := by decide +kernel
theorem dX6_row_6 : decode cX6_row 6 = .ok (.getfield 7, 3) := by decide +kernel
theorem dX6_row_9 : decode cX6_row 9 = .ok (.bipush 48, 2) := by decide +kernel
theorem dX6_row_11 : decode cX6_row 11 = .ok (.iaload, 1) := by decide +kernel
theorem dX6_row_12 : decode cX6_row 12 = .ok (.ireturn, 1) := by decide +kernel
theorem dX6_received_0 : decode cX6_received 0 = .ok (.aload_n 0, 1) := by decide +kernel
theorem dX6_received_1 : decode cX6_received 1 = .ok (.iconst 0, 1) := by decide +kernel
theorem dX6_received_2 : decode cX6_received 2 = .ok (.putfield 28, 3) := by decide +kernel
theorem dX6_received_5 : decode cX6_received 5 = .ok (.aload_n 0, 1) := by decide +kernel
theorem dX6_received_6 : decode cX6_received 6 = .ok (.getfield 7, 3) := by decide +kernel
theorem dX6_received_9 : decode cX6_received 9 = .ok (.bipush 8, 2) := by decide +kernel
theorem dX6_received_11 : decode cX6_received 11 = .ok (.iaload, 1) := by decide +kernel
theorem dX6_received_12 : decode cX6_received 12 = .ok (.ireturn, 1) := by decide +kernel
theorem dX6_hitShare_0 : decode cX6_hitShare 0 = .ok (.aload_n 0, 1) := by decide +kernel
theorem dX6_hitShare_1 : decode cX6_hitShare 1 = .ok (.iconst 0, 1) := by decide +kernel
theorem dX6_hitShare_2 : decode cX6_hitShare 2 = .ok (.putfield 28, 3) := by decide +kernel
theorem dX6_hitShare_5 : decode cX6_hitShare 5 = .ok (.aload_n 0, 1) := by decide +kernel
theorem dX6_hitShare_6 : decode cX6_hitShare 6 = .ok (.getfield 7, 3) := by decide +kernel
theorem dX6_hitShare_9 : decode cX6_hitShare 9 = .ok (.bipush 8, 2) := by decide +kernel
theorem dX6_hitShare_11 : decode cX6_hitShare 11 = .ok (.iaload, 1) := by decide +kernel
theorem dX6_hitShare_12 : decode cX6_hitShare 12 = .ok (.istore_n 1, 1) := by decide +kernel
theorem dX6_hitShare_13 : decode cX6_hitShare 13 = .ok (.iconst 1, 1) := by decide +kernel
theorem dX6_hitShare_14 : decode cX6_hitShare 14 = .ok (.istore_n 2, 1) := by decide +kernel
theorem dX6_hitShare_15 : decode cX6_hitShare 15 = .ok (.iload_n 2, 1) := by decide +kernel
theorem dX6_hitShare_16 : decode cX6_hitShare 16 = .ok (.bipush 7, 2) := by decide +kernel
theorem dX6_hitShare_18 : decode cX6_hitShare 18 = .ok (.if_icmp .ge 21, 3) := by decide +kernel
theorem dX6_hitShare_21 : decode cX6_hitShare 21 = .ok (.iload_n 1, 1) := by decide +kernel
theorem dX6_hitShare_22 : decode cX6_hitShare 22 = .ok (.aload_n 0, 1) := by decide +kernel
theorem dX6_hitShare_23 : decode cX6_hitShare 23 = .ok (.getfield 7, 3) := by decide +kernel
theorem dX6_hitShare_26 : decode cX6_hitShare 26 = .ok (.bipush 9, 2) := by decide +kernel
theorem dX6_hitShare_28 : decode cX6_hitShare 28 = .ok (.iload_n 2, 1) := by decide +kernel
theorem dX6_hitShare_29 : decode cX6_hitShare 29 = .ok (.iadd, 1) := by decide +kernel
theorem dX6_hitShare_30 : decode cX6_hitShare 30 = .ok (.iaload, 1) := by decide +kernel
theorem dX6_hitShare_31 : decode cX6_hitShare 31 = .ok (.isub, 1) := by decide +kernel
theorem dX6_hitShare_32 : decode cX6_hitShare 32 = .ok (.istore_n 1, 1) := by decide +kernel
theorem dX6_hitShare_33 : decode cX6_hitShare 33 = .ok (.iinc 2 1, 3) := by decide +kernel
theorem dX6_hitShare_36 : decode cX6_hitShare 36 = .ok (.goto (-21), 3) := by decide +kernel
theorem dX6_hitShare_39 : decode cX6_hitShare 39 = .ok (.aload_n 0, 1) := by decide +kernel
theorem dX6_hitShare_40 : decode cX6_hitShare 40 = .ok (.getfield 7, 3) := by decide +kernel
theorem dX6_hitShare_43 : decode cX6_hitShare 43 = .ok (.bipush 8, 2) := by decide +kernel
theorem dX6_hitShare_45 : decode cX6_hitShare 45 = .ok (.iaload, 1) := by decide +kernel
theorem dX6_hitShare_46 : decode cX6_hitShare 46 = .ok (.ifCond .ne 7, 3) := by decide +kernel
theorem dX6_hitShare_49 : decode cX6_hitShare 49 = .ok (.dconst 1, 1) := by decide +kernel
theorem dX6_hitShare_50 : decode cX6_hitShare 50 = .ok (.goto 14, 3) := by decide +kernel
theorem dX6_hitShare_53 : decode cX6_hitShare 53 = .ok (.iload_n 1, 1) := by decide +kernel
theorem dX6_hitShare_54 : decode cX6_hitShare 54 = .ok (.i2d, 1) := by decide +kernel
theorem dX6_hitShare_55 : decode cX6_hitShare 55 = .ok (.aload_n 0, 1) := by decide +kernel
theorem dX6_hitShare_56 : decode cX6_hitShare 56 = .ok (.getfield 7, 3) := by decide +kernel
theorem dX6_hitShare_59 : decode cX6_hitShare 59 = .ok (.bipush 8, 2) := by decide +kernel
theorem dX6_hitShare_61 : decode cX6_hitShare 61 = .ok (.iaload, 1) := by decide +kernel
theorem dX6_hitShare_62 : decode cX6_hitShare 62 = .ok (.i2d, 1) := by decide +kernel
theorem dX6_hitShare_63 : decode cX6_hitShare 63 = .ok (.ddiv, 1) := by decide +kernel
theorem dX6_hitShare_64 : decode cX6_hitShare 64 = .ok (.dreturn, 1) := by decide +kernel
set_option maxRecDepth 20000 in
theorem ggX6_bit_X6_areFrame : GoodIn wsX6_bit wsX6_areFrame := goodIn_r _ [5, 6, 7, 4, 8] (by decide +kernel) (by decide +kernel)
set_option maxRecDepth 20000 in
theorem gX6_bit_X6_areFrame : GoodIn wsX6_bit (va_wsS RX6 72 yX6_areFrame wsX6_areFrame) := goodIn_app (goodIn_of _ (by decide +kernel)) ggX6_bit_X6_areFrame
set_option maxRecDepth 20000 in
theorem ggX6_bit_X6_in : GoodIn wsX6_bit wsX6_in := goodIn_r _ [8] (by decide +kernel) (by decide +kernel)
set_option maxRecDepth 20000 in
theorem gX6_bit_X6_in : GoodIn wsX6_bit (va_wsS RX6 35 yX6_in wsX6_in) := goodIn_app (goodIn_of _ (by decide +kernel)) ggX6_bit_X6_in
set_option maxRecDepth 20000 in
theorem ggX6_bit_X6_bitOf : GoodIn wsX6_bit wsX6_bitOf := goodIn_r _ [11] (by decide +kernel) (by decide +kernel)
set_option maxRecDepth 20000 in
theorem gX6_bit_X6_bitOf : GoodIn wsX6_bit (va_wsS RX6 39 yX6_bitOf wsX6_bitOf) := goodIn_app (goodIn_of _ (by decide +kernel)) ggX6_bit_X6_bitOf
set_option maxRecDepth 20000 in
theorem ggX6_bit_X6_throwing : GoodIn wsX6_bit wsX6_throwing := goodIn_r _ [15, 1, 16, 17, 18, 19, 20, 21, 22, 23, 24, 25, 26, 27, 28] (by decide +kernel) (by decide +kernel)
set_option maxRecDepth 20000 in
theorem gX6_bit_X6_throwing : GoodIn wsX6_bit (wsV RX6 75 RX6 yX6_throwing wsX6_throwing) := goodIn_app (goodIn_of _ (by decide +kernel)) ggX6_bit_X6_throwing
theorem dX6_bit_0 : decode cX6_bit 0 = .ok (.aload_n 0, 1) := by decide +kernel
theorem dX6_bit_1 : decode cX6_bit 1 = .ok (.iconst 0, 1) := by decide +kernel
theorem dX6_bit_2 : decode cX6_bit 2 = .ok (.putfield 28, 3) := by decide +kernel
theorem dX6_bit_5 : decode cX6_bit 5 = .ok (.iload_n 1, 1) := by decide +kernel
theorem dX6_bit_6 : decode cX6_bit 6 = .ok (.iload_n 2, 1) := by decide +kernel
theorem dX6_bit_7 : decode cX6_bit 7 = .ok (.iload_n 3, 1) := by decide +kernel
theorem dX6_bit_8 : decode cX6_bit 8 = .ok (.invokestatic 72, 3) := by decide +kernel
theorem dX6_bit_11 : decode cX6_bit 11 = .ok (.ifCond .eq 25, 3) := by decide +kernel
theorem dX6_bit_14 : decode cX6_bit 14 = .ok (.iload 4, 2) := by decide +kernel
theorem dX6_bit_16 : decode cX6_bit 16 = .ok (.iconst 0, 1) := by decide +kernel
theorem dX6_bit_17 : decode cX6_bit 17 = .ok (.bipush 8, 2) := by decide +kernel
theorem dX6_bit_19 : decode cX6_bit 19 = .ok (.invokestatic 35, 3) := by decide +kernel
theorem dX6_bit_22 : decode cX6_bit 22 = .ok (.ifCond .eq 14, 3) := by decide +kernel
theorem dX6_bit_25 : decode cX6_bit 25 = .ok (.iload_n 1, 1) := by decide +kernel
theorem dX6_bit_26 : decode cX6_bit 26 = .ok (.iload_n 2, 1) := by decide +kernel
theorem dX6_bit_27 : decode cX6_bit 27 = .ok (.iload_n 3, 1) := by decide +kernel
theorem dX6_bit_28 : decode cX6_bit 28 = .ok (.iload 4, 2) := by decide +kernel
theorem dX6_bit_30 : decode cX6_bit 30 = .ok (.invokestatic 39, 3) := by decide +kernel
theorem dX6_bit_33 : decode cX6_bit 33 = .ok (.goto 8, 3) := by decide +kernel
theorem dX6_bit_36 : decode cX6_bit 36 = .ok (.aload_n 0, 1) := by decide +kernel
theorem dX6_bit_37 : decode cX6_bit 37 = .ok (.iconst 1, 1) := by decide +kernel
theorem dX6_bit_38 : decode cX6_bit 38 = .ok (.invokevirtual 75, 3) := by decide +kernel
theorem dX6_bit_41 : decode cX6_bit 41 = .ok (.ireturn, 1) := by decide +kernel
set_option maxRecDepth 20000 in
theorem ggX6_tried_X6_putAside : GoodIn wsX6_tried wsX6_putAside := goodIn_r _ [5, 6, 7, 54, 55, 56, 57, 58, 59, 60, 61, 62, 63, 64, 65, 66] (by decide +kernel) (by decide +kernel)
set_option maxRecDepth 20000 in
theorem gX6_tried_X6_putAside : GoodIn wsX6_tried (wsV RX6 98 RX6 yX6_putAside wsX6_putAside) := goodIn_app (goodIn_of _ (by decide +kernel)) ggX6_tried_X6_putAside
set_option maxRecDepth 20000 in
theorem ggX6_tried_X6_layFrame : GoodIn wsX6_tried wsX6_layFrame := goodIn_r _ [11, 12, 13, 14, 15, 4, 16, 54, 55, 56, 57, 58, 59, 60, 61, 62, 63, 64, 65, 66] (by decide +kernel) (by decide +kernel)
set_option maxRecDepth 20000 in
theorem gX6_tried_X6_layFrame : GoodIn wsX6_tried (wsV RX6 81 RX6 yX6_layFrame wsX6_layFrame) := goodIn_app (goodIn_of _ (by decide +kernel)) ggX6_tried_X6_layFrame
set_option maxRecDepth 20000 in
theorem ggX6_tried_X6_get : GoodIn wsX6_tried wsX6_get := goodIn_r _ [20, 7, 21, 22, 23, 4, 24, 25, 13, 12, 26, 27, 28, 29, 30, 31, 32, 33, 34, 35, 36, 37, 38, 39, 40, 41, 42, 43, 44, 45, 46, 47, 48, 49, 54, 55, 56, 57, 58, 59, 60, 61, 62, 63, 64, 65, 66] (by decide +kernel) (by decide +kernel)
set_option maxRecDepth 20000 in
theorem gX6_tried_X6_get : GoodIn wsX6_tried (wsV RX6 85 RX6 yX6_get wsX6_get) := goodIn_app (goodIn_of _ (by decide +kernel)) ggX6_tried_X6_get
set_option maxRecDepth 20000 in
theorem ggX6_tried_X6_putBack : GoodIn wsX6_tried wsX6_putBack := goodIn_r _ [53, 7, 6, 54, 55, 56, 57, 58, 59, 60, 61, 62, 63, 64, 65, 66] (by decide +kernel) (by decide +kernel)
set_option maxRecDepth 20000 in
theorem gX6_tried_X6_putBack : GoodIn wsX6_tried (wsV RX6 101 RX6 yX6_putBack wsX6_putBack) := goodIn_app (goodIn_of _ (by decide +kernel)) ggX6_tried_X6_putBack
theorem dX6_tried_0 : decode cX6_tried 0 = .ok (.aload_n 0, 1) := by decide +kernel
theorem dX6_tried_1 : decode cX6_tried 1 = .ok (.invokevirtual 98, 3) := by decide +kernel
theorem dX6_tried_4 : decode cX6_tried 4 = .ok (.aload_n 0, 1) := by decide +kernel
theorem dX6_tried_5 : decode cX6_tried 5 = .ok (.iload_n 1, 1) := by decide +kernel
theorem dX6_tried_6 : decode cX6_tried 6 = .ok (.iload_n 2, 1) := by decide +kernel
theorem dX6_tried_7 : decode cX6_tried 7 = .ok (.iload_n 3, 1) := by decide +kernel
theorem dX6_tried_8 : decode cX6_tried 8 = .ok (.invokevirtual 81, 3) := by decide +kernel
theorem dX6_tried_11 : decode cX6_tried 11 = .ok (.aload_n 0, 1) := by decide +kernel
theorem dX6_tried_12 : decode cX6_tried 12 = .ok (.iload 4, 2) := by decide +kernel
theorem dX6_tried_14 : decode cX6_tried 14 = .ok (.invokevirtual 85, 3) := by decide +kernel
theorem dX6_tried_17 : decode cX6_tried 17 = .ok (.istore 5, 2) := by decide +kernel
theorem dX6_tried_19 : decode cX6_tried 19 = .ok (.aload_n 0, 1) := by decide +kernel
theorem dX6_tried_20 : decode cX6_tried 20 = .ok (.invokevirtual 101, 3) := by decide +kernel
theorem dX6_tried_23 : decode cX6_tried 23 = .ok (.iload 5, 2) := by decide +kernel
theorem dX6_tried_25 : decode cX6_tried 25 = .ok (.ireturn, 1) := by decide +kernel
set_option maxRecDepth 20000 in
theorem ggX6_ifFrame_X6_areFrame : GoodIn wsX6_ifFrame wsX6_areFrame := goodIn_r _ [5, 6, 7, 4, 8] (by decide +kernel) (by decide +kernel)
set_option maxRecDepth 20000 in
theorem gX6_ifFrame_X6_areFrame : GoodIn wsX6_ifFrame (va_wsS RX6 72 yX6_areFrame wsX6_areFrame) := goodIn_app (goodIn_of _ (by decide +kernel)) ggX6_ifFrame_X6_areFrame
set_option maxRecDepth 20000 in
theorem ggX6_ifFrame_X6_in : GoodIn wsX6_ifFrame wsX6_in := goodIn_r _ [8] (by decide +kernel) (by decide +kernel)
set_option maxRecDepth 20000 in
theorem gX6_ifFrame_X6_in : GoodIn wsX6_ifFrame (va_wsS RX6 35 yX6_in wsX6_in) := goodIn_app (goodIn_of _ (by decide +kernel)) ggX6_ifFrame_X6_in
set_option maxRecDepth 20000 in
theorem ggX6_ifFrame_X6_tried : GoodIn wsX6_ifFrame wsX6_tried := goodIn_r _ [12, 13, 14, 15, 4, 16, 17, 18, 19, 20, 21, 22, 23, 24, 25, 26, 27, 28, 29, 30, 31, 32, 33, 34, 35, 36, 37, 38, 39, 40, 41, 42, 43, 44, 45, 6, 7, 8, 46, 47, 48, 49, 50, 51, 52, 53, 54, 55, 56, 57, 58, 59, 60, 61, 66, 67, 68, 69, 70, 71, 72, 73, 74, 75, 76, 77, 78] (by decide +kernel) (by decide +kernel)
set_option maxRecDepth 20000 in
theorem gX6_ifFrame_X6_tried : GoodIn wsX6_ifFrame (wsV RX6 104 RX6 yX6_tried wsX6_tried) := goodIn_app (goodIn_of _ (by decide +kernel)) ggX6_ifFrame_X6_tried
set_option maxRecDepth 20000 in
theorem ggX6_ifFrame_X6_throwing : GoodIn wsX6_ifFrame wsX6_throwing := goodIn_r _ [65, 1, 66, 67, 68, 69, 70, 71, 72, 73, 74, 75, 76, 77, 78] (by decide +kernel) (by decide +kernel)
set_option maxRecDepth 20000 in
theorem gX6_ifFrame_X6_throwing : GoodIn wsX6_ifFrame (wsV RX6 75 RX6 yX6_throwing wsX6_throwing) := goodIn_app (goodIn_of _ (by decide +kernel)) ggX6_ifFrame_X6_throwing
theorem dX6_ifFrame_0 : decode cX6_ifFrame 0 = .ok (.aload_n 0, 1) := by decide +kernel
theorem dX6_ifFrame_1 : decode cX6_ifFrame 1 = .ok (.iconst 0, 1) := by decide +kernel
theorem dX6_ifFrame_2 : decode cX6_ifFrame 2 = .ok (.putfield 28, 3) := by decide +kernel
theorem dX6_ifFrame_5 : decode cX6_ifFrame 5 = .ok (.iload_n 1, 1) := by decide +kernel
theorem dX6_ifFrame_6 : decode cX6_ifFrame 6 = .ok (.iload_n 2, 1) := by decide +kernel
theorem dX6_ifFrame_7 : decode cX6_ifFrame 7 = .ok (.iload_n 3, 1) := by decide +kernel
theorem dX6_ifFrame_8 : decode cX6_ifFrame 8 = .ok (.invokestatic 72, 3) := by decide +kernel
theorem dX6_ifFrame_11 : decode cX6_ifFrame 11 = .ok (.ifCond .eq 26, 3) := by decide +kernel
theorem dX6_ifFrame_14 : decode cX6_ifFrame 14 = .ok (.iload 4, 2) := by decide +kernel
theorem dX6_ifFrame_16 : decode cX6_ifFrame 16 = .ok (.iconst 1, 1) := by decide +kernel
theorem dX6_ifFrame_17 : decode cX6_ifFrame 17 = .ok (.bipush 10, 2) := by decide +kernel
theorem dX6_ifFrame_19 : decode cX6_ifFrame 19 = .ok (.invokestatic 35, 3) := by decide +kernel
theorem dX6_ifFrame_22 : decode cX6_ifFrame 22 = .ok (.ifCond .eq 15, 3) := by decide +kernel
theorem dX6_ifFrame_25 : decode cX6_ifFrame 25 = .ok (.aload_n 0, 1) := by decide +kernel
theorem dX6_ifFrame_26 : decode cX6_ifFrame 26 = .ok (.iload_n 1, 1) := by decide +kernel
theorem dX6_ifFrame_27 : decode cX6_ifFrame 27 = .ok (.iload_n 2, 1) := by decide +kernel
theorem dX6_ifFrame_28 : decode cX6_ifFrame 28 = .ok (.iload_n 3, 1) := by decide +kernel
theorem dX6_ifFrame_29 : decode cX6_ifFrame 29 = .ok (.iload 4, 2) := by decide +kernel
theorem dX6_ifFrame_31 : decode cX6_ifFrame 31 = .ok (.invokevirtual 104, 3) := by decide +kernel
theorem dX6_ifFrame_34 : decode cX6_ifFrame 34 = .ok (.goto 8, 3) := by decide +kernel
theorem dX6_ifFrame_37 : decode cX6_ifFrame 37 = .ok (.aload_n 0, 1) := by decide +kernel
theorem dX6_ifFrame_38 : decode cX6_ifFrame 38 = .ok (.iconst 1, 1) := by decide +kernel
theorem dX6_ifFrame_39 : decode cX6_ifFrame 39 = .ok (.invokevirtual 75, 3) := by decide +kernel
theorem dX6_ifFrame_42 : decode cX6_ifFrame 42 = .ok (.ireturn, 1) := by decide +kernel
set_option maxRecDepth 20000 in
theorem ggX6_least_X6_tried : GoodIn wsX6_least wsX6_tried := goodIn_r _ [6, 7, 8, 9, 5, 10, 11, 1, 12, 13, 14, 15, 16, 17, 18, 19, 20, 21, 22, 23, 24, 25, 26, 27, 28, 29, 30, 31, 32, 33, 34, 35, 36, 37, 38, 39, 40, 41, 42, 43, 44, 45, 46, 47, 48, 49, 50, 51, 52, 53, 54, 55, 56, 57, 58, 59, 60, 61, 62, 63, 64, 65, 66, 67, 68, 69, 70] (by decide +kernel) (by decide +kernel)
set_option maxRecDepth 20000 in
theorem gX6_least_X6_tried : GoodIn wsX6_least (wsV RX6 104 RX6 yX6_tried wsX6_tried) := goodIn_app (goodIn_of _ (by decide +kernel)) ggX6_least_X6_tried
theorem dX6_least_0 : decode cX6_least 0 = .ok (.iconst 1, 1) := by decide +kernel
theorem dX6_least_1 : decode cX6_least 1 = .ok (.istore_n 1, 1) := by decide +kernel
theorem dX6_least_2 : decode cX6_least 2 = .ok (.iload_n 1, 1) := by decide +kernel
theorem dX6_least_3 : decode cX6_least 3 = .ok (.bipush 10, 2) := by decide +kernel
theorem dX6_least_5 : decode cX6_least 5 = .ok (.if_icmp .gt 27, 3) := by decide +kernel
theorem dX6_least_8 : decode cX6_least 8 = .ok (.aload_n 0, 1) := by decide +kernel
theorem dX6_least_9 : decode cX6_least 9 = .ok (.aload_n 0, 1) := by decide +kernel
theorem dX6_least_10 : decode cX6_least 10 = .ok (.getfield 7, 3) := by decide +kernel
theorem dX6_least_13 : decode cX6_least 13 = .ok (.iconst 2, 1) := by decide +kernel
theorem dX6_least_14 : decode cX6_least 14 = .ok (.iaload, 1) := by decide +kernel
theorem dX6_least_15 : decode cX6_least 15 = .ok (.iconst 0, 1) := by decide +kernel
theorem dX6_least_16 : decode cX6_least 16 = .ok (.iconst 0, 1) := by decide +kernel
theorem dX6_least_17 : decode cX6_least 17 = .ok (.iload_n 1, 1) := by decide +kernel
theorem dX6_least_18 : decode cX6_least 18 = .ok (.invokevirtual 104, 3) := by decide +kernel
theorem dX6_least_21 : decode cX6_least 21 = .ok (.ifCond .gt 5, 3) := by decide +kernel
theorem dX6_least_24 : decode cX6_least 24 = .ok (.iload_n 1, 1) := by decide +kernel
theorem dX6_least_25 : decode cX6_least 25 = .ok (.ireturn, 1) := by decide +kernel
theorem dX6_least_26 : decode cX6_least 26 = .ok (.iinc 1 1, 3) := by decide +kernel
theorem dX6_least_29 : decode cX6_least 29 = .ok (.goto (-27), 3) := by decide +kernel
theorem dX6_least_32 : decode cX6_least 32 = .ok (.iconst (-1), 1) := by decide +kernel
theorem dX6_least_33 : decode cX6_least 33 = .ok (.ireturn, 1) := by decide +kernel
set_option maxRecDepth 20000 in
theorem ggX6_leastStrength_X6_least : GoodIn wsX6_leastStrength wsX6_least := goodIn_r _ [6, 7, 8, 9, 10, 5, 11, 12, 13, 14, 15, 16, 17, 18, 19, 20, 21, 22, 23, 24, 25, 26, 27, 28, 29, 30, 31, 32, 33, 34, 35, 36, 37, 38, 39, 40, 41, 42, 43, 44, 45, 46, 47, 48, 49, 50, 51, 52, 53, 54, 55, 56, 57, 58, 59, 60, 61, 62, 63, 64, 65, 66, 67, 68, 69, 70, 71, 72, 73, 74, 75] (by decide +kernel) (by decide +kernel)
set_option maxRecDepth 20000 in
theorem gX6_leastStrength_X6_least : GoodIn wsX6_leastStrength (wsV RX6 107 RX6 yX6_least wsX6_least) := goodIn_app (goodIn_of _ (by decide +kernel)) ggX6_leastStrength_X6_least
theorem dX6_leastStrength_0 : decode cX6_leastStrength 0 = .ok (.aload_n 0, 1) := by decide +kernel
theorem dX6_leastStrength_1 : decode cX6_leastStrength 1 = .ok (.iconst 0, 1) := by decide +kernel
theorem dX6_leastStrength_2 : decode cX6_leastStrength 2 = .ok (.putfield 28, 3) := by decide +kernel
theorem dX6_leastStrength_5 : decode cX6_leastStrength 5 = .ok (.aload_n 0, 1) := by decide +kernel
theorem dX6_leastStrength_6 : decode cX6_leastStrength 6 = .ok (.invokevirtual 107, 3) := by decide +kernel
theorem dX6_leastStrength_9 : decode cX6_leastStrength 9 = .ok (.ireturn, 1) := by decide +kernel
set_option maxRecDepth 20000 in
theorem ggX6_toCome_X6_putAside : GoodIn wsX6_toCome wsX6_putAside := goodIn_r _ [6, 7, 1, 54, 55, 56, 57, 58, 59, 60, 61, 62, 63, 64, 65, 66] (by decide +kernel) (by decide +kernel)
set_option maxRecDepth 20000 in
theorem gX6_toCome_X6_putAside : GoodIn wsX6_toCome (wsV RX6 98 RX6 yX6_putAside wsX6_putAside) := goodIn_app (goodIn_of _ (by decide +kernel)) ggX6_toCome_X6_putAside
set_option maxRecDepth 20000 in
theorem ggX6_toCome_X6_layFrame : GoodIn wsX6_toCome wsX6_layFrame := goodIn_r _ [11, 12, 13, 14, 15, 5, 16, 54, 55, 56, 57, 58, 59, 60, 61, 62, 63, 64, 65, 66] (by decide +kernel) (by decide +kernel)
set_option maxRecDepth 20000 in
theorem gX6_toCome_X6_layFrame : GoodIn wsX6_toCome (wsV RX6 81 RX6 yX6_layFrame wsX6_layFrame) := goodIn_app (goodIn_of _ (by decide +kernel)) ggX6_toCome_X6_layFrame
set_option maxRecDepth 20000 in
theorem ggX6_toCome_X6_get : GoodIn wsX6_toCome wsX6_get := goodIn_r _ [20, 1, 21, 22, 23, 5, 24, 25, 13, 12, 26, 27, 28, 29, 30, 31, 32, 33, 34, 35, 36, 37, 38, 39, 40, 41, 42, 43, 44, 45, 46, 47, 48, 49, 54, 55, 56, 57, 58, 59, 60, 61, 62, 63, 64, 65, 66] (by decide +kernel) (by decide +kernel)
set_option maxRecDepth 20000 in
theorem gX6_toCome_X6_get : GoodIn wsX6_toCome (wsV RX6 85 RX6 yX6_get wsX6_get) := goodIn_app (goodIn_of _ (by decide +kernel)) ggX6_toCome_X6_get
set_option maxRecDepth 20000 in
theorem ggX6_toCome_X6_putBack : GoodIn wsX6_toCome wsX6_putBack := goodIn_r _ [53, 1, 7, 54, 55, 56, 57, 58, 59, 60, 61, 62, 63, 64, 65, 66] (by decide +kernel) (by decide +kernel)
set_option maxRecDepth 20000 in
theorem gX6_toCome_X6_putBack : GoodIn wsX6_toCome (wsV RX6 101 RX6 yX6_putBack wsX6_putBack) := goodIn_app (goodIn_of _ (by decide +kernel)) ggX6_toCome_X6_putBack
theorem dX6_toCome_0 : decode cX6_toCome 0 = .ok (.aload_n 0, 1) := by decide +kernel
theorem dX6_toCome_1 : decode cX6_toCome 1 = .ok (.invokevirtual 98, 3) := by decide +kernel
theorem dX6_toCome_4 : decode cX6_toCome 4 = .ok (.iconst 0, 1) := by decide +kernel
theorem dX6_toCome_5 : decode cX6_toCome 5 = .ok (.istore_n 1, 1) := by decide +kernel
theorem dX6_toCome_6 : decode cX6_toCome 6 = .ok (.iconst 1, 1) := by decide +kernel
theorem dX6_toCome_7 : decode cX6_toCome 7 = .ok (.istore_n 2, 1) := by decide +kernel
theorem dX6_toCome_8 : decode cX6_toCome 8 = .ok (.iload_n 2, 1) := by decide +kernel
theorem dX6_toCome_9 : decode cX6_toCome 9 = .ok (.ifCond .eq 51, 3) := by decide +kernel
theorem dX6_toCome_12 : decode cX6_toCome 12 = .ok (.iload_n 1, 1) := by decide +kernel
theorem dX6_toCome_13 : decode cX6_toCome 13 = .ok (.bipush 20, 2) := by decide +kernel
theorem dX6_toCome_15 : decode cX6_toCome 15 = .ok (.if_icmp .gt 45, 3) := by decide +kernel
theorem dX6_toCome_18 : decode cX6_toCome 18 = .ok (.aload_n 0, 1) := by decide +kernel
theorem dX6_toCome_19 : decode cX6_toCome 19 = .ok (.aload_n 0, 1) := by decide +kernel
theorem dX6_toCome_20 : decode cX6_toCome 20 = .ok (.getfield 7, 3) := by decide +kernel
theorem dX6_toCome_23 : decode cX6_toCome 23 = .ok (.iconst 2, 1) := by decide +kernel
theorem dX6_toCome_24 : decode cX6_toCome 24 = .ok (.iaload, 1) := by decide +kernel
theorem dX6_toCome_25 : decode cX6_toCome 25 = .ok (.iconst 0, 1) := by decide +kernel
theorem dX6_toCome_26 : decode cX6_toCome 26 = .ok (.iconst 0, 1) := by decide +kernel
theorem dX6_toCome_27 : decode cX6_toCome 27 = .ok (.invokevirtual 81, 3) := by decide +kernel
theorem dX6_toCome_30 : decode cX6_toCome 30 = .ok (.aload_n 0, 1) := by decide +kernel
theorem dX6_toCome_31 : decode cX6_toCome 31 = .ok (.bipush 10, 2) := by decide +kernel
theorem dX6_toCome_33 : decode cX6_toCome 33 = .ok (.invokevirtual 85, 3) := by decide +kernel
theorem dX6_toCome_36 : decode cX6_toCome 36 = .ok (.ifCond .le 7, 3) := by decide +kernel
theorem dX6_toCome_39 : decode cX6_toCome 39 = .ok (.iconst 1, 1) := by decide +kernel
theorem dX6_toCome_40 : decode cX6_toCome 40 = .ok (.goto 4, 3) := by decide +kernel
theorem dX6_toCome_43 : decode cX6_toCome 43 = .ok (.iconst 0, 1) := by decide +kernel
theorem dX6_toCome_44 : decode cX6_toCome 44 = .ok (.istore_n 2, 1) := by decide +kernel
theorem dX6_toCome_45 : decode cX6_toCome 45 = .ok (.iload_n 1, 1) := by decide +kernel
theorem dX6_toCome_46 : decode cX6_toCome 46 = .ok (.iload_n 2, 1) := by decide +kernel
theorem dX6_toCome_47 : decode cX6_toCome 47 = .ok (.ifCond .eq 7, 3) := by decide +kernel
theorem dX6_toCome_50 : decode cX6_toCome 50 = .ok (.iconst 1, 1) := by decide +kernel
theorem dX6_toCome_51 : decode cX6_toCome 51 = .ok (.goto 4, 3) := by decide +kernel
theorem dX6_toCome_54 : decode cX6_toCome 54 = .ok (.iconst 0, 1) := by decide +kernel
theorem dX6_toCome_55 : decode cX6_toCome 55 = .ok (.iadd, 1) := by decide +kernel
theorem dX6_toCome_56 : decode cX6_toCome 56 = .ok (.istore_n 1, 1) := by decide +kernel
theorem dX6_toCome_57 : decode cX6_toCome 57 = .ok (.goto (-49), 3) := by decide +kernel
theorem dX6_toCome_60 : decode cX6_toCome 60 = .ok (.aload_n 0, 1) := by decide +kernel
theorem dX6_toCome_61 : decode cX6_toCome 61 = .ok (.invokevirtual 101, 3) := by decide +kernel
theorem dX6_toCome_64 : decode cX6_toCome 64 = .ok (.iload_n 1, 1) := by decide +kernel
theorem dX6_toCome_65 : decode cX6_toCome 65 = .ok (.bipush 20, 2) := by decide +kernel
theorem dX6_toCome_67 : decode cX6_toCome 67 = .ok (.if_icmp .le 7, 3) := by decide +kernel
theorem dX6_toCome_70 : decode cX6_toCome 70 = .ok (.iconst (-1), 1) := by decide +kernel
theorem dX6_toCome_71 : decode cX6_toCome 71 = .ok (.goto 4, 3) := by decide +kernel
theorem dX6_toCome_74 : decode cX6_toCome 74 = .ok (.iload_n 1, 1) := by decide +kernel
theorem dX6_toCome_75 : decode cX6_toCome 75 = .ok (.ireturn, 1) := by decide +kernel
set_option maxRecDepth 20000 in
theorem ggX6_refusalsToCome_X6_toCome : GoodIn wsX6_refusalsToCome wsX6_toCome := goodIn_r _ [6, 7, 8, 9, 10, 5, 11, 12, 13, 14, 15, 16, 17, 18, 19, 20, 21, 22, 23, 24, 25, 26, 27, 28, 29, 30, 31, 32, 33, 34, 35, 36, 37, 38, 39, 40, 41, 42, 43, 44, 45, 46, 47, 48, 49, 50, 51, 52, 53, 54, 55, 56, 57, 58, 59, 60, 61, 62, 63, 64, 65, 66, 67, 68, 69, 70, 71] (by decide +kernel) (by decide +kernel)
set_option maxRecDepth 20000 in
theorem gX6_refusalsToCome_X6_toCome : GoodIn wsX6_refusalsToCome (wsV RX6 110 RX6 yX6_toCome wsX6_toCome) := goodIn_app (goodIn_of _ (by decide +kernel)) ggX6_refusalsToCome_X6_toCome
theorem dX6_refusalsToCome_0 : decode cX6_refusalsToCome 0 = .ok (.aload_n 0, 1) := by decide +kernel
theorem dX6_refusalsToCome_1 : decode cX6_refusalsToCome 1 = .ok (.iconst 0, 1) := by decide +kernel
theorem dX6_refusalsToCome_2 : decode cX6_refusalsToCome 2 = .ok (.putfield 28, 3) := by decide +kernel
theorem dX6_refusalsToCome_5 : decode cX6_refusalsToCome 5 = .ok (.aload_n 0, 1) := by decide +kernel
theorem dX6_refusalsToCome_6 : decode cX6_refusalsToCome 6 = .ok (.invokevirtual 110, 3) := by decide +kernel
theorem dX6_refusalsToCome_9 : decode cX6_refusalsToCome 9 = .ok (.ireturn, 1) := by decide +kernel
set_option maxRecDepth 20000 in
theorem ggX6_forgets_X6_isRemembered : GoodIn wsX6_forgets wsX6_isRemembered := goodIn_r _ [6, 1, 7, 8, 9, 10, 11, 12, 13, 14, 15, 16, 17, 18, 19] (by decide +kernel) (by decide +kernel)
set_option maxRecDepth 20000 in
theorem gX6_forgets_X6_isRemembered : GoodIn wsX6_forgets (wsV RX6 49 RX6 yX6_isRemembered wsX6_isRemembered) := goodIn_app (goodIn_of _ (by decide +kernel)) ggX6_forgets_X6_isRemembered
theorem dX6_forgets_0 : decode cX6_forgets 0 = .ok (.aload_n 0, 1) := by decide +kernel
theorem dX6_forgets_1 : decode cX6_forgets 1 = .ok (.invokevirtual 49, 3) := by decide +kernel
theorem dX6_forgets_4 : decode cX6_forgets 4 = .ok (.ifCond .eq 16, 3) := by decide +kernel
theorem dX6_forgets_7 : decode cX6_forgets 7 = .ok (.bipush 61, 2) := by decide +kernel
theorem dX6_forgets_9 : decode cX6_forgets 9 = .ok (.aload_n 0, 1) := by decide +kernel
theorem dX6_forgets_10 : decode cX6_forgets 10 = .ok (.getfield 7, 3) := by decide +kernel
theorem dX6_forgets_13 : decode cX6_forgets 13 = .ok (.bipush 6, 2) := by decide +kernel
theorem dX6_forgets_15 : decode cX6_forgets 15 = .ok (.iaload, 1) := by decide +kernel
theorem dX6_forgets_16 : decode cX6_forgets 16 = .ok (.isub, 1) := by decide +kernel
theorem dX6_forgets_17 : decode cX6_forgets 17 = .ok (.goto 4, 3) := by decide +kernel
theorem dX6_forgets_20 : decode cX6_forgets 20 = .ok (.iconst (-1), 1) := by decide +kernel
theorem dX6_forgets_21 : decode cX6_forgets 21 = .ok (.ireturn, 1) := by decide +kernel
set_option maxRecDepth 20000 in
theorem ggX6_ticksToForget_X6_forgets : GoodIn wsX6_ticksToForget wsX6_forgets := goodIn_r _ [6, 7, 8, 9, 10, 5, 11, 12, 13, 14, 15, 16, 17, 18, 19, 20, 21, 22, 23, 24] (by decide +kernel) (by decide +kernel)
set_option maxRecDepth 20000 in
theorem gX6_ticksToForget_X6_forgets : GoodIn wsX6_ticksToForget (wsV RX6 113 RX6 yX6_forgets wsX6_forgets) := goodIn_app (goodIn_of _ (by decide +kernel)) ggX6_ticksToForget_X6_forgets
theorem dX6_ticksToForget_0 : decode cX6_ticksToForget 0 = .ok (.aload_n 0, 1) := by decide +kernel
theorem dX6_ticksToForget_1 : decode cX6_ticksToForget 1 = .ok (.iconst 0, 1) := by decide +kernel
theorem dX6_ticksToForget_2 : decode cX6_ticksToForget 2 = .ok (.putfield 28, 3) := by decide +kernel
theorem dX6_ticksToForget_5 : decode cX6_ticksToForget 5 = .ok (.aload_n 0, 1) := by decide +kernel
theorem dX6_ticksToForget_6 : decode cX6_ticksToForget 6 = .ok (.invokevirtual 113, 3) := by decide +kernel
theorem dX6_ticksToForget_9 : decode cX6_ticksToForget 9 = .ok (.ireturn, 1) := by decide +kernel
set_option maxRecDepth 20000 in
theorem ggX6_append_X6_in : GoodIn wsX6_append wsX6_in := goodIn_r _ [7] (by decide +kernel) (by decide +kernel)
set_option maxRecDepth 20000 in
theorem gX6_append_X6_in : GoodIn wsX6_append (va_wsS RX6 35 yX6_in wsX6_in) := goodIn_app (goodIn_of _ (by decide +kernel)) ggX6_append_X6_in
set_option maxRecDepth 20000 in
theorem ggX6_append_X6_throwing : GoodIn wsX6_append wsX6_throwing := goodIn_r _ [11, 1, 12, 13, 14, 15, 16, 17, 18, 19, 20, 21, 22, 23, 24] (by decide +kernel) (by decide +kernel)
set_option maxRecDepth 20000 in
theorem gX6_append_X6_throwing : GoodIn wsX6_append (wsV RX6 75 RX6 yX6_throwing wsX6_throwing) := goodIn_app (goodIn_of _ (by decide +kernel)) ggX6_append_X6_throwing
theorem dX6_append_0 : decode cX6_append 0 = .ok (.aload_n 0, 1) := by decide +kernel
theorem dX6_append_1 : decode cX6_append 1 = .ok (.iconst 0, 1) := by decide +kernel
theorem dX6_append_2 : decode cX6_append 2 = .ok (.putfield 28, 3) := by decide +kernel
theorem dX6_append_5 : decode cX6_append 5 = .ok (.iload_n 1, 1) := by decide +kernel
theorem dX6_append_6 : decode cX6_append 6 = .ok (.bipush 33, 2) := by decide +kernel
theorem dX6_append_8 : decode cX6_append 8 = .ok (.bipush 126, 2) := by decide +kernel
theorem dX6_append_10 : decode cX6_append 10 = .ok (.invokestatic 35, 3) := by decide +kernel
theorem dX6_append_13 : decode cX6_append 13 = .ok (.ifCond .ne 9, 3) := by decide +kernel
theorem dX6_append_16 : decode cX6_append 16 = .ok (.aload_n 0, 1) := by decide +kernel
theorem dX6_append_17 : decode cX6_append 17 = .ok (.iconst 1, 1) := by decide +kernel
theorem dX6_append_18 : decode cX6_append 18 = .ok (.invokevirtual 75, 3) := by decide +kernel
theorem dX6_append_21 : decode cX6_append 21 = .ok (.ireturn, 1) := by decide +kernel
theorem dX6_append_22 : decode cX6_append 22 = .ok (.aload_n 0, 1) := by decide +kernel
theorem dX6_append_23 : decode cX6_append 23 = .ok (.getfield 116, 3) := by decide +kernel
theorem dX6_append_26 : decode cX6_append 26 = .ok (.bipush 60, 2) := by decide +kernel
theorem dX6_append_28 : decode cX6_append 28 = .ok (.if_icmp .ne 9, 3) := by decide +kernel
theorem dX6_append_31 : decode cX6_append 31 = .ok (.aload_n 0, 1) := by decide +kernel
theorem dX6_append_32 : decode cX6_append 32 = .ok (.iconst 2, 1) := by decide +kernel
theorem dX6_append_33 : decode cX6_append 33 = .ok (.invokevirtual 75, 3) := by decide +kernel
theorem dX6_append_36 : decode cX6_append 36 = .ok (.ireturn, 1) := by decide +kernel
theorem dX6_append_37 : decode cX6_append 37 = .ok (.aload_n 0, 1) := by decide +kernel
theorem dX6_append_38 : decode cX6_append 38 = .ok (.getfield 19, 3) := by decide +kernel
theorem dX6_append_41 : decode cX6_append 41 = .ok (.aload_n 0, 1) := by decide +kernel
theorem dX6_append_42 : decode cX6_append 42 = .ok (.getfield 116, 3) := by decide +kernel
theorem dX6_append_45 : decode cX6_append 45 = .ok (.iload_n 1, 1) := by decide +kernel
theorem dX6_append_46 : decode cX6_append 46 = .ok (.iastore, 1) := by decide +kernel
theorem dX6_append_47 : decode cX6_append 47 = .ok (.aload_n 0, 1) := by decide +kernel
theorem dX6_append_48 : decode cX6_append 48 = .ok (.dup, 1) := by decide +kernel
theorem dX6_append_49 : decode cX6_append 49 = .ok (.getfield 116, 3) := by decide +kernel
theorem dX6_append_52 : decode cX6_append 52 = .ok (.iconst 1, 1) := by decide +kernel
theorem dX6_append_53 : decode cX6_append 53 = .ok (.iadd, 1) := by decide +kernel
theorem dX6_append_54 : decode cX6_append 54 = .ok (.putfield 116, 3) := by decide +kernel
theorem dX6_append_57 : decode cX6_append 57 = .ok (.aload_n 0, 1) := by decide +kernel
theorem dX6_append_58 : decode cX6_append 58 = .ok (.getfield 116, 3) := by decide +kernel
theorem dX6_append_61 : decode cX6_append 61 = .ok (.ireturn, 1) := by decide +kernel
theorem dX6_clearText_0 : decode cX6_clearText 0 = .ok (.aload_n 0, 1) := by decide +kernel
theorem dX6_clearText_1 : decode cX6_clearText 1 = .ok (.iconst 0, 1) := by decide +kernel
theorem dX6_clearText_2 : decode cX6_clearText 2 = .ok (.putfield 28, 3) := by decide +kernel
theorem dX6_clearText_5 : decode cX6_clearText 5 = .ok (.aload_n 0, 1) := by decide +kernel
theorem dX6_clearText_6 : decode cX6_clearText 6 = .ok (.getfield 116, 3) := by decide +kernel
theorem dX6_clearText_9 : decode cX6_clearText 9 = .ok (.istore_n 1, 1) := by decide +kernel
theorem dX6_clearText_10 : decode cX6_clearText 10 = .ok (.aload_n 0, 1) := by decide +kernel
theorem dX6_clearText_11 : decode cX6_clearText 11 = .ok (.iconst 0, 1) := by decide +kernel
theorem dX6_clearText_12 : decode cX6_clearText 12 = .ok (.putfield 116, 3) := by decide +kernel
theorem dX6_clearText_15 : decode cX6_clearText 15 = .ok (.iload_n 1, 1) := by decide +kernel
theorem dX6_clearText_16 : decode cX6_clearText 16 = .ok (.ireturn, 1) := by decide +kernel
set_option maxRecDepth 20000 in
theorem ggX6_sign_X6_in : GoodIn wsX6_sign wsX6_in := goodIn_r _ [8] (by decide +kernel) (by decide +kernel)
set_option maxRecDepth 20000 in
theorem gX6_sign_X6_in : GoodIn wsX6_sign (va_wsS RX6 35 yX6_in wsX6_in) := goodIn_app (goodIn_of _ (by decide +kernel)) ggX6_sign_X6_in
theorem dX6_sign_0 : decode cX6_sign 0 = .ok (.aload_n 0, 1) := by decide +kernel
theorem dX6_sign_1 : decode cX6_sign 1 = .ok (.getfield 119, 3) := by decide +kernel
theorem dX6_sign_4 : decode cX6_sign 4 = .ok (.aload_n 0, 1) := by decide +kernel
theorem dX6_sign_5 : decode cX6_sign 5 = .ok (.getfield 116, 3) := by decide +kernel
theorem dX6_sign_8 : decode cX6_sign 8 = .ok (.if_icmp .ge 15, 3) := by decide +kernel
theorem dX6_sign_11 : decode cX6_sign 11 = .ok (.aload_n 0, 1) := by decide +kernel
theorem dX6_sign_12 : decode cX6_sign 12 = .ok (.getfield 19, 3) := by decide +kernel
theorem dX6_sign_15 : decode cX6_sign 15 = .ok (.aload_n 0, 1) := by decide +kernel
theorem dX6_sign_16 : decode cX6_sign 16 = .ok (.getfield 119, 3) := by decide +kernel
theorem dX6_sign_19 : decode cX6_sign 19 = .ok (.iaload, 1) := by decide +kernel
theorem dX6_sign_20 : decode cX6_sign 20 = .ok (.goto 4, 3) := by decide +kernel
theorem dX6_sign_23 : decode cX6_sign 23 = .ok (.iconst 0, 1) := by decide +kernel
theorem dX6_sign_24 : decode cX6_sign 24 = .ok (.istore_n 3, 1) := by decide +kernel
theorem dX6_sign_25 : decode cX6_sign 25 = .ok (.aload_n 0, 1) := by decide +kernel
theorem dX6_sign_26 : decode cX6_sign 26 = .ok (.aload_n 0, 1) := by decide +kernel
theorem dX6_sign_27 : decode cX6_sign 27 = .ok (.getfield 122, 3) := by decide +kernel
theorem dX6_sign_30 : decode cX6_sign 30 = .ok (.ifCond .ne 23, 3) := by decide +kernel
theorem dX6_sign_33 : decode cX6_sign 33 = .ok (.aload_n 0, 1) := by decide +kernel
theorem dX6_sign_34 : decode cX6_sign 34 = .ok (.getfield 119, 3) := by decide +kernel
theorem dX6_sign_37 : decode cX6_sign 37 = .ok (.aload_n 0, 1) := by decide +kernel
theorem dX6_sign_38 : decode cX6_sign 38 = .ok (.getfield 116, 3) := by decide +kernel
theorem dX6_sign_41 : decode cX6_sign 41 = .ok (.if_icmp .ge 12, 3) := by decide +kernel
theorem dX6_sign_44 : decode cX6_sign 44 = .ok (.iload_n 3, 1) := by decide +kernel
theorem dX6_sign_45 : decode cX6_sign 45 = .ok (.iload_n 1, 1) := by decide +kernel
theorem dX6_sign_46 : decode cX6_sign 46 = .ok (.iload_n 2, 1) := by decide +kernel
theorem dX6_sign_47 : decode cX6_sign 47 = .ok (.invokestatic 35, 3) := by decide +kernel
theorem dX6_sign_50 : decode cX6_sign 50 = .ok (.ifCond .ne 7, 3) := by decide +kernel
theorem dX6_sign_53 : decode cX6_sign 53 = .ok (.iconst 1, 1) := by decide +kernel
theorem dX6_sign_54 : decode cX6_sign 54 = .ok (.goto 4, 3) := by decide +kernel
theorem dX6_sign_57 : decode cX6_sign 57 = .ok (.iconst 0, 1) := by decide +kernel
theorem dX6_sign_58 : decode cX6_sign 58 = .ok (.putfield 122, 3) := by decide +kernel
theorem dX6_sign_61 : decode cX6_sign 61 = .ok (.aload_n 0, 1) := by decide +kernel
theorem dX6_sign_62 : decode cX6_sign 62 = .ok (.dup, 1) := by decide +kernel
theorem dX6_sign_63 : decode cX6_sign 63 = .ok (.getfield 119, 3) := by decide +kernel
theorem dX6_sign_66 : decode cX6_sign 66 = .ok (.aload_n 0, 1) := by decide +kernel
theorem dX6_sign_67 : decode cX6_sign 67 = .ok (.getfield 122, 3) := by decide +kernel
theorem dX6_sign_70 : decode cX6_sign 70 = .ok (.ifCond .eq 7, 3) := by decide +kernel
theorem dX6_sign_73 : decode cX6_sign 73 = .ok (.iconst 0, 1) := by decide +kernel
theorem dX6_sign_74 : decode cX6_sign 74 = .ok (.goto 4, 3) := by decide +kernel
theorem dX6_sign_77 : decode cX6_sign 77 = .ok (.iconst 1, 1) := by decide +kernel
theorem dX6_sign_78 : decode cX6_sign 78 = .ok (.iadd, 1) := by decide +kernel
theorem dX6_sign_79 : decode cX6_sign 79 = .ok (.putfield 119, 3) := by decide +kernel
theorem dX6_sign_82 : decode cX6_sign 82 = .ok (.iload_n 3, 1) := by decide +kernel
theorem dX6_sign_83 : decode cX6_sign 83 = .ok (.ireturn, 1) := by decide +kernel
set_option maxRecDepth 20000 in
theorem ggX6_isNext_X6_in : GoodIn wsX6_isNext wsX6_in := goodIn_r _ [8] (by decide +kernel) (by decide +kernel)
set_option maxRecDepth 20000 in
theorem gX6_isNext_X6_in : GoodIn wsX6_isNext (va_wsS RX6 35 yX6_in wsX6_in) := goodIn_app (goodIn_of _ (by decide +kernel)) ggX6_isNext_X6_in
theorem dX6_isNext_0 : decode cX6_isNext 0 = .ok (.aload_n 0, 1) := by decide +kernel
theorem dX6_isNext_1 : decode cX6_isNext 1 = .ok (.getfield 122, 3) := by decide +kernel
theorem dX6_isNext_4 : decode cX6_isNext 4 = .ok (.ifCond .ne 35, 3) := by decide +kernel
theorem dX6_isNext_7 : decode cX6_isNext 7 = .ok (.aload_n 0, 1) := by decide +kernel
theorem dX6_isNext_8 : decode cX6_isNext 8 = .ok (.getfield 119, 3) := by decide +kernel
theorem dX6_isNext_11 : decode cX6_isNext 11 = .ok (.aload_n 0, 1) := by decide +kernel
theorem dX6_isNext_12 : decode cX6_isNext 12 = .ok (.getfield 116, 3) := by decide +kernel
theorem dX6_isNext_15 : decode cX6_isNext 15 = .ok (.if_icmp .ge 24, 3) := by decide +kernel
theorem dX6_isNext_18 : decode cX6_isNext 18 = .ok (.aload_n 0, 1) := by decide +kernel
theorem dX6_isNext_19 : decode cX6_isNext 19 = .ok (.getfield 19, 3) := by decide +kernel
theorem dX6_isNext_22 : decode cX6_isNext 22 = .ok (.aload_n 0, 1) := by decide +kernel
theorem dX6_isNext_23 : decode cX6_isNext 23 = .ok (.getfield 119, 3) := by decide +kernel
theorem dX6_isNext_26 : decode cX6_isNext 26 = .ok (.iaload, 1) := by decide +kernel
theorem dX6_isNext_27 : decode cX6_isNext 27 = .ok (.iload_n 1, 1) := by decide +kernel
theorem dX6_isNext_28 : decode cX6_isNext 28 = .ok (.iload_n 2, 1) := by decide +kernel
theorem dX6_isNext_29 : decode cX6_isNext 29 = .ok (.invokestatic 35, 3) := by decide +kernel
theorem dX6_isNext_32 : decode cX6_isNext 32 = .ok (.ifCond .eq 7, 3) := by decide +kernel
theorem dX6_isNext_35 : decode cX6_isNext 35 = .ok (.iconst 1, 1) := by decide +kernel
theorem dX6_isNext_36 : decode cX6_isNext 36 = .ok (.goto 4, 3) := by decide +kernel
theorem dX6_isNext_39 : decode cX6_isNext 39 = .ok (.iconst 0, 1) := by decide +kernel
theorem dX6_isNext_40 : decode cX6_isNext 40 = .ok (.ireturn, 1) := by decide +kernel
set_option maxRecDepth 20000 in
theorem ggX6_part_X6_isNext : GoodIn wsX6_part wsX6_isNext := goodIn_r _ [8, 9, 1, 10, 2, 11, 12, 7, 13, 65, 66, 67, 68, 69, 70, 71, 72, 73, 74, 75, 76, 77] (by decide +kernel) (by decide +kernel)
set_option maxRecDepth 20000 in
theorem gX6_part_X6_isNext : GoodIn wsX6_part (wsV RX6 126 RX6 yX6_isNext wsX6_isNext) := goodIn_app (goodIn_of _ (by decide +kernel)) ggX6_part_X6_isNext
set_option maxRecDepth 20000 in
theorem ggX6_part_X6_sign : GoodIn wsX6_part wsX6_sign := goodIn_r _ [17, 1, 10, 2, 9, 11, 12, 7, 13, 65, 66, 67, 68, 69, 70, 71, 72, 73, 74, 75, 76, 77] (by decide +kernel) (by decide +kernel)
set_option maxRecDepth 20000 in
theorem gX6_part_X6_sign : GoodIn wsX6_part (wsV RX6 130 RX6 yX6_sign wsX6_sign) := goodIn_app (goodIn_of _ (by decide +kernel)) ggX6_part_X6_sign
set_option maxRecDepth 20000 in
theorem ggX6_part_X6_layFrame : GoodIn wsX6_part wsX6_layFrame := goodIn_r _ [21, 22, 23, 24, 25, 7, 26, 65, 66, 67, 68, 69, 70, 71, 72, 73, 74, 75, 76, 77] (by decide +kernel) (by decide +kernel)
set_option maxRecDepth 20000 in
theorem gX6_part_X6_layFrame : GoodIn wsX6_part (wsV RX6 81 RX6 yX6_layFrame wsX6_layFrame) := goodIn_app (goodIn_of _ (by decide +kernel)) ggX6_part_X6_layFrame
set_option maxRecDepth 20000 in
theorem ggX6_part_X6_get : GoodIn wsX6_part wsX6_get := goodIn_r _ [30, 3, 31, 32, 33, 7, 34, 35, 23, 22, 36, 37, 38, 39, 40, 41, 42, 43, 44, 11, 12, 13, 45, 46, 47, 48, 49, 50, 51, 52, 53, 54, 55, 56, 65, 66, 67, 68, 69, 70, 71, 72, 73, 74, 75, 76, 77] (by decide +kernel) (by decide +kernel)
set_option maxRecDepth 20000 in
theorem gX6_part_X6_get : GoodIn wsX6_part (wsV RX6 85 RX6 yX6_get wsX6_get) := goodIn_app (goodIn_of _ (by decide +kernel)) ggX6_part_X6_get
set_option maxRecDepth 20000 in
theorem ggX6_part_X6_layRepeat : GoodIn wsX6_part wsX6_layRepeat := goodIn_r _ [60, 22, 23, 65, 66, 67, 68, 69, 70, 71, 72, 73, 74, 75, 76, 77] (by decide +kernel) (by decide +kernel)
set_option maxRecDepth 20000 in
theorem gX6_part_X6_layRepeat : GoodIn wsX6_part (wsV RX6 88 RX6 yX6_layRepeat wsX6_layRepeat) := goodIn_app (goodIn_of _ (by decide +kernel)) ggX6_part_X6_layRepeat
set_option maxRecDepth 20000 in
theorem ggX6_part_X6_passes : GoodIn wsX6_part wsX6_passes := goodIn_r _ [64, 3, 45, 46, 47, 7, 48, 65, 66, 67, 68, 69, 70, 71, 72, 73, 74, 75, 76, 77] (by decide +kernel) (by decide +kernel)
set_option maxRecDepth 20000 in
theorem gX6_part_X6_passes : GoodIn wsX6_part (wsV RX6 91 RX6 yX6_passes wsX6_passes) := goodIn_app (goodIn_of _ (by decide +kernel)) ggX6_part_X6_passes
theorem dX6_part_0 : decode cX6_part 0 = .ok (.aload_n 0, 1) := by decide +kernel
theorem dX6_part_1 : decode cX6_part 1 = .ok (.bipush 102, 2) := by decide +kernel
theorem dX6_part_3 : decode cX6_part 3 = .ok (.bipush 102, 2) := by decide +kernel
theorem dX6_part_5 : decode cX6_part 5 = .ok (.invokevirtual 126, 3) := by decide +kernel
theorem dX6_part_8 : decode cX6_part 8 = .ok (.ifCond .eq 88, 3) := by decide +kernel
theorem dX6_part_11 : decode cX6_part 11 = .ok (.aload_n 0, 1) := by decide +kernel
theorem dX6_part_12 : decode cX6_part 12 = .ok (.dup, 1) := by decide +kernel
theorem dX6_part_13 : decode cX6_part 13 = .ok (.getfield 119, 3) := by decide +kernel
theorem dX6_part_16 : decode cX6_part 16 = .ok (.iconst 1, 1) := by decide +kernel
theorem dX6_part_17 : decode cX6_part 17 = .ok (.iadd, 1) := by decide +kernel
theorem dX6_part_18 : decode cX6_part 18 = .ok (.putfield 119, 3) := by decide +kernel
theorem dX6_part_21 : decode cX6_part 21 = .ok (.aload_n 0, 1) := by decide +kernel
theorem dX6_part_22 : decode cX6_part 22 = .ok (.bipush 48, 2) := by decide +kernel
theorem dX6_part_24 : decode cX6_part 24 = .ok (.bipush 49, 2) := by decide +kernel
theorem dX6_part_26 : decode cX6_part 26 = .ok (.invokevirtual 130, 3) := by decide +kernel
theorem dX6_part_29 : decode cX6_part 29 = .ok (.bipush 48, 2) := by decide +kernel
theorem dX6_part_31 : decode cX6_part 31 = .ok (.isub, 1) := by decide +kernel
theorem dX6_part_32 : decode cX6_part 32 = .ok (.istore_n 2, 1) := by decide +kernel
theorem dX6_part_33 : decode cX6_part 33 = .ok (.aload_n 0, 1) := by decide +kernel
theorem dX6_part_34 : decode cX6_part 34 = .ok (.bipush 48, 2) := by decide +kernel
theorem dX6_part_36 : decode cX6_part 36 = .ok (.iload_n 2, 1) := by decide +kernel
theorem dX6_part_37 : decode cX6_part 37 = .ok (.iconst 1, 1) := by decide +kernel
theorem dX6_part_38 : decode cX6_part 38 = .ok (.if_icmp .ne 8, 3) := by decide +kernel
theorem dX6_part_41 : decode cX6_part 41 = .ok (.bipush 53, 2) := by decide +kernel
theorem dX6_part_43 : decode cX6_part 43 = .ok (.goto 5, 3) := by decide +kernel
theorem dX6_part_46 : decode cX6_part 46 = .ok (.bipush 57, 2) := by decide +kernel
theorem dX6_part_48 : decode cX6_part 48 = .ok (.invokevirtual 130, 3) := by decide +kernel
theorem dX6_part_51 : decode cX6_part 51 = .ok (.bipush 48, 2) := by decide +kernel
theorem dX6_part_53 : decode cX6_part 53 = .ok (.isub, 1) := by decide +kernel
theorem dX6_part_54 : decode cX6_part 54 = .ok (.istore_n 3, 1) := by decide +kernel
theorem dX6_part_55 : decode cX6_part 55 = .ok (.aload_n 0, 1) := by decide +kernel
theorem dX6_part_56 : decode cX6_part 56 = .ok (.bipush 48, 2) := by decide +kernel
theorem dX6_part_58 : decode cX6_part 58 = .ok (.bipush 49, 2) := by decide +kernel
theorem dX6_part_60 : decode cX6_part 60 = .ok (.invokevirtual 130, 3) := by decide +kernel
theorem dX6_part_63 : decode cX6_part 63 = .ok (.bipush 48, 2) := by decide +kernel
theorem dX6_part_65 : decode cX6_part 65 = .ok (.isub, 1) := by decide +kernel
theorem dX6_part_66 : decode cX6_part 66 = .ok (.istore 4, 2) := by decide +kernel
theorem dX6_part_68 : decode cX6_part 68 = .ok (.iload_n 1, 1) := by decide +kernel
theorem dX6_part_69 : decode cX6_part 69 = .ok (.ifCond .eq 24, 3) := by decide +kernel
theorem dX6_part_72 : decode cX6_part 72 = .ok (.aload_n 0, 1) := by decide +kernel
theorem dX6_part_73 : decode cX6_part 73 = .ok (.iconst 0, 1) := by decide +kernel
theorem dX6_part_74 : decode cX6_part 74 = .ok (.bipush 10, 2) := by decide +kernel
theorem dX6_part_76 : decode cX6_part 76 = .ok (.iload_n 2, 1) := by decide +kernel
theorem dX6_part_77 : decode cX6_part 77 = .ok (.imul, 1) := by decide +kernel
theorem dX6_part_78 : decode cX6_part 78 = .ok (.iload_n 3, 1) := by decide +kernel
theorem dX6_part_79 : decode cX6_part 79 = .ok (.iadd, 1) := by decide +kernel
theorem dX6_part_80 : decode cX6_part 80 = .ok (.iload 4, 2) := by decide +kernel
theorem dX6_part_82 : decode cX6_part 82 = .ok (.invokevirtual 81, 3) := by decide +kernel
theorem dX6_part_85 : decode cX6_part 85 = .ok (.aload_n 0, 1) := by decide +kernel
theorem dX6_part_86 : decode cX6_part 86 = .ok (.bipush 10, 2) := by decide +kernel
theorem dX6_part_88 : decode cX6_part 88 = .ok (.invokevirtual 85, 3) := by decide +kernel
theorem dX6_part_91 : decode cX6_part 91 = .ok (.istore 5, 2) := by decide +kernel
theorem dX6_part_93 : decode cX6_part 93 = .ok (.goto 171, 3) := by decide +kernel
theorem dX6_part_96 : decode cX6_part 96 = .ok (.aload_n 0, 1) := by decide +kernel
theorem dX6_part_97 : decode cX6_part 97 = .ok (.bipush 114, 2) := by decide +kernel
theorem dX6_part_99 : decode cX6_part 99 = .ok (.bipush 114, 2) := by decide +kernel
theorem dX6_part_101 : decode cX6_part 101 = .ok (.invokevirtual 126, 3) := by decide +kernel
theorem dX6_part_104 : decode cX6_part 104 = .ok (.ifCond .eq 35, 3) := by decide +kernel
theorem dX6_part_107 : decode cX6_part 107 = .ok (.aload_n 0, 1) := by decide +kernel
theorem dX6_part_108 : decode cX6_part 108 = .ok (.dup, 1) := by decide +kernel
theorem dX6_part_109 : decode cX6_part 109 = .ok (.getfield 119, 3) := by decide +kernel
theorem dX6_part_112 : decode cX6_part 112 = .ok (.iconst 1, 1) := by decide +kernel
theorem dX6_part_113 : decode cX6_part 113 = .ok (.iadd, 1) := by decide +kernel
theorem dX6_part_114 : decode cX6_part 114 = .ok (.putfield 119, 3) := by decide +kernel
theorem dX6_part_117 : decode cX6_part 117 = .ok (.aload_n 0, 1) := by decide +kernel
theorem dX6_part_118 : decode cX6_part 118 = .ok (.invokevirtual 88, 3) := by decide +kernel
theorem dX6_part_121 : decode cX6_part 121 = .ok (.iload_n 1, 1) := by decide +kernel
theorem dX6_part_122 : decode cX6_part 122 = .ok (.ifCond .eq 12, 3) := by decide +kernel
theorem dX6_part_125 : decode cX6_part 125 = .ok (.aload_n 0, 1) := by decide +kernel
theorem dX6_part_126 : decode cX6_part 126 = .ok (.bipush 10, 2) := by decide +kernel
theorem dX6_part_128 : decode cX6_part 128 = .ok (.invokevirtual 85, 3) := by decide +kernel
theorem dX6_part_131 : decode cX6_part 131 = .ok (.goto 4, 3) := by decide +kernel
theorem dX6_part_134 : decode cX6_part 134 = .ok (.iconst 0, 1) := by decide +kernel
theorem dX6_part_135 : decode cX6_part 135 = .ok (.istore_n 2, 1) := by decide +kernel
theorem dX6_part_136 : decode cX6_part 136 = .ok (.goto 128, 3) := by decide +kernel
theorem dX6_part_139 : decode cX6_part 139 = .ok (.aload_n 0, 1) := by decide +kernel
theorem dX6_part_140 : decode cX6_part 140 = .ok (.bipush 116, 2) := by decide +kernel
theorem dX6_part_142 : decode cX6_part 142 = .ok (.bipush 116, 2) := by decide +kernel
theorem dX6_part_144 : decode cX6_part 144 = .ok (.invokevirtual 126, 3) := by decide +kernel
theorem dX6_part_147 : decode cX6_part 147 = .ok (.ifCond .eq 76, 3) := by decide +kernel
theorem dX6_part_150 : decode cX6_part 150 = .ok (.aload_n 0, 1) := by decide +kernel
theorem dX6_part_151 : decode cX6_part 151 = .ok (.dup, 1) := by decide +kernel
theorem dX6_part_152 : decode cX6_part 152 = .ok (.getfield 119, 3) := by decide +kernel
theorem dX6_part_155 : decode cX6_part 155 = .ok (.iconst 1, 1) := by decide +kernel
theorem dX6_part_156 : decode cX6_part 156 = .ok (.iadd, 1) := by decide +kernel
theorem dX6_part_157 : decode cX6_part 157 = .ok (.putfield 119, 3) := by decide +kernel
theorem dX6_part_160 : decode cX6_part 160 = .ok (.aload_n 0, 1) := by decide +kernel
theorem dX6_part_161 : decode cX6_part 161 = .ok (.bipush 49, 2) := by decide +kernel
theorem dX6_part_163 : decode cX6_part 163 = .ok (.bipush 57, 2) := by decide +kernel
theorem dX6_part_165 : decode cX6_part 165 = .ok (.invokevirtual 130, 3) := by decide +kernel
theorem dX6_part_168 : decode cX6_part 168 = .ok (.bipush 48, 2) := by decide +kernel
theorem dX6_part_170 : decode cX6_part 170 = .ok (.isub, 1) := by decide +kernel
theorem dX6_part_171 : decode cX6_part 171 = .ok (.istore_n 2, 1) := by decide +kernel
theorem dX6_part_172 : decode cX6_part 172 = .ok (.aload_n 0, 1) := by decide +kernel
theorem dX6_part_173 : decode cX6_part 173 = .ok (.bipush 48, 2) := by decide +kernel
theorem dX6_part_175 : decode cX6_part 175 = .ok (.bipush 57, 2) := by decide +kernel
theorem dX6_part_177 : decode cX6_part 177 = .ok (.invokevirtual 126, 3) := by decide +kernel
theorem dX6_part_180 : decode cX6_part 180 = .ok (.ifCond .eq 31, 3) := by decide +kernel
theorem dX6_part_183 : decode cX6_part 183 = .ok (.bipush 10, 2) := by decide +kernel
theorem dX6_part_185 : decode cX6_part 185 = .ok (.iload_n 2, 1) := by decide +kernel
theorem dX6_part_186 : decode cX6_part 186 = .ok (.imul, 1) := by decide +kernel
theorem dX6_part_187 : decode cX6_part 187 = .ok (.aload_n 0, 1) := by decide +kernel
theorem dX6_part_188 : decode cX6_part 188 = .ok (.getfield 19, 3) := by decide +kernel
theorem dX6_part_191 : decode cX6_part 191 = .ok (.aload_n 0, 1) := by decide +kernel
theorem dX6_part_192 : decode cX6_part 192 = .ok (.getfield 119, 3) := by decide +kernel
theorem dX6_part_195 : decode cX6_part 195 = .ok (.iaload, 1) := by decide +kernel
theorem dX6_part_196 : decode cX6_part 196 = .ok (.iadd, 1) := by decide +kernel
theorem dX6_part_197 : decode cX6_part 197 = .ok (.bipush 48, 2) := by decide +kernel
theorem dX6_part_199 : decode cX6_part 199 = .ok (.isub, 1) := by decide +kernel
theorem dX6_part_200 : decode cX6_part 200 = .ok (.istore_n 2, 1) := by decide +kernel
theorem dX6_part_201 : decode cX6_part 201 = .ok (.aload_n 0, 1) := by decide +kernel
theorem dX6_part_202 : decode cX6_part 202 = .ok (.dup, 1) := by decide +kernel
theorem dX6_part_203 : decode cX6_part 203 = .ok (.getfield 119, 3) := by decide +kernel
theorem dX6_part_206 : decode cX6_part 206 = .ok (.iconst 1, 1) := by decide +kernel
theorem dX6_part_207 : decode cX6_part 207 = .ok (.iadd, 1) := by decide +kernel
theorem dX6_part_208 : decode cX6_part 208 = .ok (.putfield 119, 3) := by decide +kernel
theorem dX6_part_211 : decode cX6_part 211 = .ok (.iload_n 1, 1) := by decide +kernel
theorem dX6_part_212 : decode cX6_part 212 = .ok (.ifCond .eq 8, 3) := by decide +kernel
theorem dX6_part_215 : decode cX6_part 215 = .ok (.aload_n 0, 1) := by decide +kernel
theorem dX6_part_216 : decode cX6_part 216 = .ok (.iload_n 2, 1) := by decide +kernel
theorem dX6_part_217 : decode cX6_part 217 = .ok (.invokevirtual 91, 3) := by decide +kernel
theorem dX6_part_220 : decode cX6_part 220 = .ok (.goto 44, 3) := by decide +kernel
theorem dX6_part_223 : decode cX6_part 223 = .ok (.aload_n 0, 1) := by decide +kernel
theorem dX6_part_224 : decode cX6_part 224 = .ok (.bipush 103, 2) := by decide +kernel
theorem dX6_part_226 : decode cX6_part 226 = .ok (.bipush 103, 2) := by decide +kernel
theorem dX6_part_228 : decode cX6_part 228 = .ok (.invokevirtual 130, 3) := by decide +kernel
theorem dX6_part_231 : decode cX6_part 231 = .ok (.istore_n 2, 1) := by decide +kernel
theorem dX6_part_232 : decode cX6_part 232 = .ok (.aload_n 0, 1) := by decide +kernel
theorem dX6_part_233 : decode cX6_part 233 = .ok (.bipush 48, 2) := by decide +kernel
theorem dX6_part_235 : decode cX6_part 235 = .ok (.bipush 57, 2) := by decide +kernel
theorem dX6_part_237 : decode cX6_part 237 = .ok (.invokevirtual 130, 3) := by decide +kernel
theorem dX6_part_240 : decode cX6_part 240 = .ok (.bipush 48, 2) := by decide +kernel
theorem dX6_part_242 : decode cX6_part 242 = .ok (.isub, 1) := by decide +kernel
theorem dX6_part_243 : decode cX6_part 243 = .ok (.istore_n 3, 1) := by decide +kernel
theorem dX6_part_244 : decode cX6_part 244 = .ok (.aload_n 0, 1) := by decide +kernel
theorem dX6_part_245 : decode cX6_part 245 = .ok (.getfield 7, 3) := by decide +kernel
theorem dX6_part_248 : decode cX6_part 248 = .ok (.iconst 0, 1) := by decide +kernel
theorem dX6_part_249 : decode cX6_part 249 = .ok (.iload_n 1, 1) := by decide +kernel
theorem dX6_part_250 : decode cX6_part 250 = .ok (.ifCond .eq 7, 3) := by decide +kernel
theorem dX6_part_253 : decode cX6_part 253 = .ok (.iload_n 3, 1) := by decide +kernel
theorem dX6_part_254 : decode cX6_part 254 = .ok (.goto 9, 3) := by decide +kernel
theorem dX6_part_257 : decode cX6_part 257 = .ok (.aload_n 0, 1) := by decide +kernel
theorem dX6_part_258 : decode cX6_part 258 = .ok (.getfield 7, 3) := by decide +kernel
theorem dX6_part_261 : decode cX6_part 261 = .ok (.iconst 0, 1) := by decide +kernel
theorem dX6_part_262 : decode cX6_part 262 = .ok (.iaload, 1) := by decide +kernel
theorem dX6_part_263 : decode cX6_part 263 = .ok (.iastore, 1) := by decide +kernel
theorem dX6_part_264 : decode cX6_part 264 = .ok (.return_, 1) := by decide +kernel
set_option maxRecDepth 20000 in
theorem ggX6_go_X6_part : GoodIn wsX6_go wsX6_part := goodIn_r _ [8, 1, 9, 10, 11, 12, 13, 7, 14, 2, 3, 15, 16, 17, 18, 19, 20, 21, 22, 23, 24, 25, 26, 27, 28, 29, 30, 31, 32, 33, 34, 35, 36, 37, 38, 39, 40, 41, 42, 43, 44, 45, 46, 47, 48, 49, 50, 51, 52, 53, 54, 55, 56, 57, 58, 59, 60, 61, 62, 63, 64, 65, 66, 67, 68, 69, 70, 71, 72, 73, 74, 75, 76, 77, 78, 79, 80, 81] (by decide +kernel) (by decide +kernel)
set_option maxRecDepth 20000 in
theorem gX6_go_X6_part : GoodIn wsX6_go (wsV RX6 133 RX6 yX6_part wsX6_part) := goodIn_app (goodIn_of _ (by decide +kernel)) ggX6_go_X6_part
set_option maxRecDepth 20000 in
theorem ggX6_go_X6_sign : GoodIn wsX6_go wsX6_sign := goodIn_r _ [21, 1, 3, 9, 2, 15, 16, 7, 17, 69, 70, 71, 72, 73, 74, 75, 76, 77, 78, 79, 80, 81] (by decide +kernel) (by decide +kernel)
set_option maxRecDepth 20000 in
theorem gX6_go_X6_sign : GoodIn wsX6_go (wsV RX6 130 RX6 yX6_sign wsX6_sign) := goodIn_app (goodIn_of _ (by decide +kernel)) ggX6_go_X6_sign
theorem dX6_go_0 : decode cX6_go 0 = .ok (.aload_n 0, 1) := by decide +kernel
theorem dX6_go_1 : decode cX6_go 1 = .ok (.iconst 0, 1) := by decide +kernel
theorem dX6_go_2 : decode cX6_go 2 = .ok (.putfield 119, 3) := by decide +kernel
theorem dX6_go_5 : decode cX6_go 5 = .ok (.aload_n 0, 1) := by decide +kernel
theorem dX6_go_6 : decode cX6_go 6 = .ok (.iconst 0, 1) := by decide +kernel
theorem dX6_go_7 : decode cX6_go 7 = .ok (.putfield 122, 3) := by decide +kernel
theorem dX6_go_10 : decode cX6_go 10 = .ok (.iconst 1, 1) := by decide +kernel
theorem dX6_go_11 : decode cX6_go 11 = .ok (.istore_n 2, 1) := by decide +kernel
theorem dX6_go_12 : decode cX6_go 12 = .ok (.iload_n 2, 1) := by decide +kernel
theorem dX6_go_13 : decode cX6_go 13 = .ok (.ifCond .eq 61, 3) := by decide +kernel
theorem dX6_go_16 : decode cX6_go 16 = .ok (.aload_n 0, 1) := by decide +kernel
theorem dX6_go_17 : decode cX6_go 17 = .ok (.iload_n 1, 1) := by decide +kernel
theorem dX6_go_18 : decode cX6_go 18 = .ok (.invokevirtual 133, 3) := by decide +kernel
theorem dX6_go_21 : decode cX6_go 21 = .ok (.aload_n 0, 1) := by decide +kernel
theorem dX6_go_22 : decode cX6_go 22 = .ok (.getfield 122, 3) := by decide +kernel
theorem dX6_go_25 : decode cX6_go 25 = .ok (.ifCond .ne 18, 3) := by decide +kernel
theorem dX6_go_28 : decode cX6_go 28 = .ok (.aload_n 0, 1) := by decide +kernel
theorem dX6_go_29 : decode cX6_go 29 = .ok (.getfield 119, 3) := by decide +kernel
theorem dX6_go_32 : decode cX6_go 32 = .ok (.aload_n 0, 1) := by decide +kernel
theorem dX6_go_33 : decode cX6_go 33 = .ok (.getfield 116, 3) := by decide +kernel
theorem dX6_go_36 : decode cX6_go 36 = .ok (.if_icmp .ge 7, 3) := by decide +kernel
theorem dX6_go_39 : decode cX6_go 39 = .ok (.iconst 1, 1) := by decide +kernel
theorem dX6_go_40 : decode cX6_go 40 = .ok (.goto 4, 3) := by decide +kernel
theorem dX6_go_43 : decode cX6_go 43 = .ok (.iconst 0, 1) := by decide +kernel
theorem dX6_go_44 : decode cX6_go 44 = .ok (.istore_n 2, 1) := by decide +kernel
theorem dX6_go_45 : decode cX6_go 45 = .ok (.iload_n 2, 1) := by decide +kernel
theorem dX6_go_46 : decode cX6_go 46 = .ok (.ifCond .eq (-34), 3) := by decide +kernel
theorem dX6_go_49 : decode cX6_go 49 = .ok (.aload_n 0, 1) := by decide +kernel
theorem dX6_go_50 : decode cX6_go 50 = .ok (.bipush 59, 2) := by decide +kernel
theorem dX6_go_52 : decode cX6_go 52 = .ok (.bipush 59, 2) := by decide +kernel
theorem dX6_go_54 : decode cX6_go 54 = .ok (.invokevirtual 130, 3) := by decide +kernel
theorem dX6_go_57 : decode cX6_go 57 = .ok (.istore_n 3, 1) := by decide +kernel
theorem dX6_go_58 : decode cX6_go 58 = .ok (.aload_n 0, 1) := by decide +kernel
theorem dX6_go_59 : decode cX6_go 59 = .ok (.getfield 122, 3) := by decide +kernel
theorem dX6_go_62 : decode cX6_go 62 = .ok (.ifCond .ne 7, 3) := by decide +kernel
theorem dX6_go_65 : decode cX6_go 65 = .ok (.iconst 1, 1) := by decide +kernel
theorem dX6_go_66 : decode cX6_go 66 = .ok (.goto 4, 3) := by decide +kernel
theorem dX6_go_69 : decode cX6_go 69 = .ok (.iconst 0, 1) := by decide +kernel
theorem dX6_go_70 : decode cX6_go 70 = .ok (.istore_n 2, 1) := by decide +kernel
theorem dX6_go_71 : decode cX6_go 71 = .ok (.goto (-59), 3) := by decide +kernel
theorem dX6_go_74 : decode cX6_go 74 = .ok (.return_, 1) := by decide +kernel
set_option maxRecDepth 20000 in
theorem ggX6_firstError_X6_go : GoodIn wsX6_firstError wsX6_go := goodIn_r _ [9, 3, 2, 4, 10, 11, 12, 8, 13, 14, 15, 16, 17, 18, 19, 20, 21, 22, 23, 24, 25, 26, 27, 28, 29, 30, 31, 32, 33, 34, 35, 36, 37, 38, 39, 40, 41, 42, 43, 44, 45, 46, 47, 48, 49, 50, 51, 52, 53, 54, 55, 56, 57, 58, 59, 60, 61, 62, 63, 64, 65, 66, 67, 68, 69, 70, 71, 72, 73, 74, 75, 76, 77, 78, 79, 80, 81, 82, 83, 84, 85, 86] (by decide +kernel) (by decide +kernel)
set_option maxRecDepth 20000 in
theorem gX6_firstError_X6_go : GoodIn wsX6_firstError (wsV RX6 137 RX6 yX6_go wsX6_go) := goodIn_app (goodIn_of _ (by decide +kernel)) ggX6_firstError_X6_go
theorem dX6_firstError_0 : decode cX6_firstError 0 = .ok (.aload_n 0, 1) := by decide +kernel
theorem dX6_firstError_1 : decode cX6_firstError 1 = .ok (.iconst 0, 1) := by decide +kernel
theorem dX6_firstError_2 : decode cX6_firstError 2 = .ok (.putfield 28, 3) := by decide +kernel
theorem dX6_firstError_5 : decode cX6_firstError 5 = .ok (.aload_n 0, 1) := by decide +kernel
theorem dX6_firstError_6 : decode cX6_firstError 6 = .ok (.iconst 0, 1) := by decide +kernel
theorem dX6_firstError_7 : decode cX6_firstError 7 = .ok (.invokevirtual 137, 3) := by decide +kernel
theorem dX6_firstError_10 : decode cX6_firstError 10 = .ok (.aload_n 0, 1) := by decide +kernel
theorem dX6_firstError_11 : decode cX6_firstError 11 = .ok (.getfield 122, 3) := by decide +kernel
theorem dX6_firstError_14 : decode cX6_firstError 14 = .ok (.ifCond .eq 10, 3) := by decide +kernel
theorem dX6_firstError_17 : decode cX6_firstError 17 = .ok (.aload_n 0, 1) := by decide +kernel
theorem dX6_firstError_18 : decode cX6_firstError 18 = .ok (.getfield 119, 3) := by decide +kernel
theorem dX6_firstError_21 : decode cX6_firstError 21 = .ok (.goto 7, 3) := by decide +kernel
theorem dX6_firstError_24 : decode cX6_firstError 24 = .ok (.aload_n 0, 1) := by decide +kernel
theorem dX6_firstError_25 : decode cX6_firstError 25 = .ok (.getfield 116, 3) := by decide +kernel
theorem dX6_firstError_28 : decode cX6_firstError 28 = .ok (.ireturn, 1) := by decide +kernel
set_option maxRecDepth 20000 in
theorem ggX6_run_X6_go : GoodIn wsX6_run wsX6_go := goodIn_r _ [9, 10, 2, 4, 11, 12, 13, 8, 14, 15, 3, 16, 17, 18, 19, 20, 21, 22, 23, 24, 25, 26, 27, 28, 29, 30, 31, 32, 33, 34, 35, 36, 37, 38, 39, 40, 41, 42, 43, 44, 45, 46, 47, 48, 49, 50, 51, 52, 53, 54, 55, 56, 57, 58, 59, 60, 61, 62, 63, 64, 65, 66, 67, 68, 69, 70, 71, 72, 73, 84, 85, 86, 87, 88, 89, 90, 91, 92, 93, 94, 95, 96] (by decide +kernel) (by decide +kernel)
set_option maxRecDepth 20000 in
theorem gX6_run_X6_go : GoodIn wsX6_run (wsV RX6 137 RX6 yX6_go wsX6_go) := goodIn_app (goodIn_of _ (by decide +kernel)) ggX6_run_X6_go
set_option maxRecDepth 20000 in
theorem ggX6_run_X6_throwing : GoodIn wsX6_run wsX6_throwing := goodIn_r _ [77, 1, 84, 85, 86, 87, 88, 89, 90, 91, 92, 93, 94, 95, 96] (by decide +kernel) (by decide +kernel)
set_option maxRecDepth 20000 in
theorem gX6_run_X6_throwing : GoodIn wsX6_run (wsV RX6 75 RX6 yX6_throwing wsX6_throwing) := goodIn_app (goodIn_of _ (by decide +kernel)) ggX6_run_X6_throwing
set_option maxRecDepth 20000 in
theorem ggX6_run_X6_save : GoodIn wsX6_run wsX6_save := goodIn_r _ [81, 82, 83, 3, 84, 85, 86, 87, 88, 89, 90, 91, 92, 93, 94, 95, 96] (by decide +kernel) (by decide +kernel)
set_option maxRecDepth 20000 in
theorem gX6_run_X6_save : GoodIn wsX6_run (wsV RX6 78 RX6 yX6_save wsX6_save) := goodIn_app (goodIn_of _ (by decide +kernel)) ggX6_run_X6_save
theorem dX6_run_0 : decode cX6_run 0 = .ok (.aload_n 0, 1) := by decide +kernel
theorem dX6_run_1 : decode cX6_run 1 = .ok (.iconst 0, 1) := by decide +kernel
theorem dX6_run_2 : decode cX6_run 2 = .ok (.putfield 28, 3) := by decide +kernel
theorem dX6_run_5 : decode cX6_run 5 = .ok (.aload_n 0, 1) := by decide +kernel
theorem dX6_run_6 : decode cX6_run 6 = .ok (.iconst 0, 1) := by decide +kernel
theorem dX6_run_7 : decode cX6_run 7 = .ok (.invokevirtual 137, 3) := by decide +kernel
theorem dX6_run_10 : decode cX6_run 10 = .ok (.aload_n 0, 1) := by decide +kernel
theorem dX6_run_11 : decode cX6_run 11 = .ok (.getfield 122, 3) := by decide +kernel
theorem dX6_run_14 : decode cX6_run 14 = .ok (.ifCond .eq 9, 3) := by decide +kernel
theorem dX6_run_17 : decode cX6_run 17 = .ok (.aload_n 0, 1) := by decide +kernel
theorem dX6_run_18 : decode cX6_run 18 = .ok (.iconst 1, 1) := by decide +kernel
theorem dX6_run_19 : decode cX6_run 19 = .ok (.invokevirtual 75, 3) := by decide +kernel
theorem dX6_run_22 : decode cX6_run 22 = .ok (.ireturn, 1) := by decide +kernel
theorem dX6_run_23 : decode cX6_run 23 = .ok (.aload_n 0, 1) := by decide +kernel
theorem dX6_run_24 : decode cX6_run 24 = .ok (.invokevirtual 78, 3) := by decide +kernel
theorem dX6_run_27 : decode cX6_run 27 = .ok (.aload_n 0, 1) := by decide +kernel
theorem dX6_run_28 : decode cX6_run 28 = .ok (.getfield 7, 3) := by decide +kernel
theorem dX6_run_31 : decode cX6_run 31 = .ok (.bipush 7, 2) := by decide +kernel
theorem dX6_run_33 : decode cX6_run 33 = .ok (.iaload, 1) := by decide +kernel
theorem dX6_run_34 : decode cX6_run 34 = .ok (.istore_n 1, 1) := by decide +kernel
theorem dX6_run_35 : decode cX6_run 35 = .ok (.aload_n 0, 1) := by decide +kernel
theorem dX6_run_36 : decode cX6_run 36 = .ok (.iconst 1, 1) := by decide +kernel
theorem dX6_run_37 : decode cX6_run 37 = .ok (.invokevirtual 137, 3) := by decide +kernel
theorem dX6_run_40 : decode cX6_run 40 = .ok (.aload_n 0, 1) := by decide +kernel
theorem dX6_run_41 : decode cX6_run 41 = .ok (.iconst 0, 1) := by decide +kernel
theorem dX6_run_42 : decode cX6_run 42 = .ok (.putfield 116, 3) := by decide +kernel
theorem dX6_run_45 : decode cX6_run 45 = .ok (.aload_n 0, 1) := by decide +kernel
theorem dX6_run_46 : decode cX6_run 46 = .ok (.getfield 7, 3) := by decide +kernel
theorem dX6_run_49 : decode cX6_run 49 = .ok (.bipush 7, 2) := by decide +kernel
theorem dX6_run_51 : decode cX6_run 51 = .ok (.iaload, 1) := by decide +kernel
theorem dX6_run_52 : decode cX6_run 52 = .ok (.iload_n 1, 1) := by decide +kernel
theorem dX6_run_53 : decode cX6_run 53 = .ok (.isub, 1) := by decide +kernel
theorem dX6_run_54 : decode cX6_run 54 = .ok (.ireturn, 1) := by decide +kernel
set_option maxRecDepth 20000 in
theorem ggX6_undo_X6_throwing : GoodIn wsX6_undo wsX6_throwing := goodIn_r _ [9, 1, 10, 11, 12, 13, 14, 15, 16, 17, 18, 19, 20, 21, 22] (by decide +kernel) (by decide +kernel)
set_option maxRecDepth 20000 in
theorem gX6_undo_X6_throwing : GoodIn wsX6_undo (wsV RX6 75 RX6 yX6_throwing wsX6_throwing) := goodIn_app (goodIn_of _ (by decide +kernel)) ggX6_undo_X6_throwing
theorem dX6_undo_0 : decode cX6_undo 0 = .ok (.aload_n 0, 1) := by decide +kernel
theorem dX6_undo_1 : decode cX6_undo 1 = .ok (.iconst 0, 1) := by decide +kernel
theorem dX6_undo_2 : decode cX6_undo 2 = .ok (.putfield 28, 3) := by decide +kernel
theorem dX6_undo_5 : decode cX6_undo 5 = .ok (.aload_n 0, 1) := by decide +kernel
theorem dX6_undo_6 : decode cX6_undo 6 = .ok (.getfield 32, 3) := by decide +kernel
theorem dX6_undo_9 : decode cX6_undo 9 = .ok (.ifCond .ne 9, 3) := by decide +kernel
theorem dX6_undo_12 : decode cX6_undo 12 = .ok (.aload_n 0, 1) := by decide +kernel
theorem dX6_undo_13 : decode cX6_undo 13 = .ok (.iconst 1, 1) := by decide +kernel
theorem dX6_undo_14 : decode cX6_undo 14 = .ok (.invokevirtual 75, 3) := by decide +kernel
theorem dX6_undo_17 : decode cX6_undo 17 = .ok (.ireturn, 1) := by decide +kernel
theorem dX6_undo_18 : decode cX6_undo 18 = .ok (.aload_n 0, 1) := by decide +kernel
theorem dX6_undo_19 : decode cX6_undo 19 = .ok (.dup, 1) := by decide +kernel
theorem dX6_undo_20 : decode cX6_undo 20 = .ok (.getfield 32, 3) := by decide +kernel
theorem dX6_undo_23 : decode cX6_undo 23 = .ok (.iconst 1, 1) := by decide +kernel
theorem dX6_undo_24 : decode cX6_undo 24 = .ok (.isub, 1) := by decide +kernel
theorem dX6_undo_25 : decode cX6_undo 25 = .ok (.putfield 32, 3) := by decide +kernel
theorem dX6_undo_28 : decode cX6_undo 28 = .ok (.iconst 0, 1) := by decide +kernel
theorem dX6_undo_29 : decode cX6_undo 29 = .ok (.istore_n 1, 1) := by decide +kernel
theorem dX6_undo_30 : decode cX6_undo 30 = .ok (.iload_n 1, 1) := by decide +kernel
theorem dX6_undo_31 : decode cX6_undo 31 = .ok (.bipush 80, 2) := by decide +kernel
theorem dX6_undo_33 : decode cX6_undo 33 = .ok (.if_icmp .ge 29, 3) := by decide +kernel
theorem dX6_undo_36 : decode cX6_undo 36 = .ok (.aload_n 0, 1) := by decide +kernel
theorem dX6_undo_37 : decode cX6_undo 37 = .ok (.getfield 7, 3) := by decide +kernel
theorem dX6_undo_40 : decode cX6_undo 40 = .ok (.iload_n 1, 1) := by decide +kernel
theorem dX6_undo_41 : decode cX6_undo 41 = .ok (.aload_n 0, 1) := by decide +kernel
theorem dX6_undo_42 : decode cX6_undo 42 = .ok (.getfield 16, 3) := by decide +kernel
theorem dX6_undo_45 : decode cX6_undo 45 = .ok (.bipush 80, 2) := by decide +kernel
theorem dX6_undo_47 : decode cX6_undo 47 = .ok (.aload_n 0, 1) := by decide +kernel
theorem dX6_undo_48 : decode cX6_undo 48 = .ok (.getfield 32, 3) := by decide +kernel
theorem dX6_undo_51 : decode cX6_undo 51 = .ok (.imul, 1) := by decide +kernel
theorem dX6_undo_52 : decode cX6_undo 52 = .ok (.iload_n 1, 1) := by decide +kernel
theorem dX6_undo_53 : decode cX6_undo 53 = .ok (.iadd, 1) := by decide +kernel
theorem dX6_undo_54 : decode cX6_undo 54 = .ok (.iaload, 1) := by decide +kernel
theorem dX6_undo_55 : decode cX6_undo 55 = .ok (.iastore, 1) := by decide +kernel
theorem dX6_undo_56 : decode cX6_undo 56 = .ok (.iinc 1 1, 3) := by decide +kernel
theorem dX6_undo_59 : decode cX6_undo 59 = .ok (.goto (-29), 3) := by decide +kernel
theorem dX6_undo_62 : decode cX6_undo 62 = .ok (.aload_n 0, 1) := by decide +kernel
theorem dX6_undo_63 : decode cX6_undo 63 = .ok (.getfield 32, 3) := by decide +kernel
theorem dX6_undo_66 : decode cX6_undo 66 = .ok (.ireturn, 1) := by decide +kernel
theorem dX6_savedStates_0 : decode cX6_savedStates 0 = .ok (.aload_n 0, 1) := by decide +kernel
theorem dX6_savedStates_1 : decode cX6_savedStates 1 = .ok (.iconst 0, 1) := by decide +kernel
theorem dX6_savedStates_2 : decode cX6_savedStates 2 = .ok (.putfield 28, 3) := by decide +kernel
theorem dX6_savedStates_5 : decode cX6_savedStates 5 = .ok (.aload_n 0, 1) := by decide +kernel
theorem dX6_savedStates_6 : decode cX6_savedStates 6 = .ok (.getfield 32, 3) := by decide +kernel
theorem dX6_savedStates_9 : decode cX6_savedStates 9 = .ok (.ireturn, 1) := by decide +kernel
set_option maxRecDepth 20000 in
theorem ggX6_digest_X6_code : GoodIn wsX6_digest wsX6_code := goodIn_r _ [9, 4, 10, 11, 12, 8, 13, 77, 78, 79, 80, 81, 82, 83, 84, 85, 86, 87, 88, 89] (by decide +kernel) (by decide +kernel)
set_option maxRecDepth 20000 in
theorem gX6_digest_X6_code : GoodIn wsX6_digest (wsV RX6 95 RX6 yX6_code wsX6_code) := goodIn_app (goodIn_of _ (by decide +kernel)) ggX6_digest_X6_code
set_option maxRecDepth 20000 in
theorem ggX6_digest_X6_least : GoodIn wsX6_digest wsX6_least := goodIn_r _ [17, 4, 18, 19, 20, 8, 21, 22, 23, 24, 25, 26, 27, 28, 29, 30, 31, 32, 33, 34, 35, 36, 37, 38, 39, 40, 41, 42, 43, 44, 45, 46, 47, 48, 49, 50, 51, 52, 53, 54, 55, 56, 10, 11, 12, 13, 57, 58, 59, 60, 61, 62, 63, 64, 65, 66, 67, 68, 77, 78, 79, 80, 81, 82, 83, 84, 85, 86, 87, 88, 89] (by decide +kernel) (by decide +kernel)
set_option maxRecDepth 20000 in
theorem gX6_digest_X6_least : GoodIn wsX6_digest (wsV RX6 107 RX6 yX6_least wsX6_least) := goodIn_app (goodIn_of _ (by decide +kernel)) ggX6_digest_X6_least
set_option maxRecDepth 20000 in
theorem ggX6_digest_X6_toCome : GoodIn wsX6_digest wsX6_toCome := goodIn_r _ [72, 4, 22, 23, 24, 8, 25, 26, 27, 28, 29, 30, 31, 32, 33, 34, 35, 36, 37, 38, 39, 40, 41, 42, 43, 44, 45, 46, 47, 48, 49, 50, 51, 52, 53, 54, 55, 56, 10, 11, 12, 13, 57, 58, 59, 60, 61, 62, 63, 64, 65, 66, 67, 68, 77, 78, 79, 80, 81, 82, 83, 84, 85, 86, 87, 88, 89] (by decide +kernel) (by decide +kernel)
set_option maxRecDepth 20000 in
theorem gX6_digest_X6_toCome : GoodIn wsX6_digest (wsV RX6 110 RX6 yX6_toCome wsX6_toCome) := goodIn_app (goodIn_of _ (by decide +kernel)) ggX6_digest_X6_toCome
set_option maxRecDepth 20000 in
theorem ggX6_digest_X6_forgets : GoodIn wsX6_digest wsX6_forgets := goodIn_r _ [76, 4, 10, 11, 12, 8, 13, 77, 78, 79, 80, 81, 82, 83, 84, 85, 86, 87, 88, 89] (by decide +kernel) (by decide +kernel)
set_option maxRecDepth 20000 in
theorem gX6_digest_X6_forgets : GoodIn wsX6_digest (wsV RX6 113 RX6 yX6_forgets wsX6_forgets) := goodIn_app (goodIn_of _ (by decide +kernel)) ggX6_digest_X6_forgets
theorem dX6_digest_0 : decode cX6_digest 0 = .ok (.aload_n 0, 1) := by decide +kernel
theorem dX6_digest_1 : decode cX6_digest 1 = .ok (.iconst 0, 1) := by decide +kernel
theorem dX6_digest_2 : decode cX6_digest 2 = .ok (.putfield 28, 3) := by decide +kernel
theorem dX6_digest_5 : decode cX6_digest 5 = .ok (.ldc2_w 140, 3) := by decide +kernel
theorem dX6_digest_8 : decode cX6_digest 8 = .ok (.lstore_n 1, 1) := by decide +kernel
theorem dX6_digest_9 : decode cX6_digest 9 = .ok (.ldc2_w 142, 3) := by decide +kernel
theorem dX6_digest_12 : decode cX6_digest 12 = .ok (.lload_n 1, 1) := by decide +kernel
theorem dX6_digest_13 : decode cX6_digest 13 = .ok (.lmul, 1) := by decide +kernel
theorem dX6_digest_14 : decode cX6_digest 14 = .ok (.aload_n 0, 1) := by decide +kernel
theorem dX6_digest_15 : decode cX6_digest 15 = .ok (.getfield 7, 3) := by decide +kernel
theorem dX6_digest_18 : decode cX6_digest 18 = .ok (.iconst 0, 1) := by decide +kernel
theorem dX6_digest_19 : decode cX6_digest 19 = .ok (.iaload, 1) := by decide +kernel
theorem dX6_digest_20 : decode cX6_digest 20 = .ok (.i2l, 1) := by decide +kernel
theorem dX6_digest_21 : decode cX6_digest 21 = .ok (.ladd, 1) := by decide +kernel
theorem dX6_digest_22 : decode cX6_digest 22 = .ok (.lstore_n 1, 1) := by decide +kernel
theorem dX6_digest_23 : decode cX6_digest 23 = .ok (.ldc2_w 142, 3) := by decide +kernel
theorem dX6_digest_26 : decode cX6_digest 26 = .ok (.lload_n 1, 1) := by decide +kernel
theorem dX6_digest_27 : decode cX6_digest 27 = .ok (.lmul, 1) := by decide +kernel
theorem dX6_digest_28 : decode cX6_digest 28 = .ok (.aload_n 0, 1) := by decide +kernel
theorem dX6_digest_29 : decode cX6_digest 29 = .ok (.getfield 7, 3) := by decide +kernel
theorem dX6_digest_32 : decode cX6_digest 32 = .ok (.iconst 1, 1) := by decide +kernel
theorem dX6_digest_33 : decode cX6_digest 33 = .ok (.iaload, 1) := by decide +kernel
theorem dX6_digest_34 : decode cX6_digest 34 = .ok (.i2l, 1) := by decide +kernel
theorem dX6_digest_35 : decode cX6_digest 35 = .ok (.ladd, 1) := by decide +kernel
theorem dX6_digest_36 : decode cX6_digest 36 = .ok (.lstore_n 1, 1) := by decide +kernel
theorem dX6_digest_37 : decode cX6_digest 37 = .ok (.ldc2_w 142, 3) := by decide +kernel
theorem dX6_digest_40 : decode cX6_digest 40 = .ok (.lload_n 1, 1) := by decide +kernel
theorem dX6_digest_41 : decode cX6_digest 41 = .ok (.lmul, 1) := by decide +kernel
theorem dX6_digest_42 : decode cX6_digest 42 = .ok (.aload_n 0, 1) := by decide +kernel
theorem dX6_digest_43 : decode cX6_digest 43 = .ok (.invokevirtual 95, 3) := by decide +kernel
theorem dX6_digest_46 : decode cX6_digest 46 = .ok (.i2l, 1) := by decide +kernel
theorem dX6_digest_47 : decode cX6_digest 47 = .ok (.ladd, 1) := by decide +kernel
theorem dX6_digest_48 : decode cX6_digest 48 = .ok (.lstore_n 1, 1) := by decide +kernel
theorem dX6_digest_49 : decode cX6_digest 49 = .ok (.ldc2_w 142, 3) := by decide +kernel
theorem dX6_digest_52 : decode cX6_digest 52 = .ok (.lload_n 1, 1) := by decide +kernel
theorem dX6_digest_53 : decode cX6_digest 53 = .ok (.lmul, 1) := by decide +kernel
theorem dX6_digest_54 : decode cX6_digest 54 = .ok (.aload_n 0, 1) := by decide +kernel
theorem dX6_digest_55 : decode cX6_digest 55 = .ok (.getfield 7, 3) := by decide +kernel
theorem dX6_digest_58 : decode cX6_digest 58 = .ok (.iconst 5, 1) := by decide +kernel
theorem dX6_digest_59 : decode cX6_digest 59 = .ok (.iaload, 1) := by decide +kernel
theorem dX6_digest_60 : decode cX6_digest 60 = .ok (.i2l, 1) := by decide +kernel
theorem dX6_digest_61 : decode cX6_digest 61 = .ok (.ladd, 1) := by decide +kernel
theorem dX6_digest_62 : decode cX6_digest 62 = .ok (.lstore_n 1, 1) := by decide +kernel
theorem dX6_digest_63 : decode cX6_digest 63 = .ok (.ldc2_w 142, 3) := by decide +kernel
theorem dX6_digest_66 : decode cX6_digest 66 = .ok (.lload_n 1, 1) := by decide +kernel
theorem dX6_digest_67 : decode cX6_digest 67 = .ok (.lmul, 1) := by decide +kernel
theorem dX6_digest_68 : decode cX6_digest 68 = .ok (.aload_n 0, 1) := by decide +kernel
theorem dX6_digest_69 : decode cX6_digest 69 = .ok (.getfield 7, 3) := by decide +kernel
theorem dX6_digest_72 : decode cX6_digest 72 = .ok (.bipush 7, 2) := by decide +kernel
theorem dX6_digest_74 : decode cX6_digest 74 = .ok (.iaload, 1) := by decide +kernel
theorem dX6_digest_75 : decode cX6_digest 75 = .ok (.i2l, 1) := by decide +kernel
theorem dX6_digest_76 : decode cX6_digest 76 = .ok (.ladd, 1) := by decide +kernel
theorem dX6_digest_77 : decode cX6_digest 77 = .ok (.lstore_n 1, 1) := by decide +kernel
theorem dX6_digest_78 : decode cX6_digest 78 = .ok (.ldc2_w 142, 3) := by decide +kernel
theorem dX6_digest_81 : decode cX6_digest 81 = .ok (.lload_n 1, 1) := by decide +kernel
theorem dX6_digest_82 : decode cX6_digest 82 = .ok (.lmul, 1) := by decide +kernel
theorem dX6_digest_83 : decode cX6_digest 83 = .ok (.aload_n 0, 1) := by decide +kernel
theorem dX6_digest_84 : decode cX6_digest 84 = .ok (.getfield 7, 3) := by decide +kernel
theorem dX6_digest_87 : decode cX6_digest 87 = .ok (.bipush 48, 2) := by decide +kernel
theorem dX6_digest_89 : decode cX6_digest 89 = .ok (.iaload, 1) := by decide +kernel
theorem dX6_digest_90 : decode cX6_digest 90 = .ok (.i2l, 1) := by decide +kernel
theorem dX6_digest_91 : decode cX6_digest 91 = .ok (.ladd, 1) := by decide +kernel
theorem dX6_digest_92 : decode cX6_digest 92 = .ok (.lstore_n 1, 1) := by decide +kernel
theorem dX6_digest_93 : decode cX6_digest 93 = .ok (.ldc2_w 142, 3) := by decide +kernel
theorem dX6_digest_96 : decode cX6_digest 96 = .ok (.lload_n 1, 1) := by decide +kernel
theorem dX6_digest_97 : decode cX6_digest 97 = .ok (.lmul, 1) := by decide +kernel
theorem dX6_digest_98 : decode cX6_digest 98 = .ok (.aload_n 0, 1) := by decide +kernel
theorem dX6_digest_99 : decode cX6_digest 99 = .ok (.getfield 7, 3) := by decide +kernel
theorem dX6_digest_102 : decode cX6_digest 102 = .ok (.bipush 8, 2) := by decide +kernel
theorem dX6_digest_104 : decode cX6_digest 104 = .ok (.iaload, 1) := by decide +kernel
theorem dX6_digest_105 : decode cX6_digest 105 = .ok (.i2l, 1) := by decide +kernel
theorem dX6_digest_106 : decode cX6_digest 106 = .ok (.ladd, 1) := by decide +kernel
theorem dX6_digest_107 : decode cX6_digest 107 = .ok (.lstore_n 1, 1) := by decide +kernel
theorem dX6_digest_108 : decode cX6_digest 108 = .ok (.ldc2_w 142, 3) := by decide +kernel
theorem dX6_digest_111 : decode cX6_digest 111 = .ok (.lload_n 1, 1) := by decide +kernel
theorem dX6_digest_112 : decode cX6_digest 112 = .ok (.lmul, 1) := by decide +kernel
theorem dX6_digest_113 : decode cX6_digest 113 = .ok (.aload_n 0, 1) := by decide +kernel
theorem dX6_digest_114 : decode cX6_digest 114 = .ok (.invokevirtual 107, 3) := by decide +kernel
theorem dX6_digest_117 : decode cX6_digest 117 = .ok (.i2l, 1) := by decide +kernel
theorem dX6_digest_118 : decode cX6_digest 118 = .ok (.ladd, 1) := by decide +kernel
theorem dX6_digest_119 : decode cX6_digest 119 = .ok (.lstore_n 1, 1) := by decide +kernel
theorem dX6_digest_120 : decode cX6_digest 120 = .ok (.ldc2_w 142, 3) := by decide +kernel
theorem dX6_digest_123 : decode cX6_digest 123 = .ok (.lload_n 1, 1) := by decide +kernel
theorem dX6_digest_124 : decode cX6_digest 124 = .ok (.lmul, 1) := by decide +kernel
theorem dX6_digest_125 : decode cX6_digest 125 = .ok (.aload_n 0, 1) := by decide +kernel
theorem dX6_digest_126 : decode cX6_digest 126 = .ok (.invokevirtual 110, 3) := by decide +kernel
theorem dX6_digest_129 : decode cX6_digest 129 = .ok (.i2l, 1) := by decide +kernel
theorem dX6_digest_130 : decode cX6_digest 130 = .ok (.ladd, 1) := by decide +kernel
theorem dX6_digest_131 : decode cX6_digest 131 = .ok (.lstore_n 1, 1) := by decide +kernel
theorem dX6_digest_132 : decode cX6_digest 132 = .ok (.ldc2_w 142, 3) := by decide +kernel
theorem dX6_digest_135 : decode cX6_digest 135 = .ok (.lload_n 1, 1) := by decide +kernel
theorem dX6_digest_136 : decode cX6_digest 136 = .ok (.lmul, 1) := by decide +kernel
theorem dX6_digest_137 : decode cX6_digest 137 = .ok (.aload_n 0, 1) := by decide +kernel
theorem dX6_digest_138 : decode cX6_digest 138 = .ok (.invokevirtual 113, 3) := by decide +kernel
theorem dX6_digest_141 : decode cX6_digest 141 = .ok (.i2l, 1) := by decide +kernel
theorem dX6_digest_142 : decode cX6_digest 142 = .ok (.ladd, 1) := by decide +kernel
theorem dX6_digest_143 : decode cX6_digest 143 = .ok (.lstore_n 1, 1) := by decide +kernel
theorem dX6_digest_144 : decode cX6_digest 144 = .ok (.iconst 0, 1) := by decide +kernel
theorem dX6_digest_145 : decode cX6_digest 145 = .ok (.istore_n 3, 1) := by decide +kernel
theorem dX6_digest_146 : decode cX6_digest 146 = .ok (.iload_n 3, 1) := by decide +kernel
theorem dX6_digest_147 : decode cX6_digest 147 = .ok (.bipush 16, 2) := by decide +kernel
theorem dX6_digest_149 : decode cX6_digest 149 = .ok (.if_icmp .ge 43, 3) := by decide +kernel
theorem dX6_digest_152 : decode cX6_digest 152 = .ok (.ldc2_w 142, 3) := by decide +kernel
theorem dX6_digest_155 : decode cX6_digest 155 = .ok (.lload_n 1, 1) := by decide +kernel
theorem dX6_digest_156 : decode cX6_digest 156 = .ok (.lmul, 1) := by decide +kernel
theorem dX6_digest_157 : decode cX6_digest 157 = .ok (.aload_n 0, 1) := by decide +kernel
theorem dX6_digest_158 : decode cX6_digest 158 = .ok (.getfield 7, 3) := by decide +kernel
theorem dX6_digest_161 : decode cX6_digest 161 = .ok (.bipush 16, 2) := by decide +kernel
theorem dX6_digest_163 : decode cX6_digest 163 = .ok (.iload_n 3, 1) := by decide +kernel
theorem dX6_digest_164 : decode cX6_digest 164 = .ok (.iadd, 1) := by decide +kernel
theorem dX6_digest_165 : decode cX6_digest 165 = .ok (.iaload, 1) := by decide +kernel
theorem dX6_digest_166 : decode cX6_digest 166 = .ok (.i2l, 1) := by decide +kernel
theorem dX6_digest_167 : decode cX6_digest 167 = .ok (.ladd, 1) := by decide +kernel
theorem dX6_digest_168 : decode cX6_digest 168 = .ok (.lstore_n 1, 1) := by decide +kernel
theorem dX6_digest_169 : decode cX6_digest 169 = .ok (.ldc2_w 142, 3) := by decide +kernel
theorem dX6_digest_172 : decode cX6_digest 172 = .ok (.lload_n 1, 1) := by decide +kernel
theorem dX6_digest_173 : decode cX6_digest 173 = .ok (.lmul, 1) := by decide +kernel
theorem dX6_digest_174 : decode cX6_digest 174 = .ok (.aload_n 0, 1) := by decide +kernel
theorem dX6_digest_175 : decode cX6_digest 175 = .ok (.getfield 7, 3) := by decide +kernel
theorem dX6_digest_178 : decode cX6_digest 178 = .ok (.bipush 32, 2) := by decide +kernel
theorem dX6_digest_180 : decode cX6_digest 180 = .ok (.iload_n 3, 1) := by decide +kernel
theorem dX6_digest_181 : decode cX6_digest 181 = .ok (.iadd, 1) := by decide +kernel
theorem dX6_digest_182 : decode cX6_digest 182 = .ok (.iaload, 1) := by decide +kernel
theorem dX6_digest_183 : decode cX6_digest 183 = .ok (.i2l, 1) := by decide +kernel
theorem dX6_digest_184 : decode cX6_digest 184 = .ok (.ladd, 1) := by decide +kernel
theorem dX6_digest_185 : decode cX6_digest 185 = .ok (.lstore_n 1, 1) := by decide +kernel
theorem dX6_digest_186 : decode cX6_digest 186 = .ok (.iinc 3 1, 3) := by decide +kernel
theorem dX6_digest_189 : decode cX6_digest 189 = .ok (.goto (-43), 3) := by decide +kernel
theorem dX6_digest_192 : decode cX6_digest 192 = .ok (.iconst 1, 1) := by decide +kernel
theorem dX6_digest_193 : decode cX6_digest 193 = .ok (.istore_n 3, 1) := by decide +kernel
theorem dX6_digest_194 : decode cX6_digest 194 = .ok (.iload_n 3, 1) := by decide +kernel
theorem dX6_digest_195 : decode cX6_digest 195 = .ok (.bipush 7, 2) := by decide +kernel
theorem dX6_digest_197 : decode cX6_digest 197 = .ok (.if_icmp .ge 26, 3) := by decide +kernel
theorem dX6_digest_200 : decode cX6_digest 200 = .ok (.ldc2_w 142, 3) := by decide +kernel
theorem dX6_digest_203 : decode cX6_digest 203 = .ok (.lload_n 1, 1) := by decide +kernel
theorem dX6_digest_204 : decode cX6_digest 204 = .ok (.lmul, 1) := by decide +kernel
theorem dX6_digest_205 : decode cX6_digest 205 = .ok (.aload_n 0, 1) := by decide +kernel
theorem dX6_digest_206 : decode cX6_digest 206 = .ok (.getfield 7, 3) := by decide +kernel
theorem dX6_digest_209 : decode cX6_digest 209 = .ok (.bipush 9, 2) := by decide +kernel
theorem dX6_digest_211 : decode cX6_digest 211 = .ok (.iload_n 3, 1) := by decide +kernel
theorem dX6_digest_212 : decode cX6_digest 212 = .ok (.iadd, 1) := by decide +kernel
theorem dX6_digest_213 : decode cX6_digest 213 = .ok (.iaload, 1) := by decide +kernel
theorem dX6_digest_214 : decode cX6_digest 214 = .ok (.i2l, 1) := by decide +kernel
theorem dX6_digest_215 : decode cX6_digest 215 = .ok (.ladd, 1) := by decide +kernel
theorem dX6_digest_216 : decode cX6_digest 216 = .ok (.lstore_n 1, 1) := by decide +kernel
theorem dX6_digest_217 : decode cX6_digest 217 = .ok (.iinc 3 1, 3) := by decide +kernel
theorem dX6_digest_220 : decode cX6_digest 220 = .ok (.goto (-26), 3) := by decide +kernel
theorem dX6_digest_223 : decode cX6_digest 223 = .ok (.lload_n 1, 1) := by decide +kernel
theorem dX6_digest_224 : decode cX6_digest 224 = .ok (.lreturn, 1) := by decide +kernel
theorem dJ6_bitCount_0f7a4_0 : decode cJ6_bitCount_0f7a4 0 = .ok (.iload_n 0, 1) := by decide +kernel
theorem dJ6_bitCount_0f7a4_1 : decode cJ6_bitCount_0f7a4 1 = .ok (.iload_n 0, 1) := by decide +kernel
theorem dJ6_bitCount_0f7a4_2 : decode cJ6_bitCount_0f7a4 2 = .ok (.iconst 1, 1) := by decide +kernel
theorem dJ6_bitCount_0f7a4_3 : decode cJ6_bitCount_0f7a4 3 = .ok (.iushr, 1) := by decide +kernel
theorem dJ6_bitCount_0f7a4_4 : decode cJ6_bitCount_0f7a4 4 = .ok (.ldc_w 265, 3) := by decide +kernel
theorem dJ6_bitCount_0f7a4_7 : decode cJ6_bitCount_0f7a4 7 = .ok (.iand, 1) := by decide +kernel
theorem dJ6_bitCount_0f7a4_8 : decode cJ6_bitCount_0f7a4 8 = .ok (.isub, 1) := by decide +kernel
theorem dJ6_bitCount_0f7a4_9 : decode cJ6_bitCount_0f7a4 9 = .ok (.istore_n 0, 1) := by decide +kernel
theorem dJ6_bitCount_0f7a4_10 : decode cJ6_bitCount_0f7a4 10 = .ok (.iload_n 0, 1) := by decide +kernel
theorem dJ6_bitCount_0f7a4_11 : decode cJ6_bitCount_0f7a4 11 = .ok (.ldc_w 266, 3) := by decide +kernel
theorem dJ6_bitCount_0f7a4_14 : decode cJ6_bitCount_0f7a4 14 = .ok (.iand, 1) := by decide +kernel
theorem dJ6_bitCount_0f7a4_15 : decode cJ6_bitCount_0f7a4 15 = .ok (.iload_n 0, 1) := by decide +kernel
theorem dJ6_bitCount_0f7a4_16 : decode cJ6_bitCount_0f7a4 16 = .ok (.iconst 2, 1) := by decide +kernel
theorem dJ6_bitCount_0f7a4_17 : decode cJ6_bitCount_0f7a4 17 = .ok (.iushr, 1) := by decide +kernel
theorem dJ6_bitCount_0f7a4_18 : decode cJ6_bitCount_0f7a4 18 = .ok (.ldc_w 266, 3) := by decide +kernel
theorem dJ6_bitCount_0f7a4_21 : decode cJ6_bitCount_0f7a4 21 = .ok (.iand, 1) := by decide +kernel
theorem dJ6_bitCount_0f7a4_22 : decode cJ6_bitCount_0f7a4 22 = .ok (.iadd, 1) := by decide +kernel
theorem dJ6_bitCount_0f7a4_23 : decode cJ6_bitCount_0f7a4 23 = .ok (.istore_n 0, 1) := by decide +kernel
theorem dJ6_bitCount_0f7a4_24 : decode cJ6_bitCount_0f7a4 24 = .ok (.iload_n 0, 1) := by decide +kernel
theorem dJ6_bitCount_0f7a4_25 : decode cJ6_bitCount_0f7a4 25 = .ok (.iload_n 0, 1) := by decide +kernel
theorem dJ6_bitCount_0f7a4_26 : decode cJ6_bitCount_0f7a4 26 = .ok (.iconst 4, 1) := by decide +kernel
theorem dJ6_bitCount_0f7a4_27 : decode cJ6_bitCount_0f7a4 27 = .ok (.iushr, 1) := by decide +kernel
theorem dJ6_bitCount_0f7a4_28 : decode cJ6_bitCount_0f7a4 28 = .ok (.iadd, 1) := by decide +kernel
theorem dJ6_bitCount_0f7a4_29 : decode cJ6_bitCount_0f7a4 29 = .ok (.ldc_w 267, 3) := by decide +kernel
theorem dJ6_bitCount_0f7a4_32 : decode cJ6_bitCount_0f7a4 32 = .ok (.iand, 1) := by decide +kernel
theorem dJ6_bitCount_0f7a4_33 : decode cJ6_bitCount_0f7a4 33 = .ok (.istore_n 0, 1) := by decide +kernel
theorem dJ6_bitCount_0f7a4_34 : decode cJ6_bitCount_0f7a4 34 = .ok (.iload_n 0, 1) := by decide +kernel
theorem dJ6_bitCount_0f7a4_35 : decode cJ6_bitCount_0f7a4 35 = .ok (.iload_n 0, 1) := by decide +kernel
theorem dJ6_bitCount_0f7a4_36 : decode cJ6_bitCount_0f7a4 36 = .ok (.bipush 8, 2) := by decide +kernel
theorem dJ6_bitCount_0f7a4_38 : decode cJ6_bitCount_0f7a4 38 = .ok (.iushr, 1) := by decide +kernel
theorem dJ6_bitCount_0f7a4_39 : decode cJ6_bitCount_0f7a4 39 = .ok (.iadd, 1) := by decide +kernel
theorem dJ6_bitCount_0f7a4_40 : decode cJ6_bitCount_0f7a4 40 = .ok (.istore_n 0, 1) := by decide +kernel
theorem dJ6_bitCount_0f7a4_41 : decode cJ6_bitCount_0f7a4 41 = .ok (.iload_n 0, 1) := by decide +kernel
theorem dJ6_bitCount_0f7a4_42 : decode cJ6_bitCount_0f7a4 42 = .ok (.iload_n 0, 1) := by decide +kernel
theorem dJ6_bitCount_0f7a4_43 : decode cJ6_bitCount_0f7a4 43 = .ok (.bipush 16, 2) := by decide +kernel
theorem dJ6_bitCount_0f7a4_45 : decode cJ6_bitCount_0f7a4 45 = .ok (.iushr, 1) := by decide +kernel
theorem dJ6_bitCount_0f7a4_46 : decode cJ6_bitCount_0f7a4 46 = .ok (.iadd, 1) := by decide +kernel
theorem dJ6_bitCount_0f7a4_47 : decode cJ6_bitCount_0f7a4 47 = .ok (.istore_n 0, 1) := by decide +kernel
theorem dJ6_bitCount_0f7a4_48 : decode cJ6_bitCount_0f7a4 48 = .ok (.iload_n 0, 1) := by decide +kernel
theorem dJ6_bitCount_0f7a4_49 : decode cJ6_bitCount_0f7a4 49 = .ok (.bipush 63, 2) := by decide +kernel
theorem dJ6_bitCount_0f7a4_51 : decode cJ6_bitCount_0f7a4 51 = .ok (.iand, 1) := by decide +kernel
theorem dJ6_bitCount_0f7a4_52 : decode cJ6_bitCount_0f7a4 52 = .ok (.ireturn, 1) := by decide +kernel
theorem dJ9_max_7cf53_0 : decode cJ9_max_7cf53 0 = .ok (.iload_n 0, 1) := by decide +kernel
theorem dJ9_max_7cf53_1 : decode cJ9_max_7cf53 1 = .ok (.iload_n 1, 1) := by decide +kernel
theorem dJ9_max_7cf53_2 : decode cJ9_max_7cf53 2 = .ok (.if_icmp .lt 7, 3) := by decide +kernel
theorem dJ9_max_7cf53_5 : decode cJ9_max_7cf53 5 = .ok (.iload_n 0, 1) := by decide +kernel
theorem dJ9_max_7cf53_6 : decode cJ9_max_7cf53 6 = .ok (.goto 4, 3) := by decide +kernel
theorem dJ9_max_7cf53_9 : decode cJ9_max_7cf53 9 = .ok (.iload_n 1, 1) := by decide +kernel
theorem dJ9_max_7cf53_10 : decode cJ9_max_7cf53 10 = .ok (.ireturn, 1) := by decide +kernel
theorem dJ9_min_7cf53_0 : decode cJ9_min_7cf53 0 = .ok (.iload_n 0, 1) := by decide +kernel
theorem dJ9_min_7cf53_1 : decode cJ9_min_7cf53 1 = .ok (.iload_n 1, 1) := by decide +kernel
theorem dJ9_min_7cf53_2 : decode cJ9_min_7cf53 2 = .ok (.if_icmp .gt 7, 3) := by decide +kernel
