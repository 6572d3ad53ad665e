set_option maxRecDepth 20000 in
theorem gX1_number_X2_at : GoodIn wsX1_number (wsV RX1 24 RX2 yX2_at wsX2_at) := goodIn_app (goodIn_of _ (by decide +kernel)) ggX1_number_X2_at
theorem dX1_number_0 : decode cX1_number 0 = .ok (.iconst 0, 1) := by decide +kernel
theorem dX1_number_1 : decode cX1_number 1 = .ok (.istore_n 3, 1) := by decide +kernel
theorem dX1_number_2 : decode cX1_number 2 = .ok (.iload_n 1, 1) := by decide +kernel
theorem dX1_number_3 : decode cX1_number 3 = .ok (.istore 4, 2) := by decide +kernel
theorem dX1_number_5 : decode cX1_number 5 = .ok (.iload 4, 2) := by decide +kernel
theorem dX1_number_7 : decode cX1_number 7 = .ok (.iload_n 2, 1) := by decide +kernel
theorem dX1_number_8 : decode cX1_number 8 = .ok (.if_icmp .ge 27, 3) := by decide +kernel
theorem dX1_number_11 : decode cX1_number 11 = .ok (.bipush 10, 2) := by decide +kernel
theorem dX1_number_13 : decode cX1_number 13 = .ok (.iload_n 3, 1) := by decide +kernel
theorem dX1_number_14 : decode cX1_number 14 = .ok (.imul, 1) := by decide +kernel
theorem dX1_number_15 : decode cX1_number 15 = .ok (.aload_n 0, 1) := by decide +kernel
theorem dX1_number_16 : decode cX1_number 16 = .ok (.getfield 14, 3) := by decide +kernel
theorem dX1_number_19 : decode cX1_number 19 = .ok (.iload 4, 2) := by decide +kernel
theorem dX1_number_21 : decode cX1_number 21 = .ok (.invokevirtual 24, 3) := by decide +kernel
theorem dX1_number_24 : decode cX1_number 24 = .ok (.iadd, 1) := by decide +kernel
theorem dX1_number_25 : decode cX1_number 25 = .ok (.bipush 48, 2) := by decide +kernel
theorem dX1_number_27 : decode cX1_number 27 = .ok (.isub, 1) := by decide +kernel
theorem dX1_number_28 : decode cX1_number 28 = .ok (.istore_n 3, 1) := by decide +kernel
theorem dX1_number_29 : decode cX1_number 29 = .ok (.iinc 4 1, 3) := by decide +kernel
theorem dX1_number_32 : decode cX1_number 32 = .ok (.goto (-27), 3) := by decide +kernel
theorem dX1_number_35 : decode cX1_number 35 = .ok (.iload_n 3, 1) := by decide +kernel
theorem dX1_number_36 : decode cX1_number 36 = .ok (.ireturn, 1) := by decide +kernel
theorem dX2_init_0 : decode cX2_init 0 = .ok (.aload_n 0, 1) := by decide +kernel
theorem dX2_init_1 : decode cX2_init 1 = .ok (.invokespecial 1, 3) := by decide +kernel
theorem dX2_init_4 : decode cX2_init 4 = .ok (.aload_n 0, 1) := by decide +kernel
theorem dX2_init_5 : decode cX2_init 5 = .ok (.iload_n 1, 1) := by decide +kernel
theorem dX2_init_6 : decode cX2_init 6 = .ok (.ifCond .le 7, 3) := by decide +kernel
theorem dX2_init_9 : decode cX2_init 9 = .ok (.iload_n 1, 1) := by decide +kernel
theorem dX2_init_10 : decode cX2_init 10 = .ok (.goto 4, 3) := by decide +kernel
theorem dX2_init_13 : decode cX2_init 13 = .ok (.iconst 0, 1) := by decide +kernel
theorem dX2_init_14 : decode cX2_init 14 = .ok (.newarray .int, 2) := by decide +kernel
theorem dX2_init_16 : decode cX2_init 16 = .ok (.putfield 7, 3) := by decide +kernel
theorem dX2_init_19 : decode cX2_init 19 = .ok (.aload_n 0, 1) := by decide +kernel
theorem dX2_init_20 : decode cX2_init 20 = .ok (.iload_n 2, 1) := by decide +kernel
theorem dX2_init_21 : decode cX2_init 21 = .ok (.putfield 13, 3) := by decide +kernel
theorem dX2_init_24 : decode cX2_init 24 = .ok (.return_, 1) := by decide +kernel
theorem dX2_at_0 : decode cX2_at 0 = .ok (.iload_n 1, 1) := by decide +kernel
theorem dX2_at_1 : decode cX2_at 1 = .ok (.ifCond .lt 29, 3) := by decide +kernel
theorem dX2_at_4 : decode cX2_at 4 = .ok (.iload_n 1, 1) := by decide +kernel
theorem dX2_at_5 : decode cX2_at 5 = .ok (.aload_n 0, 1) := by decide +kernel
theorem dX2_at_6 : decode cX2_at 6 = .ok (.getfield 13, 3) := by decide +kernel
theorem dX2_at_9 : decode cX2_at 9 = .ok (.if_icmp .ge 21, 3) := by decide +kernel
theorem dX2_at_12 : decode cX2_at 12 = .ok (.iload_n 1, 1) := by decide +kernel
theorem dX2_at_13 : decode cX2_at 13 = .ok (.aload_n 0, 1) := by decide +kernel
theorem dX2_at_14 : decode cX2_at 14 = .ok (.getfield 7, 3) := by decide +kernel
theorem dX2_at_17 : decode cX2_at 17 = .ok (.arraylength, 1) := by decide +kernel
theorem dX2_at_18 : decode cX2_at 18 = .ok (.if_icmp .ge 12, 3) := by decide +kernel
theorem dX2_at_21 : decode cX2_at 21 = .ok (.aload_n 0, 1) := by decide +kernel
theorem dX2_at_22 : decode cX2_at 22 = .ok (.getfield 7, 3) := by decide +kernel
theorem dX2_at_25 : decode cX2_at 25 = .ok (.iload_n 1, 1) := by decide +kernel
theorem dX2_at_26 : decode cX2_at 26 = .ok (.iaload, 1) := by decide +kernel
theorem dX2_at_27 : decode cX2_at 27 = .ok (.goto 4, 3) := by decide +kernel
theorem dX2_at_30 : decode cX2_at 30 = .ok (.iconst 0, 1) := by decide +kernel
theorem dX2_at_31 : decode cX2_at 31 = .ok (.ireturn, 1) := by decide +kernel
theorem dX2_set_0 : decode cX2_set 0 = .ok (.iload_n 1, 1) := by decide +kernel
theorem dX2_set_1 : decode cX2_set 1 = .ok (.ifCond .lt 27, 3) := by decide +kernel
theorem dX2_set_4 : decode cX2_set 4 = .ok (.iload_n 1, 1) := by decide +kernel
theorem dX2_set_5 : decode cX2_set 5 = .ok (.aload_n 0, 1) := by decide +kernel
theorem dX2_set_6 : decode cX2_set 6 = .ok (.getfield 13, 3) := by decide +kernel
theorem dX2_set_9 : decode cX2_set 9 = .ok (.if_icmp .ge 19, 3) := by decide +kernel
theorem dX2_set_12 : decode cX2_set 12 = .ok (.iload_n 1, 1) := by decide +kernel
theorem dX2_set_13 : decode cX2_set 13 = .ok (.aload_n 0, 1) := by decide +kernel
theorem dX2_set_14 : decode cX2_set 14 = .ok (.getfield 7, 3) := by decide +kernel
theorem dX2_set_17 : decode cX2_set 17 = .ok (.arraylength, 1) := by decide +kernel
theorem dX2_set_18 : decode cX2_set 18 = .ok (.if_icmp .ge 10, 3) := by decide +kernel
theorem dX2_set_21 : decode cX2_set 21 = .ok (.aload_n 0, 1) := by decide +kernel
theorem dX2_set_22 : decode cX2_set 22 = .ok (.getfield 7, 3) := by decide +kernel
theorem dX2_set_25 : decode cX2_set 25 = .ok (.iload_n 1, 1) := by decide +kernel
theorem dX2_set_26 : decode cX2_set 26 = .ok (.iload_n 2, 1) := by decide +kernel
theorem dX2_set_27 : decode cX2_set 27 = .ok (.iastore, 1) := by decide +kernel
theorem dX2_set_28 : decode cX2_set 28 = .ok (.return_, 1) := by decide +kernel
theorem dX2_increase_0 : decode cX2_increase 0 = .ok (.iload_n 1, 1) := by decide +kernel
theorem dX2_increase_1 : decode cX2_increase 1 = .ok (.ifCond .lt 30, 3) := by decide +kernel
theorem dX2_increase_4 : decode cX2_increase 4 = .ok (.iload_n 1, 1) := by decide +kernel
theorem dX2_increase_5 : decode cX2_increase 5 = .ok (.aload_n 0, 1) := by decide +kernel
theorem dX2_increase_6 : decode cX2_increase 6 = .ok (.getfield 13, 3) := by decide +kernel
theorem dX2_increase_9 : decode cX2_increase 9 = .ok (.if_icmp .ge 22, 3) := by decide +kernel
theorem dX2_increase_12 : decode cX2_increase 12 = .ok (.iload_n 1, 1) := by decide +kernel
theorem dX2_increase_13 : decode cX2_increase 13 = .ok (.aload_n 0, 1) := by decide +kernel
theorem dX2_increase_14 : decode cX2_increase 14 = .ok (.getfield 7, 3) := by decide +kernel
theorem dX2_increase_17 : decode cX2_increase 17 = .ok (.arraylength, 1) := by decide +kernel
theorem dX2_increase_18 : decode cX2_increase 18 = .ok (.if_icmp .ge 13, 3) := by decide +kernel
theorem dX2_increase_21 : decode cX2_increase 21 = .ok (.aload_n 0, 1) := by decide +kernel
theorem dX2_increase_22 : decode cX2_increase 22 = .ok (.getfield 7, 3) := by decide +kernel
theorem dX2_increase_25 : decode cX2_increase 25 = .ok (.iload_n 1, 1) := by decide +kernel
theorem dX2_increase_26 : decode cX2_increase 26 = .ok (.dup2, 1) := by decide +kernel
theorem dX2_increase_27 : decode cX2_increase 27 = .ok (.iaload, 1) := by decide +kernel
theorem dX2_increase_28 : decode cX2_increase 28 = .ok (.iconst 1, 1) := by decide +kernel
theorem dX2_increase_29 : decode cX2_increase 29 = .ok (.iadd, 1) := by decide +kernel
theorem dX2_increase_30 : decode cX2_increase 30 = .ok (.iastore, 1) := by decide +kernel
theorem dX2_increase_31 : decode cX2_increase 31 = .ok (.return_, 1) := by decide +kernel
theorem dX2_add_0 : decode cX2_add 0 = .ok (.aload_n 0, 1) := by decide +kernel
theorem dX2_add_1 : decode cX2_add 1 = .ok (.getfield 13, 3) := by decide +kernel
theorem dX2_add_4 : decode cX2_add 4 = .ok (.ifCond .lt 35, 3) := by decide +kernel
theorem dX2_add_7 : decode cX2_add 7 = .ok (.aload_n 0, 1) := by decide +kernel
theorem dX2_add_8 : decode cX2_add 8 = .ok (.getfield 13, 3) := by decide +kernel
theorem dX2_add_11 : decode cX2_add 11 = .ok (.aload_n 0, 1) := by decide +kernel
theorem dX2_add_12 : decode cX2_add 12 = .ok (.getfield 7, 3) := by decide +kernel
theorem dX2_add_15 : decode cX2_add 15 = .ok (.arraylength, 1) := by decide +kernel
theorem dX2_add_16 : decode cX2_add 16 = .ok (.if_icmp .ge 23, 3) := by decide +kernel
theorem dX2_add_19 : decode cX2_add 19 = .ok (.aload_n 0, 1) := by decide +kernel
theorem dX2_add_20 : decode cX2_add 20 = .ok (.getfield 7, 3) := by decide +kernel
theorem dX2_add_23 : decode cX2_add 23 = .ok (.aload_n 0, 1) := by decide +kernel
theorem dX2_add_24 : decode cX2_add 24 = .ok (.getfield 13, 3) := by decide +kernel
theorem dX2_add_27 : decode cX2_add 27 = .ok (.iload_n 1, 1) := by decide +kernel
theorem dX2_add_28 : decode cX2_add 28 = .ok (.iastore, 1) := by decide +kernel
theorem dX2_add_29 : decode cX2_add 29 = .ok (.aload_n 0, 1) := by decide +kernel
theorem dX2_add_30 : decode cX2_add 30 = .ok (.dup, 1) := by decide +kernel
theorem dX2_add_31 : decode cX2_add 31 = .ok (.getfield 13, 3) := by decide +kernel
theorem dX2_add_34 : decode cX2_add 34 = .ok (.iconst 1, 1) := by decide +kernel
theorem dX2_add_35 : decode cX2_add 35 = .ok (.iadd, 1) := by decide +kernel
theorem dX2_add_36 : decode cX2_add 36 = .ok (.putfield 13, 3) := by decide +kernel
theorem dX2_add_39 : decode cX2_add 39 = .ok (.return_, 1) := by decide +kernel
theorem dX2_empty_0 : decode cX2_empty 0 = .ok (.aload_n 0, 1) := by decide +kernel
theorem dX2_empty_1 : decode cX2_empty 1 = .ok (.iconst 0, 1) := by decide +kernel
theorem dX2_empty_2 : decode cX2_empty 2 = .ok (.putfield 13, 3) := by decide +kernel
theorem dX2_empty_5 : decode cX2_empty 5 = .ok (.return_, 1) := by decide +kernel
theorem dX2_become_0 : decode cX2_become 0 = .ok (.aload_n 1, 1) := by decide +kernel
theorem dX2_become_1 : decode cX2_become 1 = .ok (.getfield 7, 3) := by decide +kernel
theorem dX2_become_4 : decode cX2_become 4 = .ok (.iconst 0, 1) := by decide +kernel
theorem dX2_become_5 : decode cX2_become 5 = .ok (.aload_n 0, 1) := by decide +kernel
theorem dX2_become_6 : decode cX2_become 6 = .ok (.getfield 7, 3) := by decide +kernel
theorem dX2_become_9 : decode cX2_become 9 = .ok (.iconst 0, 1) := by decide +kernel
theorem dX2_become_10 : decode cX2_become 10 = .ok (.aload_n 1, 1) := by decide +kernel
theorem dX2_become_11 : decode cX2_become 11 = .ok (.getfield 7, 3) := by decide +kernel
theorem dX2_become_14 : decode cX2_become 14 = .ok (.arraylength, 1) := by decide +kernel
theorem dX2_become_15 : decode cX2_become 15 = .ok (.aload_n 0, 1) := by decide +kernel
theorem dX2_become_16 : decode cX2_become 16 = .ok (.getfield 7, 3) := by decide +kernel
theorem dX2_become_19 : decode cX2_become 19 = .ok (.arraylength, 1) := by decide +kernel
theorem dX2_become_20 : decode cX2_become 20 = .ok (.invokestatic 17, 3) := by decide +kernel
theorem dX2_become_23 : decode cX2_become 23 = .ok (.invokestatic 23, 3) := by decide +kernel
theorem dX2_become_26 : decode cX2_become 26 = .ok (.aload_n 0, 1) := by decide +kernel
theorem dX2_become_27 : decode cX2_become 27 = .ok (.aload_n 1, 1) := by decide +kernel
theorem dX2_become_28 : decode cX2_become 28 = .ok (.getfield 13, 3) := by decide +kernel
theorem dX2_become_31 : decode cX2_become 31 = .ok (.putfield 13, 3) := by decide +kernel
theorem dX2_become_34 : decode cX2_become 34 = .ok (.return_, 1) := by decide +kernel
set_option maxRecDepth 20000 in
theorem ggX3_init_X4_init : GoodIn wsX3_init wsX4_init := goodIn_r _ [9, 10, 2, 3, 11, 12, 13, 14, 15, 16, 17, 18, 19, 20, 21, 22, 23, 24, 25, 26, 29, 30, 31, 32, 33, 34, 35, 36, 37, 38, 39, 40, 41, 42, 43, 44] (by decide +kernel) (by decide +kernel)
set_option maxRecDepth 20000 in
theorem gX3_init_X4_init_n17 : GoodIn wsX3_init (wsX4_init) := ggX3_init_X4_init
theorem dX3_init_0 : decode cX3_init 0 = .ok (.aload_n 0, 1) := by decide +kernel
theorem dX3_init_1 : decode cX3_init 1 = .ok (.invokespecial 3, 3) := by decide +kernel
theorem dX3_init_4 : decode cX3_init 4 = .ok (.aload_n 0, 1) := by decide +kernel
theorem dX3_init_5 : decode cX3_init 5 = .ok (.bipush 6, 2) := by decide +kernel
theorem dX3_init_7 : decode cX3_init 7 = .ok (.anewarray 9, 3) := by decide +kernel
theorem dX3_init_10 : decode cX3_init 10 = .ok (.putfield 11, 3) := by decide +kernel
theorem dX3_init_13 : decode cX3_init 13 = .ok (.iconst 0, 1) := by decide +kernel
theorem dX3_init_14 : decode cX3_init 14 = .ok (.istore_n 1, 1) := by decide +kernel
theorem dX3_init_15 : decode cX3_init 15 = .ok (.iload_n 1, 1) := by decide +kernel
theorem dX3_init_16 : decode cX3_init 16 = .ok (.aload_n 0, 1) := by decide +kernel
theorem dX3_init_17 : decode cX3_init 17 = .ok (.getfield 11, 3) := by decide +kernel
theorem dX3_init_20 : decode cX3_init 20 = .ok (.arraylength, 1) := by decide +kernel
theorem dX3_init_21 : decode cX3_init 21 = .ok (.if_icmp .ge 22, 3) := by decide +kernel
theorem dX3_init_24 : decode cX3_init 24 = .ok (.aload_n 0, 1) := by decide +kernel
theorem dX3_init_25 : decode cX3_init 25 = .ok (.getfield 11, 3) := by decide +kernel
theorem dX3_init_28 : decode cX3_init 28 = .ok (.iload_n 1, 1) := by decide +kernel
theorem dX3_init_29 : decode cX3_init 29 = .ok (.new 9, 3) := by decide +kernel
theorem dX3_init_32 : decode cX3_init 32 = .ok (.dup, 1) := by decide +kernel
theorem dX3_init_33 : decode cX3_init 33 = .ok (.invokespecial 17, 3) := by decide +kernel
theorem dX3_init_36 : decode cX3_init 36 = .ok (.aastore, 1) := by decide +kernel
theorem dX3_init_37 : decode cX3_init 37 = .ok (.iinc 1 1, 3) := by decide +kernel
theorem dX3_init_40 : decode cX3_init 40 = .ok (.goto (-25), 3) := by decide +kernel
theorem dX3_init_43 : decode cX3_init 43 = .ok (.return_, 1) := by decide +kernel
set_option maxRecDepth 20000 in
theorem ggX3_keep_X3_discardOldest : GoodIn wsX3_keep wsX3_discardOldest := goodIn_r _ [7, 2, 1, 42, 43] (by decide +kernel) (by decide +kernel)
set_option maxRecDepth 20000 in
theorem gX3_keep_X3_discardOldest : GoodIn wsX3_keep (wsV RX3 22 RX3 yX3_discardOldest wsX3_discardOldest) := goodIn_app (goodIn_of _ (by decide +kernel)) ggX3_keep_X3_discardOldest
set_option maxRecDepth 20000 in
theorem ggX3_keep_X4_become : GoodIn wsX3_keep wsX4_become := goodIn_r _ [12, 13, 14, 15, 16, 17, 18, 19, 20, 21, 22, 23, 24, 25, 26, 27, 28, 29, 30, 31, 32, 33, 34, 35, 36, 37, 38, 39, 40, 41, 44, 45, 46, 47, 48, 49, 50, 51, 52, 53, 54, 55, 56, 57, 58, 59] (by decide +kernel) (by decide +kernel)
set_option maxRecDepth 20000 in
theorem gX3_keep_X4_become : GoodIn wsX3_keep (wsV RX3 25 RX4 yX4_become wsX4_become) := goodIn_app (goodIn_of _ (by decide +kernel)) ggX3_keep_X4_become
theorem dX3_keep_0 : decode cX3_keep 0 = .ok (.aload_n 0, 1) := by decide +kernel
theorem dX3_keep_1 : decode cX3_keep 1 = .ok (.getfield 18, 3) := by decide +kernel
theorem dX3_keep_4 : decode cX3_keep 4 = .ok (.aload_n 0, 1) := by decide +kernel
theorem dX3_keep_5 : decode cX3_keep 5 = .ok (.getfield 11, 3) := by decide +kernel
theorem dX3_keep_8 : decode cX3_keep 8 = .ok (.arraylength, 1) := by decide +kernel
theorem dX3_keep_9 : decode cX3_keep 9 = .ok (.if_icmp .lt 7, 3) := by decide +kernel
theorem dX3_keep_12 : decode cX3_keep 12 = .ok (.aload_n 0, 1) := by decide +kernel
theorem dX3_keep_13 : decode cX3_keep 13 = .ok (.invokevirtual 22, 3) := by decide +kernel
theorem dX3_keep_16 : decode cX3_keep 16 = .ok (.aload_n 0, 1) := by decide +kernel
theorem dX3_keep_17 : decode cX3_keep 17 = .ok (.getfield 18, 3) := by decide +kernel
theorem dX3_keep_20 : decode cX3_keep 20 = .ok (.ifCond .lt 50, 3) := by decide +kernel
theorem dX3_keep_23 : decode cX3_keep 23 = .ok (.aload_n 0, 1) := by decide +kernel
theorem dX3_keep_24 : decode cX3_keep 24 = .ok (.getfield 18, 3) := by decide +kernel
theorem dX3_keep_27 : decode cX3_keep 27 = .ok (.aload_n 0, 1) := by decide +kernel
theorem dX3_keep_28 : decode cX3_keep 28 = .ok (.getfield 11, 3) := by decide +kernel
theorem dX3_keep_31 : decode cX3_keep 31 = .ok (.arraylength, 1) := by decide +kernel
theorem dX3_keep_32 : decode cX3_keep 32 = .ok (.if_icmp .ge 38, 3) := by decide +kernel
theorem dX3_keep_35 : decode cX3_keep 35 = .ok (.aload_n 0, 1) := by decide +kernel
theorem dX3_keep_36 : decode cX3_keep 36 = .ok (.getfield 11, 3) := by decide +kernel
theorem dX3_keep_39 : decode cX3_keep 39 = .ok (.aload_n 0, 1) := by decide +kernel
theorem dX3_keep_40 : decode cX3_keep 40 = .ok (.getfield 18, 3) := by decide +kernel
theorem dX3_keep_43 : decode cX3_keep 43 = .ok (.aaload, 1) := by decide +kernel
theorem dX3_keep_44 : decode cX3_keep 44 = .ok (.ifnull 26, 3) := by decide +kernel
theorem dX3_keep_47 : decode cX3_keep 47 = .ok (.aload_n 0, 1) := by decide +kernel
theorem dX3_keep_48 : decode cX3_keep 48 = .ok (.getfield 11, 3) := by decide +kernel
theorem dX3_keep_51 : decode cX3_keep 51 = .ok (.aload_n 0, 1) := by decide +kernel
theorem dX3_keep_52 : decode cX3_keep 52 = .ok (.getfield 18, 3) := by decide +kernel
theorem dX3_keep_55 : decode cX3_keep 55 = .ok (.aaload, 1) := by decide +kernel
theorem dX3_keep_56 : decode cX3_keep 56 = .ok (.aload_n 1, 1) := by decide +kernel
theorem dX3_keep_57 : decode cX3_keep 57 = .ok (.invokevirtual 25, 3) := by decide +kernel
theorem dX3_keep_60 : decode cX3_keep 60 = .ok (.aload_n 0, 1) := by decide +kernel
theorem dX3_keep_61 : decode cX3_keep 61 = .ok (.dup, 1) := by decide +kernel
theorem dX3_keep_62 : decode cX3_keep 62 = .ok (.getfield 18, 3) := by decide +kernel
theorem dX3_keep_65 : decode cX3_keep 65 = .ok (.iconst 1, 1) := by decide +kernel
theorem dX3_keep_66 : decode cX3_keep 66 = .ok (.iadd, 1) := by decide +kernel
theorem dX3_keep_67 : decode cX3_keep 67 = .ok (.putfield 18, 3) := by decide +kernel
theorem dX3_keep_70 : decode cX3_keep 70 = .ok (.return_, 1) := by decide +kernel
theorem dX3_discardOldest_0 : decode cX3_discardOldest 0 = .ok (.aload_n 0, 1) := by decide +kernel
theorem dX3_discardOldest_1 : decode cX3_discardOldest 1 = .ok (.getfield 11, 3) := by decide +kernel
theorem dX3_discardOldest_4 : decode cX3_discardOldest 4 = .ok (.arraylength, 1) := by decide +kernel
theorem dX3_discardOldest_5 : decode cX3_discardOldest 5 = .ok (.iconst 1, 1) := by decide +kernel
theorem dX3_discardOldest_6 : decode cX3_discardOldest 6 = .ok (.isub, 1) := by decide +kernel
theorem dX3_discardOldest_7 : decode cX3_discardOldest 7 = .ok (.istore_n 1, 1) := by decide +kernel
theorem dX3_discardOldest_8 : decode cX3_discardOldest 8 = .ok (.iload_n 1, 1) := by decide +kernel
theorem dX3_discardOldest_9 : decode cX3_discardOldest 9 = .ok (.ifCond .ge 4, 3) := by decide +kernel
theorem dX3_discardOldest_12 : decode cX3_discardOldest 12 = .ok (.return_, 1) := by decide +kernel
theorem dX3_discardOldest_13 : decode cX3_discardOldest 13 = .ok (.aload_n 0, 1) := by decide +kernel
theorem dX3_discardOldest_14 : decode cX3_discardOldest 14 = .ok (.getfield 11, 3) := by decide +kernel
theorem dX3_discardOldest_17 : decode cX3_discardOldest 17 = .ok (.iconst 0, 1) := by decide +kernel
theorem dX3_discardOldest_18 : decode cX3_discardOldest 18 = .ok (.aaload, 1) := by decide +kernel
theorem dX3_discardOldest_19 : decode cX3_discardOldest 19 = .ok (.astore_n 2, 1) := by decide +kernel
theorem dX3_discardOldest_20 : decode cX3_discardOldest 20 = .ok (.iconst 0, 1) := by decide +kernel
theorem dX3_discardOldest_21 : decode cX3_discardOldest 21 = .ok (.istore_n 3, 1) := by decide +kernel
theorem dX3_discardOldest_22 : decode cX3_discardOldest 22 = .ok (.iload_n 3, 1) := by decide +kernel
theorem dX3_discardOldest_23 : decode cX3_discardOldest 23 = .ok (.iload_n 1, 1) := by decide +kernel
theorem dX3_discardOldest_24 : decode cX3_discardOldest 24 = .ok (.if_icmp .ge 23, 3) := by decide +kernel
theorem dX3_discardOldest_27 : decode cX3_discardOldest 27 = .ok (.aload_n 0, 1) := by decide +kernel
theorem dX3_discardOldest_28 : decode cX3_discardOldest 28 = .ok (.getfield 11, 3) := by decide +kernel
theorem dX3_discardOldest_31 : decode cX3_discardOldest 31 = .ok (.iload_n 3, 1) := by decide +kernel
theorem dX3_discardOldest_32 : decode cX3_discardOldest 32 = .ok (.aload_n 0, 1) := by decide +kernel
theorem dX3_discardOldest_33 : decode cX3_discardOldest 33 = .ok (.getfield 11, 3) := by decide +kernel
theorem dX3_discardOldest_36 : decode cX3_discardOldest 36 = .ok (.iload_n 3, 1) := by decide +kernel
theorem dX3_discardOldest_37 : decode cX3_discardOldest 37 = .ok (.iconst 1, 1) := by decide +kernel
theorem dX3_discardOldest_38 : decode cX3_discardOldest 38 = .ok (.iadd, 1) := by decide +kernel
theorem dX3_discardOldest_39 : decode cX3_discardOldest 39 = .ok (.aaload, 1) := by decide +kernel
theorem dX3_discardOldest_40 : decode cX3_discardOldest 40 = .ok (.aastore, 1) := by decide +kernel
theorem dX3_discardOldest_41 : decode cX3_discardOldest 41 = .ok (.iinc 3 1, 3) := by decide +kernel
theorem dX3_discardOldest_44 : decode cX3_discardOldest 44 = .ok (.goto (-22), 3) := by decide +kernel
theorem dX3_discardOldest_47 : decode cX3_discardOldest 47 = .ok (.aload_n 0, 1) := by decide +kernel
theorem dX3_discardOldest_48 : decode cX3_discardOldest 48 = .ok (.getfield 11, 3) := by decide +kernel
theorem dX3_discardOldest_51 : decode cX3_discardOldest 51 = .ok (.iload_n 1, 1) := by decide +kernel
theorem dX3_discardOldest_52 : decode cX3_discardOldest 52 = .ok (.aload_n 2, 1) := by decide +kernel
theorem dX3_discardOldest_53 : decode cX3_discardOldest 53 = .ok (.aastore, 1) := by decide +kernel
theorem dX3_discardOldest_54 : decode cX3_discardOldest 54 = .ok (.aload_n 0, 1) := by decide +kernel
theorem dX3_discardOldest_55 : decode cX3_discardOldest 55 = .ok (.iload_n 1, 1) := by decide +kernel
theorem dX3_discardOldest_56 : decode cX3_discardOldest 56 = .ok (.putfield 18, 3) := by decide +kernel
theorem dX3_discardOldest_59 : decode cX3_discardOldest 59 = .ok (.return_, 1) := by decide +kernel
set_option maxRecDepth 20000 in
theorem ggX3_giveBack_X4_become : GoodIn wsX3_giveBack wsX4_become := goodIn_r _ [7, 8, 9, 10, 11, 12, 13, 14, 15, 16, 17, 18, 19, 20, 21, 22, 23, 24, 25, 26, 27, 28, 29, 30, 31, 32, 33, 34, 35, 36, 39, 40, 41, 42, 43, 44, 45, 46, 47, 48, 49, 50, 51, 52, 53, 54] (by decide +kernel) (by decide +kernel)
set_option maxRecDepth 20000 in
theorem gX3_giveBack_X4_become : GoodIn wsX3_giveBack (wsV RX3 25 RX4 yX4_become wsX4_become) := goodIn_app (goodIn_of _ (by decide +kernel)) ggX3_giveBack_X4_become
theorem dX3_giveBack_0 : decode cX3_giveBack 0 = .ok (.aload_n 0, 1) := by decide +kernel
theorem dX3_giveBack_1 : decode cX3_giveBack 1 = .ok (.getfield 18, 3) := by decide +kernel
theorem dX3_giveBack_4 : decode cX3_giveBack 4 = .ok (.ifCond .le 52, 3) := by decide +kernel
theorem dX3_giveBack_7 : decode cX3_giveBack 7 = .ok (.aload_n 0, 1) := by decide +kernel
theorem dX3_giveBack_8 : decode cX3_giveBack 8 = .ok (.getfield 18, 3) := by decide +kernel
theorem dX3_giveBack_11 : decode cX3_giveBack 11 = .ok (.aload_n 0, 1) := by decide +kernel
theorem dX3_giveBack_12 : decode cX3_giveBack 12 = .ok (.getfield 11, 3) := by decide +kernel
theorem dX3_giveBack_15 : decode cX3_giveBack 15 = .ok (.arraylength, 1) := by decide +kernel
theorem dX3_giveBack_16 : decode cX3_giveBack 16 = .ok (.if_icmp .gt 40, 3) := by decide +kernel
theorem dX3_giveBack_19 : decode cX3_giveBack 19 = .ok (.aload_n 0, 1) := by decide +kernel
theorem dX3_giveBack_20 : decode cX3_giveBack 20 = .ok (.getfield 11, 3) := by decide +kernel
theorem dX3_giveBack_23 : decode cX3_giveBack 23 = .ok (.aload_n 0, 1) := by decide +kernel
theorem dX3_giveBack_24 : decode cX3_giveBack 24 = .ok (.getfield 18, 3) := by decide +kernel
theorem dX3_giveBack_27 : decode cX3_giveBack 27 = .ok (.iconst 1, 1) := by decide +kernel
theorem dX3_giveBack_28 : decode cX3_giveBack 28 = .ok (.isub, 1) := by decide +kernel
theorem dX3_giveBack_29 : decode cX3_giveBack 29 = .ok (.aaload, 1) := by decide +kernel
theorem dX3_giveBack_30 : decode cX3_giveBack 30 = .ok (.ifnull 26, 3) := by decide +kernel
theorem dX3_giveBack_33 : decode cX3_giveBack 33 = .ok (.aload_n 0, 1) := by decide +kernel
theorem dX3_giveBack_34 : decode cX3_giveBack 34 = .ok (.dup, 1) := by decide +kernel
theorem dX3_giveBack_35 : decode cX3_giveBack 35 = .ok (.getfield 18, 3) := by decide +kernel
theorem dX3_giveBack_38 : decode cX3_giveBack 38 = .ok (.iconst 1, 1) := by decide +kernel
theorem dX3_giveBack_39 : decode cX3_giveBack 39 = .ok (.isub, 1) := by decide +kernel
theorem dX3_giveBack_40 : decode cX3_giveBack 40 = .ok (.putfield 18, 3) := by decide +kernel
theorem dX3_giveBack_43 : decode cX3_giveBack 43 = .ok (.aload_n 1, 1) := by decide +kernel
theorem dX3_giveBack_44 : decode cX3_giveBack 44 = .ok (.aload_n 0, 1) := by decide +kernel
theorem dX3_giveBack_45 : decode cX3_giveBack 45 = .ok (.getfield 11, 3) := by decide +kernel
theorem dX3_giveBack_48 : decode cX3_giveBack 48 = .ok (.aload_n 0, 1) := by decide +kernel
theorem dX3_giveBack_49 : decode cX3_giveBack 49 = .ok (.getfield 18, 3) := by decide +kernel
theorem dX3_giveBack_52 : decode cX3_giveBack 52 = .ok (.aaload, 1) := by decide +kernel
theorem dX3_giveBack_53 : decode cX3_giveBack 53 = .ok (.invokevirtual 25, 3) := by decide +kernel
theorem dX3_giveBack_56 : decode cX3_giveBack 56 = .ok (.return_, 1) := by decide +kernel
set_option maxRecDepth 20000 in
theorem ggX4_init_X2_init : GoodIn wsX4_init wsX2_init := goodIn_r _ [15, 16, 2, 3, 17, 18, 19, 34, 35] (by decide +kernel) (by decide +kernel)
set_option maxRecDepth 20000 in
theorem gX4_init_X2_init : GoodIn wsX4_init (wsX2_init) := ggX4_init_X2_init
theorem dX4_init_0 : decode cX4_init 0 = .ok (.aload_n 0, 1) := by decide +kernel
theorem dX4_init_1 : decode cX4_init 1 = .ok (.invokespecial 3, 3) := by decide +kernel
theorem dX4_init_4 : decode cX4_init 4 = .ok (.aload_n 0, 1) := by decide +kernel
theorem dX4_init_5 : decode cX4_init 5 = .ok (.bipush 10, 2) := by decide +kernel
theorem dX4_init_7 : decode cX4_init 7 = .ok (.putfield 9, 3) := by decide +kernel
theorem dX4_init_10 : decode cX4_init 10 = .ok (.aload_n 0, 1) := by decide +kernel
theorem dX4_init_11 : decode cX4_init 11 = .ok (.iconst (-1), 1) := by decide +kernel
theorem dX4_init_12 : decode cX4_init 12 = .ok (.putfield 15, 3) := by decide +kernel
theorem dX4_init_15 : decode cX4_init 15 = .ok (.aload_n 0, 1) := by decide +kernel
theorem dX4_init_16 : decode cX4_init 16 = .ok (.new 18, 3) := by decide +kernel
theorem dX4_init_19 : decode cX4_init 19 = .ok (.dup, 1) := by decide +kernel
theorem dX4_init_20 : decode cX4_init 20 = .ok (.bipush 16, 2) := by decide +kernel
theorem dX4_init_22 : decode cX4_init 22 = .ok (.bipush 16, 2) := by decide +kernel
theorem dX4_init_24 : decode cX4_init 24 = .ok (.invokespecial 20, 3) := by decide +kernel
theorem dX4_init_27 : decode cX4_init 27 = .ok (.putfield 23, 3) := by decide +kernel
theorem dX4_init_30 : decode cX4_init 30 = .ok (.aload_n 0, 1) := by decide +kernel
theorem dX4_init_31 : decode cX4_init 31 = .ok (.new 18, 3) := by decide +kernel
theorem dX4_init_34 : decode cX4_init 34 = .ok (.dup, 1) := by decide +kernel
theorem dX4_init_35 : decode cX4_init 35 = .ok (.bipush 16, 2) := by decide +kernel
theorem dX4_init_37 : decode cX4_init 37 = .ok (.bipush 16, 2) := by decide +kernel
theorem dX4_init_39 : decode cX4_init 39 = .ok (.invokespecial 20, 3) := by decide +kernel
theorem dX4_init_42 : decode cX4_init 42 = .ok (.putfield 27, 3) := by decide +kernel
theorem dX4_init_45 : decode cX4_init 45 = .ok (.aload_n 0, 1) := by decide +kernel
theorem dX4_init_46 : decode cX4_init 46 = .ok (.new 18, 3) := by decide +kernel
theorem dX4_init_49 : decode cX4_init 49 = .ok (.dup, 1) := by decide +kernel
theorem dX4_init_50 : decode cX4_init 50 = .ok (.bipush 7, 2) := by decide +kernel
theorem dX4_init_52 : decode cX4_init 52 = .ok (.bipush 7, 2) := by decide +kernel
theorem dX4_init_54 : decode cX4_init 54 = .ok (.invokespecial 20, 3) := by decide +kernel
theorem dX4_init_57 : decode cX4_init 57 = .ok (.putfield 30, 3) := by decide +kernel
theorem dX4_init_60 : decode cX4_init 60 = .ok (.aload_n 0, 1) := by decide +kernel
theorem dX4_init_61 : decode cX4_init 61 = .ok (.new 18, 3) := by decide +kernel
theorem dX4_init_64 : decode cX4_init 64 = .ok (.dup, 1) := by decide +kernel
theorem dX4_init_65 : decode cX4_init 65 = .ok (.bipush 30, 2) := by decide +kernel
theorem dX4_init_67 : decode cX4_init 67 = .ok (.iconst 0, 1) := by decide +kernel
theorem dX4_init_68 : decode cX4_init 68 = .ok (.invokespecial 20, 3) := by decide +kernel
theorem dX4_init_71 : decode cX4_init 71 = .ok (.putfield 33, 3) := by decide +kernel
theorem dX4_init_74 : decode cX4_init 74 = .ok (.return_, 1) := by decide +kernel
theorem dX4_remembers_0 : decode cX4_remembers 0 = .ok (.aload_n 0, 1) := by decide +kernel
theorem dX4_remembers_1 : decode cX4_remembers 1 = .ok (.getfield 15, 3) := by decide +kernel
theorem dX4_remembers_4 : decode cX4_remembers 4 = .ok (.iconst (-1), 1) := by decide +kernel
theorem dX4_remembers_5 : decode cX4_remembers 5 = .ok (.if_icmp .eq 16, 3) := by decide +kernel
theorem dX4_remembers_8 : decode cX4_remembers 8 = .ok (.aload_n 0, 1) := by decide +kernel
theorem dX4_remembers_9 : decode cX4_remembers 9 = .ok (.getfield 15, 3) := by decide +kernel
theorem dX4_remembers_12 : decode cX4_remembers 12 = .ok (.bipush 60, 2) := by decide +kernel
theorem dX4_remembers_14 : decode cX4_remembers 14 = .ok (.if_icmp .gt 7, 3) := by decide +kernel
theorem dX4_remembers_17 : decode cX4_remembers 17 = .ok (.iconst 1, 1) := by decide +kernel
theorem dX4_remembers_18 : decode cX4_remembers 18 = .ok (.goto 4, 3) := by decide +kernel
theorem dX4_remembers_21 : decode cX4_remembers 21 = .ok (.iconst 0, 1) := by decide +kernel
theorem dX4_remembers_22 : decode cX4_remembers 22 = .ok (.ireturn, 1) := by decide +kernel
set_option maxRecDepth 20000 in
theorem ggX4_become_X2_become : GoodIn wsX4_become wsX2_become := goodIn_r _ [19, 20, 21, 22, 23, 24, 25, 26, 27, 28, 29, 44, 45] (by decide +kernel) (by decide +kernel)
set_option maxRecDepth 20000 in
theorem gX4_become_X2_become : GoodIn wsX4_become (wsV RX4 60 RX2 yX2_become wsX2_become) := goodIn_app (goodIn_of _ (by decide +kernel)) ggX4_become_X2_become
theorem dX4_become_0 : decode cX4_become 0 = .ok (.aload_n 0, 1) := by decide +kernel
theorem dX4_become_1 : decode cX4_become 1 = .ok (.aload_n 1, 1) := by decide +kernel
theorem dX4_become_2 : decode cX4_become 2 = .ok (.getfield 36, 3) := by decide +kernel
theorem dX4_become_5 : decode cX4_become 5 = .ok (.putfield 36, 3) := by decide +kernel
theorem dX4_become_8 : decode cX4_become 8 = .ok (.aload_n 0, 1) := by decide +kernel
theorem dX4_become_9 : decode cX4_become 9 = .ok (.aload_n 1, 1) := by decide +kernel
theorem dX4_become_10 : decode cX4_become 10 = .ok (.getfield 9, 3) := by decide +kernel
theorem dX4_become_13 : decode cX4_become 13 = .ok (.putfield 9, 3) := by decide +kernel
theorem dX4_become_16 : decode cX4_become 16 = .ok (.aload_n 0, 1) := by decide +kernel
theorem dX4_become_17 : decode cX4_become 17 = .ok (.aload_n 1, 1) := by decide +kernel
theorem dX4_become_18 : decode cX4_become 18 = .ok (.getfield 39, 3) := by decide +kernel
theorem dX4_become_21 : decode cX4_become 21 = .ok (.putfield 39, 3) := by decide +kernel
theorem dX4_become_24 : decode cX4_become 24 = .ok (.aload_n 0, 1) := by decide +kernel
theorem dX4_become_25 : decode cX4_become 25 = .ok (.aload_n 1, 1) := by decide +kernel
theorem dX4_become_26 : decode cX4_become 26 = .ok (.getfield 42, 3) := by decide +kernel
theorem dX4_become_29 : decode cX4_become 29 = .ok (.putfield 42, 3) := by decide +kernel
theorem dX4_become_32 : decode cX4_become 32 = .ok (.aload_n 0, 1) := by decide +kernel
theorem dX4_become_33 : decode cX4_become 33 = .ok (.aload_n 1, 1) := by decide +kernel
theorem dX4_become_34 : decode cX4_become 34 = .ok (.getfield 45, 3) := by decide +kernel
theorem dX4_become_37 : decode cX4_become 37 = .ok (.putfield 45, 3) := by decide +kernel
theorem dX4_become_40 : decode cX4_become 40 = .ok (.aload_n 0, 1) := by decide +kernel
theorem dX4_become_41 : decode cX4_become 41 = .ok (.aload_n 1, 1) := by decide +kernel
theorem dX4_become_42 : decode cX4_become 42 = .ok (.getfield 48, 3) := by decide +kernel
theorem dX4_become_45 : decode cX4_become 45 = .ok (.putfield 48, 3) := by decide +kernel
theorem dX4_become_48 : decode cX4_become 48 = .ok (.aload_n 0, 1) := by decide +kernel
theorem dX4_become_49 : decode cX4_become 49 = .ok (.aload_n 1, 1) := by decide +kernel
theorem dX4_become_50 : decode cX4_become 50 = .ok (.getfield 15, 3) := by decide +kernel
theorem dX4_become_53 : decode cX4_become 53 = .ok (.putfield 15, 3) := by decide +kernel
theorem dX4_become_56 : decode cX4_become 56 = .ok (.aload_n 0, 1) := by decide +kernel
theorem dX4_become_57 : decode cX4_become 57 = .ok (.aload_n 1, 1) := by decide +kernel
theorem dX4_become_58 : decode cX4_become 58 = .ok (.getfield 51, 3) := by decide +kernel
theorem dX4_become_61 : decode cX4_become 61 = .ok (.putfield 51, 3) := by decide +kernel
theorem dX4_become_64 : decode cX4_become 64 = .ok (.aload_n 0, 1) := by decide +kernel
theorem dX4_become_65 : decode cX4_become 65 = .ok (.aload_n 1, 1) := by decide +kernel
theorem dX4_become_66 : decode cX4_become 66 = .ok (.getfield 54, 3) := by decide +kernel
theorem dX4_become_69 : decode cX4_become 69 = .ok (.putfield 54, 3) := by decide +kernel
theorem dX4_become_72 : decode cX4_become 72 = .ok (.aload_n 0, 1) := by decide +kernel
theorem dX4_become_73 : decode cX4_become 73 = .ok (.aload_n 1, 1) := by decide +kernel
theorem dX4_become_74 : decode cX4_become 74 = .ok (.getfield 57, 3) := by decide +kernel
theorem dX4_become_77 : decode cX4_become 77 = .ok (.putfield 57, 3) := by decide +kernel
theorem dX4_become_80 : decode cX4_become 80 = .ok (.aload_n 0, 1) := by decide +kernel
theorem dX4_become_81 : decode cX4_become 81 = .ok (.getfield 23, 3) := by decide +kernel
theorem dX4_become_84 : decode cX4_become 84 = .ok (.aload_n 1, 1) := by decide +kernel
theorem dX4_become_85 : decode cX4_become 85 = .ok (.getfield 23, 3) := by decide +kernel
theorem dX4_become_88 : decode cX4_become 88 = .ok (.invokevirtual 60, 3) := by decide +kernel
theorem dX4_become_91 : decode cX4_become 91 = .ok (.aload_n 0, 1) := by decide +kernel
theorem dX4_become_92 : decode cX4_become 92 = .ok (.getfield 27, 3) := by decide +kernel
theorem dX4_become_95 : decode cX4_become 95 = .ok (.aload_n 1, 1) := by decide +kernel
theorem dX4_become_96 : decode cX4_become 96 = .ok (.getfield 27, 3) := by decide +kernel
theorem dX4_become_99 : decode cX4_become 99 = .ok (.invokevirtual 60, 3) := by decide +kernel
theorem dX4_become_102 : decode cX4_become 102 = .ok (.aload_n 0, 1) := by decide +kernel
theorem dX4_become_103 : decode cX4_become 103 = .ok (.getfield 30, 3) := by decide +kernel
theorem dX4_become_106 : decode cX4_become 106 = .ok (.aload_n 1, 1) := by decide +kernel
theorem dX4_become_107 : decode cX4_become 107 = .ok (.getfield 30, 3) := by decide +kernel
theorem dX4_become_110 : decode cX4_become 110 = .ok (.invokevirtual 60, 3) := by decide +kernel
theorem dX4_become_113 : decode cX4_become 113 = .ok (.aload_n 0, 1) := by decide +kernel
theorem dX4_become_114 : decode cX4_become 114 = .ok (.getfield 33, 3) := by decide +kernel
theorem dX4_become_117 : decode cX4_become 117 = .ok (.aload_n 1, 1) := by decide +kernel
theorem dX4_become_118 : decode cX4_become 118 = .ok (.getfield 33, 3) := by decide +kernel
theorem dX4_become_121 : decode cX4_become 121 = .ok (.invokevirtual 60, 3) := by decide +kernel
theorem dX4_become_124 : decode cX4_become 124 = .ok (.return_, 1) := by decide +kernel
set_option maxRecDepth 20000 in
theorem ggX5_init_X4_init : GoodIn wsX5_init wsX4_init := goodIn_r _ [21, 22, 2, 3, 23, 24, 25, 26, 27, 28, 29, 30, 31, 32, 33, 34, 35, 36, 37, 38, 58, 59, 60, 61, 62, 63, 64, 65, 66, 67, 68, 69, 70, 71, 85, 86] (by decide +kernel) (by decide +kernel)
set_option maxRecDepth 20000 in
theorem gX5_init_X4_init_n11 : GoodIn wsX5_init (wsX4_init) := ggX5_init_X4_init
set_option maxRecDepth 20000 in
theorem ggX5_init_X3_init : GoodIn wsX5_init wsX3_init := goodIn_r _ [41, 42, 2, 3, 43, 44, 5, 6, 20, 21, 22, 23, 24, 25, 26, 27, 28, 29, 30, 31, 32, 33, 34, 35, 36, 37, 38, 76, 77, 58, 59, 60, 61, 62, 63, 64, 65, 66, 67, 68, 69, 70, 71, 85, 86] (by decide +kernel) (by decide +kernel)
set_option maxRecDepth 20000 in
theorem gX5_init_X3_init : GoodIn wsX5_init (wsX3_init) := ggX5_init_X3_init
set_option maxRecDepth 20000 in
theorem ggX5_init_X1_init : GoodIn wsX5_init wsX1_init := goodIn_r _ [46, 47, 2, 3, 48, 26, 27, 49, 50, 33, 34, 35, 36, 37, 38, 85, 86, 78] (by decide +kernel) (by decide +kernel)
set_option maxRecDepth 20000 in
theorem gX5_init_X1_init_n25 : GoodIn wsX5_init (wsX1_init) := ggX5_init_X1_init
set_option maxRecDepth 20000 in
theorem ggX5_init_X0_init : GoodIn wsX5_init wsX0_init := goodIn_r _ [52, 53, 2, 3, 54, 26, 27, 55, 56, 57, 33, 34, 35, 36, 37, 38, 85, 86, 79, 80, 81, 82, 83, 84] (by decide +kernel) (by decide +kernel)
set_option maxRecDepth 20000 in
theorem gX5_init_X0_init_n32 : GoodIn wsX5_init (wsX0_init) := ggX5_init_X0_init
theorem dX5_init_0 : decode cX5_init 0 = .ok (.aload_n 0, 1) := by decide +kernel
theorem dX5_init_1 : decode cX5_init 1 = .ok (.invokespecial 3, 3) := by decide +kernel
theorem dX5_init_4 : decode cX5_init 4 = .ok (.aload_n 0, 1) := by decide +kernel
theorem dX5_init_5 : decode cX5_init 5 = .ok (.new 9, 3) := by decide +kernel
theorem dX5_init_8 : decode cX5_init 8 = .ok (.dup, 1) := by decide +kernel
theorem dX5_init_9 : decode cX5_init 9 = .ok (.invokespecial 11, 3) := by decide +kernel
theorem dX5_init_12 : decode cX5_init 12 = .ok (.putfield 12, 3) := by decide +kernel
theorem dX5_init_15 : decode cX5_init 15 = .ok (.aload_n 0, 1) := by decide +kernel
theorem dX5_init_16 : decode cX5_init 16 = .ok (.new 16, 3) := by decide +kernel
theorem dX5_init_19 : decode cX5_init 19 = .ok (.dup, 1) := by decide +kernel
theorem dX5_init_20 : decode cX5_init 20 = .ok (.invokespecial 18, 3) := by decide +kernel
theorem dX5_init_23 : decode cX5_init 23 = .ok (.putfield 19, 3) := by decide +kernel
theorem dX5_init_26 : decode cX5_init 26 = .ok (.aload_n 0, 1) := by decide +kernel
theorem dX5_init_27 : decode cX5_init 27 = .ok (.new 23, 3) := by decide +kernel
theorem dX5_init_30 : decode cX5_init 30 = .ok (.dup, 1) := by decide +kernel
theorem dX5_init_31 : decode cX5_init 31 = .ok (.invokespecial 25, 3) := by decide +kernel
theorem dX5_init_34 : decode cX5_init 34 = .ok (.putfield 26, 3) := by decide +kernel
theorem dX5_init_37 : decode cX5_init 37 = .ok (.aload_n 0, 1) := by decide +kernel
theorem dX5_init_38 : decode cX5_init 38 = .ok (.new 30, 3) := by decide +kernel
theorem dX5_init_41 : decode cX5_init 41 = .ok (.dup, 1) := by decide +kernel
theorem dX5_init_42 : decode cX5_init 42 = .ok (.invokespecial 32, 3) := by decide +kernel
theorem dX5_init_45 : decode cX5_init 45 = .ok (.putfield 33, 3) := by decide +kernel
theorem dX5_init_48 : decode cX5_init 48 = .ok (.return_, 1) := by decide +kernel
set_option maxRecDepth 20000 in
theorem ggX5_frame_X5_checkFrame : GoodIn wsX5_frame wsX5_checkFrame := goodIn_ca (goodIn_r _ [6, 7, 8, 5, 9, 10, 11, 12, 13, 14] (by decide +kernel) (by decide +kernel)) (goodIn_sub (fun _ h => List.mem_cons_of_mem _ (List.mem_append_right _ h)) (by decide +kernel))
set_option maxRecDepth 20000 in
theorem gX5_frame_X5_checkFrame : GoodIn wsX5_frame (va_wsS RX5 37 yX5_checkFrame wsX5_checkFrame) := goodIn_app (goodIn_of _ (by decide +kernel)) ggX5_frame_X5_checkFrame
set_option maxRecDepth 20000 in
theorem ggX5_frame_X5_checkStrength : GoodIn wsX5_frame wsX5_checkStrength := goodIn_ca (goodIn_r _ [17, 7, 8, 5, 9, 10, 11, 12, 13, 14] (by decide +kernel) (by decide +kernel)) (goodIn_sub (fun _ h => List.mem_cons_of_mem _ (List.mem_append_right _ h)) (by decide +kernel))
set_option maxRecDepth 20000 in
theorem gX5_frame_X5_checkStrength : GoodIn wsX5_frame (va_wsS RX5 41 yX5_checkStrength wsX5_checkStrength) := goodIn_app (goodIn_of _ (by decide +kernel)) ggX5_frame_X5_checkStrength
set_option maxRecDepth 20000 in
theorem ggX5_frame_X3_keep : GoodIn wsX5_frame wsX3_keep := goodIn_r _ [22, 23, 24, 25, 26, 27, 21, 28, 29, 30, 31, 32, 33, 34, 35, 36, 37, 38, 39, 40, 41, 42, 43, 44, 45, 46, 47, 48, 49, 50, 51, 52, 53, 54, 55, 56, 57, 58, 59, 60, 61, 62, 158, 159, 160, 161, 162, 163, 164, 165, 166, 167, 168, 169, 170, 171, 172, 173, 174, 175] (by decide +kernel) (by decide +kernel)
set_option maxRecDepth 20000 in
theorem gX5_frame_X3_keep : GoodIn wsX5_frame (wsV RX5 45 RX3 yX3_keep wsX3_keep) := goodIn_app (goodIn_of _ (by decide +kernel)) ggX5_frame_X3_keep
set_option maxRecDepth 20000 in
theorem ggX5_frame_X5_hearFrame : GoodIn wsX5_frame wsX5_hearFrame := goodIn_r _ [66, 67, 68, 69, 70, 71, 72, 73, 74, 5, 75, 76, 77, 78, 79, 80, 81, 82, 83, 84, 85, 51, 86, 62, 87, 88, 89, 90, 53, 91, 92, 93, 94, 95, 96, 2, 97, 98, 99, 100, 101, 102, 103, 104, 105, 106, 107, 108, 56, 109, 110, 111, 112, 113, 114, 115, 116, 117, 118, 119, 120, 121, 122, 123, 124, 125, 126, 32, 127, 40, 128, 129, 130, 131, 132, 133, 55, 57, 134, 135, 136, 137, 138, 139, 140, 141, 142, 143, 144, 145, 146, 147, 148, 149, 150, 151, 152, 153, 154, 155, 156, 157, 176, 177, 178, 179, 180, 181, 174, 175, 160, 161, 162, 163, 164, 165, 166, 167, 168, 169, 170, 171, 172, 173] (by decide +kernel) (by decide +kernel)
set_option maxRecDepth 20000 in
theorem gX5_frame_X5_hearFrame : GoodIn wsX5_frame (wsV RX5 49 RX5 yX5_hearFrame wsX5_hearFrame) := goodIn_app (goodIn_of _ (by decide +kernel)) ggX5_frame_X5_hearFrame
theorem dX5_frame_0 : decode cX5_frame 0 = .ok (.iload_n 1, 1) := by decide +kernel
theorem dX5_frame_1 : decode cX5_frame 1 = .ok (.iload_n 2, 1) := by decide +kernel
theorem dX5_frame_2 : decode cX5_frame 2 = .ok (.iload_n 3, 1) := by decide +kernel
theorem dX5_frame_3 : decode cX5_frame 3 = .ok (.invokestatic 37, 3) := by decide +kernel
theorem dX5_frame_6 : decode cX5_frame 6 = .ok (.iload 4, 2) := by decide +kernel
theorem dX5_frame_8 : decode cX5_frame 8 = .ok (.invokestatic 41, 3) := by decide +kernel
theorem dX5_frame_11 : decode cX5_frame 11 = .ok (.aload_n 0, 1) := by decide +kernel
theorem dX5_frame_12 : decode cX5_frame 12 = .ok (.getfield 19, 3) := by decide +kernel
theorem dX5_frame_15 : decode cX5_frame 15 = .ok (.aload_n 0, 1) := by decide +kernel
theorem dX5_frame_16 : decode cX5_frame 16 = .ok (.getfield 12, 3) := by decide +kernel
theorem dX5_frame_19 : decode cX5_frame 19 = .ok (.invokevirtual 45, 3) := by decide +kernel
theorem dX5_frame_22 : decode cX5_frame 22 = .ok (.aload_n 0, 1) := by decide +kernel
theorem dX5_frame_23 : decode cX5_frame 23 = .ok (.iload_n 1, 1) := by decide +kernel
theorem dX5_frame_24 : decode cX5_frame 24 = .ok (.iload_n 2, 1) := by decide +kernel
theorem dX5_frame_25 : decode cX5_frame 25 = .ok (.iload_n 3, 1) := by decide +kernel
theorem dX5_frame_26 : decode cX5_frame 26 = .ok (.iload 4, 2) := by decide +kernel
theorem dX5_frame_28 : decode cX5_frame 28 = .ok (.invokevirtual 49, 3) := by decide +kernel
theorem dX5_frame_31 : decode cX5_frame 31 = .ok (.ireturn, 1) := by decide +kernel
set_option maxRecDepth 20000 in
theorem ggX5_repeat_X5_checkStrength : GoodIn wsX5_repeat wsX5_checkStrength := goodIn_ca (goodIn_r _ [6, 7, 8, 5, 9, 10, 11, 12, 13, 14] (by decide +kernel) (by decide +kernel)) (goodIn_sub (fun _ h => List.mem_cons_of_mem _ (List.mem_append_right _ h)) (by decide +kernel))
set_option maxRecDepth 20000 in
theorem gX5_repeat_X5_checkStrength : GoodIn wsX5_repeat (va_wsS RX5 41 yX5_checkStrength wsX5_checkStrength) := goodIn_app (goodIn_of _ (by decide +kernel)) ggX5_repeat_X5_checkStrength
set_option maxRecDepth 20000 in
theorem ggX5_repeat_X3_keep : GoodIn wsX5_repeat wsX3_keep := goodIn_r _ [19, 20, 21, 22, 23, 24, 18, 25, 26, 27, 28, 29, 30, 31, 32, 33, 34, 35, 36, 37, 38, 39, 40, 41, 42, 43, 44, 45, 46, 47, 48, 49, 50, 51, 52, 53, 54, 55, 56, 57, 58, 59, 150, 151, 152, 153, 154, 155, 156, 157, 158, 159, 160, 161, 162, 163, 164, 165, 166, 167] (by decide +kernel) (by decide +kernel)
set_option maxRecDepth 20000 in
theorem gX5_repeat_X3_keep : GoodIn wsX5_repeat (wsV RX5 45 RX3 yX3_keep wsX3_keep) := goodIn_app (goodIn_of _ (by decide +kernel)) ggX5_repeat_X3_keep
set_option maxRecDepth 20000 in
theorem ggX5_repeat_X5_hearRepeat : GoodIn wsX5_repeat wsX5_hearRepeat := goodIn_r _ [63, 64, 65, 66, 67, 68, 69, 70, 71, 72, 73, 48, 74, 59, 75, 76, 77, 78, 50, 79, 80, 81, 5, 82, 2, 83, 84, 85, 86, 87, 88, 89, 90, 91, 92, 93, 94, 53, 95, 96, 97, 98, 99, 100, 101, 102, 103, 104, 105, 106, 107, 108, 109, 110, 111, 112, 113, 114, 115, 116, 117, 118, 29, 119, 37, 120, 121, 122, 123, 124, 125, 52, 54, 126, 127, 128, 129, 130, 131, 132, 133, 134, 135, 136, 137, 138, 139, 140, 141, 142, 143, 144, 145, 146, 147, 148, 149, 168, 169, 170, 171, 172, 173, 166, 167, 152, 153, 154, 155, 156, 157, 158, 159, 160, 161, 162, 163, 164, 165] (by decide +kernel) (by decide +kernel)
set_option maxRecDepth 20000 in
theorem gX5_repeat_X5_hearRepeat : GoodIn wsX5_repeat (wsV RX5 53 RX5 yX5_hearRepeat wsX5_hearRepeat) := goodIn_app (goodIn_of _ (by decide +kernel)) ggX5_repeat_X5_hearRepeat
theorem dX5_repeat_0 : decode cX5_repeat 0 = .ok (.iload_n 1, 1) := by decide +kernel
theorem dX5_repeat_1 : decode cX5_repeat 1 = .ok (.invokestatic 41, 3) := by decide +kernel
theorem dX5_repeat_4 : decode cX5_repeat 4 = .ok (.aload_n 0, 1) := by decide +kernel
theorem dX5_repeat_5 : decode cX5_repeat 5 = .ok (.getfield 19, 3) := by decide +kernel
theorem dX5_repeat_8 : decode cX5_repeat 8 = .ok (.aload_n 0, 1) := by decide +kernel
theorem dX5_repeat_9 : decode cX5_repeat 9 = .ok (.getfield 12, 3) := by decide +kernel
theorem dX5_repeat_12 : decode cX5_repeat 12 = .ok (.invokevirtual 45, 3) := by decide +kernel
theorem dX5_repeat_15 : decode cX5_repeat 15 = .ok (.aload_n 0, 1) := by decide +kernel
theorem dX5_repeat_16 : decode cX5_repeat 16 = .ok (.iload_n 1, 1) := by decide +kernel
theorem dX5_repeat_17 : decode cX5_repeat 17 = .ok (.invokevirtual 53, 3) := by decide +kernel
theorem dX5_repeat_20 : decode cX5_repeat 20 = .ok (.ireturn, 1) := by decide +kernel
set_option maxRecDepth 20000 in
theorem ggX5_receive_X5_checkStrength : GoodIn wsX5_receive wsX5_checkStrength := goodIn_ca (goodIn_r _ [9, 10, 11, 8, 12, 13, 14, 15, 16, 17] (by decide +kernel) (by decide +kernel)) (goodIn_sub (fun _ h => List.mem_cons_of_mem _ (List.mem_append_right _ h)) (by decide +kernel))
set_option maxRecDepth 20000 in
theorem gX5_receive_X5_checkStrength : GoodIn wsX5_receive (va_wsS RX5 41 yX5_checkStrength wsX5_checkStrength) := goodIn_app (goodIn_of _ (by decide +kernel)) ggX5_receive_X5_checkStrength
set_option maxRecDepth 20000 in
theorem ggX5_receive_X3_keep : GoodIn wsX5_receive wsX3_keep := goodIn_r _ [22, 23, 24, 25, 26, 27, 21, 28, 29, 30, 31, 32, 33, 34, 35, 36, 37, 38, 39, 40, 41, 42, 43, 44, 45, 46, 47, 48, 49, 50, 51, 52, 53, 54, 55, 56, 57, 58, 59, 60, 61, 62, 166, 167, 150, 151, 152, 153, 154, 155, 156, 157, 158, 159, 160, 161, 162, 163, 164, 165] (by decide +kernel) (by decide +kernel)
set_option maxRecDepth 20000 in
theorem gX5_receive_X3_keep : GoodIn wsX5_receive (wsV RX5 45 RX3 yX3_keep wsX3_keep) := goodIn_app (goodIn_of _ (by decide +kernel)) ggX5_receive_X3_keep
set_option maxRecDepth 20000 in
theorem ggX5_receive_X0_sendRow : GoodIn wsX5_receive wsX0_sendRow := goodIn_r _ [67, 68, 69, 49, 50, 51, 52, 53, 54, 55, 56, 57, 58, 59, 60, 61, 62, 168, 169, 170, 171, 172, 173, 164, 165] (by decide +kernel) (by decide +kernel)
set_option maxRecDepth 20000 in
theorem gX5_receive_X0_sendRow : GoodIn wsX5_receive (wsV RX5 74 RX0 yX0_sendRow wsX0_sendRow) := goodIn_app (goodIn_of _ (by decide +kernel)) ggX5_receive_X0_sendRow
set_option maxRecDepth 20000 in
theorem ggX5_receive_X2_empty : GoodIn wsX5_receive wsX2_empty := goodIn_r _ [73, 62, 164, 165] (by decide +kernel) (by decide +kernel)
set_option maxRecDepth 20000 in
theorem gX5_receive_X2_empty : GoodIn wsX5_receive (wsV RX5 78 RX2 yX2_empty wsX2_empty) := goodIn_app (goodIn_of _ (by decide +kernel)) ggX5_receive_X2_empty
set_option maxRecDepth 20000 in
theorem ggX5_receive_X5_hear : GoodIn wsX5_receive wsX5_hear := goodIn_r _ [77, 3, 78, 79, 80, 8, 81, 5, 82, 83, 84, 66, 85, 86, 87, 68, 88, 89, 56, 90, 91, 92, 93, 71, 72, 51, 73, 62, 94, 95, 96, 97, 53, 98, 99, 100, 101, 102, 103, 104, 105, 106, 107, 108, 109, 110, 111, 112, 113, 114, 115, 116, 117, 118, 32, 119, 40, 120, 121, 122, 123, 124, 125, 55, 57, 126, 127, 128, 129, 130, 131, 132, 133, 134, 135, 136, 137, 138, 139, 140, 141, 142, 143, 144, 145, 146, 147, 148, 149, 150, 151, 152, 153, 154, 155, 156, 157, 158, 159, 160, 161, 162, 163, 168, 169, 170, 171, 172, 173, 164, 165] (by decide +kernel) (by decide +kernel)
set_option maxRecDepth 20000 in
theorem gX5_receive_X5_hear : GoodIn wsX5_receive (wsV RX5 81 RX5 yX5_hear wsX5_hear) := goodIn_app (goodIn_of _ (by decide +kernel)) ggX5_receive_X5_hear
theorem dX5_receive_0 : decode cX5_receive 0 = .ok (.iload_n 1, 1) := by decide +kernel
theorem dX5_receive_1 : decode cX5_receive 1 = .ok (.invokestatic 41, 3) := by decide +kernel
theorem dX5_receive_4 : decode cX5_receive 4 = .ok (.aload_n 0, 1) := by decide +kernel
theorem dX5_receive_5 : decode cX5_receive 5 = .ok (.getfield 12, 3) := by decide +kernel
theorem dX5_receive_8 : decode cX5_receive 8 = .ok (.getfield 57, 3) := by decide +kernel
theorem dX5_receive_11 : decode cX5_receive 11 = .ok (.getfield 61, 3) := by decide +kernel
theorem dX5_receive_14 : decode cX5_receive 14 = .ok (.iconst 2, 1) := by decide +kernel
theorem dX5_receive_15 : decode cX5_receive 15 = .ok (.irem, 1) := by decide +kernel
theorem dX5_receive_16 : decode cX5_receive 16 = .ok (.ifCond .ne 13, 3) := by decide +kernel
theorem dX5_receive_19 : decode cX5_receive 19 = .ok (.new 67, 3) := by decide +kernel
theorem dX5_receive_22 : decode cX5_receive 22 = .ok (.dup, 1) := by decide +kernel
theorem dX5_receive_23 : decode cX5_receive 23 = .ok (.ldc 69, 2) := by decide +kernel
theorem dX5_receive_25 : decode cX5_receive 25 = .ok (.invokespecial 71, 3) := by decide +kernel
theorem dX5_receive_28 : decode cX5_receive 28 = .ok (.athrow, 1) := by decide +kernel
theorem dX5_receive_29 : decode cX5_receive 29 = .ok (.aload_n 0, 1) := by decide +kernel
theorem dX5_receive_30 : decode cX5_receive 30 = .ok (.getfield 19, 3) := by decide +kernel
theorem dX5_receive_33 : decode cX5_receive 33 = .ok (.aload_n 0, 1) := by decide +kernel
theorem dX5_receive_34 : decode cX5_receive 34 = .ok (.getfield 12, 3) := by decide +kernel
theorem dX5_receive_37 : decode cX5_receive 37 = .ok (.invokevirtual 45, 3) := by decide +kernel
theorem dX5_receive_40 : decode cX5_receive 40 = .ok (.aload_n 0, 1) := by decide +kernel
theorem dX5_receive_41 : decode cX5_receive 41 = .ok (.getfield 33, 3) := by decide +kernel
theorem dX5_receive_44 : decode cX5_receive 44 = .ok (.aload_n 0, 1) := by decide +kernel
theorem dX5_receive_45 : decode cX5_receive 45 = .ok (.getfield 12, 3) := by decide +kernel
theorem dX5_receive_48 : decode cX5_receive 48 = .ok (.getfield 57, 3) := by decide +kernel
theorem dX5_receive_51 : decode cX5_receive 51 = .ok (.invokevirtual 74, 3) := by decide +kernel
theorem dX5_receive_54 : decode cX5_receive 54 = .ok (.aload_n 0, 1) := by decide +kernel
theorem dX5_receive_55 : decode cX5_receive 55 = .ok (.getfield 12, 3) := by decide +kernel
theorem dX5_receive_58 : decode cX5_receive 58 = .ok (.getfield 57, 3) := by decide +kernel
theorem dX5_receive_61 : decode cX5_receive 61 = .ok (.invokevirtual 78, 3) := by decide +kernel
theorem dX5_receive_64 : decode cX5_receive 64 = .ok (.aload_n 0, 1) := by decide +kernel
theorem dX5_receive_65 : decode cX5_receive 65 = .ok (.iload_n 1, 1) := by decide +kernel
theorem dX5_receive_66 : decode cX5_receive 66 = .ok (.invokevirtual 81, 3) := by decide +kernel
theorem dX5_receive_69 : decode cX5_receive 69 = .ok (.ireturn, 1) := by decide +kernel
set_option maxRecDepth 20000 in
theorem ggX5_shine_X5_isWithin : GoodIn wsX5_shine wsX5_isWithin := goodIn_r _ [8] (by decide +kernel) (by decide +kernel)
set_option maxRecDepth 20000 in
theorem gX5_shine_X5_isWithin : GoodIn wsX5_shine (va_wsS RX5 84 yX5_isWithin wsX5_isWithin) := goodIn_app (goodIn_of _ (by decide +kernel)) ggX5_shine_X5_isWithin
set_option maxRecDepth 20000 in
theorem ggX5_shine_X5_checkArgument : GoodIn wsX5_shine wsX5_checkArgument := goodIn_ca (goodIn_r _ [11, 12, 13] (by decide +kernel) (by decide +kernel)) (goodIn_sub (fun _ h => List.mem_cons_of_mem _ (List.mem_append_right _ h)) (by decide +kernel))
set_option maxRecDepth 20000 in
theorem gX5_shine_X5_checkArgument : GoodIn wsX5_shine (va_wsS RX5 88 yX5_checkArgument wsX5_checkArgument) := goodIn_app (goodIn_of _ (by decide +kernel)) ggX5_shine_X5_checkArgument
set_option maxRecDepth 20000 in
theorem ggX5_shine_X3_keep : GoodIn wsX5_shine wsX3_keep := goodIn_r _ [18, 19, 20, 21, 22, 23, 17, 24, 25, 26, 27, 28, 29, 30, 31, 32, 33, 34, 35, 36, 37, 38, 39, 40, 41, 42, 43, 44, 45, 46, 47, 48, 49, 50, 51, 52, 53, 54, 55, 56, 57, 58, 83, 84, 67, 68, 69, 70, 71, 72, 73, 74, 75, 76, 77, 78, 79, 80, 81, 82] (by decide +kernel) (by decide +kernel)
set_option maxRecDepth 20000 in
theorem gX5_shine_X3_keep : GoodIn wsX5_shine (wsV RX5 45 RX3 yX3_keep wsX3_keep) := goodIn_app (goodIn_of _ (by decide +kernel)) ggX5_shine_X3_keep
set_option maxRecDepth 20000 in
theorem ggX5_shine_X2_add : GoodIn wsX5_shine wsX2_add := goodIn_r _ [62, 58, 49, 81, 82] (by decide +kernel) (by decide +kernel)
set_option maxRecDepth 20000 in
theorem gX5_shine_X2_add : GoodIn wsX5_shine (wsV RX5 94 RX2 yX2_add wsX2_add) := goodIn_app (goodIn_of _ (by decide +kernel)) ggX5_shine_X2_add
theorem dX5_shine_0 : decode cX5_shine 0 = .ok (.iload_n 1, 1) := by decide +kernel
theorem dX5_shine_1 : decode cX5_shine 1 = .ok (.iconst 1, 1) := by decide +kernel
theorem dX5_shine_2 : decode cX5_shine 2 = .ok (.bipush 40, 2) := by decide +kernel
theorem dX5_shine_4 : decode cX5_shine 4 = .ok (.invokestatic 84, 3) := by decide +kernel
theorem dX5_shine_7 : decode cX5_shine 7 = .ok (.invokestatic 88, 3) := by decide +kernel
theorem dX5_shine_10 : decode cX5_shine 10 = .ok (.aload_n 0, 1) := by decide +kernel
theorem dX5_shine_11 : decode cX5_shine 11 = .ok (.getfield 12, 3) := by decide +kernel
theorem dX5_shine_14 : decode cX5_shine 14 = .ok (.getfield 57, 3) := by decide +kernel
theorem dX5_shine_17 : decode cX5_shine 17 = .ok (.getfield 61, 3) := by decide +kernel
theorem dX5_shine_20 : decode cX5_shine 20 = .ok (.bipush 30, 2) := by decide +kernel
theorem dX5_shine_22 : decode cX5_shine 22 = .ok (.if_icmp .lt 13, 3) := by decide +kernel
theorem dX5_shine_25 : decode cX5_shine 25 = .ok (.new 67, 3) := by decide +kernel
theorem dX5_shine_28 : decode cX5_shine 28 = .ok (.dup, 1) := by decide +kernel
theorem dX5_shine_29 : decode cX5_shine 29 = .ok (.ldc 92, 2) := by decide +kernel
theorem dX5_shine_31 : decode cX5_shine 31 = .ok (.invokespecial 71, 3) := by decide +kernel
theorem dX5_shine_34 : decode cX5_shine 34 = .ok (.athrow, 1) := by decide +kernel
theorem dX5_shine_35 : decode cX5_shine 35 = .ok (.aload_n 0, 1) := by decide +kernel
theorem dX5_shine_36 : decode cX5_shine 36 = .ok (.getfield 19, 3) := by decide +kernel
theorem dX5_shine_39 : decode cX5_shine 39 = .ok (.aload_n 0, 1) := by decide +kernel
theorem dX5_shine_40 : decode cX5_shine 40 = .ok (.getfield 12, 3) := by decide +kernel
theorem dX5_shine_43 : decode cX5_shine 43 = .ok (.invokevirtual 45, 3) := by decide +kernel
theorem dX5_shine_46 : decode cX5_shine 46 = .ok (.aload_n 0, 1) := by decide +kernel
theorem dX5_shine_47 : decode cX5_shine 47 = .ok (.getfield 12, 3) := by decide +kernel
theorem dX5_shine_50 : decode cX5_shine 50 = .ok (.getfield 57, 3) := by decide +kernel
theorem dX5_shine_53 : decode cX5_shine 53 = .ok (.iload_n 1, 1) := by decide +kernel
theorem dX5_shine_54 : decode cX5_shine 54 = .ok (.invokevirtual 94, 3) := by decide +kernel
theorem dX5_shine_57 : decode cX5_shine 57 = .ok (.aload_n 0, 1) := by decide +kernel
theorem dX5_shine_58 : decode cX5_shine 58 = .ok (.getfield 12, 3) := by decide +kernel
theorem dX5_shine_61 : decode cX5_shine 61 = .ok (.getfield 57, 3) := by decide +kernel
theorem dX5_shine_64 : decode cX5_shine 64 = .ok (.getfield 61, 3) := by decide +kernel
theorem dX5_shine_67 : decode cX5_shine 67 = .ok (.ireturn, 1) := by decide +kernel
set_option maxRecDepth 20000 in
theorem ggX5_pass_X5_isWithin : GoodIn wsX5_pass wsX5_isWithin := goodIn_r _ [6] (by decide +kernel) (by decide +kernel)
set_option maxRecDepth 20000 in
theorem gX5_pass_X5_isWithin : GoodIn wsX5_pass (va_wsS RX5 84 yX5_isWithin wsX5_isWithin) := goodIn_app (goodIn_of _ (by decide +kernel)) ggX5_pass_X5_isWithin
set_option maxRecDepth 20000 in
theorem ggX5_pass_X5_checkArgument : GoodIn wsX5_pass wsX5_checkArgument := goodIn_ca (goodIn_r _ [9, 10, 11] (by decide +kernel) (by decide +kernel)) (goodIn_sub (fun _ h => List.mem_cons_of_mem _ (List.mem_append_right _ h)) (by decide +kernel))
set_option maxRecDepth 20000 in
theorem gX5_pass_X5_checkArgument : GoodIn wsX5_pass (va_wsS RX5 88 yX5_checkArgument wsX5_checkArgument) := goodIn_app (goodIn_of _ (by decide +kernel)) ggX5_pass_X5_checkArgument
set_option maxRecDepth 20000 in
theorem ggX5_pass_X3_keep : GoodIn wsX5_pass wsX3_keep := goodIn_r _ [16, 17, 18, 19, 20, 21, 15, 22, 23, 24, 25, 26, 27, 28, 29, 30, 31, 32, 33, 34, 35, 36, 37, 38, 39, 40, 41, 42, 43, 44, 45, 46, 47, 48, 49, 50, 51, 52, 53, 54, 55, 56, 79, 80, 65, 66, 67, 68, 69, 70, 71, 72, 73, 74, 75, 76, 77, 78, 81, 82] (by decide +kernel) (by decide +kernel)
set_option maxRecDepth 20000 in
theorem gX5_pass_X3_keep : GoodIn wsX5_pass (wsV RX5 45 RX3 yX3_keep wsX3_keep) := goodIn_app (goodIn_of _ (by decide +kernel)) ggX5_pass_X3_keep
set_option maxRecDepth 20000 in
theorem ggX5_pass_X5_letPass : GoodIn wsX5_pass wsX5_letPass := goodIn_r _ [60, 2, 61, 62, 63, 64, 65, 66, 67, 68, 69, 70, 71, 72, 73, 74, 75, 76, 77, 78] (by decide +kernel) (by decide +kernel)
set_option maxRecDepth 20000 in
theorem gX5_pass_X5_letPass : GoodIn wsX5_pass (wsV RX5 97 RX5 yX5_letPass wsX5_letPass) := goodIn_app (goodIn_of _ (by decide +kernel)) ggX5_pass_X5_letPass
theorem dX5_pass_0 : decode cX5_pass 0 = .ok (.iload_n 1, 1) := by decide +kernel
theorem dX5_pass_1 : decode cX5_pass 1 = .ok (.iconst 1, 1) := by decide +kernel
theorem dX5_pass_2 : decode cX5_pass 2 = .ok (.bipush 99, 2) := by decide +kernel
theorem dX5_pass_4 : decode cX5_pass 4 = .ok (.invokestatic 84, 3) := by decide +kernel
theorem dX5_pass_7 : decode cX5_pass 7 = .ok (.invokestatic 88, 3) := by decide +kernel
theorem dX5_pass_10 : decode cX5_pass 10 = .ok (.aload_n 0, 1) := by decide +kernel
theorem dX5_pass_11 : decode cX5_pass 11 = .ok (.getfield 19, 3) := by decide +kernel
theorem dX5_pass_14 : decode cX5_pass 14 = .ok (.aload_n 0, 1) := by decide +kernel
theorem dX5_pass_15 : decode cX5_pass 15 = .ok (.getfield 12, 3) := by decide +kernel
theorem dX5_pass_18 : decode cX5_pass 18 = .ok (.invokevirtual 45, 3) := by decide +kernel
theorem dX5_pass_21 : decode cX5_pass 21 = .ok (.aload_n 0, 1) := by decide +kernel
theorem dX5_pass_22 : decode cX5_pass 22 = .ok (.iload_n 1, 1) := by decide +kernel
theorem dX5_pass_23 : decode cX5_pass 23 = .ok (.invokevirtual 97, 3) := by decide +kernel
theorem dX5_pass_26 : decode cX5_pass 26 = .ok (.aload_n 0, 1) := by decide +kernel
theorem dX5_pass_27 : decode cX5_pass 27 = .ok (.getfield 12, 3) := by decide +kernel
theorem dX5_pass_30 : decode cX5_pass 30 = .ok (.getfield 100, 3) := by decide +kernel
theorem dX5_pass_33 : decode cX5_pass 33 = .ok (.ireturn, 1) := by decide +kernel
set_option maxRecDepth 20000 in
theorem ggX5_setGlare_X5_isWithin : GoodIn wsX5_setGlare wsX5_isWithin := goodIn_r _ [6] (by decide +kernel) (by decide +kernel)
set_option maxRecDepth 20000 in
theorem gX5_setGlare_X5_isWithin : GoodIn wsX5_setGlare (va_wsS RX5 84 yX5_isWithin wsX5_isWithin) := goodIn_app (goodIn_of _ (by decide +kernel)) ggX5_setGlare_X5_isWithin
set_option maxRecDepth 20000 in
theorem ggX5_setGlare_X5_checkArgument : GoodIn wsX5_setGlare wsX5_checkArgument := goodIn_ca (goodIn_r _ [9, 10, 11] (by decide +kernel) (by decide +kernel)) (goodIn_sub (fun _ h => List.mem_cons_of_mem _ (List.mem_append_right _ h)) (by decide +kernel))
set_option maxRecDepth 20000 in
theorem gX5_setGlare_X5_checkArgument : GoodIn wsX5_setGlare (va_wsS RX5 88 yX5_checkArgument wsX5_checkArgument) := goodIn_app (goodIn_of _ (by decide +kernel)) ggX5_setGlare_X5_checkArgument
set_option maxRecDepth 20000 in
theorem ggX5_setGlare_X3_keep : GoodIn wsX5_setGlare wsX3_keep := goodIn_r _ [16, 17, 18, 19, 20, 21, 15, 22, 23, 24, 25, 26, 27, 28, 29, 30, 31, 32, 33, 34, 35, 36, 37, 38, 39, 40, 41, 42, 43, 44, 45, 46, 47, 48, 49, 50, 51, 52, 53, 54, 55, 56, 75, 76, 61, 62, 63, 64, 65, 66, 67, 68, 69, 70, 71, 72, 73, 74, 77, 78] (by decide +kernel) (by decide +kernel)
set_option maxRecDepth 20000 in
theorem gX5_setGlare_X3_keep : GoodIn wsX5_setGlare (wsV RX5 45 RX3 yX3_keep wsX3_keep) := goodIn_app (goodIn_of _ (by decide +kernel)) ggX5_setGlare_X3_keep
theorem dX5_setGlare_0 : decode cX5_setGlare 0 = .ok (.iload_n 1, 1) := by decide +kernel
theorem dX5_setGlare_1 : decode cX5_setGlare 1 = .ok (.iconst 0, 1) := by decide +kernel
theorem dX5_setGlare_2 : decode cX5_setGlare 2 = .ok (.bipush 9, 2) := by decide +kernel
theorem dX5_setGlare_4 : decode cX5_setGlare 4 = .ok (.invokestatic 84, 3) := by decide +kernel
theorem dX5_setGlare_7 : decode cX5_setGlare 7 = .ok (.invokestatic 88, 3) := by decide +kernel
theorem dX5_setGlare_10 : decode cX5_setGlare 10 = .ok (.aload_n 0, 1) := by decide +kernel
theorem dX5_setGlare_11 : decode cX5_setGlare 11 = .ok (.getfield 19, 3) := by decide +kernel
theorem dX5_setGlare_14 : decode cX5_setGlare 14 = .ok (.aload_n 0, 1) := by decide +kernel
theorem dX5_setGlare_15 : decode cX5_setGlare 15 = .ok (.getfield 12, 3) := by decide +kernel
theorem dX5_setGlare_18 : decode cX5_setGlare 18 = .ok (.invokevirtual 45, 3) := by decide +kernel
theorem dX5_setGlare_21 : decode cX5_setGlare 21 = .ok (.aload_n 0, 1) := by decide +kernel
theorem dX5_setGlare_22 : decode cX5_setGlare 22 = .ok (.getfield 12, 3) := by decide +kernel
theorem dX5_setGlare_25 : decode cX5_setGlare 25 = .ok (.getfield 103, 3) := by decide +kernel
theorem dX5_setGlare_28 : decode cX5_setGlare 28 = .ok (.istore_n 2, 1) := by decide +kernel
theorem dX5_setGlare_29 : decode cX5_setGlare 29 = .ok (.aload_n 0, 1) := by decide +kernel
theorem dX5_setGlare_30 : decode cX5_setGlare 30 = .ok (.getfield 12, 3) := by decide +kernel
theorem dX5_setGlare_33 : decode cX5_setGlare 33 = .ok (.iload_n 1, 1) := by decide +kernel
theorem dX5_setGlare_34 : decode cX5_setGlare 34 = .ok (.putfield 103, 3) := by decide +kernel
theorem dX5_setGlare_37 : decode cX5_setGlare 37 = .ok (.iload_n 2, 1) := by decide +kernel
theorem dX5_setGlare_38 : decode cX5_setGlare 38 = .ok (.ireturn, 1) := by decide +kernel
set_option maxRecDepth 20000 in
theorem ggX5_setAddress_X5_isWithin : GoodIn wsX5_setAddress wsX5_isWithin := goodIn_r _ [6] (by decide +kernel) (by decide +kernel)
set_option maxRecDepth 20000 in
theorem gX5_setAddress_X5_isWithin : GoodIn wsX5_setAddress (va_wsS RX5 84 yX5_isWithin wsX5_isWithin) := goodIn_app (goodIn_of _ (by decide +kernel)) ggX5_setAddress_X5_isWithin
set_option maxRecDepth 20000 in
theorem ggX5_setAddress_X5_checkArgument : GoodIn wsX5_setAddress wsX5_checkArgument := goodIn_ca (goodIn_r _ [9, 10, 11] (by decide +kernel) (by decide +kernel)) (goodIn_sub (fun _ h => List.mem_cons_of_mem _ (List.mem_append_right _ h)) (by decide +kernel))
set_option maxRecDepth 20000 in
theorem gX5_setAddress_X5_checkArgument : GoodIn wsX5_setAddress (va_wsS RX5 88 yX5_checkArgument wsX5_checkArgument) := goodIn_app (goodIn_of _ (by decide +kernel)) ggX5_setAddress_X5_checkArgument
set_option maxRecDepth 20000 in
theorem ggX5_setAddress_X3_keep : GoodIn wsX5_setAddress wsX3_keep := goodIn_r _ [16, 17, 18, 19, 20, 21, 15, 22, 23, 24, 25, 26, 27, 28, 29, 30, 31, 32, 33, 34, 35, 36, 37, 38, 39, 40, 41, 42, 43, 44, 45, 46, 47, 48, 49, 50, 51, 52, 53, 54, 55, 56, 75, 76, 61, 62, 63, 64, 65, 66, 67, 68, 69, 70, 71, 72, 73, 74, 77, 78] (by decide +kernel) (by decide +kernel)
set_option maxRecDepth 20000 in
theorem gX5_setAddress_X3_keep : GoodIn wsX5_setAddress (wsV RX5 45 RX3 yX3_keep wsX3_keep) := goodIn_app (goodIn_of _ (by decide +kernel)) ggX5_setAddress_X3_keep
theorem dX5_setAddress_0 : decode cX5_setAddress 0 = .ok (.iload_n 1, 1) := by decide +kernel
theorem dX5_setAddress_1 : decode cX5_setAddress 1 = .ok (.iconst 0, 1) := by decide +kernel
theorem dX5_setAddress_2 : decode cX5_setAddress 2 = .ok (.bipush 7, 2) := by decide +kernel
theorem dX5_setAddress_4 : decode cX5_setAddress 4 = .ok (.invokestatic 84, 3) := by decide +kernel
theorem dX5_setAddress_7 : decode cX5_setAddress 7 = .ok (.invokestatic 88, 3) := by decide +kernel
theorem dX5_setAddress_10 : decode cX5_setAddress 10 = .ok (.aload_n 0, 1) := by decide +kernel
theorem dX5_setAddress_11 : decode cX5_setAddress 11 = .ok (.getfield 19, 3) := by decide +kernel
theorem dX5_setAddress_14 : decode cX5_setAddress 14 = .ok (.aload_n 0, 1) := by decide +kernel
theorem dX5_setAddress_15 : decode cX5_setAddress 15 = .ok (.getfield 12, 3) := by decide +kernel
theorem dX5_setAddress_18 : decode cX5_setAddress 18 = .ok (.invokevirtual 45, 3) := by decide +kernel
theorem dX5_setAddress_21 : decode cX5_setAddress 21 = .ok (.aload_n 0, 1) := by decide +kernel
theorem dX5_setAddress_22 : decode cX5_setAddress 22 = .ok (.getfield 12, 3) := by decide +kernel
theorem dX5_setAddress_25 : decode cX5_setAddress 25 = .ok (.getfield 106, 3) := by decide +kernel
theorem dX5_setAddress_28 : decode cX5_setAddress 28 = .ok (.istore_n 2, 1) := by decide +kernel
theorem dX5_setAddress_29 : decode cX5_setAddress 29 = .ok (.aload_n 0, 1) := by decide +kernel
theorem dX5_setAddress_30 : decode cX5_setAddress 30 = .ok (.getfield 12, 3) := by decide +kernel
theorem dX5_setAddress_33 : decode cX5_setAddress 33 = .ok (.iload_n 1, 1) := by decide +kernel
theorem dX5_setAddress_34 : decode cX5_setAddress 34 = .ok (.putfield 106, 3) := by decide +kernel
theorem dX5_setAddress_37 : decode cX5_setAddress 37 = .ok (.iload_n 2, 1) := by decide +kernel
theorem dX5_setAddress_38 : decode cX5_setAddress 38 = .ok (.ireturn, 1) := by decide +kernel
set_option maxRecDepth 20000 in
theorem ggX5_learn_X5_isWithin : GoodIn wsX5_learn wsX5_isWithin := goodIn_r _ [6] (by decide +kernel) (by decide +kernel)
set_option maxRecDepth 20000 in
theorem gX5_learn_X5_isWithin : GoodIn wsX5_learn (va_wsS RX5 84 yX5_isWithin wsX5_isWithin) := goodIn_app (goodIn_of _ (by decide +kernel)) ggX5_learn_X5_isWithin
set_option maxRecDepth 20000 in
theorem ggX5_learn_X5_checkIndex : GoodIn wsX5_learn wsX5_checkIndex := goodIn_ca (goodIn_r _ [9, 10, 11] (by decide +kernel) (by decide +kernel)) (goodIn_sub (fun _ h => List.mem_cons_of_mem _ (List.mem_append_left _ (List.mem_append_right _ h))) (by decide +kernel))
set_option maxRecDepth 20000 in
theorem gX5_learn_X5_checkIndex : GoodIn wsX5_learn (va_wsS RX5 109 yX5_checkIndex wsX5_checkIndex) := goodIn_app (goodIn_of _ (by decide +kernel)) ggX5_learn_X5_checkIndex
set_option maxRecDepth 20000 in
theorem ggX5_learn_X5_checkArgument : GoodIn wsX5_learn wsX5_checkArgument := goodIn_ca (goodIn_r _ [14, 15, 16] (by decide +kernel) (by decide +kernel)) (goodIn_sub (fun _ h => List.mem_cons_of_mem _ (List.mem_append_right _ h)) (by decide +kernel))
set_option maxRecDepth 20000 in
theorem gX5_learn_X5_checkArgument : GoodIn wsX5_learn (va_wsS RX5 88 yX5_checkArgument wsX5_checkArgument) := goodIn_app (goodIn_of _ (by decide +kernel)) ggX5_learn_X5_checkArgument
set_option maxRecDepth 20000 in
theorem ggX5_learn_X3_keep : GoodIn wsX5_learn wsX3_keep := goodIn_r _ [21, 22, 23, 24, 25, 26, 20, 27, 28, 29, 30, 31, 32, 33, 34, 35, 36, 37, 38, 39, 40, 41, 42, 43, 44, 45, 46, 47, 48, 49, 50, 51, 52, 53, 54, 55, 56, 57, 58, 59, 60, 61, 88, 89, 74, 75, 76, 77, 78, 79, 80, 81, 82, 83, 84, 85, 86, 87, 90, 91] (by decide +kernel) (by decide +kernel)
set_option maxRecDepth 20000 in
theorem gX5_learn_X3_keep : GoodIn wsX5_learn (wsV RX5 45 RX3 yX3_keep wsX3_keep) := goodIn_app (goodIn_of _ (by decide +kernel)) ggX5_learn_X3_keep
set_option maxRecDepth 20000 in
theorem ggX5_learn_X2_at : GoodIn wsX5_learn wsX2_at := goodIn_r _ [65, 61, 52, 90, 91] (by decide +kernel) (by decide +kernel)
set_option maxRecDepth 20000 in
theorem gX5_learn_X2_at : GoodIn wsX5_learn (wsV RX5 115 RX2 yX2_at wsX2_at) := goodIn_app (goodIn_of _ (by decide +kernel)) ggX5_learn_X2_at
set_option maxRecDepth 20000 in
theorem ggX5_learn_X2_set : GoodIn wsX5_learn wsX2_set := goodIn_r _ [69, 61, 52, 90, 91] (by decide +kernel) (by decide +kernel)
set_option maxRecDepth 20000 in
theorem gX5_learn_X2_set : GoodIn wsX5_learn (wsV RX5 118 RX2 yX2_set wsX2_set) := goodIn_app (goodIn_of _ (by decide +kernel)) ggX5_learn_X2_set
theorem dX5_learn_0 : decode cX5_learn 0 = .ok (.iload_n 1, 1) := by decide +kernel
theorem dX5_learn_1 : decode cX5_learn 1 = .ok (.iconst 0, 1) := by decide +kernel
theorem dX5_learn_2 : decode cX5_learn 2 = .ok (.bipush 15, 2) := by decide +kernel
theorem dX5_learn_4 : decode cX5_learn 4 = .ok (.invokestatic 84, 3) := by decide +kernel
theorem dX5_learn_7 : decode cX5_learn 7 = .ok (.invokestatic 109, 3) := by decide +kernel
theorem dX5_learn_10 : decode cX5_learn 10 = .ok (.iload_n 2, 1) := by decide +kernel
theorem dX5_learn_11 : decode cX5_learn 11 = .ok (.iconst 0, 1) := by decide +kernel
theorem dX5_learn_12 : decode cX5_learn 12 = .ok (.iconst 2, 1) := by decide +kernel
theorem dX5_learn_13 : decode cX5_learn 13 = .ok (.invokestatic 84, 3) := by decide +kernel
theorem dX5_learn_16 : decode cX5_learn 16 = .ok (.invokestatic 88, 3) := by decide +kernel
theorem dX5_learn_19 : decode cX5_learn 19 = .ok (.aload_n 0, 1) := by decide +kernel
theorem dX5_learn_20 : decode cX5_learn 20 = .ok (.getfield 19, 3) := by decide +kernel
theorem dX5_learn_23 : decode cX5_learn 23 = .ok (.aload_n 0, 1) := by decide +kernel
theorem dX5_learn_24 : decode cX5_learn 24 = .ok (.getfield 12, 3) := by decide +kernel
theorem dX5_learn_27 : decode cX5_learn 27 = .ok (.invokevirtual 45, 3) := by decide +kernel
theorem dX5_learn_30 : decode cX5_learn 30 = .ok (.aload_n 0, 1) := by decide +kernel
theorem dX5_learn_31 : decode cX5_learn 31 = .ok (.getfield 12, 3) := by decide +kernel
theorem dX5_learn_34 : decode cX5_learn 34 = .ok (.getfield 112, 3) := by decide +kernel
theorem dX5_learn_37 : decode cX5_learn 37 = .ok (.iload_n 1, 1) := by decide +kernel
theorem dX5_learn_38 : decode cX5_learn 38 = .ok (.invokevirtual 115, 3) := by decide +kernel
theorem dX5_learn_41 : decode cX5_learn 41 = .ok (.istore_n 3, 1) := by decide +kernel
theorem dX5_learn_42 : decode cX5_learn 42 = .ok (.aload_n 0, 1) := by decide +kernel
theorem dX5_learn_43 : decode cX5_learn 43 = .ok (.getfield 12, 3) := by decide +kernel
theorem dX5_learn_46 : decode cX5_learn 46 = .ok (.getfield 112, 3) := by decide +kernel
theorem dX5_learn_49 : decode cX5_learn 49 = .ok (.iload_n 1, 1) := by decide +kernel
theorem dX5_learn_50 : decode cX5_learn 50 = .ok (.iload_n 2, 1) := by decide +kernel
theorem dX5_learn_51 : decode cX5_learn 51 = .ok (.invokevirtual 118, 3) := by decide +kernel
theorem dX5_learn_54 : decode cX5_learn 54 = .ok (.iload_n 3, 1) := by decide +kernel
theorem dX5_learn_55 : decode cX5_learn 55 = .ok (.ireturn, 1) := by decide +kernel
theorem dX5_glare_0 : decode cX5_glare 0 = .ok (.aload_n 0, 1) := by decide +kernel
theorem dX5_glare_1 : decode cX5_glare 1 = .ok (.getfield 12, 3) := by decide +kernel
theorem dX5_glare_4 : decode cX5_glare 4 = .ok (.getfield 103, 3) := by decide +kernel
theorem dX5_glare_7 : decode cX5_glare 7 = .ok (.ireturn, 1) := by decide +kernel
theorem dX5_gain_0 : decode cX5_gain 0 = .ok (.aload_n 0, 1) := by decide +kernel
theorem dX5_gain_1 : decode cX5_gain 1 = .ok (.getfield 12, 3) := by decide +kernel
theorem dX5_gain_4 : decode cX5_gain 4 = .ok (.getfield 122, 3) := by decide +kernel
theorem dX5_gain_7 : decode cX5_gain 7 = .ok (.ireturn, 1) := by decide +kernel
set_option maxRecDepth 20000 in
theorem ggX5_action_X5_isWithin : GoodIn wsX5_action wsX5_isWithin := goodIn_r _ [5] (by decide +kernel) (by decide +kernel)
set_option maxRecDepth 20000 in
theorem gX5_action_X5_isWithin : GoodIn wsX5_action (va_wsS RX5 84 yX5_isWithin wsX5_isWithin) := goodIn_app (goodIn_of _ (by decide +kernel)) ggX5_action_X5_isWithin
set_option maxRecDepth 20000 in
theorem ggX5_action_X5_checkIndex : GoodIn wsX5_action wsX5_checkIndex := goodIn_ca (goodIn_r _ [8, 9, 10] (by decide +kernel) (by decide +kernel)) (goodIn_sub (fun _ h => List.mem_cons_of_mem _ (List.mem_append_right _ h)) (by decide +kernel))
set_option maxRecDepth 20000 in
theorem gX5_action_X5_checkIndex : GoodIn wsX5_action (va_wsS RX5 109 yX5_checkIndex wsX5_checkIndex) := goodIn_app (goodIn_of _ (by decide +kernel)) ggX5_action_X5_checkIndex
set_option maxRecDepth 20000 in
theorem ggX5_action_X2_at : GoodIn wsX5_action wsX2_at := goodIn_r _ [15, 16, 17, 36, 37] (by decide +kernel) (by decide +kernel)
set_option maxRecDepth 20000 in
theorem gX5_action_X2_at : GoodIn wsX5_action (wsV RX5 115 RX2 yX2_at wsX2_at) := goodIn_app (goodIn_of _ (by decide +kernel)) ggX5_action_X2_at
theorem dX5_action_0 : decode cX5_action 0 = .ok (.iload_n 1, 1) := by decide +kernel
theorem dX5_action_1 : decode cX5_action 1 = .ok (.iconst 0, 1) := by decide +kernel
theorem dX5_action_2 : decode cX5_action 2 = .ok (.bipush 15, 2) := by decide +kernel
theorem dX5_action_4 : decode cX5_action 4 = .ok (.invokestatic 84, 3) := by decide +kernel
theorem dX5_action_7 : decode cX5_action 7 = .ok (.invokestatic 109, 3) := by decide +kernel
theorem dX5_action_10 : decode cX5_action 10 = .ok (.aload_n 0, 1) := by decide +kernel
theorem dX5_action_11 : decode cX5_action 11 = .ok (.getfield 12, 3) := by decide +kernel
theorem dX5_action_14 : decode cX5_action 14 = .ok (.getfield 112, 3) := by decide +kernel
theorem dX5_action_17 : decode cX5_action 17 = .ok (.iload_n 1, 1) := by decide +kernel
theorem dX5_action_18 : decode cX5_action 18 = .ok (.invokevirtual 115, 3) := by decide +kernel
theorem dX5_action_21 : decode cX5_action 21 = .ok (.ireturn, 1) := by decide +kernel
set_option maxRecDepth 20000 in
theorem ggX5_done_X5_isWithin : GoodIn wsX5_done wsX5_isWithin := goodIn_r _ [5] (by decide +kernel) (by decide +kernel)
set_option maxRecDepth 20000 in
theorem gX5_done_X5_isWithin : GoodIn wsX5_done (va_wsS RX5 84 yX5_isWithin wsX5_isWithin) := goodIn_app (goodIn_of _ (by decide +kernel)) ggX5_done_X5_isWithin
set_option maxRecDepth 20000 in
theorem ggX5_done_X5_checkIndex : GoodIn wsX5_done wsX5_checkIndex := goodIn_ca (goodIn_r _ [8, 9, 10] (by decide +kernel) (by decide +kernel)) (goodIn_sub (fun _ h => List.mem_cons_of_mem _ (List.mem_append_right _ h)) (by decide +kernel))
set_option maxRecDepth 20000 in
theorem gX5_done_X5_checkIndex : GoodIn wsX5_done (va_wsS RX5 109 yX5_checkIndex wsX5_checkIndex) := goodIn_app (goodIn_of _ (by decide +kernel)) ggX5_done_X5_checkIndex
set_option maxRecDepth 20000 in
theorem ggX5_done_X2_at : GoodIn wsX5_done wsX2_at := goodIn_r _ [15, 16, 17, 36, 37] (by decide +kernel) (by decide +kernel)
set_option maxRecDepth 20000 in
theorem gX5_done_X2_at : GoodIn wsX5_done (wsV RX5 115 RX2 yX2_at wsX2_at) := goodIn_app (goodIn_of _ (by decide +kernel)) ggX5_done_X2_at
theorem dX5_done_0 : decode cX5_done 0 = .ok (.iload_n 1, 1) := by decide +kernel
theorem dX5_done_1 : decode cX5_done 1 = .ok (.iconst 0, 1) := by decide +kernel
theorem dX5_done_2 : decode cX5_done 2 = .ok (.bipush 15, 2) := by decide +kernel
theorem dX5_done_4 : decode cX5_done 4 = .ok (.invokestatic 84, 3) := by decide +kernel
theorem dX5_done_7 : decode cX5_done 7 = .ok (.invokestatic 109, 3) := by decide +kernel
theorem dX5_done_10 : decode cX5_done 10 = .ok (.aload_n 0, 1) := by decide +kernel
theorem dX5_done_11 : decode cX5_done 11 = .ok (.getfield 12, 3) := by decide +kernel
theorem dX5_done_14 : decode cX5_done 14 = .ok (.getfield 125, 3) := by decide +kernel
theorem dX5_done_17 : decode cX5_done 17 = .ok (.iload_n 1, 1) := by decide +kernel
theorem dX5_done_18 : decode cX5_done 18 = .ok (.invokevirtual 115, 3) := by decide +kernel
theorem dX5_done_21 : decode cX5_done 21 = .ok (.ireturn, 1) := by decide +kernel
set_option maxRecDepth 20000 in
theorem ggX5_remembered_X4_remembers : GoodIn wsX5_remembered wsX4_remembers := goodIn_r _ [6, 7, 12, 13, 14, 15, 16, 17, 18, 19, 20, 21, 22, 23, 24, 25] (by decide +kernel) (by decide +kernel)
set_option maxRecDepth 20000 in
theorem gX5_remembered_X4_remembers : GoodIn wsX5_remembered (wsV RX5 128 RX4 yX4_remembers wsX4_remembers) := goodIn_app (goodIn_of _ (by decide +kernel)) ggX5_remembered_X4_remembers
theorem dX5_remembered_0 : decode cX5_remembered 0 = .ok (.aload_n 0, 1) := by decide +kernel
theorem dX5_remembered_1 : decode cX5_remembered 1 = .ok (.getfield 12, 3) := by decide +kernel
theorem dX5_remembered_4 : decode cX5_remembered 4 = .ok (.invokevirtual 128, 3) := by decide +kernel
theorem dX5_remembered_7 : decode cX5_remembered 7 = .ok (.ifCond .eq 13, 3) := by decide +kernel
theorem dX5_remembered_10 : decode cX5_remembered 10 = .ok (.aload_n 0, 1) := by decide +kernel
theorem dX5_remembered_11 : decode cX5_remembered 11 = .ok (.getfield 12, 3) := by decide +kernel
theorem dX5_remembered_14 : decode cX5_remembered 14 = .ok (.getfield 132, 3) := by decide +kernel
theorem dX5_remembered_17 : decode cX5_remembered 17 = .ok (.goto 4, 3) := by decide +kernel
theorem dX5_remembered_20 : decode cX5_remembered 20 = .ok (.iconst (-1), 1) := by decide +kernel
theorem dX5_remembered_21 : decode cX5_remembered 21 = .ok (.ireturn, 1) := by decide +kernel
set_option maxRecDepth 20000 in
theorem ggX5_holds_X4_remembers : GoodIn wsX5_holds wsX4_remembers := goodIn_r _ [6, 7, 12, 13, 14, 15, 16, 17, 18, 19, 20, 21, 22, 23, 24, 25] (by decide +kernel) (by decide +kernel)
set_option maxRecDepth 20000 in
theorem gX5_holds_X4_remembers : GoodIn wsX5_holds (wsV RX5 128 RX4 yX4_remembers wsX4_remembers) := goodIn_app (goodIn_of _ (by decide +kernel)) ggX5_holds_X4_remembers
theorem dX5_holds_0 : decode cX5_holds 0 = .ok (.aload_n 0, 1) := by decide +kernel
theorem dX5_holds_1 : decode cX5_holds 1 = .ok (.getfield 12, 3) := by decide +kernel
theorem dX5_holds_4 : decode cX5_holds 4 = .ok (.invokevirtual 128, 3) := by decide +kernel
theorem dX5_holds_7 : decode cX5_holds 7 = .ok (.ifCond .eq 13, 3) := by decide +kernel
theorem dX5_holds_10 : decode cX5_holds 10 = .ok (.aload_n 0, 1) := by decide +kernel
theorem dX5_holds_11 : decode cX5_holds 11 = .ok (.getfield 12, 3) := by decide +kernel
theorem dX5_holds_14 : decode cX5_holds 14 = .ok (.getfield 135, 3) := by decide +kernel
theorem dX5_holds_17 : decode cX5_holds 17 = .ok (.goto 4, 3) := by decide +kernel
theorem dX5_holds_20 : decode cX5_holds 20 = .ok (.iconst 0, 1) := by decide +kernel
theorem dX5_holds_21 : decode cX5_holds 21 = .ok (.ireturn, 1) := by decide +kernel
theorem dX5_presses_0 : decode cX5_presses 0 = .ok (.aload_n 0, 1) := by decide +kernel
theorem dX5_presses_1 : decode cX5_presses 1 = .ok (.getfield 12, 3) := by decide +kernel
theorem dX5_presses_4 : decode cX5_presses 4 = .ok (.getfield 138, 3) := by decide +kernel
theorem dX5_presses_7 : decode cX5_presses 7 = .ok (.ireturn, 1) := by decide +kernel
set_option maxRecDepth 20000 in
theorem ggX5_refused_X5_isWithin : GoodIn wsX5_refused wsX5_isWithin := goodIn_r _ [5] (by decide +kernel) (by decide +kernel)
set_option maxRecDepth 20000 in
theorem gX5_refused_X5_isWithin : GoodIn wsX5_refused (va_wsS RX5 84 yX5_isWithin wsX5_isWithin) := goodIn_app (goodIn_of _ (by decide +kernel)) ggX5_refused_X5_isWithin
set_option maxRecDepth 20000 in
theorem ggX5_refused_X5_checkIndex : GoodIn wsX5_refused wsX5_checkIndex := goodIn_ca (goodIn_r _ [8, 9, 10] (by decide +kernel) (by decide +kernel)) (goodIn_sub (fun _ h => List.mem_cons_of_mem _ (List.mem_append_right _ h)) (by decide +kernel))
set_option maxRecDepth 20000 in
theorem gX5_refused_X5_checkIndex : GoodIn wsX5_refused (va_wsS RX5 109 yX5_checkIndex wsX5_checkIndex) := goodIn_app (goodIn_of _ (by decide +kernel)) ggX5_refused_X5_checkIndex
set_option maxRecDepth 20000 in
theorem ggX5_refused_X2_at : GoodIn wsX5_refused wsX2_at := goodIn_r _ [15, 16, 17, 36, 37] (by decide +kernel) (by decide +kernel)
set_option maxRecDepth 20000 in
theorem gX5_refused_X2_at : GoodIn wsX5_refused (wsV RX5 115 RX2 yX2_at wsX2_at) := goodIn_app (goodIn_of _ (by decide +kernel)) ggX5_refused_X2_at
theorem dX5_refused_0 : decode cX5_refused 0 = .ok (.iload_n 1, 1) := by decide +kernel
theorem dX5_refused_1 : decode cX5_refused 1 = .ok (.iconst 1, 1) := by decide +kernel
theorem dX5_refused_2 : decode cX5_refused 2 = .ok (.bipush 6, 2) := by decide +kernel
theorem dX5_refused_4 : decode cX5_refused 4 = .ok (.invokestatic 84, 3) := by decide +kernel
theorem dX5_refused_7 : decode cX5_refused 7 = .ok (.invokestatic 109, 3) := by decide +kernel
theorem dX5_refused_10 : decode cX5_refused 10 = .ok (.aload_n 0, 1) := by decide +kernel
theorem dX5_refused_11 : decode cX5_refused 11 = .ok (.getfield 12, 3) := by decide +kernel
theorem dX5_refused_14 : decode cX5_refused 14 = .ok (.getfield 141, 3) := by decide +kernel
theorem dX5_refused_17 : decode cX5_refused 17 = .ok (.iload_n 1, 1) := by decide +kernel
theorem dX5_refused_18 : decode cX5_refused 18 = .ok (.invokevirtual 115, 3) := by decide +kernel
theorem dX5_refused_21 : decode cX5_refused 21 = .ok (.ireturn, 1) := by decide +kernel
theorem dX5_row_0 : decode cX5_row 0 = .ok (.aload_n 0, 1) := by decide +kernel
theorem dX5_row_1 : decode cX5_row 1 = .ok (.getfield 12, 3) := by decide +kernel
theorem dX5_row_4 : decode cX5_row 4 = .ok (.getfield 57, 3) := by decide +kernel
theorem dX5_row_7 : decode cX5_row 7 = .ok (.getfield 61, 3) := by decide +kernel
theorem dX5_row_10 : decode cX5_row 10 = .ok (.ireturn, 1) := by decide +kernel
theorem dX5_received_0 : decode cX5_received 0 = .ok (.aload_n 0, 1) := by decide +kernel
theorem dX5_received_1 : decode cX5_received 1 = .ok (.getfield 12, 3) := by decide +kernel
theorem dX5_received_4 : decode cX5_received 4 = .ok (.getfield 144, 3) := by decide +kernel
theorem dX5_received_7 : decode cX5_received 7 = .ok (.ireturn, 1) := by decide +kernel
theorem dX5_hitShare_0 : decode cX5_hitShare 0 = .ok (.aload_n 0, 1) := by decide +kernel
theorem dX5_hitShare_1 : decode cX5_hitShare 1 = .ok (.getfield 12, 3) := by decide +kernel
theorem dX5_hitShare_4 : decode cX5_hitShare 4 = .ok (.getfield 144, 3) := by decide +kernel
theorem dX5_hitShare_7 : decode cX5_hitShare 7 = .ok (.ifCond .ne 5, 3) := by decide +kernel
theorem dX5_hitShare_10 : decode cX5_hitShare 10 = .ok (.dconst 1, 1) := by decide +kernel
theorem dX5_hitShare_11 : decode cX5_hitShare 11 = .ok (.dreturn, 1) := by decide +kernel
theorem dX5_hitShare_12 : decode cX5_hitShare 12 = .ok (.aload_n 0, 1) := by decide +kernel
theorem dX5_hitShare_13 : decode cX5_hitShare 13 = .ok (.getfield 12, 3) := by decide +kernel
theorem dX5_hitShare_16 : decode cX5_hitShare 16 = .ok (.getfield 147, 3) := by decide +kernel
theorem dX5_hitShare_19 : decode cX5_hitShare 19 = .ok (.i2d, 1) := by decide +kernel
theorem dX5_hitShare_20 : decode cX5_hitShare 20 = .ok (.aload_n 0, 1) := by decide +kernel
theorem dX5_hitShare_21 : decode cX5_hitShare 21 = .ok (.getfield 12, 3) := by decide +kernel
theorem dX5_hitShare_24 : decode cX5_hitShare 24 = .ok (.getfield 144, 3) := by decide +kernel
theorem dX5_hitShare_27 : decode cX5_hitShare 27 = .ok (.i2d, 1) := by decide +kernel
theorem dX5_hitShare_28 : decode cX5_hitShare 28 = .ok (.ddiv, 1) := by decide +kernel
theorem dX5_hitShare_29 : decode cX5_hitShare 29 = .ok (.dreturn, 1) := by decide +kernel
set_option maxRecDepth 20000 in
theorem ggX5_bit_X5_checkFrame : GoodIn wsX5_bit wsX5_checkFrame := goodIn_ca (goodIn_r _ [4, 5, 6, 3, 7, 8, 9, 10, 11, 12] (by decide +kernel) (by decide +kernel)) (goodIn_sub (fun _ h => List.mem_cons_of_mem _ (List.mem_append_right _ h)) (by decide +kernel))
set_option maxRecDepth 20000 in
theorem gX5_bit_X5_checkFrame : GoodIn wsX5_bit (va_wsS RX5 37 yX5_checkFrame wsX5_checkFrame) := goodIn_app (goodIn_of _ (by decide +kernel)) ggX5_bit_X5_checkFrame
set_option maxRecDepth 20000 in
theorem ggX5_bit_X5_isWithin : GoodIn wsX5_bit wsX5_isWithin := goodIn_r _ [7] (by decide +kernel) (by decide +kernel)
set_option maxRecDepth 20000 in
theorem gX5_bit_X5_isWithin : GoodIn wsX5_bit (va_wsS RX5 84 yX5_isWithin wsX5_isWithin) := goodIn_app (goodIn_of _ (by decide +kernel)) ggX5_bit_X5_isWithin
set_option maxRecDepth 20000 in
theorem ggX5_bit_X5_checkArgument : GoodIn wsX5_bit wsX5_checkArgument := goodIn_ca (goodIn_r _ [10, 11, 12] (by decide +kernel) (by decide +kernel)) (goodIn_sub (fun _ h => List.mem_cons_of_mem _ (List.mem_append_right _ h)) (by decide +kernel))
set_option maxRecDepth 20000 in
theorem gX5_bit_X5_checkArgument : GoodIn wsX5_bit (va_wsS RX5 88 yX5_checkArgument wsX5_checkArgument) := goodIn_app (goodIn_of _ (by decide +kernel)) ggX5_bit_X5_checkArgument
set_option maxRecDepth 20000 in
theorem ggX5_bit_X5_wordOf : GoodIn wsX5_bit wsX5_wordOf := goodIn_r _ [15, 16, 17, 18, 19, 20, 21, 22] (by decide +kernel) (by decide +kernel)
set_option maxRecDepth 20000 in
theorem gX5_bit_X5_wordOf : GoodIn wsX5_bit (va_wsS RX5 150 yX5_wordOf wsX5_wordOf) := goodIn_app (goodIn_of _ (by decide +kernel)) ggX5_bit_X5_wordOf
set_option maxRecDepth 20000 in
theorem ggX5_bit_X5_bitOf : GoodIn wsX5_bit wsX5_bitOf := goodIn_r _ [25] (by decide +kernel) (by decide +kernel)
set_option maxRecDepth 20000 in
theorem gX5_bit_X5_bitOf : GoodIn wsX5_bit (va_wsS RX5 154 yX5_bitOf wsX5_bitOf) := goodIn_app (goodIn_of _ (by decide +kernel)) ggX5_bit_X5_bitOf
theorem dX5_bit_0 : decode cX5_bit 0 = .ok (.iload_n 1, 1) := by decide +kernel
theorem dX5_bit_1 : decode cX5_bit 1 = .ok (.iload_n 2, 1) := by decide +kernel
theorem dX5_bit_2 : decode cX5_bit 2 = .ok (.iload_n 3, 1) := by decide +kernel
theorem dX5_bit_3 : decode cX5_bit 3 = .ok (.invokestatic 37, 3) := by decide +kernel
theorem dX5_bit_6 : decode cX5_bit 6 = .ok (.iload 4, 2) := by decide +kernel
theorem dX5_bit_8 : decode cX5_bit 8 = .ok (.iconst 0, 1) := by decide +kernel
theorem dX5_bit_9 : decode cX5_bit 9 = .ok (.bipush 8, 2) := by decide +kernel
theorem dX5_bit_11 : decode cX5_bit 11 = .ok (.invokestatic 84, 3) := by decide +kernel
theorem dX5_bit_14 : decode cX5_bit 14 = .ok (.invokestatic 88, 3) := by decide +kernel
theorem dX5_bit_17 : decode cX5_bit 17 = .ok (.iload_n 1, 1) := by decide +kernel
theorem dX5_bit_18 : decode cX5_bit 18 = .ok (.iload_n 2, 1) := by decide +kernel
theorem dX5_bit_19 : decode cX5_bit 19 = .ok (.iload_n 3, 1) := by decide +kernel
theorem dX5_bit_20 : decode cX5_bit 20 = .ok (.invokestatic 150, 3) := by decide +kernel
theorem dX5_bit_23 : decode cX5_bit 23 = .ok (.iload 4, 2) := by decide +kernel
theorem dX5_bit_25 : decode cX5_bit 25 = .ok (.invokestatic 154, 3) := by decide +kernel
theorem dX5_bit_28 : decode cX5_bit 28 = .ok (.ireturn, 1) := by decide +kernel
set_option maxRecDepth 20000 in
theorem ggX5_ifFrame_X5_checkFrame : GoodIn wsX5_ifFrame wsX5_checkFrame := goodIn_ca (goodIn_r _ [6, 7, 8, 5, 9, 10, 11, 12, 13, 14] (by decide +kernel) (by decide +kernel)) (goodIn_sub (fun _ h => List.mem_cons_of_mem _ (List.mem_append_right _ h)) (by decide +kernel))
set_option maxRecDepth 20000 in
theorem gX5_ifFrame_X5_checkFrame : GoodIn wsX5_ifFrame (va_wsS RX5 37 yX5_checkFrame wsX5_checkFrame) := goodIn_app (goodIn_of _ (by decide +kernel)) ggX5_ifFrame_X5_checkFrame
set_option maxRecDepth 20000 in
theorem ggX5_ifFrame_X5_checkStrength : GoodIn wsX5_ifFrame wsX5_checkStrength := goodIn_ca (goodIn_r _ [17, 7, 8, 5, 9, 10, 11, 12, 13, 14] (by decide +kernel) (by decide +kernel)) (goodIn_sub (fun _ h => List.mem_cons_of_mem _ (List.mem_append_right _ h)) (by decide +kernel))
set_option maxRecDepth 20000 in
theorem gX5_ifFrame_X5_checkStrength : GoodIn wsX5_ifFrame (va_wsS RX5 41 yX5_checkStrength wsX5_checkStrength) := goodIn_app (goodIn_of _ (by decide +kernel)) ggX5_ifFrame_X5_checkStrength
set_option maxRecDepth 20000 in
theorem ggX5_ifFrame_X0_sendFrame : GoodIn wsX5_ifFrame wsX0_sendFrame := goodIn_r _ [22, 23, 24, 5, 25, 26, 27, 28, 29, 30, 31, 32, 33, 34, 35, 36, 37, 38, 39, 40, 41, 42, 43, 44, 45, 98, 99, 100, 101, 102, 103, 104, 105] (by decide +kernel) (by decide +kernel)
set_option maxRecDepth 20000 in
theorem gX5_ifFrame_X0_sendFrame : GoodIn wsX5_ifFrame (wsV RX5 158 RX0 yX0_sendFrame wsX0_sendFrame) := goodIn_app (goodIn_of _ (by decide +kernel)) ggX5_ifFrame_X0_sendFrame
set_option maxRecDepth 20000 in
theorem ggX5_ifFrame_X5_verdict : GoodIn wsX5_ifFrame wsX5_verdict := goodIn_r _ [49, 1, 2, 50, 51, 52, 21, 53, 54, 55, 23, 56, 57, 58, 59, 60, 5, 61, 33, 34, 35, 36, 37, 38, 62, 63, 64, 65, 43, 39, 40, 41, 42, 66, 67, 68, 69, 70, 71, 72, 73, 27, 28, 29, 30, 31, 32, 74, 75, 76, 77, 78, 79, 80, 81, 82, 83, 84, 85, 86, 87, 88, 89, 90, 91, 92, 93, 94, 95, 96, 97, 98, 99, 100, 101, 102, 103, 104, 105] (by decide +kernel) (by decide +kernel)
set_option maxRecDepth 20000 in
theorem gX5_ifFrame_X5_verdict : GoodIn wsX5_ifFrame (wsV RX5 161 RX5 yX5_verdict wsX5_verdict) := goodIn_app (goodIn_of _ (by decide +kernel)) ggX5_ifFrame_X5_verdict
theorem dX5_ifFrame_0 : decode cX5_ifFrame 0 = .ok (.iload_n 1, 1) := by decide +kernel
theorem dX5_ifFrame_1 : decode cX5_ifFrame 1 = .ok (.iload_n 2, 1) := by decide +kernel
theorem dX5_ifFrame_2 : decode cX5_ifFrame 2 = .ok (.iload_n 3, 1) := by decide +kernel
theorem dX5_ifFrame_3 : decode cX5_ifFrame 3 = .ok (.invokestatic 37, 3) := by decide +kernel
theorem dX5_ifFrame_6 : decode cX5_ifFrame 6 = .ok (.iload 4, 2) := by decide +kernel
theorem dX5_ifFrame_8 : decode cX5_ifFrame 8 = .ok (.invokestatic 41, 3) := by decide +kernel
theorem dX5_ifFrame_11 : decode cX5_ifFrame 11 = .ok (.aload_n 0, 1) := by decide +kernel
theorem dX5_ifFrame_12 : decode cX5_ifFrame 12 = .ok (.getfield 33, 3) := by decide +kernel
theorem dX5_ifFrame_15 : decode cX5_ifFrame 15 = .ok (.iload_n 1, 1) := by decide +kernel
theorem dX5_ifFrame_16 : decode cX5_ifFrame 16 = .ok (.iload_n 2, 1) := by decide +kernel
theorem dX5_ifFrame_17 : decode cX5_ifFrame 17 = .ok (.iload_n 3, 1) := by decide +kernel
theorem dX5_ifFrame_18 : decode cX5_ifFrame 18 = .ok (.invokevirtual 158, 3) := by decide +kernel
theorem dX5_ifFrame_21 : decode cX5_ifFrame 21 = .ok (.aload_n 0, 1) := by decide +kernel
theorem dX5_ifFrame_22 : decode cX5_ifFrame 22 = .ok (.aload_n 0, 1) := by decide +kernel
theorem dX5_ifFrame_23 : decode cX5_ifFrame 23 = .ok (.getfield 12, 3) := by decide +kernel
theorem dX5_ifFrame_26 : decode cX5_ifFrame 26 = .ok (.getfield 122, 3) := by decide +kernel
theorem dX5_ifFrame_29 : decode cX5_ifFrame 29 = .ok (.iload 4, 2) := by decide +kernel
theorem dX5_ifFrame_31 : decode cX5_ifFrame 31 = .ok (.invokevirtual 161, 3) := by decide +kernel
theorem dX5_ifFrame_34 : decode cX5_ifFrame 34 = .ok (.ireturn, 1) := by decide +kernel
set_option maxRecDepth 20000 in
theorem ggX5_leastStrength_X5_weakestHeard : GoodIn wsX5_leastStrength wsX5_weakestHeard := goodIn_r _ [6] (by decide +kernel) (by decide +kernel)
set_option maxRecDepth 20000 in
theorem gX5_leastStrength_X5_weakestHeard : GoodIn wsX5_leastStrength (va_wsS RX5 164 yX5_weakestHeard wsX5_weakestHeard) := goodIn_app (goodIn_of _ (by decide +kernel)) ggX5_leastStrength_X5_weakestHeard
set_option maxRecDepth 20000 in
theorem ggX5_leastStrength_X0_sendFrame : GoodIn wsX5_leastStrength wsX0_sendFrame := goodIn_r _ [11, 12, 13, 5, 14, 15, 16, 17, 18, 19, 20, 21, 22, 23, 24, 25, 26, 27, 28, 29, 30, 31, 32, 33, 34, 88, 89, 90, 91, 92, 93, 94, 95] (by decide +kernel) (by decide +kernel)
set_option maxRecDepth 20000 in
theorem gX5_leastStrength_X0_sendFrame : GoodIn wsX5_leastStrength (wsV RX5 158 RX0 yX0_sendFrame wsX0_sendFrame) := goodIn_app (goodIn_of _ (by decide +kernel)) ggX5_leastStrength_X0_sendFrame
set_option maxRecDepth 20000 in
theorem ggX5_leastStrength_X5_verdict : GoodIn wsX5_leastStrength wsX5_verdict := goodIn_r _ [38, 2, 1, 39, 40, 41, 10, 42, 43, 44, 12, 45, 46, 47, 48, 4, 5, 6, 22, 23, 24, 25, 26, 27, 49, 50, 51, 52, 32, 28, 29, 30, 31, 53, 54, 55, 56, 57, 58, 59, 60, 16, 17, 18, 19, 20, 21, 61, 62, 63, 64, 65, 66, 70, 71, 72, 73, 74, 75, 76, 77, 78, 79, 80, 81, 82, 83, 84, 85, 86, 87, 88, 89, 90, 91, 92, 93, 94, 95] (by decide +kernel) (by decide +kernel)
set_option maxRecDepth 20000 in
theorem gX5_leastStrength_X5_verdict : GoodIn wsX5_leastStrength (wsV RX5 161 RX5 yX5_verdict wsX5_verdict) := goodIn_app (goodIn_of _ (by decide +kernel)) ggX5_leastStrength_X5_verdict
set_option maxRecDepth 20000 in
theorem ggX5_leastStrength_X5_isAccepted : GoodIn wsX5_leastStrength wsX5_isAccepted := goodIn_r _ [69] (by decide +kernel) (by decide +kernel)
set_option maxRecDepth 20000 in
theorem gX5_leastStrength_X5_isAccepted : GoodIn wsX5_leastStrength (va_wsS RX5 167 yX5_isAccepted wsX5_isAccepted) := goodIn_app (goodIn_of _ (by decide +kernel)) ggX5_leastStrength_X5_isAccepted
theorem dX5_leastStrength_0 : decode cX5_leastStrength 0 = .ok (.aload_n 0, 1) := by decide +kernel
theorem dX5_leastStrength_1 : decode cX5_leastStrength 1 = .ok (.getfield 12, 3) := by decide +kernel
theorem dX5_leastStrength_4 : decode cX5_leastStrength 4 = .ok (.getfield 122, 3) := by decide +kernel
theorem dX5_leastStrength_7 : decode cX5_leastStrength 7 = .ok (.invokestatic 164, 3) := by decide +kernel
theorem dX5_leastStrength_10 : decode cX5_leastStrength 10 = .ok (.istore_n 1, 1) := by decide +kernel
theorem dX5_leastStrength_11 : decode cX5_leastStrength 11 = .ok (.aload_n 0, 1) := by decide +kernel
theorem dX5_leastStrength_12 : decode cX5_leastStrength 12 = .ok (.getfield 33, 3) := by decide +kernel
theorem dX5_leastStrength_15 : decode cX5_leastStrength 15 = .ok (.aload_n 0, 1) := by decide +kernel
theorem dX5_leastStrength_16 : decode cX5_leastStrength 16 = .ok (.getfield 12, 3) := by decide +kernel
theorem dX5_leastStrength_19 : decode cX5_leastStrength 19 = .ok (.getfield 106, 3) := by decide +kernel
theorem dX5_leastStrength_22 : decode cX5_leastStrength 22 = .ok (.iconst 0, 1) := by decide +kernel
theorem dX5_leastStrength_23 : decode cX5_leastStrength 23 = .ok (.iconst 0, 1) := by decide +kernel
theorem dX5_leastStrength_24 : decode cX5_leastStrength 24 = .ok (.invokevirtual 158, 3) := by decide +kernel
theorem dX5_leastStrength_27 : decode cX5_leastStrength 27 = .ok (.aload_n 0, 1) := by decide +kernel
theorem dX5_leastStrength_28 : decode cX5_leastStrength 28 = .ok (.aload_n 0, 1) := by decide +kernel
theorem dX5_leastStrength_29 : decode cX5_leastStrength 29 = .ok (.getfield 12, 3) := by decide +kernel
theorem dX5_leastStrength_32 : decode cX5_leastStrength 32 = .ok (.getfield 122, 3) := by decide +kernel
theorem dX5_leastStrength_35 : decode cX5_leastStrength 35 = .ok (.iload_n 1, 1) := by decide +kernel
theorem dX5_leastStrength_36 : decode cX5_leastStrength 36 = .ok (.invokevirtual 161, 3) := by decide +kernel
theorem dX5_leastStrength_39 : decode cX5_leastStrength 39 = .ok (.invokestatic 167, 3) := by decide +kernel
theorem dX5_leastStrength_42 : decode cX5_leastStrength 42 = .ok (.ifCond .eq 7, 3) := by decide +kernel
theorem dX5_leastStrength_45 : decode cX5_leastStrength 45 = .ok (.iload_n 1, 1) := by decide +kernel
theorem dX5_leastStrength_46 : decode cX5_leastStrength 46 = .ok (.goto 4, 3) := by decide +kernel
theorem dX5_leastStrength_49 : decode cX5_leastStrength 49 = .ok (.iconst (-1), 1) := by decide +kernel
theorem dX5_leastStrength_50 : decode cX5_leastStrength 50 = .ok (.ireturn, 1) := by decide +kernel
set_option maxRecDepth 20000 in
theorem ggX5_refusalsToCome_X0_sendFrame : GoodIn wsX5_refusalsToCome wsX0_sendFrame := goodIn_r _ [7, 8, 9, 10, 11, 12, 13, 14, 15, 16, 17, 18, 19, 20, 21, 22, 23, 24, 25, 26, 27, 28, 29, 30, 31, 95, 96, 97, 98, 99, 100, 101, 102] (by decide +kernel) (by decide +kernel)
set_option maxRecDepth 20000 in
theorem gX5_refusalsToCome_X0_sendFrame : GoodIn wsX5_refusalsToCome (wsV RX5 158 RX0 yX0_sendFrame wsX0_sendFrame) := goodIn_app (goodIn_of _ (by decide +kernel)) ggX5_refusalsToCome_X0_sendFrame
set_option maxRecDepth 20000 in
theorem ggX5_refusalsToCome_X5_verdict : GoodIn wsX5_refusalsToCome wsX5_verdict := goodIn_r _ [35, 1, 2, 36, 37, 38, 6, 39, 40, 41, 8, 42, 43, 44, 45, 46, 10, 47, 19, 20, 21, 22, 23, 24, 48, 49, 50, 51, 29, 25, 26, 27, 28, 52, 53, 54, 55, 56, 57, 58, 59, 13, 14, 15, 16, 17, 18, 60, 61, 62, 63, 64, 65, 77, 78, 79, 80, 81, 82, 83, 84, 85, 86, 87, 88, 89, 90, 91, 92, 93, 94, 95, 96, 97, 98, 99, 100, 101, 102] (by decide +kernel) (by decide +kernel)
set_option maxRecDepth 20000 in
theorem gX5_refusalsToCome_X5_verdict : GoodIn wsX5_refusalsToCome (wsV RX5 161 RX5 yX5_verdict wsX5_verdict) := goodIn_app (goodIn_of _ (by decide +kernel)) ggX5_refusalsToCome_X5_verdict
set_option maxRecDepth 20000 in
theorem ggX5_refusalsToCome_X5_isAccepted : GoodIn wsX5_refusalsToCome wsX5_isAccepted := goodIn_r _ [68] (by decide +kernel) (by decide +kernel)
set_option maxRecDepth 20000 in
theorem gX5_refusalsToCome_X5_isAccepted : GoodIn wsX5_refusalsToCome (va_wsS RX5 167 yX5_isAccepted wsX5_isAccepted) := goodIn_app (goodIn_of _ (by decide +kernel)) ggX5_refusalsToCome_X5_isAccepted
set_option maxRecDepth 20000 in
theorem ggX5_refusalsToCome_X5_gainAfter : GoodIn wsX5_refusalsToCome wsX5_gainAfter := goodIn_r _ [72, 1, 73, 43, 44, 45, 2, 74, 75, 76, 77, 78, 79, 80, 95, 96, 97, 98, 99, 100, 81, 82, 83, 84, 85, 86, 87, 88, 89, 90, 91, 92, 93, 94] (by decide +kernel) (by decide +kernel)
set_option maxRecDepth 20000 in
theorem gX5_refusalsToCome_X5_gainAfter : GoodIn wsX5_refusalsToCome (wsV RX5 171 RX5 yX5_gainAfter wsX5_gainAfter) := goodIn_app (goodIn_of _ (by decide +kernel)) ggX5_refusalsToCome_X5_gainAfter
theorem dX5_refusalsToCome_0 : decode cX5_refusalsToCome 0 = .ok (.aload_n 0, 1) := by decide +kernel
theorem dX5_refusalsToCome_1 : decode cX5_refusalsToCome 1 = .ok (.getfield 33, 3) := by decide +kernel
theorem dX5_refusalsToCome_4 : decode cX5_refusalsToCome 4 = .ok (.aload_n 0, 1) := by decide +kernel
theorem dX5_refusalsToCome_5 : decode cX5_refusalsToCome 5 = .ok (.getfield 12, 3) := by decide +kernel
theorem dX5_refusalsToCome_8 : decode cX5_refusalsToCome 8 = .ok (.getfield 106, 3) := by decide +kernel
theorem dX5_refusalsToCome_11 : decode cX5_refusalsToCome 11 = .ok (.iconst 0, 1) := by decide +kernel
theorem dX5_refusalsToCome_12 : decode cX5_refusalsToCome 12 = .ok (.iconst 0, 1) := by decide +kernel
theorem dX5_refusalsToCome_13 : decode cX5_refusalsToCome 13 = .ok (.invokevirtual 158, 3) := by decide +kernel
theorem dX5_refusalsToCome_16 : decode cX5_refusalsToCome 16 = .ok (.aload_n 0, 1) := by decide +kernel
theorem dX5_refusalsToCome_17 : decode cX5_refusalsToCome 17 = .ok (.getfield 12, 3) := by decide +kernel
theorem dX5_refusalsToCome_20 : decode cX5_refusalsToCome 20 = .ok (.getfield 122, 3) := by decide +kernel
theorem dX5_refusalsToCome_23 : decode cX5_refusalsToCome 23 = .ok (.istore_n 1, 1) := by decide +kernel
theorem dX5_refusalsToCome_24 : decode cX5_refusalsToCome 24 = .ok (.iconst 0, 1) := by decide +kernel
theorem dX5_refusalsToCome_25 : decode cX5_refusalsToCome 25 = .ok (.istore_n 2, 1) := by decide +kernel
theorem dX5_refusalsToCome_26 : decode cX5_refusalsToCome 26 = .ok (.iload_n 2, 1) := by decide +kernel
theorem dX5_refusalsToCome_27 : decode cX5_refusalsToCome 27 = .ok (.bipush 20, 2) := by decide +kernel
theorem dX5_refusalsToCome_29 : decode cX5_refusalsToCome 29 = .ok (.if_icmp .gt 30, 3) := by decide +kernel
theorem dX5_refusalsToCome_32 : decode cX5_refusalsToCome 32 = .ok (.aload_n 0, 1) := by decide +kernel
theorem dX5_refusalsToCome_33 : decode cX5_refusalsToCome 33 = .ok (.iload_n 1, 1) := by decide +kernel
theorem dX5_refusalsToCome_34 : decode cX5_refusalsToCome 34 = .ok (.bipush 10, 2) := by decide +kernel
theorem dX5_refusalsToCome_36 : decode cX5_refusalsToCome 36 = .ok (.invokevirtual 161, 3) := by decide +kernel
theorem dX5_refusalsToCome_39 : decode cX5_refusalsToCome 39 = .ok (.invokestatic 167, 3) := by decide +kernel
theorem dX5_refusalsToCome_42 : decode cX5_refusalsToCome 42 = .ok (.ifCond .eq 5, 3) := by decide +kernel
theorem dX5_refusalsToCome_45 : decode cX5_refusalsToCome 45 = .ok (.iload_n 2, 1) := by decide +kernel
theorem dX5_refusalsToCome_46 : decode cX5_refusalsToCome 46 = .ok (.ireturn, 1) := by decide +kernel
theorem dX5_refusalsToCome_47 : decode cX5_refusalsToCome 47 = .ok (.aload_n 0, 1) := by decide +kernel
theorem dX5_refusalsToCome_48 : decode cX5_refusalsToCome 48 = .ok (.iload_n 1, 1) := by decide +kernel
theorem dX5_refusalsToCome_49 : decode cX5_refusalsToCome 49 = .ok (.invokevirtual 171, 3) := by decide +kernel
theorem dX5_refusalsToCome_52 : decode cX5_refusalsToCome 52 = .ok (.istore_n 1, 1) := by decide +kernel
theorem dX5_refusalsToCome_53 : decode cX5_refusalsToCome 53 = .ok (.iinc 2 1, 3) := by decide +kernel
theorem dX5_refusalsToCome_56 : decode cX5_refusalsToCome 56 = .ok (.goto (-30), 3) := by decide +kernel
theorem dX5_refusalsToCome_59 : decode cX5_refusalsToCome 59 = .ok (.iconst (-1), 1) := by decide +kernel
theorem dX5_refusalsToCome_60 : decode cX5_refusalsToCome 60 = .ok (.ireturn, 1) := by decide +kernel
set_option maxRecDepth 20000 in
theorem ggX5_ticksToForget_X4_remembers : GoodIn wsX5_ticksToForget wsX4_remembers := goodIn_r _ [6, 7, 12, 13, 14, 15, 16, 17, 18, 19, 20, 21, 22, 23, 24, 25] (by decide +kernel) (by decide +kernel)
set_option maxRecDepth 20000 in
theorem gX5_ticksToForget_X4_remembers : GoodIn wsX5_ticksToForget (wsV RX5 128 RX4 yX4_remembers wsX4_remembers) := goodIn_app (goodIn_of _ (by decide +kernel)) ggX5_ticksToForget_X4_remembers
theorem dX5_ticksToForget_0 : decode cX5_ticksToForget 0 = .ok (.aload_n 0, 1) := by decide +kernel
theorem dX5_ticksToForget_1 : decode cX5_ticksToForget 1 = .ok (.getfield 12, 3) := by decide +kernel
theorem dX5_ticksToForget_4 : decode cX5_ticksToForget 4 = .ok (.invokevirtual 128, 3) := by decide +kernel
theorem dX5_ticksToForget_7 : decode cX5_ticksToForget 7 = .ok (.ifCond .eq 16, 3) := by decide +kernel
theorem dX5_ticksToForget_10 : decode cX5_ticksToForget 10 = .ok (.bipush 61, 2) := by decide +kernel
theorem dX5_ticksToForget_12 : decode cX5_ticksToForget 12 = .ok (.aload_n 0, 1) := by decide +kernel
theorem dX5_ticksToForget_13 : decode cX5_ticksToForget 13 = .ok (.getfield 12, 3) := by decide +kernel
theorem dX5_ticksToForget_16 : decode cX5_ticksToForget 16 = .ok (.getfield 100, 3) := by decide +kernel
theorem dX5_ticksToForget_19 : decode cX5_ticksToForget 19 = .ok (.isub, 1) := by decide +kernel
theorem dX5_ticksToForget_20 : decode cX5_ticksToForget 20 = .ok (.goto 4, 3) := by decide +kernel
theorem dX5_ticksToForget_23 : decode cX5_ticksToForget 23 = .ok (.iconst (-1), 1) := by decide +kernel
theorem dX5_ticksToForget_24 : decode cX5_ticksToForget 24 = .ok (.ireturn, 1) := by decide +kernel
set_option maxRecDepth 20000 in
theorem ggX5_append_X5_isWithin : GoodIn wsX5_append wsX5_isWithin := goodIn_r _ [7] (by decide +kernel) (by decide +kernel)
set_option maxRecDepth 20000 in
theorem gX5_append_X5_isWithin : GoodIn wsX5_append (va_wsS RX5 84 yX5_isWithin wsX5_isWithin) := goodIn_app (goodIn_of _ (by decide +kernel)) ggX5_append_X5_isWithin
set_option maxRecDepth 20000 in
theorem ggX5_append_X5_checkArgument : GoodIn wsX5_append wsX5_checkArgument := goodIn_ca (goodIn_r _ [10, 11, 12] (by decide +kernel) (by decide +kernel)) (goodIn_sub (fun _ h => List.mem_cons_of_mem _ (List.mem_append_right _ h)) (by decide +kernel))
set_option maxRecDepth 20000 in
theorem gX5_append_X5_checkArgument : GoodIn wsX5_append (va_wsS RX5 88 yX5_checkArgument wsX5_checkArgument) := goodIn_app (goodIn_of _ (by decide +kernel)) ggX5_append_X5_checkArgument
set_option maxRecDepth 20000 in
theorem ggX5_append_X2_add : GoodIn wsX5_append wsX2_add := goodIn_r _ [17, 18, 19, 25, 26] (by decide +kernel) (by decide +kernel)
set_option maxRecDepth 20000 in
theorem gX5_append_X2_add : GoodIn wsX5_append (wsV RX5 94 RX2 yX2_add wsX2_add) := goodIn_app (goodIn_of _ (by decide +kernel)) ggX5_append_X2_add
theorem dX5_append_0 : decode cX5_append 0 = .ok (.iload_n 1, 1) := by decide +kernel
theorem dX5_append_1 : decode cX5_append 1 = .ok (.bipush 33, 2) := by decide +kernel
theorem dX5_append_3 : decode cX5_append 3 = .ok (.bipush 126, 2) := by decide +kernel
theorem dX5_append_5 : decode cX5_append 5 = .ok (.invokestatic 84, 3) := by decide +kernel
theorem dX5_append_8 : decode cX5_append 8 = .ok (.invokestatic 88, 3) := by decide +kernel
theorem dX5_append_11 : decode cX5_append 11 = .ok (.aload_n 0, 1) := by decide +kernel
theorem dX5_append_12 : decode cX5_append 12 = .ok (.getfield 26, 3) := by decide +kernel
theorem dX5_append_15 : decode cX5_append 15 = .ok (.getfield 174, 3) := by decide +kernel
theorem dX5_append_18 : decode cX5_append 18 = .ok (.getfield 61, 3) := by decide +kernel
theorem dX5_append_21 : decode cX5_append 21 = .ok (.bipush 60, 2) := by decide +kernel
theorem dX5_append_23 : decode cX5_append 23 = .ok (.if_icmp .lt 13, 3) := by decide +kernel
theorem dX5_append_26 : decode cX5_append 26 = .ok (.new 67, 3) := by decide +kernel
theorem dX5_append_29 : decode cX5_append 29 = .ok (.dup, 1) := by decide +kernel
theorem dX5_append_30 : decode cX5_append 30 = .ok (.ldc 177, 2) := by decide +kernel
theorem dX5_append_32 : decode cX5_append 32 = .ok (.invokespecial 71, 3) := by decide +kernel
theorem dX5_append_35 : decode cX5_append 35 = .ok (.athrow, 1) := by decide +kernel
theorem dX5_append_36 : decode cX5_append 36 = .ok (.aload_n 0, 1) := by decide +kernel
theorem dX5_append_37 : decode cX5_append 37 = .ok (.getfield 26, 3) := by decide +kernel
theorem dX5_append_40 : decode cX5_append 40 = .ok (.getfield 174, 3) := by decide +kernel
theorem dX5_append_43 : decode cX5_append 43 = .ok (.iload_n 1, 1) := by decide +kernel
theorem dX5_append_44 : decode cX5_append 44 = .ok (.invokevirtual 94, 3) := by decide +kernel
theorem dX5_append_47 : decode cX5_append 47 = .ok (.aload_n 0, 1) := by decide +kernel
theorem dX5_append_48 : decode cX5_append 48 = .ok (.getfield 26, 3) := by decide +kernel
theorem dX5_append_51 : decode cX5_append 51 = .ok (.getfield 174, 3) := by decide +kernel
theorem dX5_append_54 : decode cX5_append 54 = .ok (.getfield 61, 3) := by decide +kernel
theorem dX5_append_57 : decode cX5_append 57 = .ok (.ireturn, 1) := by decide +kernel
set_option maxRecDepth 20000 in
theorem ggX5_clearText_X2_empty : GoodIn wsX5_clearText wsX2_empty := goodIn_r _ [6, 7, 13, 14] (by decide +kernel) (by decide +kernel)
set_option maxRecDepth 20000 in
theorem gX5_clearText_X2_empty : GoodIn wsX5_clearText (wsV RX5 78 RX2 yX2_empty wsX2_empty) := goodIn_app (goodIn_of _ (by decide +kernel)) ggX5_clearText_X2_empty
theorem dX5_clearText_0 : decode cX5_clearText 0 = .ok (.aload_n 0, 1) := by decide +kernel
theorem dX5_clearText_1 : decode cX5_clearText 1 = .ok (.getfield 26, 3) := by decide +kernel
theorem dX5_clearText_4 : decode cX5_clearText 4 = .ok (.getfield 174, 3) := by decide +kernel
theorem dX5_clearText_7 : decode cX5_clearText 7 = .ok (.getfield 61, 3) := by decide +kernel
theorem dX5_clearText_10 : decode cX5_clearText 10 = .ok (.istore_n 1, 1) := by decide +kernel
theorem dX5_clearText_11 : decode cX5_clearText 11 = .ok (.aload_n 0, 1) := by decide +kernel
theorem dX5_clearText_12 : decode cX5_clearText 12 = .ok (.getfield 26, 3) := by decide +kernel
theorem dX5_clearText_15 : decode cX5_clearText 15 = .ok (.getfield 174, 3) := by decide +kernel
theorem dX5_clearText_18 : decode cX5_clearText 18 = .ok (.invokevirtual 78, 3) := by decide +kernel
theorem dX5_clearText_21 : decode cX5_clearText 21 = .ok (.iload_n 1, 1) := by decide +kernel
theorem dX5_clearText_22 : decode cX5_clearText 22 = .ok (.ireturn, 1) := by decide +kernel
set_option maxRecDepth 20000 in
theorem ggX5_firstError_X1_firstWrong : GoodIn wsX5_firstError wsX1_firstWrong := goodIn_r _ [6, 7, 8, 9, 10, 11, 12, 13, 14, 15, 16, 5, 17, 18, 19, 20, 21, 22, 23, 24, 25, 26, 31, 32, 33] (by decide +kernel) (by decide +kernel)
set_option maxRecDepth 20000 in
theorem gX5_firstError_X1_firstWrong : GoodIn wsX5_firstError (wsV RX5 179 RX1 yX1_firstWrong wsX1_firstWrong) := goodIn_app (goodIn_of _ (by decide +kernel)) ggX5_firstError_X1_firstWrong
theorem dX5_firstError_0 : decode cX5_firstError 0 = .ok (.aload_n 0, 1) := by decide +kernel
theorem dX5_firstError_1 : decode cX5_firstError 1 = .ok (.getfield 26, 3) := by decide +kernel
theorem dX5_firstError_4 : decode cX5_firstError 4 = .ok (.invokevirtual 179, 3) := by decide +kernel
theorem dX5_firstError_7 : decode cX5_firstError 7 = .ok (.ireturn, 1) := by decide +kernel
set_option maxRecDepth 20000 in
theorem ggX5_run_X1_isComplete : GoodIn wsX5_run wsX1_isComplete := goodIn_r _ [8, 9, 10, 11, 12, 13, 14, 15, 16, 17, 18, 7, 19, 20, 21, 22, 23, 24, 25, 26, 27, 28, 203, 204, 205] (by decide +kernel) (by decide +kernel)
set_option maxRecDepth 20000 in
theorem gX5_run_X1_isComplete : GoodIn wsX5_run (wsV RX5 183 RX1 yX1_isComplete wsX1_isComplete) := goodIn_app (goodIn_of _ (by decide +kernel)) ggX5_run_X1_isComplete
set_option maxRecDepth 20000 in
theorem ggX5_run_X5_checkArgument : GoodIn wsX5_run wsX5_checkArgument := goodIn_ca (goodIn_r _ [31, 32, 33] (by decide +kernel) (by decide +kernel)) (goodIn_sub (fun _ h => List.mem_cons_of_mem _ (List.mem_append_right _ h)) (by decide +kernel))
set_option maxRecDepth 20000 in
theorem gX5_run_X5_checkArgument : GoodIn wsX5_run (va_wsS RX5 88 yX5_checkArgument wsX5_checkArgument) := goodIn_app (goodIn_of _ (by decide +kernel)) ggX5_run_X5_checkArgument
set_option maxRecDepth 20000 in
theorem ggX5_run_X3_keep : GoodIn wsX5_run wsX3_keep := goodIn_r _ [38, 39, 40, 41, 42, 43, 37, 44, 45, 46, 47, 48, 49, 50, 51, 52, 53, 54, 55, 56, 57, 58, 59, 60, 61, 62, 63, 64, 65, 66, 13, 67, 16, 68, 69, 70, 71, 72, 73, 74, 75, 15, 206, 207, 189, 190, 191, 192, 193, 194, 195, 196, 197, 198, 199, 200, 201, 202, 204, 205] (by decide +kernel) (by decide +kernel)
set_option maxRecDepth 20000 in
theorem gX5_run_X3_keep : GoodIn wsX5_run (wsV RX5 45 RX3 yX3_keep wsX3_keep) := goodIn_app (goodIn_of _ (by decide +kernel)) ggX5_run_X3_keep
set_option maxRecDepth 20000 in
theorem ggX5_run_X2_at : GoodIn wsX5_run wsX2_at := goodIn_r _ [14, 15, 16, 204, 205] (by decide +kernel) (by decide +kernel)
set_option maxRecDepth 20000 in
theorem gX5_run_X2_at : GoodIn wsX5_run (wsV RX5 115 RX2 yX2_at wsX2_at) := goodIn_app (goodIn_of _ (by decide +kernel)) ggX5_run_X2_at
set_option maxRecDepth 20000 in
theorem ggX5_run_X5_doPart : GoodIn wsX5_run wsX5_doPart := goodIn_r _ [80, 1, 3, 76, 11, 12, 13, 14, 15, 16, 81, 82, 83, 7, 84, 9, 10, 85, 86, 87, 24, 88, 89, 90, 91, 92, 93, 94, 95, 96, 97, 98, 99, 100, 101, 102, 103, 104, 105, 106, 107, 108, 109, 110, 111, 112, 113, 114, 115, 116, 117, 118, 119, 120, 121, 122, 123, 124, 125, 126, 127, 128, 129, 130, 70, 131, 132, 133, 134, 135, 136, 137, 138, 139, 140, 141, 142, 143, 144, 145, 48, 146, 56, 147, 148, 149, 150, 151, 152, 69, 71, 153, 154, 155, 156, 157, 158, 159, 160, 161, 162, 163, 164, 165, 166, 167, 168, 169, 170, 171, 172, 173, 174, 175, 176, 177, 178, 179, 180, 181, 182, 183, 185, 186, 187, 188, 203, 189, 190, 191, 192, 193, 194, 195, 196, 197, 198, 199, 200, 201, 202, 204, 205, 208, 209, 210, 211, 212, 213] (by decide +kernel) (by decide +kernel)
set_option maxRecDepth 20000 in
theorem gX5_run_X5_doPart : GoodIn wsX5_run (wsV RX5 186 RX5 yX5_doPart wsX5_doPart) := goodIn_app (goodIn_of _ (by decide +kernel)) ggX5_run_X5_doPart
set_option maxRecDepth 20000 in
theorem ggX5_run_X2_empty : GoodIn wsX5_run wsX2_empty := goodIn_r _ [108, 15, 204, 205] (by decide +kernel) (by decide +kernel)
set_option maxRecDepth 20000 in
theorem gX5_run_X2_empty : GoodIn wsX5_run (wsV RX5 78 RX2 yX2_empty wsX2_empty) := goodIn_app (goodIn_of _ (by decide +kernel)) ggX5_run_X2_empty
theorem dX5_run_0 : decode cX5_run 0 = .ok (.aload_n 0, 1) := by decide +kernel
theorem dX5_run_1 : decode cX5_run 1 = .ok (.getfield 26, 3) := by decide +kernel
theorem dX5_run_4 : decode cX5_run 4 = .ok (.invokevirtual 183, 3) := by decide +kernel
theorem dX5_run_7 : decode cX5_run 7 = .ok (.invokestatic 88, 3) := by decide +kernel
theorem dX5_run_10 : decode cX5_run 10 = .ok (.aload_n 0, 1) := by decide +kernel
theorem dX5_run_11 : decode cX5_run 11 = .ok (.getfield 19, 3) := by decide +kernel
theorem dX5_run_14 : decode cX5_run 14 = .ok (.aload_n 0, 1) := by decide +kernel
theorem dX5_run_15 : decode cX5_run 15 = .ok (.getfield 12, 3) := by decide +kernel
theorem dX5_run_18 : decode cX5_run 18 = .ok (.invokevirtual 45, 3) := by decide +kernel
theorem dX5_run_21 : decode cX5_run 21 = .ok (.aload_n 0, 1) := by decide +kernel
theorem dX5_run_22 : decode cX5_run 22 = .ok (.getfield 12, 3) := by decide +kernel
theorem dX5_run_25 : decode cX5_run 25 = .ok (.getfield 138, 3) := by decide +kernel
theorem dX5_run_28 : decode cX5_run 28 = .ok (.istore_n 1, 1) := by decide +kernel
theorem dX5_run_29 : decode cX5_run 29 = .ok (.iconst 0, 1) := by decide +kernel
theorem dX5_run_30 : decode cX5_run 30 = .ok (.istore_n 2, 1) := by decide +kernel
theorem dX5_run_31 : decode cX5_run 31 = .ok (.iconst 0, 1) := by decide +kernel
theorem dX5_run_32 : decode cX5_run 32 = .ok (.istore_n 3, 1) := by decide +kernel
theorem dX5_run_33 : decode cX5_run 33 = .ok (.iload_n 3, 1) := by decide +kernel
theorem dX5_run_34 : decode cX5_run 34 = .ok (.aload_n 0, 1) := by decide +kernel
theorem dX5_run_35 : decode cX5_run 35 = .ok (.getfield 26, 3) := by decide +kernel
theorem dX5_run_38 : decode cX5_run 38 = .ok (.getfield 174, 3) := by decide +kernel
theorem dX5_run_41 : decode cX5_run 41 = .ok (.getfield 61, 3) := by decide +kernel
theorem dX5_run_44 : decode cX5_run 44 = .ok (.if_icmp .gt 49, 3) := by decide +kernel
theorem dX5_run_47 : decode cX5_run 47 = .ok (.iload_n 3, 1) := by decide +kernel
theorem dX5_run_48 : decode cX5_run 48 = .ok (.aload_n 0, 1) := by decide +kernel
theorem dX5_run_49 : decode cX5_run 49 = .ok (.getfield 26, 3) := by decide +kernel
theorem dX5_run_52 : decode cX5_run 52 = .ok (.getfield 174, 3) := by decide +kernel
theorem dX5_run_55 : decode cX5_run 55 = .ok (.getfield 61, 3) := by decide +kernel
theorem dX5_run_58 : decode cX5_run 58 = .ok (.if_icmp .eq 19, 3) := by decide +kernel
theorem dX5_run_61 : decode cX5_run 61 = .ok (.aload_n 0, 1) := by decide +kernel
theorem dX5_run_62 : decode cX5_run 62 = .ok (.getfield 26, 3) := by decide +kernel
theorem dX5_run_65 : decode cX5_run 65 = .ok (.getfield 174, 3) := by decide +kernel
theorem dX5_run_68 : decode cX5_run 68 = .ok (.iload_n 3, 1) := by decide +kernel
theorem dX5_run_69 : decode cX5_run 69 = .ok (.invokevirtual 115, 3) := by decide +kernel
theorem dX5_run_72 : decode cX5_run 72 = .ok (.bipush 59, 2) := by decide +kernel
theorem dX5_run_74 : decode cX5_run 74 = .ok (.if_icmp .ne 13, 3) := by decide +kernel
theorem dX5_run_77 : decode cX5_run 77 = .ok (.aload_n 0, 1) := by decide +kernel
theorem dX5_run_78 : decode cX5_run 78 = .ok (.iload_n 2, 1) := by decide +kernel
theorem dX5_run_79 : decode cX5_run 79 = .ok (.iload_n 3, 1) := by decide +kernel
theorem dX5_run_80 : decode cX5_run 80 = .ok (.invokevirtual 186, 3) := by decide +kernel
theorem dX5_run_83 : decode cX5_run 83 = .ok (.iload_n 3, 1) := by decide +kernel
theorem dX5_run_84 : decode cX5_run 84 = .ok (.iconst 1, 1) := by decide +kernel
theorem dX5_run_85 : decode cX5_run 85 = .ok (.iadd, 1) := by decide +kernel
theorem dX5_run_86 : decode cX5_run 86 = .ok (.istore_n 2, 1) := by decide +kernel
theorem dX5_run_87 : decode cX5_run 87 = .ok (.iinc 3 1, 3) := by decide +kernel
theorem dX5_run_90 : decode cX5_run 90 = .ok (.goto (-57), 3) := by decide +kernel
theorem dX5_run_93 : decode cX5_run 93 = .ok (.aload_n 0, 1) := by decide +kernel
theorem dX5_run_94 : decode cX5_run 94 = .ok (.getfield 26, 3) := by decide +kernel
theorem dX5_run_97 : decode cX5_run 97 = .ok (.getfield 174, 3) := by decide +kernel
theorem dX5_run_100 : decode cX5_run 100 = .ok (.invokevirtual 78, 3) := by decide +kernel
theorem dX5_run_103 : decode cX5_run 103 = .ok (.aload_n 0, 1) := by decide +kernel
theorem dX5_run_104 : decode cX5_run 104 = .ok (.getfield 12, 3) := by decide +kernel
theorem dX5_run_107 : decode cX5_run 107 = .ok (.getfield 138, 3) := by decide +kernel
theorem dX5_run_110 : decode cX5_run 110 = .ok (.iload_n 1, 1) := by decide +kernel
theorem dX5_run_111 : decode cX5_run 111 = .ok (.isub, 1) := by decide +kernel
theorem dX5_run_112 : decode cX5_run 112 = .ok (.ireturn, 1) := by decide +kernel
set_option maxRecDepth 20000 in
theorem ggX5_undo_X3_giveBack : GoodIn wsX5_undo wsX3_giveBack := goodIn_r _ [9, 10, 11, 12, 13, 14, 15, 16, 17, 18, 19, 20, 21, 22, 23, 24, 25, 26, 27, 28, 29, 30, 31, 32, 33, 34, 35, 36, 37, 38, 39, 40, 41, 42, 43, 44, 45, 50, 51, 52, 53, 54, 55, 56, 57, 58, 59, 60, 61, 62, 63, 64, 65, 66, 67] (by decide +kernel) (by decide +kernel)
set_option maxRecDepth 20000 in
theorem gX5_undo_X3_giveBack : GoodIn wsX5_undo (wsV RX5 192 RX3 yX3_giveBack wsX3_giveBack) := goodIn_app (goodIn_of _ (by decide +kernel)) ggX5_undo_X3_giveBack
theorem dX5_undo_0 : decode cX5_undo 0 = .ok (.aload_n 0, 1) := by decide +kernel
theorem dX5_undo_1 : decode cX5_undo 1 = .ok (.getfield 19, 3) := by decide +kernel
theorem dX5_undo_4 : decode cX5_undo 4 = .ok (.getfield 189, 3) := by decide +kernel
theorem dX5_undo_7 : decode cX5_undo 7 = .ok (.ifCond .ne 13, 3) := by decide +kernel
theorem dX5_undo_10 : decode cX5_undo 10 = .ok (.new 67, 3) := by decide +kernel
theorem dX5_undo_13 : decode cX5_undo 13 = .ok (.dup, 1) := by decide +kernel
theorem dX5_undo_14 : decode cX5_undo 14 = .ok (.ldc 190, 2) := by decide +kernel
theorem dX5_undo_16 : decode cX5_undo 16 = .ok (.invokespecial 71, 3) := by decide +kernel
theorem dX5_undo_19 : decode cX5_undo 19 = .ok (.athrow, 1) := by decide +kernel
theorem dX5_undo_20 : decode cX5_undo 20 = .ok (.aload_n 0, 1) := by decide +kernel
theorem dX5_undo_21 : decode cX5_undo 21 = .ok (.getfield 19, 3) := by decide +kernel
theorem dX5_undo_24 : decode cX5_undo 24 = .ok (.aload_n 0, 1) := by decide +kernel
theorem dX5_undo_25 : decode cX5_undo 25 = .ok (.getfield 12, 3) := by decide +kernel
theorem dX5_undo_28 : decode cX5_undo 28 = .ok (.invokevirtual 192, 3) := by decide +kernel
theorem dX5_undo_31 : decode cX5_undo 31 = .ok (.aload_n 0, 1) := by decide +kernel
theorem dX5_undo_32 : decode cX5_undo 32 = .ok (.getfield 19, 3) := by decide +kernel
theorem dX5_undo_35 : decode cX5_undo 35 = .ok (.getfield 189, 3) := by decide +kernel
theorem dX5_undo_38 : decode cX5_undo 38 = .ok (.ireturn, 1) := by decide +kernel
theorem dX5_savedStates_0 : decode cX5_savedStates 0 = .ok (.aload_n 0, 1) := by decide +kernel
theorem dX5_savedStates_1 : decode cX5_savedStates 1 = .ok (.getfield 19, 3) := by decide +kernel
theorem dX5_savedStates_4 : decode cX5_savedStates 4 = .ok (.getfield 189, 3) := by decide +kernel
theorem dX5_savedStates_7 : decode cX5_savedStates 7 = .ok (.ireturn, 1) := by decide +kernel
set_option maxRecDepth 20000 in
theorem ggX5_digest_X5_glare : GoodIn wsX5_digest wsX5_glare := goodIn_r _ [8, 3, 121, 122, 123, 124, 125, 126, 127, 128, 129, 130, 131, 132, 133, 134, 135, 136, 137, 138] (by decide +kernel) (by decide +kernel)
set_option maxRecDepth 20000 in
theorem gX5_digest_X5_glare : GoodIn wsX5_digest (wsV RX5 199 RX5 yX5_glare wsX5_glare) := goodIn_app (goodIn_of _ (by decide +kernel)) ggX5_digest_X5_glare
set_option maxRecDepth 20000 in
theorem ggX5_digest_X5_gain : GoodIn wsX5_digest wsX5_gain := goodIn_r _ [12, 3, 121, 122, 123, 124, 125, 126, 127, 128, 129, 130, 131, 132, 133, 134, 135, 136, 137, 138] (by decide +kernel) (by decide +kernel)
set_option maxRecDepth 20000 in
theorem gX5_digest_X5_gain : GoodIn wsX5_digest (wsV RX5 201 RX5 yX5_gain wsX5_gain) := goodIn_app (goodIn_of _ (by decide +kernel)) ggX5_digest_X5_gain
set_option maxRecDepth 20000 in
theorem ggX5_digest_X5_remembered : GoodIn wsX5_digest wsX5_remembered := goodIn_r _ [16, 3, 17, 18, 19, 20, 21, 22, 121, 122, 123, 124, 125, 126, 127, 128, 129, 130, 131, 132, 133, 134, 135, 136, 137, 138] (by decide +kernel) (by decide +kernel)
set_option maxRecDepth 20000 in
theorem gX5_digest_X5_remembered : GoodIn wsX5_digest (wsV RX5 203 RX5 yX5_remembered wsX5_remembered) := goodIn_app (goodIn_of _ (by decide +kernel)) ggX5_digest_X5_remembered
set_option maxRecDepth 20000 in
theorem ggX5_digest_X5_holds : GoodIn wsX5_digest wsX5_holds := goodIn_r _ [26, 3, 17, 18, 19, 20, 21, 22, 121, 122, 123, 124, 125, 126, 127, 128, 129, 130, 131, 132, 133, 134, 135, 136, 137, 138] (by decide +kernel) (by decide +kernel)
set_option maxRecDepth 20000 in
theorem gX5_digest_X5_holds : GoodIn wsX5_digest (wsV RX5 206 RX5 yX5_holds wsX5_holds) := goodIn_app (goodIn_of _ (by decide +kernel)) ggX5_digest_X5_holds
set_option maxRecDepth 20000 in
theorem ggX5_digest_X5_presses : GoodIn wsX5_digest wsX5_presses := goodIn_r _ [30, 3, 121, 122, 123, 124, 125, 126, 127, 128, 129, 130, 131, 132, 133, 134, 135, 136, 137, 138] (by decide +kernel) (by decide +kernel)
set_option maxRecDepth 20000 in
theorem gX5_digest_X5_presses : GoodIn wsX5_digest (wsV RX5 208 RX5 yX5_presses wsX5_presses) := goodIn_app (goodIn_of _ (by decide +kernel)) ggX5_digest_X5_presses
set_option maxRecDepth 20000 in
theorem ggX5_digest_X5_row : GoodIn wsX5_digest wsX5_row := goodIn_r _ [34, 3, 121, 122, 123, 124, 125, 126, 127, 128, 129, 130, 131, 132, 133, 134, 135, 136, 137, 138, 139, 140] (by decide +kernel) (by decide +kernel)
set_option maxRecDepth 20000 in
theorem gX5_digest_X5_row : GoodIn wsX5_digest (wsV RX5 210 RX5 yX5_row wsX5_row) := goodIn_app (goodIn_of _ (by decide +kernel)) ggX5_digest_X5_row
set_option maxRecDepth 20000 in
theorem ggX5_digest_X5_received : GoodIn wsX5_digest wsX5_received := goodIn_r _ [38, 3, 121, 122, 123, 124, 125, 126, 127, 128, 129, 130, 131, 132, 133, 134, 135, 136, 137, 138] (by decide +kernel) (by decide +kernel)
set_option maxRecDepth 20000 in
theorem gX5_digest_X5_received : GoodIn wsX5_digest (wsV RX5 213 RX5 yX5_received wsX5_received) := goodIn_app (goodIn_of _ (by decide +kernel)) ggX5_digest_X5_received
set_option maxRecDepth 20000 in
theorem ggX5_digest_X5_leastStrength : GoodIn wsX5_digest wsX5_leastStrength := goodIn_r _ [42, 3, 43, 44, 45, 7, 46, 47, 48, 49, 50, 51, 52, 53, 54, 55, 56, 57, 58, 59, 60, 61, 62, 63, 64, 65, 66, 67, 68, 69, 70, 71, 72, 73, 74, 75, 76, 77, 78, 79, 80, 81, 82, 83, 84, 85, 86, 87, 88, 89, 90, 91, 92, 93, 94, 95, 96, 97, 98, 99, 100, 17, 18, 19, 20, 21, 22, 101, 102, 103, 121, 122, 123, 124, 125, 126, 127, 128, 129, 130, 131, 132, 133, 134, 135, 136, 137, 138, 141, 142, 143, 144, 145, 146, 139, 140] (by decide +kernel) (by decide +kernel)
set_option maxRecDepth 20000 in
theorem gX5_digest_X5_leastStrength : GoodIn wsX5_digest (wsV RX5 215 RX5 yX5_leastStrength wsX5_leastStrength) := goodIn_app (goodIn_of _ (by decide +kernel)) ggX5_digest_X5_leastStrength
set_option maxRecDepth 20000 in
theorem ggX5_digest_X5_refusalsToCome : GoodIn wsX5_digest wsX5_refusalsToCome := goodIn_r _ [107, 43, 3, 47, 48, 49, 50, 51, 52, 53, 7, 54, 55, 56, 57, 58, 59, 60, 61, 62, 63, 64, 65, 66, 67, 68, 69, 70, 71, 72, 73, 74, 75, 76, 77, 78, 79, 80, 81, 82, 83, 84, 85, 86, 87, 88, 45, 46, 89, 90, 91, 92, 93, 94, 95, 96, 97, 98, 99, 100, 17, 18, 19, 20, 21, 22, 101, 102, 103, 108, 109, 110, 111, 112, 113, 114, 115, 121, 122, 123, 124, 125, 126, 127, 128, 129, 130, 131, 132, 133, 134, 135, 136, 137, 138, 141, 142, 143, 144, 145, 146, 139, 140] (by decide +kernel) (by decide +kernel)
set_option maxRecDepth 20000 in
theorem gX5_digest_X5_refusalsToCome : GoodIn wsX5_digest (wsV RX5 218 RX5 yX5_refusalsToCome wsX5_refusalsToCome) := goodIn_app (goodIn_of _ (by decide +kernel)) ggX5_digest_X5_refusalsToCome
set_option maxRecDepth 20000 in
theorem ggX5_digest_X5_ticksToForget : GoodIn wsX5_digest wsX5_ticksToForget := goodIn_r _ [119, 3, 17, 18, 19, 20, 21, 22, 121, 122, 123, 124, 125, 126, 127, 128, 129, 130, 131, 132, 133, 134, 135, 136, 137, 138] (by decide +kernel) (by decide +kernel)
set_option maxRecDepth 20000 in
theorem gX5_digest_X5_ticksToForget : GoodIn wsX5_digest (wsV RX5 221 RX5 yX5_ticksToForget wsX5_ticksToForget) := goodIn_app (goodIn_of _ (by decide +kernel)) ggX5_digest_X5_ticksToForget
set_option maxRecDepth 20000 in
theorem ggX5_digest_X2_at : GoodIn wsX5_digest wsX2_at := goodIn_r _ [92, 67, 72, 139, 140] (by decide +kernel) (by decide +kernel)
set_option maxRecDepth 20000 in
theorem gX5_digest_X2_at : GoodIn wsX5_digest (wsV RX5 115 RX2 yX2_at wsX2_at) := goodIn_app (goodIn_of _ (by decide +kernel)) ggX5_digest_X2_at
theorem dX5_digest_0 : decode cX5_digest 0 = .ok (.ldc2_w 195, 3) := by decide +kernel
theorem dX5_digest_3 : decode cX5_digest 3 = .ok (.lstore_n 1, 1) := by decide +kernel
theorem dX5_digest_4 : decode cX5_digest 4 = .ok (.ldc2_w 197, 3) := by decide +kernel
theorem dX5_digest_7 : decode cX5_digest 7 = .ok (.lload_n 1, 1) := by decide +kernel
theorem dX5_digest_8 : decode cX5_digest 8 = .ok (.lmul, 1) := by decide +kernel
theorem dX5_digest_9 : decode cX5_digest 9 = .ok (.aload_n 0, 1) := by decide +kernel
theorem dX5_digest_10 : decode cX5_digest 10 = .ok (.invokevirtual 199, 3) := by decide +kernel
theorem dX5_digest_13 : decode cX5_digest 13 = .ok (.i2l, 1) := by decide +kernel
theorem dX5_digest_14 : decode cX5_digest 14 = .ok (.ladd, 1) := by decide +kernel
theorem dX5_digest_15 : decode cX5_digest 15 = .ok (.lstore_n 1, 1) := by decide +kernel
theorem dX5_digest_16 : decode cX5_digest 16 = .ok (.ldc2_w 197, 3) := by decide +kernel
theorem dX5_digest_19 : decode cX5_digest 19 = .ok (.lload_n 1, 1) := by decide +kernel
theorem dX5_digest_20 : decode cX5_digest 20 = .ok (.lmul, 1) := by decide +kernel
theorem dX5_digest_21 : decode cX5_digest 21 = .ok (.aload_n 0, 1) := by decide +kernel
theorem dX5_digest_22 : decode cX5_digest 22 = .ok (.invokevirtual 201, 3) := by decide +kernel
theorem dX5_digest_25 : decode cX5_digest 25 = .ok (.i2l, 1) := by decide +kernel
theorem dX5_digest_26 : decode cX5_digest 26 = .ok (.ladd, 1) := by decide +kernel
theorem dX5_digest_27 : decode cX5_digest 27 = .ok (.lstore_n 1, 1) := by decide +kernel
theorem dX5_digest_28 : decode cX5_digest 28 = .ok (.ldc2_w 197, 3) := by decide +kernel
theorem dX5_digest_31 : decode cX5_digest 31 = .ok (.lload_n 1, 1) := by decide +kernel
theorem dX5_digest_32 : decode cX5_digest 32 = .ok (.lmul, 1) := by decide +kernel
theorem dX5_digest_33 : decode cX5_digest 33 = .ok (.aload_n 0, 1) := by decide +kernel
theorem dX5_digest_34 : decode cX5_digest 34 = .ok (.invokevirtual 203, 3) := by decide +kernel
theorem dX5_digest_37 : decode cX5_digest 37 = .ok (.i2l, 1) := by decide +kernel
theorem dX5_digest_38 : decode cX5_digest 38 = .ok (.ladd, 1) := by decide +kernel
theorem dX5_digest_39 : decode cX5_digest 39 = .ok (.lstore_n 1, 1) := by decide +kernel
theorem dX5_digest_40 : decode cX5_digest 40 = .ok (.ldc2_w 197, 3) := by decide +kernel
theorem dX5_digest_43 : decode cX5_digest 43 = .ok (.lload_n 1, 1) := by decide +kernel
theorem dX5_digest_44 : decode cX5_digest 44 = .ok (.lmul, 1) := by decide +kernel
theorem dX5_digest_45 : decode cX5_digest 45 = .ok (.aload_n 0, 1) := by decide +kernel
theorem dX5_digest_46 : decode cX5_digest 46 = .ok (.invokevirtual 206, 3) := by decide +kernel
theorem dX5_digest_49 : decode cX5_digest 49 = .ok (.i2l, 1) := by decide +kernel
theorem dX5_digest_50 : decode cX5_digest 50 = .ok (.ladd, 1) := by decide +kernel
theorem dX5_digest_51 : decode cX5_digest 51 = .ok (.lstore_n 1, 1) := by decide +kernel
theorem dX5_digest_52 : decode cX5_digest 52 = .ok (.ldc2_w 197, 3) := by decide +kernel
theorem dX5_digest_55 : decode cX5_digest 55 = .ok (.lload_n 1, 1) := by decide +kernel
theorem dX5_digest_56 : decode cX5_digest 56 = .ok (.lmul, 1) := by decide +kernel
theorem dX5_digest_57 : decode cX5_digest 57 = .ok (.aload_n 0, 1) := by decide +kernel
theorem dX5_digest_58 : decode cX5_digest 58 = .ok (.invokevirtual 208, 3) := by decide +kernel
theorem dX5_digest_61 : decode cX5_digest 61 = .ok (.i2l, 1) := by decide +kernel
theorem dX5_digest_62 : decode cX5_digest 62 = .ok (.ladd, 1) := by decide +kernel
theorem dX5_digest_63 : decode cX5_digest 63 = .ok (.lstore_n 1, 1) := by decide +kernel
theorem dX5_digest_64 : decode cX5_digest 64 = .ok (.ldc2_w 197, 3) := by decide +kernel
theorem dX5_digest_67 : decode cX5_digest 67 = .ok (.lload_n 1, 1) := by decide +kernel
theorem dX5_digest_68 : decode cX5_digest 68 = .ok (.lmul, 1) := by decide +kernel
theorem dX5_digest_69 : decode cX5_digest 69 = .ok (.aload_n 0, 1) := by decide +kernel
theorem dX5_digest_70 : decode cX5_digest 70 = .ok (.invokevirtual 210, 3) := by decide +kernel
theorem dX5_digest_73 : decode cX5_digest 73 = .ok (.i2l, 1) := by decide +kernel
theorem dX5_digest_74 : decode cX5_digest 74 = .ok (.ladd, 1) := by decide +kernel
theorem dX5_digest_75 : decode cX5_digest 75 = .ok (.lstore_n 1, 1) := by decide +kernel
theorem dX5_digest_76 : decode cX5_digest 76 = .ok (.ldc2_w 197, 3) := by decide +kernel
theorem dX5_digest_79 : decode cX5_digest 79 = .ok (.lload_n 1, 1) := by decide +kernel
theorem dX5_digest_80 : decode cX5_digest 80 = .ok (.lmul, 1) := by decide +kernel
theorem dX5_digest_81 : decode cX5_digest 81 = .ok (.aload_n 0, 1) := by decide +kernel
theorem dX5_digest_82 : decode cX5_digest 82 = .ok (.invokevirtual 213, 3) := by decide +kernel
theorem dX5_digest_85 : decode cX5_digest 85 = .ok (.i2l, 1) := by decide +kernel
theorem dX5_digest_86 : decode cX5_digest 86 = .ok (.ladd, 1) := by decide +kernel
theorem dX5_digest_87 : decode cX5_digest 87 = .ok (.lstore_n 1, 1) := by decide +kernel
theorem dX5_digest_88 : decode cX5_digest 88 = .ok (.ldc2_w 197, 3) := by decide +kernel
theorem dX5_digest_91 : decode cX5_digest 91 = .ok (.lload_n 1, 1) := by decide +kernel
theorem dX5_digest_92 : decode cX5_digest 92 = .ok (.lmul, 1) := by decide +kernel
theorem dX5_digest_93 : decode cX5_digest 93 = .ok (.aload_n 0, 1) := by decide +kernel
theorem dX5_digest_94 : decode cX5_digest 94 = .ok (.invokevirtual 215, 3) := by decide +kernel
theorem dX5_digest_97 : decode cX5_digest 97 = .ok (.i2l, 1) := by decide +kernel
theorem dX5_digest_98 : decode cX5_digest 98 = .ok (.ladd, 1) := by decide +kernel
theorem dX5_digest_99 : decode cX5_digest 99 = .ok (.lstore_n 1, 1) := by decide +kernel
theorem dX5_digest_100 : decode cX5_digest 100 = .ok (.ldc2_w 197, 3) := by decide +kernel
theorem dX5_digest_103 : decode cX5_digest 103 = .ok (.lload_n 1, 1) := by decide +kernel
theorem dX5_digest_104 : decode cX5_digest 104 = .ok (.lmul, 1) := by decide +kernel
theorem dX5_digest_105 : decode cX5_digest 105 = .ok (.aload_n 0, 1) := by decide +kernel
theorem dX5_digest_106 : decode cX5_digest 106 = .ok (.invokevirtual 218, 3) := by decide +kernel
theorem dX5_digest_109 : decode cX5_digest 109 = .ok (.i2l, 1) := by decide +kernel
theorem dX5_digest_110 : decode cX5_digest 110 = .ok (.ladd, 1) := by decide +kernel
theorem dX5_digest_111 : decode cX5_digest 111 = .ok (.lstore_n 1, 1) := by decide +kernel
theorem dX5_digest_112 : decode cX5_digest 112 = .ok (.ldc2_w 197, 3) := by decide +kernel
theorem dX5_digest_115 : decode cX5_digest 115 = .ok (.lload_n 1, 1) := by decide +kernel
theorem dX5_digest_116 : decode cX5_digest 116 = .ok (.lmul, 1) := by decide +kernel
theorem dX5_digest_117 : decode cX5_digest 117 = .ok (.aload_n 0, 1) := by decide +kernel
theorem dX5_digest_118 : decode cX5_digest 118 = .ok (.invokevirtual 221, 3) := by decide +kernel
theorem dX5_digest_121 : decode cX5_digest 121 = .ok (.i2l, 1) := by decide +kernel
theorem dX5_digest_122 : decode cX5_digest 122 = .ok (.ladd, 1) := by decide +kernel
theorem dX5_digest_123 : decode cX5_digest 123 = .ok (.lstore_n 1, 1) := by decide +kernel
theorem dX5_digest_124 : decode cX5_digest 124 = .ok (.iconst 0, 1) := by decide +kernel
theorem dX5_digest_125 : decode cX5_digest 125 = .ok (.istore_n 3, 1) := by decide +kernel
theorem dX5_digest_126 : decode cX5_digest 126 = .ok (.iload_n 3, 1) := by decide +kernel
theorem dX5_digest_127 : decode cX5_digest 127 = .ok (.bipush 15, 2) := by decide +kernel
theorem dX5_digest_129 : decode cX5_digest 129 = .ok (.if_icmp .gt 47, 3) := by decide +kernel
theorem dX5_digest_132 : decode cX5_digest 132 = .ok (.ldc2_w 197, 3) := by decide +kernel
theorem dX5_digest_135 : decode cX5_digest 135 = .ok (.lload_n 1, 1) := by decide +kernel
theorem dX5_digest_136 : decode cX5_digest 136 = .ok (.lmul, 1) := by decide +kernel
theorem dX5_digest_137 : decode cX5_digest 137 = .ok (.aload_n 0, 1) := by decide +kernel
theorem dX5_digest_138 : decode cX5_digest 138 = .ok (.getfield 12, 3) := by decide +kernel
theorem dX5_digest_141 : decode cX5_digest 141 = .ok (.getfield 112, 3) := by decide +kernel
theorem dX5_digest_144 : decode cX5_digest 144 = .ok (.iload_n 3, 1) := by decide +kernel
theorem dX5_digest_145 : decode cX5_digest 145 = .ok (.invokevirtual 115, 3) := by decide +kernel
theorem dX5_digest_148 : decode cX5_digest 148 = .ok (.i2l, 1) := by decide +kernel
theorem dX5_digest_149 : decode cX5_digest 149 = .ok (.ladd, 1) := by decide +kernel
theorem dX5_digest_150 : decode cX5_digest 150 = .ok (.lstore_n 1, 1) := by decide +kernel
theorem dX5_digest_151 : decode cX5_digest 151 = .ok (.ldc2_w 197, 3) := by decide +kernel
theorem dX5_digest_154 : decode cX5_digest 154 = .ok (.lload_n 1, 1) := by decide +kernel
theorem dX5_digest_155 : decode cX5_digest 155 = .ok (.lmul, 1) := by decide +kernel
theorem dX5_digest_156 : decode cX5_digest 156 = .ok (.aload_n 0, 1) := by decide +kernel
theorem dX5_digest_157 : decode cX5_digest 157 = .ok (.getfield 12, 3) := by decide +kernel
theorem dX5_digest_160 : decode cX5_digest 160 = .ok (.getfield 125, 3) := by decide +kernel
theorem dX5_digest_163 : decode cX5_digest 163 = .ok (.iload_n 3, 1) := by decide +kernel
theorem dX5_digest_164 : decode cX5_digest 164 = .ok (.invokevirtual 115, 3) := by decide +kernel
theorem dX5_digest_167 : decode cX5_digest 167 = .ok (.i2l, 1) := by decide +kernel
theorem dX5_digest_168 : decode cX5_digest 168 = .ok (.ladd, 1) := by decide +kernel
theorem dX5_digest_169 : decode cX5_digest 169 = .ok (.lstore_n 1, 1) := by decide +kernel
theorem dX5_digest_170 : decode cX5_digest 170 = .ok (.iinc 3 1, 3) := by decide +kernel
theorem dX5_digest_173 : decode cX5_digest 173 = .ok (.goto (-47), 3) := by decide +kernel
theorem dX5_digest_176 : decode cX5_digest 176 = .ok (.iconst 1, 1) := by decide +kernel
theorem dX5_digest_177 : decode cX5_digest 177 = .ok (.istore_n 3, 1) := by decide +kernel
theorem dX5_digest_178 : decode cX5_digest 178 = .ok (.iload_n 3, 1) := by decide +kernel
theorem dX5_digest_179 : decode cX5_digest 179 = .ok (.bipush 6, 2) := by decide +kernel
theorem dX5_digest_181 : decode cX5_digest 181 = .ok (.if_icmp .gt 28, 3) := by decide +kernel
theorem dX5_digest_184 : decode cX5_digest 184 = .ok (.ldc2_w 197, 3) := by decide +kernel
theorem dX5_digest_187 : decode cX5_digest 187 = .ok (.lload_n 1, 1) := by decide +kernel
theorem dX5_digest_188 : decode cX5_digest 188 = .ok (.lmul, 1) := by decide +kernel
theorem dX5_digest_189 : decode cX5_digest 189 = .ok (.aload_n 0, 1) := by decide +kernel
theorem dX5_digest_190 : decode cX5_digest 190 = .ok (.getfield 12, 3) := by decide +kernel
theorem dX5_digest_193 : decode cX5_digest 193 = .ok (.getfield 141, 3) := by decide +kernel
theorem dX5_digest_196 : decode cX5_digest 196 = .ok (.iload_n 3, 1) := by decide +kernel
theorem dX5_digest_197 : decode cX5_digest 197 = .ok (.invokevirtual 115, 3) := by decide +kernel
theorem dX5_digest_200 : decode cX5_digest 200 = .ok (.i2l, 1) := by decide +kernel
theorem dX5_digest_201 : decode cX5_digest 201 = .ok (.ladd, 1) := by decide +kernel
theorem dX5_digest_202 : decode cX5_digest 202 = .ok (.lstore_n 1, 1) := by decide +kernel
theorem dX5_digest_203 : decode cX5_digest 203 = .ok (.iinc 3 1, 3) := by decide +kernel
theorem dX5_digest_206 : decode cX5_digest 206 = .ok (.goto (-28), 3) := by decide +kernel
theorem dX5_digest_209 : decode cX5_digest 209 = .ok (.lload_n 1, 1) := by decide +kernel
theorem dX5_digest_210 : decode cX5_digest 210 = .ok (.lreturn, 1) := by decide +kernel
theorem dX5_isWithin_0 : decode cX5_isWithin 0 = .ok (.iload_n 0, 1) := by decide +kernel
theorem dX5_isWithin_1 : decode cX5_isWithin 1 = .ok (.iload_n 1, 1) := by decide +kernel
theorem dX5_isWithin_2 : decode cX5_isWithin 2 = .ok (.if_icmp .lt 12, 3) := by decide +kernel
theorem dX5_isWithin_5 : decode cX5_isWithin 5 = .ok (.iload_n 0, 1) := by decide +kernel
theorem dX5_isWithin_6 : decode cX5_isWithin 6 = .ok (.iload_n 2, 1) := by decide +kernel
theorem dX5_isWithin_7 : decode cX5_isWithin 7 = .ok (.if_icmp .gt 7, 3) := by decide +kernel
theorem dX5_isWithin_10 : decode cX5_isWithin 10 = .ok (.iconst 1, 1) := by decide +kernel
theorem dX5_isWithin_11 : decode cX5_isWithin 11 = .ok (.goto 4, 3) := by decide +kernel
theorem dX5_isWithin_14 : decode cX5_isWithin 14 = .ok (.iconst 0, 1) := by decide +kernel
theorem dX5_isWithin_15 : decode cX5_isWithin 15 = .ok (.ireturn, 1) := by decide +kernel
theorem dX5_checkArgument_0 : decode cX5_checkArgument 0 = .ok (.iload_n 0, 1) := by decide +kernel
