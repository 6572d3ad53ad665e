set_option maxRecDepth 20000 in
theorem ggX0_init_X2_init : GoodIn wsX0_init wsX2_init := goodIn_r _ [11, 12, 2, 3, 13, 14, 15, 16, 17] (by decide +kernel) (by decide +kernel)
set_option maxRecDepth 20000 in
theorem gX0_init_X2_init : GoodIn wsX0_init (wsX2_init) := ggX0_init_X2_init
theorem dX0_init_0 : decode cX0_init 0 = .ok (.aload_n 0, 1) := by decide +kernel
theorem dX0_init_1 : decode cX0_init 1 = .ok (.invokespecial 3, 3) := by decide +kernel
theorem dX0_init_4 : decode cX0_init 4 = .ok (.aload_n 0, 1) := by decide +kernel
theorem dX0_init_5 : decode cX0_init 5 = .ok (.new 9, 3) := by decide +kernel
theorem dX0_init_8 : decode cX0_init 8 = .ok (.dup, 1) := by decide +kernel
theorem dX0_init_9 : decode cX0_init 9 = .ok (.bipush 30, 2) := by decide +kernel
theorem dX0_init_11 : decode cX0_init 11 = .ok (.iconst 0, 1) := by decide +kernel
theorem dX0_init_12 : decode cX0_init 12 = .ok (.invokespecial 11, 3) := by decide +kernel
theorem dX0_init_15 : decode cX0_init 15 = .ok (.putfield 14, 3) := by decide +kernel
theorem dX0_init_18 : decode cX0_init 18 = .ok (.aload_n 0, 1) := by decide +kernel
theorem dX0_init_19 : decode cX0_init 19 = .ok (.new 9, 3) := by decide +kernel
theorem dX0_init_22 : decode cX0_init 22 = .ok (.dup, 1) := by decide +kernel
theorem dX0_init_23 : decode cX0_init 23 = .ok (.bipush 30, 2) := by decide +kernel
theorem dX0_init_25 : decode cX0_init 25 = .ok (.iconst 0, 1) := by decide +kernel
theorem dX0_init_26 : decode cX0_init 26 = .ok (.invokespecial 11, 3) := by decide +kernel
theorem dX0_init_29 : decode cX0_init 29 = .ok (.putfield 20, 3) := by decide +kernel
theorem dX0_init_32 : decode cX0_init 32 = .ok (.return_, 1) := by decide +kernel
set_option maxRecDepth 20000 in
theorem ggX0_sendFrame_X5_wordOf : GoodIn wsX0_sendFrame wsX5_wordOf := goodIn_r _ [4, 5, 6, 7, 8, 9, 10, 11] (by decide +kernel) (by decide +kernel)
set_option maxRecDepth 20000 in
theorem gX0_sendFrame_X5_wordOf_n23 : GoodIn wsX0_sendFrame (wsX5_wordOf) := ggX0_sendFrame_X5_wordOf
set_option maxRecDepth 20000 in
theorem ggX0_sendFrame_X2_empty : GoodIn wsX0_sendFrame wsX2_empty := goodIn_r _ [16, 17, 31, 32] (by decide +kernel) (by decide +kernel)
set_option maxRecDepth 20000 in
theorem gX0_sendFrame_X2_empty : GoodIn wsX0_sendFrame (wsV RX0 27 RX2 yX2_empty wsX2_empty) := goodIn_app (goodIn_of _ (by decide +kernel)) ggX0_sendFrame_X2_empty
set_option maxRecDepth 20000 in
theorem ggX0_sendFrame_X2_add : GoodIn wsX0_sendFrame wsX2_add := goodIn_r _ [21, 17, 22, 31, 32] (by decide +kernel) (by decide +kernel)
set_option maxRecDepth 20000 in
theorem gX0_sendFrame_X2_add : GoodIn wsX0_sendFrame (wsV RX0 30 RX2 yX2_add wsX2_add) := goodIn_app (goodIn_of _ (by decide +kernel)) ggX0_sendFrame_X2_add
set_option maxRecDepth 20000 in
theorem ggX0_sendFrame_X5_bitOf : GoodIn wsX0_sendFrame wsX5_bitOf := goodIn_r _ [24] (by decide +kernel) (by decide +kernel)
set_option maxRecDepth 20000 in
theorem gX0_sendFrame_X5_bitOf_n34 : GoodIn wsX0_sendFrame (wsX5_bitOf) := ggX0_sendFrame_X5_bitOf
theorem dX0_sendFrame_0 : decode cX0_sendFrame 0 = .ok (.iload_n 1, 1) := by decide +kernel
theorem dX0_sendFrame_1 : decode cX0_sendFrame 1 = .ok (.iload_n 2, 1) := by decide +kernel
theorem dX0_sendFrame_2 : decode cX0_sendFrame 2 = .ok (.iload_n 3, 1) := by decide +kernel
theorem dX0_sendFrame_3 : decode cX0_sendFrame 3 = .ok (.invokestatic 23, 3) := by decide +kernel
theorem dX0_sendFrame_6 : decode cX0_sendFrame 6 = .ok (.istore 4, 2) := by decide +kernel
theorem dX0_sendFrame_8 : decode cX0_sendFrame 8 = .ok (.aload_n 0, 1) := by decide +kernel
theorem dX0_sendFrame_9 : decode cX0_sendFrame 9 = .ok (.getfield 14, 3) := by decide +kernel
theorem dX0_sendFrame_12 : decode cX0_sendFrame 12 = .ok (.invokevirtual 27, 3) := by decide +kernel
theorem dX0_sendFrame_15 : decode cX0_sendFrame 15 = .ok (.aload_n 0, 1) := by decide +kernel
theorem dX0_sendFrame_16 : decode cX0_sendFrame 16 = .ok (.getfield 14, 3) := by decide +kernel
theorem dX0_sendFrame_19 : decode cX0_sendFrame 19 = .ok (.bipush 16, 2) := by decide +kernel
theorem dX0_sendFrame_21 : decode cX0_sendFrame 21 = .ok (.invokevirtual 30, 3) := by decide +kernel
theorem dX0_sendFrame_24 : decode cX0_sendFrame 24 = .ok (.aload_n 0, 1) := by decide +kernel
theorem dX0_sendFrame_25 : decode cX0_sendFrame 25 = .ok (.getfield 14, 3) := by decide +kernel
theorem dX0_sendFrame_28 : decode cX0_sendFrame 28 = .ok (.bipush 8, 2) := by decide +kernel
theorem dX0_sendFrame_30 : decode cX0_sendFrame 30 = .ok (.invokevirtual 30, 3) := by decide +kernel
theorem dX0_sendFrame_33 : decode cX0_sendFrame 33 = .ok (.iconst 0, 1) := by decide +kernel
theorem dX0_sendFrame_34 : decode cX0_sendFrame 34 = .ok (.istore 5, 2) := by decide +kernel
theorem dX0_sendFrame_36 : decode cX0_sendFrame 36 = .ok (.iload 5, 2) := by decide +kernel
theorem dX0_sendFrame_38 : decode cX0_sendFrame 38 = .ok (.bipush 9, 2) := by decide +kernel
theorem dX0_sendFrame_40 : decode cX0_sendFrame 40 = .ok (.if_icmp .ge 41, 3) := by decide +kernel
theorem dX0_sendFrame_43 : decode cX0_sendFrame 43 = .ok (.aload_n 0, 1) := by decide +kernel
theorem dX0_sendFrame_44 : decode cX0_sendFrame 44 = .ok (.getfield 14, 3) := by decide +kernel
theorem dX0_sendFrame_47 : decode cX0_sendFrame 47 = .ok (.iconst 4, 1) := by decide +kernel
theorem dX0_sendFrame_48 : decode cX0_sendFrame 48 = .ok (.invokevirtual 30, 3) := by decide +kernel
theorem dX0_sendFrame_51 : decode cX0_sendFrame 51 = .ok (.aload_n 0, 1) := by decide +kernel
theorem dX0_sendFrame_52 : decode cX0_sendFrame 52 = .ok (.getfield 14, 3) := by decide +kernel
theorem dX0_sendFrame_55 : decode cX0_sendFrame 55 = .ok (.iload 4, 2) := by decide +kernel
theorem dX0_sendFrame_57 : decode cX0_sendFrame 57 = .ok (.iload 5, 2) := by decide +kernel
theorem dX0_sendFrame_59 : decode cX0_sendFrame 59 = .ok (.invokestatic 34, 3) := by decide +kernel
theorem dX0_sendFrame_62 : decode cX0_sendFrame 62 = .ok (.iconst 1, 1) := by decide +kernel
theorem dX0_sendFrame_63 : decode cX0_sendFrame 63 = .ok (.if_icmp .ne 8, 3) := by decide +kernel
theorem dX0_sendFrame_66 : decode cX0_sendFrame 66 = .ok (.bipush 12, 2) := by decide +kernel
theorem dX0_sendFrame_68 : decode cX0_sendFrame 68 = .ok (.goto 4, 3) := by decide +kernel
theorem dX0_sendFrame_71 : decode cX0_sendFrame 71 = .ok (.iconst 4, 1) := by decide +kernel
theorem dX0_sendFrame_72 : decode cX0_sendFrame 72 = .ok (.invokevirtual 30, 3) := by decide +kernel
theorem dX0_sendFrame_75 : decode cX0_sendFrame 75 = .ok (.iinc 5 1, 3) := by decide +kernel
theorem dX0_sendFrame_78 : decode cX0_sendFrame 78 = .ok (.goto (-42), 3) := by decide +kernel
theorem dX0_sendFrame_81 : decode cX0_sendFrame 81 = .ok (.aload_n 0, 1) := by decide +kernel
theorem dX0_sendFrame_82 : decode cX0_sendFrame 82 = .ok (.getfield 14, 3) := by decide +kernel
theorem dX0_sendFrame_85 : decode cX0_sendFrame 85 = .ok (.iconst 4, 1) := by decide +kernel
theorem dX0_sendFrame_86 : decode cX0_sendFrame 86 = .ok (.invokevirtual 30, 3) := by decide +kernel
theorem dX0_sendFrame_89 : decode cX0_sendFrame 89 = .ok (.return_, 1) := by decide +kernel
set_option maxRecDepth 20000 in
theorem ggX0_sendRepeat_X2_empty : GoodIn wsX0_sendRepeat wsX2_empty := goodIn_r _ [6, 7, 19, 20] (by decide +kernel) (by decide +kernel)
set_option maxRecDepth 20000 in
theorem gX0_sendRepeat_X2_empty : GoodIn wsX0_sendRepeat (wsV RX0 27 RX2 yX2_empty wsX2_empty) := goodIn_app (goodIn_of _ (by decide +kernel)) ggX0_sendRepeat_X2_empty
set_option maxRecDepth 20000 in
theorem ggX0_sendRepeat_X2_add : GoodIn wsX0_sendRepeat wsX2_add := goodIn_r _ [11, 7, 12, 19, 20] (by decide +kernel) (by decide +kernel)
set_option maxRecDepth 20000 in
theorem gX0_sendRepeat_X2_add : GoodIn wsX0_sendRepeat (wsV RX0 30 RX2 yX2_add wsX2_add) := goodIn_app (goodIn_of _ (by decide +kernel)) ggX0_sendRepeat_X2_add
theorem dX0_sendRepeat_0 : decode cX0_sendRepeat 0 = .ok (.aload_n 0, 1) := by decide +kernel
theorem dX0_sendRepeat_1 : decode cX0_sendRepeat 1 = .ok (.getfield 14, 3) := by decide +kernel
theorem dX0_sendRepeat_4 : decode cX0_sendRepeat 4 = .ok (.invokevirtual 27, 3) := by decide +kernel
theorem dX0_sendRepeat_7 : decode cX0_sendRepeat 7 = .ok (.aload_n 0, 1) := by decide +kernel
theorem dX0_sendRepeat_8 : decode cX0_sendRepeat 8 = .ok (.getfield 14, 3) := by decide +kernel
theorem dX0_sendRepeat_11 : decode cX0_sendRepeat 11 = .ok (.bipush 16, 2) := by decide +kernel
theorem dX0_sendRepeat_13 : decode cX0_sendRepeat 13 = .ok (.invokevirtual 30, 3) := by decide +kernel
theorem dX0_sendRepeat_16 : decode cX0_sendRepeat 16 = .ok (.aload_n 0, 1) := by decide +kernel
theorem dX0_sendRepeat_17 : decode cX0_sendRepeat 17 = .ok (.getfield 14, 3) := by decide +kernel
theorem dX0_sendRepeat_20 : decode cX0_sendRepeat 20 = .ok (.iconst 4, 1) := by decide +kernel
theorem dX0_sendRepeat_21 : decode cX0_sendRepeat 21 = .ok (.invokevirtual 30, 3) := by decide +kernel
theorem dX0_sendRepeat_24 : decode cX0_sendRepeat 24 = .ok (.aload_n 0, 1) := by decide +kernel
theorem dX0_sendRepeat_25 : decode cX0_sendRepeat 25 = .ok (.getfield 14, 3) := by decide +kernel
theorem dX0_sendRepeat_28 : decode cX0_sendRepeat 28 = .ok (.iconst 4, 1) := by decide +kernel
theorem dX0_sendRepeat_29 : decode cX0_sendRepeat 29 = .ok (.invokevirtual 30, 3) := by decide +kernel
theorem dX0_sendRepeat_32 : decode cX0_sendRepeat 32 = .ok (.return_, 1) := by decide +kernel
set_option maxRecDepth 20000 in
theorem ggX0_sendRow_X2_become : GoodIn wsX0_sendRow wsX2_become := goodIn_r _ [6, 7, 8, 9, 10, 11, 12, 13, 14, 15, 16, 23, 24] (by decide +kernel) (by decide +kernel)
set_option maxRecDepth 20000 in
theorem gX0_sendRow_X2_become : GoodIn wsX0_sendRow (wsV RX0 38 RX2 yX2_become wsX2_become) := goodIn_app (goodIn_of _ (by decide +kernel)) ggX0_sendRow_X2_become
theorem dX0_sendRow_0 : decode cX0_sendRow 0 = .ok (.aload_n 0, 1) := by decide +kernel
theorem dX0_sendRow_1 : decode cX0_sendRow 1 = .ok (.getfield 14, 3) := by decide +kernel
theorem dX0_sendRow_4 : decode cX0_sendRow 4 = .ok (.aload_n 1, 1) := by decide +kernel
theorem dX0_sendRow_5 : decode cX0_sendRow 5 = .ok (.invokevirtual 38, 3) := by decide +kernel
theorem dX0_sendRow_8 : decode cX0_sendRow 8 = .ok (.return_, 1) := by decide +kernel
set_option maxRecDepth 20000 in
theorem ggX0_listen_X5_weakestHeard : GoodIn wsX0_listen wsX5_weakestHeard := goodIn_r _ [10] (by decide +kernel) (by decide +kernel)
set_option maxRecDepth 20000 in
theorem gX0_listen_X5_weakestHeard_n42 : GoodIn wsX0_listen (wsX5_weakestHeard) := ggX0_listen_X5_weakestHeard
set_option maxRecDepth 20000 in
theorem ggX0_listen_X2_empty : GoodIn wsX0_listen wsX2_empty := goodIn_r _ [15, 16, 32, 33] (by decide +kernel) (by decide +kernel)
set_option maxRecDepth 20000 in
theorem gX0_listen_X2_empty : GoodIn wsX0_listen (wsV RX0 27 RX2 yX2_empty wsX2_empty) := goodIn_app (goodIn_of _ (by decide +kernel)) ggX0_listen_X2_empty
set_option maxRecDepth 20000 in
theorem ggX0_listen_X2_at : GoodIn wsX0_listen wsX2_at := goodIn_r _ [20, 16, 21, 32, 33] (by decide +kernel) (by decide +kernel)
set_option maxRecDepth 20000 in
theorem gX0_listen_X2_at : GoodIn wsX0_listen (wsV RX0 54 RX2 yX2_at wsX2_at) := goodIn_app (goodIn_of _ (by decide +kernel)) ggX0_listen_X2_at
set_option maxRecDepth 20000 in
theorem ggX0_listen_X2_add : GoodIn wsX0_listen wsX2_add := goodIn_r _ [25, 16, 21, 32, 33] (by decide +kernel) (by decide +kernel)
set_option maxRecDepth 20000 in
theorem gX0_listen_X2_add : GoodIn wsX0_listen (wsV RX0 30 RX2 yX2_add wsX2_add) := goodIn_app (goodIn_of _ (by decide +kernel)) ggX0_listen_X2_add
theorem dX0_listen_0 : decode cX0_listen 0 = .ok (.iload_n 1, 1) := by decide +kernel
theorem dX0_listen_1 : decode cX0_listen 1 = .ok (.iload_n 2, 1) := by decide +kernel
theorem dX0_listen_2 : decode cX0_listen 2 = .ok (.imul, 1) := by decide +kernel
theorem dX0_listen_3 : decode cX0_listen 3 = .ok (.bipush 20, 2) := by decide +kernel
theorem dX0_listen_5 : decode cX0_listen 5 = .ok (.idiv, 1) := by decide +kernel
theorem dX0_listen_6 : decode cX0_listen 6 = .ok (.istore 4, 2) := by decide +kernel
theorem dX0_listen_8 : decode cX0_listen 8 = .ok (.iload_n 3, 1) := by decide +kernel
theorem dX0_listen_9 : decode cX0_listen 9 = .ok (.iload_n 2, 1) := by decide +kernel
theorem dX0_listen_10 : decode cX0_listen 10 = .ok (.invokestatic 42, 3) := by decide +kernel
theorem dX0_listen_13 : decode cX0_listen 13 = .ok (.if_icmp .ge 7, 3) := by decide +kernel
theorem dX0_listen_16 : decode cX0_listen 16 = .ok (.iconst 1, 1) := by decide +kernel
theorem dX0_listen_17 : decode cX0_listen 17 = .ok (.goto 4, 3) := by decide +kernel
theorem dX0_listen_20 : decode cX0_listen 20 = .ok (.iconst 0, 1) := by decide +kernel
theorem dX0_listen_21 : decode cX0_listen 21 = .ok (.istore 5, 2) := by decide +kernel
theorem dX0_listen_23 : decode cX0_listen 23 = .ok (.iconst 0, 1) := by decide +kernel
theorem dX0_listen_24 : decode cX0_listen 24 = .ok (.istore 6, 2) := by decide +kernel
theorem dX0_listen_26 : decode cX0_listen 26 = .ok (.aload_n 0, 1) := by decide +kernel
theorem dX0_listen_27 : decode cX0_listen 27 = .ok (.iconst 0, 1) := by decide +kernel
theorem dX0_listen_28 : decode cX0_listen 28 = .ok (.putfield 46, 3) := by decide +kernel
theorem dX0_listen_31 : decode cX0_listen 31 = .ok (.aload_n 0, 1) := by decide +kernel
theorem dX0_listen_32 : decode cX0_listen 32 = .ok (.getfield 20, 3) := by decide +kernel
theorem dX0_listen_35 : decode cX0_listen 35 = .ok (.invokevirtual 27, 3) := by decide +kernel
theorem dX0_listen_38 : decode cX0_listen 38 = .ok (.iconst 0, 1) := by decide +kernel
theorem dX0_listen_39 : decode cX0_listen 39 = .ok (.istore 7, 2) := by decide +kernel
theorem dX0_listen_41 : decode cX0_listen 41 = .ok (.iload 7, 2) := by decide +kernel
theorem dX0_listen_43 : decode cX0_listen 43 = .ok (.aload_n 0, 1) := by decide +kernel
theorem dX0_listen_44 : decode cX0_listen 44 = .ok (.getfield 14, 3) := by decide +kernel
theorem dX0_listen_47 : decode cX0_listen 47 = .ok (.getfield 50, 3) := by decide +kernel
theorem dX0_listen_50 : decode cX0_listen 50 = .ok (.if_icmp .ge 112, 3) := by decide +kernel
theorem dX0_listen_53 : decode cX0_listen 53 = .ok (.iload 7, 2) := by decide +kernel
theorem dX0_listen_55 : decode cX0_listen 55 = .ok (.iconst 2, 1) := by decide +kernel
theorem dX0_listen_56 : decode cX0_listen 56 = .ok (.irem, 1) := by decide +kernel
theorem dX0_listen_57 : decode cX0_listen 57 = .ok (.iconst 1, 1) := by decide +kernel
theorem dX0_listen_58 : decode cX0_listen 58 = .ok (.if_icmp .ne 23, 3) := by decide +kernel
theorem dX0_listen_61 : decode cX0_listen 61 = .ok (.iload 6, 2) := by decide +kernel
theorem dX0_listen_63 : decode cX0_listen 63 = .ok (.aload_n 0, 1) := by decide +kernel
theorem dX0_listen_64 : decode cX0_listen 64 = .ok (.getfield 14, 3) := by decide +kernel
theorem dX0_listen_67 : decode cX0_listen 67 = .ok (.iload 7, 2) := by decide +kernel
theorem dX0_listen_69 : decode cX0_listen 69 = .ok (.invokevirtual 54, 3) := by decide +kernel
theorem dX0_listen_72 : decode cX0_listen 72 = .ok (.iload 4, 2) := by decide +kernel
theorem dX0_listen_74 : decode cX0_listen 74 = .ok (.iadd, 1) := by decide +kernel
theorem dX0_listen_75 : decode cX0_listen 75 = .ok (.iadd, 1) := by decide +kernel
theorem dX0_listen_76 : decode cX0_listen 76 = .ok (.istore 6, 2) := by decide +kernel
theorem dX0_listen_78 : decode cX0_listen 78 = .ok (.goto 78, 3) := by decide +kernel
theorem dX0_listen_81 : decode cX0_listen 81 = .ok (.aload_n 0, 1) := by decide +kernel
theorem dX0_listen_82 : decode cX0_listen 82 = .ok (.getfield 14, 3) := by decide +kernel
theorem dX0_listen_85 : decode cX0_listen 85 = .ok (.iload 7, 2) := by decide +kernel
theorem dX0_listen_87 : decode cX0_listen 87 = .ok (.invokevirtual 54, 3) := by decide +kernel
theorem dX0_listen_90 : decode cX0_listen 90 = .ok (.iload 4, 2) := by decide +kernel
theorem dX0_listen_92 : decode cX0_listen 92 = .ok (.isub, 1) := by decide +kernel
theorem dX0_listen_93 : decode cX0_listen 93 = .ok (.iconst 0, 1) := by decide +kernel
theorem dX0_listen_94 : decode cX0_listen 94 = .ok (.invokestatic 57, 3) := by decide +kernel
theorem dX0_listen_97 : decode cX0_listen 97 = .ok (.istore 8, 2) := by decide +kernel
theorem dX0_listen_99 : decode cX0_listen 99 = .ok (.iload 5, 2) := by decide +kernel
theorem dX0_listen_101 : decode cX0_listen 101 = .ok (.ifCond .ne 9, 3) := by decide +kernel
theorem dX0_listen_104 : decode cX0_listen 104 = .ok (.iload 8, 2) := by decide +kernel
theorem dX0_listen_106 : decode cX0_listen 106 = .ok (.iconst 2, 1) := by decide +kernel
theorem dX0_listen_107 : decode cX0_listen 107 = .ok (.if_icmp .ge 18, 3) := by decide +kernel
theorem dX0_listen_110 : decode cX0_listen 110 = .ok (.aload_n 0, 1) := by decide +kernel
theorem dX0_listen_111 : decode cX0_listen 111 = .ok (.iconst 1, 1) := by decide +kernel
theorem dX0_listen_112 : decode cX0_listen 112 = .ok (.putfield 46, 3) := by decide +kernel
theorem dX0_listen_115 : decode cX0_listen 115 = .ok (.iload 6, 2) := by decide +kernel
theorem dX0_listen_117 : decode cX0_listen 117 = .ok (.iload 8, 2) := by decide +kernel
theorem dX0_listen_119 : decode cX0_listen 119 = .ok (.iadd, 1) := by decide +kernel
theorem dX0_listen_120 : decode cX0_listen 120 = .ok (.istore 6, 2) := by decide +kernel
theorem dX0_listen_122 : decode cX0_listen 122 = .ok (.goto 34, 3) := by decide +kernel
theorem dX0_listen_125 : decode cX0_listen 125 = .ok (.aload_n 0, 1) := by decide +kernel
theorem dX0_listen_126 : decode cX0_listen 126 = .ok (.getfield 20, 3) := by decide +kernel
theorem dX0_listen_129 : decode cX0_listen 129 = .ok (.getfield 50, 3) := by decide +kernel
theorem dX0_listen_132 : decode cX0_listen 132 = .ok (.ifCond .le 12, 3) := by decide +kernel
theorem dX0_listen_135 : decode cX0_listen 135 = .ok (.aload_n 0, 1) := by decide +kernel
theorem dX0_listen_136 : decode cX0_listen 136 = .ok (.getfield 20, 3) := by decide +kernel
theorem dX0_listen_139 : decode cX0_listen 139 = .ok (.iload 6, 2) := by decide +kernel
theorem dX0_listen_141 : decode cX0_listen 141 = .ok (.invokevirtual 30, 3) := by decide +kernel
theorem dX0_listen_144 : decode cX0_listen 144 = .ok (.aload_n 0, 1) := by decide +kernel
theorem dX0_listen_145 : decode cX0_listen 145 = .ok (.getfield 20, 3) := by decide +kernel
theorem dX0_listen_148 : decode cX0_listen 148 = .ok (.iload 8, 2) := by decide +kernel
theorem dX0_listen_150 : decode cX0_listen 150 = .ok (.invokevirtual 30, 3) := by decide +kernel
theorem dX0_listen_153 : decode cX0_listen 153 = .ok (.iconst 0, 1) := by decide +kernel
theorem dX0_listen_154 : decode cX0_listen 154 = .ok (.istore 6, 2) := by decide +kernel
theorem dX0_listen_156 : decode cX0_listen 156 = .ok (.iinc 7 1, 3) := by decide +kernel
theorem dX0_listen_159 : decode cX0_listen 159 = .ok (.goto (-118), 3) := by decide +kernel
theorem dX0_listen_162 : decode cX0_listen 162 = .ok (.return_, 1) := by decide +kernel
set_option maxRecDepth 20000 in
theorem ggX0_decode_X2_at : GoodIn wsX0_decode wsX2_at := goodIn_r _ [9, 10, 11, 25, 26] (by decide +kernel) (by decide +kernel)
set_option maxRecDepth 20000 in
theorem gX0_decode_X2_at : GoodIn wsX0_decode (wsV RX0 54 RX2 yX2_at wsX2_at) := goodIn_app (goodIn_of _ (by decide +kernel)) ggX0_decode_X2_at
set_option maxRecDepth 20000 in
theorem ggX0_decode_J6_bitCount_0f7a4 : GoodIn wsX0_decode wsJ6_bitCount_0f7a4 := goodIn_r _ [15, 16, 17, 18] (by decide +kernel) (by decide +kernel)
set_option maxRecDepth 20000 in
theorem gX0_decode_J6_bitCount_0f7a4 : GoodIn wsX0_decode (va_wsS RX0 62 yJ6_bitCount_0f7a4 wsJ6_bitCount_0f7a4) := goodIn_app (goodIn_of _ (by decide +kernel)) ggX0_decode_J6_bitCount_0f7a4
theorem dX0_decode_0 : decode cX0_decode 0 = .ok (.aload_n 0, 1) := by decide +kernel
theorem dX0_decode_1 : decode cX0_decode 1 = .ok (.getfield 20, 3) := by decide +kernel
theorem dX0_decode_4 : decode cX0_decode 4 = .ok (.getfield 50, 3) := by decide +kernel
theorem dX0_decode_7 : decode cX0_decode 7 = .ok (.iconst 3, 1) := by decide +kernel
theorem dX0_decode_8 : decode cX0_decode 8 = .ok (.if_icmp .eq 17, 3) := by decide +kernel
theorem dX0_decode_11 : decode cX0_decode 11 = .ok (.aload_n 0, 1) := by decide +kernel
theorem dX0_decode_12 : decode cX0_decode 12 = .ok (.getfield 20, 3) := by decide +kernel
theorem dX0_decode_15 : decode cX0_decode 15 = .ok (.getfield 50, 3) := by decide +kernel
theorem dX0_decode_18 : decode cX0_decode 18 = .ok (.bipush 21, 2) := by decide +kernel
theorem dX0_decode_20 : decode cX0_decode 20 = .ok (.if_icmp .eq 5, 3) := by decide +kernel
theorem dX0_decode_23 : decode cX0_decode 23 = .ok (.iconst 1, 1) := by decide +kernel
theorem dX0_decode_24 : decode cX0_decode 24 = .ok (.ireturn, 1) := by decide +kernel
theorem dX0_decode_25 : decode cX0_decode 25 = .ok (.aload_n 0, 1) := by decide +kernel
theorem dX0_decode_26 : decode cX0_decode 26 = .ok (.getfield 20, 3) := by decide +kernel
theorem dX0_decode_29 : decode cX0_decode 29 = .ok (.iconst 0, 1) := by decide +kernel
theorem dX0_decode_30 : decode cX0_decode 30 = .ok (.invokevirtual 54, 3) := by decide +kernel
theorem dX0_decode_33 : decode cX0_decode 33 = .ok (.bipush 10, 2) := by decide +kernel
theorem dX0_decode_35 : decode cX0_decode 35 = .ok (.if_icmp .lt 16, 3) := by decide +kernel
theorem dX0_decode_38 : decode cX0_decode 38 = .ok (.aload_n 0, 1) := by decide +kernel
theorem dX0_decode_39 : decode cX0_decode 39 = .ok (.getfield 20, 3) := by decide +kernel
theorem dX0_decode_42 : decode cX0_decode 42 = .ok (.iconst 0, 1) := by decide +kernel
theorem dX0_decode_43 : decode cX0_decode 43 = .ok (.invokevirtual 54, 3) := by decide +kernel
theorem dX0_decode_46 : decode cX0_decode 46 = .ok (.bipush 20, 2) := by decide +kernel
theorem dX0_decode_48 : decode cX0_decode 48 = .ok (.if_icmp .le 5, 3) := by decide +kernel
theorem dX0_decode_51 : decode cX0_decode 51 = .ok (.iconst 2, 1) := by decide +kernel
theorem dX0_decode_52 : decode cX0_decode 52 = .ok (.ireturn, 1) := by decide +kernel
theorem dX0_decode_53 : decode cX0_decode 53 = .ok (.aload_n 0, 1) := by decide +kernel
theorem dX0_decode_54 : decode cX0_decode 54 = .ok (.getfield 20, 3) := by decide +kernel
theorem dX0_decode_57 : decode cX0_decode 57 = .ok (.getfield 50, 3) := by decide +kernel
theorem dX0_decode_60 : decode cX0_decode 60 = .ok (.iconst 3, 1) := by decide +kernel
theorem dX0_decode_61 : decode cX0_decode 61 = .ok (.if_icmp .ne 23, 3) := by decide +kernel
theorem dX0_decode_64 : decode cX0_decode 64 = .ok (.aload_n 0, 1) := by decide +kernel
theorem dX0_decode_65 : decode cX0_decode 65 = .ok (.getfield 20, 3) := by decide +kernel
theorem dX0_decode_68 : decode cX0_decode 68 = .ok (.iconst 1, 1) := by decide +kernel
theorem dX0_decode_69 : decode cX0_decode 69 = .ok (.invokevirtual 54, 3) := by decide +kernel
theorem dX0_decode_72 : decode cX0_decode 72 = .ok (.bipush 6, 2) := by decide +kernel
theorem dX0_decode_74 : decode cX0_decode 74 = .ok (.if_icmp .gt 8, 3) := by decide +kernel
theorem dX0_decode_77 : decode cX0_decode 77 = .ok (.bipush 8, 2) := by decide +kernel
theorem dX0_decode_79 : decode cX0_decode 79 = .ok (.goto 4, 3) := by decide +kernel
theorem dX0_decode_82 : decode cX0_decode 82 = .ok (.iconst 3, 1) := by decide +kernel
theorem dX0_decode_83 : decode cX0_decode 83 = .ok (.ireturn, 1) := by decide +kernel
theorem dX0_decode_84 : decode cX0_decode 84 = .ok (.iconst 0, 1) := by decide +kernel
theorem dX0_decode_85 : decode cX0_decode 85 = .ok (.istore_n 1, 1) := by decide +kernel
theorem dX0_decode_86 : decode cX0_decode 86 = .ok (.iconst 3, 1) := by decide +kernel
theorem dX0_decode_87 : decode cX0_decode 87 = .ok (.istore_n 2, 1) := by decide +kernel
theorem dX0_decode_88 : decode cX0_decode 88 = .ok (.iload_n 2, 1) := by decide +kernel
theorem dX0_decode_89 : decode cX0_decode 89 = .ok (.aload_n 0, 1) := by decide +kernel
theorem dX0_decode_90 : decode cX0_decode 90 = .ok (.getfield 20, 3) := by decide +kernel
theorem dX0_decode_93 : decode cX0_decode 93 = .ok (.getfield 50, 3) := by decide +kernel
theorem dX0_decode_96 : decode cX0_decode 96 = .ok (.if_icmp .ge 32, 3) := by decide +kernel
theorem dX0_decode_99 : decode cX0_decode 99 = .ok (.iload_n 1, 1) := by decide +kernel
theorem dX0_decode_100 : decode cX0_decode 100 = .ok (.iconst 1, 1) := by decide +kernel
theorem dX0_decode_101 : decode cX0_decode 101 = .ok (.ishl, 1) := by decide +kernel
theorem dX0_decode_102 : decode cX0_decode 102 = .ok (.aload_n 0, 1) := by decide +kernel
theorem dX0_decode_103 : decode cX0_decode 103 = .ok (.getfield 20, 3) := by decide +kernel
theorem dX0_decode_106 : decode cX0_decode 106 = .ok (.iload_n 2, 1) := by decide +kernel
theorem dX0_decode_107 : decode cX0_decode 107 = .ok (.invokevirtual 54, 3) := by decide +kernel
theorem dX0_decode_110 : decode cX0_decode 110 = .ok (.bipush 8, 2) := by decide +kernel
theorem dX0_decode_112 : decode cX0_decode 112 = .ok (.if_icmp .gt 7, 3) := by decide +kernel
theorem dX0_decode_115 : decode cX0_decode 115 = .ok (.iconst 0, 1) := by decide +kernel
theorem dX0_decode_116 : decode cX0_decode 116 = .ok (.goto 4, 3) := by decide +kernel
theorem dX0_decode_119 : decode cX0_decode 119 = .ok (.iconst 1, 1) := by decide +kernel
theorem dX0_decode_120 : decode cX0_decode 120 = .ok (.ior, 1) := by decide +kernel
theorem dX0_decode_121 : decode cX0_decode 121 = .ok (.istore_n 1, 1) := by decide +kernel
theorem dX0_decode_122 : decode cX0_decode 122 = .ok (.iinc 2 2, 3) := by decide +kernel
theorem dX0_decode_125 : decode cX0_decode 125 = .ok (.goto (-37), 3) := by decide +kernel
theorem dX0_decode_128 : decode cX0_decode 128 = .ok (.iload_n 1, 1) := by decide +kernel
theorem dX0_decode_129 : decode cX0_decode 129 = .ok (.invokestatic 62, 3) := by decide +kernel
theorem dX0_decode_132 : decode cX0_decode 132 = .ok (.iconst 2, 1) := by decide +kernel
theorem dX0_decode_133 : decode cX0_decode 133 = .ok (.irem, 1) := by decide +kernel
theorem dX0_decode_134 : decode cX0_decode 134 = .ok (.ifCond .eq 5, 3) := by decide +kernel
theorem dX0_decode_137 : decode cX0_decode 137 = .ok (.iconst 4, 1) := by decide +kernel
theorem dX0_decode_138 : decode cX0_decode 138 = .ok (.ireturn, 1) := by decide +kernel
theorem dX0_decode_139 : decode cX0_decode 139 = .ok (.aload_n 0, 1) := by decide +kernel
theorem dX0_decode_140 : decode cX0_decode 140 = .ok (.iload_n 1, 1) := by decide +kernel
theorem dX0_decode_141 : decode cX0_decode 141 = .ok (.bipush 6, 2) := by decide +kernel
theorem dX0_decode_143 : decode cX0_decode 143 = .ok (.ishr, 1) := by decide +kernel
theorem dX0_decode_144 : decode cX0_decode 144 = .ok (.bipush 7, 2) := by decide +kernel
theorem dX0_decode_146 : decode cX0_decode 146 = .ok (.iand, 1) := by decide +kernel
theorem dX0_decode_147 : decode cX0_decode 147 = .ok (.putfield 67, 3) := by decide +kernel
theorem dX0_decode_150 : decode cX0_decode 150 = .ok (.aload_n 0, 1) := by decide +kernel
theorem dX0_decode_151 : decode cX0_decode 151 = .ok (.iload_n 1, 1) := by decide +kernel
theorem dX0_decode_152 : decode cX0_decode 152 = .ok (.iconst 2, 1) := by decide +kernel
theorem dX0_decode_153 : decode cX0_decode 153 = .ok (.ishr, 1) := by decide +kernel
theorem dX0_decode_154 : decode cX0_decode 154 = .ok (.bipush 15, 2) := by decide +kernel
theorem dX0_decode_156 : decode cX0_decode 156 = .ok (.iand, 1) := by decide +kernel
theorem dX0_decode_157 : decode cX0_decode 157 = .ok (.putfield 70, 3) := by decide +kernel
theorem dX0_decode_160 : decode cX0_decode 160 = .ok (.aload_n 0, 1) := by decide +kernel
theorem dX0_decode_161 : decode cX0_decode 161 = .ok (.iload_n 1, 1) := by decide +kernel
theorem dX0_decode_162 : decode cX0_decode 162 = .ok (.iconst 1, 1) := by decide +kernel
theorem dX0_decode_163 : decode cX0_decode 163 = .ok (.ishr, 1) := by decide +kernel
theorem dX0_decode_164 : decode cX0_decode 164 = .ok (.iconst 1, 1) := by decide +kernel
theorem dX0_decode_165 : decode cX0_decode 165 = .ok (.iand, 1) := by decide +kernel
theorem dX0_decode_166 : decode cX0_decode 166 = .ok (.putfield 73, 3) := by decide +kernel
theorem dX0_decode_169 : decode cX0_decode 169 = .ok (.bipush 7, 2) := by decide +kernel
theorem dX0_decode_171 : decode cX0_decode 171 = .ok (.ireturn, 1) := by decide +kernel
set_option maxRecDepth 20000 in
theorem ggX1_init_X2_init : GoodIn wsX1_init wsX2_init := goodIn_r _ [10, 11, 2, 3, 12, 13, 14, 15, 16] (by decide +kernel) (by decide +kernel)
set_option maxRecDepth 20000 in
theorem gX1_init_X2_init : GoodIn wsX1_init (wsX2_init) := ggX1_init_X2_init
theorem dX1_init_0 : decode cX1_init 0 = .ok (.aload_n 0, 1) := by decide +kernel
theorem dX1_init_1 : decode cX1_init 1 = .ok (.invokespecial 3, 3) := by decide +kernel
theorem dX1_init_4 : decode cX1_init 4 = .ok (.aload_n 0, 1) := by decide +kernel
theorem dX1_init_5 : decode cX1_init 5 = .ok (.new 9, 3) := by decide +kernel
theorem dX1_init_8 : decode cX1_init 8 = .ok (.dup, 1) := by decide +kernel
theorem dX1_init_9 : decode cX1_init 9 = .ok (.bipush 60, 2) := by decide +kernel
theorem dX1_init_11 : decode cX1_init 11 = .ok (.iconst 0, 1) := by decide +kernel
theorem dX1_init_12 : decode cX1_init 12 = .ok (.invokespecial 11, 3) := by decide +kernel
theorem dX1_init_15 : decode cX1_init 15 = .ok (.putfield 14, 3) := by decide +kernel
theorem dX1_init_18 : decode cX1_init 18 = .ok (.return_, 1) := by decide +kernel
set_option maxRecDepth 20000 in
theorem ggX1_firstWrong_X2_at : GoodIn wsX1_firstWrong wsX2_at := goodIn_r _ [6, 7, 8, 23, 24] (by decide +kernel) (by decide +kernel)
set_option maxRecDepth 20000 in
theorem gX1_firstWrong_X2_at : GoodIn wsX1_firstWrong (wsV RX1 24 RX2 yX2_at wsX2_at) := goodIn_app (goodIn_of _ (by decide +kernel)) ggX1_firstWrong_X2_at
set_option maxRecDepth 20000 in
theorem ggX1_firstWrong_X1_placeAfter : GoodIn wsX1_firstWrong wsX1_placeAfter := goodIn_r _ [12, 13, 14, 11, 15, 16, 17, 18, 19, 20, 21] (by decide +kernel) (by decide +kernel)
set_option maxRecDepth 20000 in
theorem gX1_firstWrong_X1_placeAfter : GoodIn wsX1_firstWrong (va_wsS RX1 28 yX1_placeAfter wsX1_placeAfter) := goodIn_app (goodIn_of _ (by decide +kernel)) ggX1_firstWrong_X1_placeAfter
theorem dX1_firstWrong_0 : decode cX1_firstWrong 0 = .ok (.iconst 0, 1) := by decide +kernel
theorem dX1_firstWrong_1 : decode cX1_firstWrong 1 = .ok (.istore_n 1, 1) := by decide +kernel
theorem dX1_firstWrong_2 : decode cX1_firstWrong 2 = .ok (.iconst 0, 1) := by decide +kernel
theorem dX1_firstWrong_3 : decode cX1_firstWrong 3 = .ok (.istore_n 2, 1) := by decide +kernel
theorem dX1_firstWrong_4 : decode cX1_firstWrong 4 = .ok (.iload_n 2, 1) := by decide +kernel
theorem dX1_firstWrong_5 : decode cX1_firstWrong 5 = .ok (.aload_n 0, 1) := by decide +kernel
theorem dX1_firstWrong_6 : decode cX1_firstWrong 6 = .ok (.getfield 14, 3) := by decide +kernel
theorem dX1_firstWrong_9 : decode cX1_firstWrong 9 = .ok (.getfield 20, 3) := by decide +kernel
theorem dX1_firstWrong_12 : decode cX1_firstWrong 12 = .ok (.if_icmp .ge 30, 3) := by decide +kernel
theorem dX1_firstWrong_15 : decode cX1_firstWrong 15 = .ok (.iload_n 1, 1) := by decide +kernel
theorem dX1_firstWrong_16 : decode cX1_firstWrong 16 = .ok (.aload_n 0, 1) := by decide +kernel
theorem dX1_firstWrong_17 : decode cX1_firstWrong 17 = .ok (.getfield 14, 3) := by decide +kernel
theorem dX1_firstWrong_20 : decode cX1_firstWrong 20 = .ok (.iload_n 2, 1) := by decide +kernel
theorem dX1_firstWrong_21 : decode cX1_firstWrong 21 = .ok (.invokevirtual 24, 3) := by decide +kernel
theorem dX1_firstWrong_24 : decode cX1_firstWrong 24 = .ok (.invokestatic 28, 3) := by decide +kernel
theorem dX1_firstWrong_27 : decode cX1_firstWrong 27 = .ok (.istore_n 1, 1) := by decide +kernel
theorem dX1_firstWrong_28 : decode cX1_firstWrong 28 = .ok (.iload_n 1, 1) := by decide +kernel
theorem dX1_firstWrong_29 : decode cX1_firstWrong 29 = .ok (.bipush 9, 2) := by decide +kernel
theorem dX1_firstWrong_31 : decode cX1_firstWrong 31 = .ok (.if_icmp .ne 5, 3) := by decide +kernel
theorem dX1_firstWrong_34 : decode cX1_firstWrong 34 = .ok (.iload_n 2, 1) := by decide +kernel
theorem dX1_firstWrong_35 : decode cX1_firstWrong 35 = .ok (.ireturn, 1) := by decide +kernel
theorem dX1_firstWrong_36 : decode cX1_firstWrong 36 = .ok (.iinc 2 1, 3) := by decide +kernel
theorem dX1_firstWrong_39 : decode cX1_firstWrong 39 = .ok (.goto (-35), 3) := by decide +kernel
theorem dX1_firstWrong_42 : decode cX1_firstWrong 42 = .ok (.aload_n 0, 1) := by decide +kernel
theorem dX1_firstWrong_43 : decode cX1_firstWrong 43 = .ok (.getfield 14, 3) := by decide +kernel
theorem dX1_firstWrong_46 : decode cX1_firstWrong 46 = .ok (.getfield 20, 3) := by decide +kernel
theorem dX1_firstWrong_49 : decode cX1_firstWrong 49 = .ok (.ireturn, 1) := by decide +kernel
set_option maxRecDepth 20000 in
theorem ggX1_isComplete_X2_at : GoodIn wsX1_isComplete wsX2_at := goodIn_r _ [6, 7, 8, 23, 24] (by decide +kernel) (by decide +kernel)
set_option maxRecDepth 20000 in
theorem gX1_isComplete_X2_at : GoodIn wsX1_isComplete (wsV RX1 24 RX2 yX2_at wsX2_at) := goodIn_app (goodIn_of _ (by decide +kernel)) ggX1_isComplete_X2_at
set_option maxRecDepth 20000 in
theorem ggX1_isComplete_X1_placeAfter : GoodIn wsX1_isComplete wsX1_placeAfter := goodIn_r _ [12, 13, 14, 11, 15, 16, 17, 18, 19, 20, 21] (by decide +kernel) (by decide +kernel)
set_option maxRecDepth 20000 in
theorem gX1_isComplete_X1_placeAfter : GoodIn wsX1_isComplete (va_wsS RX1 28 yX1_placeAfter wsX1_placeAfter) := goodIn_app (goodIn_of _ (by decide +kernel)) ggX1_isComplete_X1_placeAfter
theorem dX1_isComplete_0 : decode cX1_isComplete 0 = .ok (.iconst 0, 1) := by decide +kernel
theorem dX1_isComplete_1 : decode cX1_isComplete 1 = .ok (.istore_n 1, 1) := by decide +kernel
theorem dX1_isComplete_2 : decode cX1_isComplete 2 = .ok (.iconst 0, 1) := by decide +kernel
theorem dX1_isComplete_3 : decode cX1_isComplete 3 = .ok (.istore_n 2, 1) := by decide +kernel
theorem dX1_isComplete_4 : decode cX1_isComplete 4 = .ok (.iload_n 2, 1) := by decide +kernel
theorem dX1_isComplete_5 : decode cX1_isComplete 5 = .ok (.aload_n 0, 1) := by decide +kernel
theorem dX1_isComplete_6 : decode cX1_isComplete 6 = .ok (.getfield 14, 3) := by decide +kernel
theorem dX1_isComplete_9 : decode cX1_isComplete 9 = .ok (.getfield 20, 3) := by decide +kernel
theorem dX1_isComplete_12 : decode cX1_isComplete 12 = .ok (.if_icmp .ge 22, 3) := by decide +kernel
theorem dX1_isComplete_15 : decode cX1_isComplete 15 = .ok (.iload_n 1, 1) := by decide +kernel
theorem dX1_isComplete_16 : decode cX1_isComplete 16 = .ok (.aload_n 0, 1) := by decide +kernel
theorem dX1_isComplete_17 : decode cX1_isComplete 17 = .ok (.getfield 14, 3) := by decide +kernel
theorem dX1_isComplete_20 : decode cX1_isComplete 20 = .ok (.iload_n 2, 1) := by decide +kernel
theorem dX1_isComplete_21 : decode cX1_isComplete 21 = .ok (.invokevirtual 24, 3) := by decide +kernel
theorem dX1_isComplete_24 : decode cX1_isComplete 24 = .ok (.invokestatic 28, 3) := by decide +kernel
theorem dX1_isComplete_27 : decode cX1_isComplete 27 = .ok (.istore_n 1, 1) := by decide +kernel
theorem dX1_isComplete_28 : decode cX1_isComplete 28 = .ok (.iinc 2 1, 3) := by decide +kernel
theorem dX1_isComplete_31 : decode cX1_isComplete 31 = .ok (.goto (-27), 3) := by decide +kernel
theorem dX1_isComplete_34 : decode cX1_isComplete 34 = .ok (.iload_n 1, 1) := by decide +kernel
theorem dX1_isComplete_35 : decode cX1_isComplete 35 = .ok (.bipush 8, 2) := by decide +kernel
theorem dX1_isComplete_37 : decode cX1_isComplete 37 = .ok (.if_icmp .eq 9, 3) := by decide +kernel
theorem dX1_isComplete_40 : decode cX1_isComplete 40 = .ok (.iload_n 1, 1) := by decide +kernel
theorem dX1_isComplete_41 : decode cX1_isComplete 41 = .ok (.bipush 6, 2) := by decide +kernel
theorem dX1_isComplete_43 : decode cX1_isComplete 43 = .ok (.if_icmp .ne 7, 3) := by decide +kernel
theorem dX1_isComplete_46 : decode cX1_isComplete 46 = .ok (.iconst 1, 1) := by decide +kernel
theorem dX1_isComplete_47 : decode cX1_isComplete 47 = .ok (.goto 4, 3) := by decide +kernel
theorem dX1_isComplete_50 : decode cX1_isComplete 50 = .ok (.iconst 0, 1) := by decide +kernel
theorem dX1_isComplete_51 : decode cX1_isComplete 51 = .ok (.ireturn, 1) := by decide +kernel
set_option maxRecDepth 20000 in
theorem ggX1_placeAfter_X1_placeAfterLetter : GoodIn wsX1_placeAfter wsX1_placeAfterLetter := goodIn_r _ [4] (by decide +kernel) (by decide +kernel)
set_option maxRecDepth 20000 in
theorem gX1_placeAfter_X1_placeAfterLetter : GoodIn wsX1_placeAfter (va_wsS RX1 32 yX1_placeAfterLetter wsX1_placeAfterLetter) := goodIn_app (goodIn_of _ (by decide +kernel)) ggX1_placeAfter_X1_placeAfterLetter
set_option maxRecDepth 20000 in
theorem ggX1_placeAfter_X5_isWithin : GoodIn wsX1_placeAfter wsX5_isWithin := goodIn_r _ [7] (by decide +kernel) (by decide +kernel)
set_option maxRecDepth 20000 in
theorem gX1_placeAfter_X5_isWithin_n35 : GoodIn wsX1_placeAfter (wsX5_isWithin) := ggX1_placeAfter_X5_isWithin
set_option maxRecDepth 20000 in
theorem ggX1_placeAfter_X1_placeAfterPart : GoodIn wsX1_placeAfter wsX1_placeAfterPart := goodIn_r _ [10] (by decide +kernel) (by decide +kernel)
set_option maxRecDepth 20000 in
theorem gX1_placeAfter_X1_placeAfterPart : GoodIn wsX1_placeAfter (va_wsS RX1 39 yX1_placeAfterPart wsX1_placeAfterPart) := goodIn_app (goodIn_of _ (by decide +kernel)) ggX1_placeAfter_X1_placeAfterPart
theorem dX1_placeAfter_0 : decode cX1_placeAfter 0 = .ok (.iload_n 0, 1) := by decide +kernel
theorem dX1_placeAfter_1 : decode cX1_placeAfter 1 = .ok (.tableswitch 198 0 8 #[51, 56, 79, 97, 115, 134, 153, 174, 193], 51) := by decide +kernel
theorem dX1_placeAfter_52 : decode cX1_placeAfter 52 = .ok (.iload_n 1, 1) := by decide +kernel
theorem dX1_placeAfter_53 : decode cX1_placeAfter 53 = .ok (.invokestatic 32, 3) := by decide +kernel
theorem dX1_placeAfter_56 : decode cX1_placeAfter 56 = .ok (.ireturn, 1) := by decide +kernel
theorem dX1_placeAfter_57 : decode cX1_placeAfter 57 = .ok (.iload_n 1, 1) := by decide +kernel
theorem dX1_placeAfter_58 : decode cX1_placeAfter 58 = .ok (.bipush 48, 2) := by decide +kernel
theorem dX1_placeAfter_60 : decode cX1_placeAfter 60 = .ok (.if_icmp .ne 7, 3) := by decide +kernel
theorem dX1_placeAfter_63 : decode cX1_placeAfter 63 = .ok (.iconst 2, 1) := by decide +kernel
theorem dX1_placeAfter_64 : decode cX1_placeAfter 64 = .ok (.goto 15, 3) := by decide +kernel
theorem dX1_placeAfter_67 : decode cX1_placeAfter 67 = .ok (.iload_n 1, 1) := by decide +kernel
theorem dX1_placeAfter_68 : decode cX1_placeAfter 68 = .ok (.bipush 49, 2) := by decide +kernel
theorem dX1_placeAfter_70 : decode cX1_placeAfter 70 = .ok (.if_icmp .ne 7, 3) := by decide +kernel
theorem dX1_placeAfter_73 : decode cX1_placeAfter 73 = .ok (.iconst 3, 1) := by decide +kernel
theorem dX1_placeAfter_74 : decode cX1_placeAfter 74 = .ok (.goto 5, 3) := by decide +kernel
theorem dX1_placeAfter_77 : decode cX1_placeAfter 77 = .ok (.bipush 9, 2) := by decide +kernel
theorem dX1_placeAfter_79 : decode cX1_placeAfter 79 = .ok (.ireturn, 1) := by decide +kernel
theorem dX1_placeAfter_80 : decode cX1_placeAfter 80 = .ok (.iload_n 1, 1) := by decide +kernel
theorem dX1_placeAfter_81 : decode cX1_placeAfter 81 = .ok (.bipush 48, 2) := by decide +kernel
theorem dX1_placeAfter_83 : decode cX1_placeAfter 83 = .ok (.bipush 57, 2) := by decide +kernel
theorem dX1_placeAfter_85 : decode cX1_placeAfter 85 = .ok (.invokestatic 35, 3) := by decide +kernel
theorem dX1_placeAfter_88 : decode cX1_placeAfter 88 = .ok (.ifCond .eq 7, 3) := by decide +kernel
theorem dX1_placeAfter_91 : decode cX1_placeAfter 91 = .ok (.iconst 4, 1) := by decide +kernel
theorem dX1_placeAfter_92 : decode cX1_placeAfter 92 = .ok (.goto 5, 3) := by decide +kernel
theorem dX1_placeAfter_95 : decode cX1_placeAfter 95 = .ok (.bipush 9, 2) := by decide +kernel
theorem dX1_placeAfter_97 : decode cX1_placeAfter 97 = .ok (.ireturn, 1) := by decide +kernel
theorem dX1_placeAfter_98 : decode cX1_placeAfter 98 = .ok (.iload_n 1, 1) := by decide +kernel
theorem dX1_placeAfter_99 : decode cX1_placeAfter 99 = .ok (.bipush 48, 2) := by decide +kernel
theorem dX1_placeAfter_101 : decode cX1_placeAfter 101 = .ok (.bipush 53, 2) := by decide +kernel
theorem dX1_placeAfter_103 : decode cX1_placeAfter 103 = .ok (.invokestatic 35, 3) := by decide +kernel
theorem dX1_placeAfter_106 : decode cX1_placeAfter 106 = .ok (.ifCond .eq 7, 3) := by decide +kernel
theorem dX1_placeAfter_109 : decode cX1_placeAfter 109 = .ok (.iconst 4, 1) := by decide +kernel
theorem dX1_placeAfter_110 : decode cX1_placeAfter 110 = .ok (.goto 5, 3) := by decide +kernel
theorem dX1_placeAfter_113 : decode cX1_placeAfter 113 = .ok (.bipush 9, 2) := by decide +kernel
theorem dX1_placeAfter_115 : decode cX1_placeAfter 115 = .ok (.ireturn, 1) := by decide +kernel
theorem dX1_placeAfter_116 : decode cX1_placeAfter 116 = .ok (.iload_n 1, 1) := by decide +kernel
theorem dX1_placeAfter_117 : decode cX1_placeAfter 117 = .ok (.bipush 48, 2) := by decide +kernel
theorem dX1_placeAfter_119 : decode cX1_placeAfter 119 = .ok (.bipush 49, 2) := by decide +kernel
theorem dX1_placeAfter_121 : decode cX1_placeAfter 121 = .ok (.invokestatic 35, 3) := by decide +kernel
theorem dX1_placeAfter_124 : decode cX1_placeAfter 124 = .ok (.ifCond .eq 8, 3) := by decide +kernel
theorem dX1_placeAfter_127 : decode cX1_placeAfter 127 = .ok (.bipush 8, 2) := by decide +kernel
theorem dX1_placeAfter_129 : decode cX1_placeAfter 129 = .ok (.goto 5, 3) := by decide +kernel
theorem dX1_placeAfter_132 : decode cX1_placeAfter 132 = .ok (.bipush 9, 2) := by decide +kernel
theorem dX1_placeAfter_134 : decode cX1_placeAfter 134 = .ok (.ireturn, 1) := by decide +kernel
theorem dX1_placeAfter_135 : decode cX1_placeAfter 135 = .ok (.iload_n 1, 1) := by decide +kernel
theorem dX1_placeAfter_136 : decode cX1_placeAfter 136 = .ok (.bipush 49, 2) := by decide +kernel
theorem dX1_placeAfter_138 : decode cX1_placeAfter 138 = .ok (.bipush 57, 2) := by decide +kernel
theorem dX1_placeAfter_140 : decode cX1_placeAfter 140 = .ok (.invokestatic 35, 3) := by decide +kernel
theorem dX1_placeAfter_143 : decode cX1_placeAfter 143 = .ok (.ifCond .eq 8, 3) := by decide +kernel
theorem dX1_placeAfter_146 : decode cX1_placeAfter 146 = .ok (.bipush 6, 2) := by decide +kernel
theorem dX1_placeAfter_148 : decode cX1_placeAfter 148 = .ok (.goto 5, 3) := by decide +kernel
theorem dX1_placeAfter_151 : decode cX1_placeAfter 151 = .ok (.bipush 9, 2) := by decide +kernel
theorem dX1_placeAfter_153 : decode cX1_placeAfter 153 = .ok (.ireturn, 1) := by decide +kernel
theorem dX1_placeAfter_154 : decode cX1_placeAfter 154 = .ok (.iload_n 1, 1) := by decide +kernel
theorem dX1_placeAfter_155 : decode cX1_placeAfter 155 = .ok (.bipush 48, 2) := by decide +kernel
theorem dX1_placeAfter_157 : decode cX1_placeAfter 157 = .ok (.bipush 57, 2) := by decide +kernel
theorem dX1_placeAfter_159 : decode cX1_placeAfter 159 = .ok (.invokestatic 35, 3) := by decide +kernel
theorem dX1_placeAfter_162 : decode cX1_placeAfter 162 = .ok (.ifCond .eq 8, 3) := by decide +kernel
theorem dX1_placeAfter_165 : decode cX1_placeAfter 165 = .ok (.bipush 8, 2) := by decide +kernel
theorem dX1_placeAfter_167 : decode cX1_placeAfter 167 = .ok (.goto 7, 3) := by decide +kernel
theorem dX1_placeAfter_170 : decode cX1_placeAfter 170 = .ok (.iload_n 1, 1) := by decide +kernel
theorem dX1_placeAfter_171 : decode cX1_placeAfter 171 = .ok (.invokestatic 39, 3) := by decide +kernel
theorem dX1_placeAfter_174 : decode cX1_placeAfter 174 = .ok (.ireturn, 1) := by decide +kernel
theorem dX1_placeAfter_175 : decode cX1_placeAfter 175 = .ok (.iload_n 1, 1) := by decide +kernel
theorem dX1_placeAfter_176 : decode cX1_placeAfter 176 = .ok (.bipush 48, 2) := by decide +kernel
theorem dX1_placeAfter_178 : decode cX1_placeAfter 178 = .ok (.bipush 57, 2) := by decide +kernel
theorem dX1_placeAfter_180 : decode cX1_placeAfter 180 = .ok (.invokestatic 35, 3) := by decide +kernel
theorem dX1_placeAfter_183 : decode cX1_placeAfter 183 = .ok (.ifCond .eq 8, 3) := by decide +kernel
theorem dX1_placeAfter_186 : decode cX1_placeAfter 186 = .ok (.bipush 8, 2) := by decide +kernel
theorem dX1_placeAfter_188 : decode cX1_placeAfter 188 = .ok (.goto 5, 3) := by decide +kernel
theorem dX1_placeAfter_191 : decode cX1_placeAfter 191 = .ok (.bipush 9, 2) := by decide +kernel
theorem dX1_placeAfter_193 : decode cX1_placeAfter 193 = .ok (.ireturn, 1) := by decide +kernel
theorem dX1_placeAfter_194 : decode cX1_placeAfter 194 = .ok (.iload_n 1, 1) := by decide +kernel
theorem dX1_placeAfter_195 : decode cX1_placeAfter 195 = .ok (.invokestatic 39, 3) := by decide +kernel
theorem dX1_placeAfter_198 : decode cX1_placeAfter 198 = .ok (.ireturn, 1) := by decide +kernel
theorem dX1_placeAfter_199 : decode cX1_placeAfter 199 = .ok (.bipush 9, 2) := by decide +kernel
theorem dX1_placeAfter_201 : decode cX1_placeAfter 201 = .ok (.ireturn, 1) := by decide +kernel
theorem dX1_placeAfterPart_0 : decode cX1_placeAfterPart 0 = .ok (.iload_n 0, 1) := by decide +kernel
theorem dX1_placeAfterPart_1 : decode cX1_placeAfterPart 1 = .ok (.bipush 59, 2) := by decide +kernel
theorem dX1_placeAfterPart_3 : decode cX1_placeAfterPart 3 = .ok (.if_icmp .ne 7, 3) := by decide +kernel
theorem dX1_placeAfterPart_6 : decode cX1_placeAfterPart 6 = .ok (.iconst 0, 1) := by decide +kernel
theorem dX1_placeAfterPart_7 : decode cX1_placeAfterPart 7 = .ok (.goto 5, 3) := by decide +kernel
theorem dX1_placeAfterPart_10 : decode cX1_placeAfterPart 10 = .ok (.bipush 9, 2) := by decide +kernel
theorem dX1_placeAfterPart_12 : decode cX1_placeAfterPart 12 = .ok (.ireturn, 1) := by decide +kernel
theorem dX1_placeAfterLetter_0 : decode cX1_placeAfterLetter 0 = .ok (.iload_n 0, 1) := by decide +kernel
theorem dX1_placeAfterLetter_1 : decode cX1_placeAfterLetter 1 = .ok (.lookupswitch 53 #[(102, 43), (103, 50), (114, 45), (116, 48)], 43) := by decide +kernel
theorem dX1_placeAfterLetter_44 : decode cX1_placeAfterLetter 44 = .ok (.iconst 1, 1) := by decide +kernel
theorem dX1_placeAfterLetter_45 : decode cX1_placeAfterLetter 45 = .ok (.ireturn, 1) := by decide +kernel
theorem dX1_placeAfterLetter_46 : decode cX1_placeAfterLetter 46 = .ok (.bipush 8, 2) := by decide +kernel
theorem dX1_placeAfterLetter_48 : decode cX1_placeAfterLetter 48 = .ok (.ireturn, 1) := by decide +kernel
theorem dX1_placeAfterLetter_49 : decode cX1_placeAfterLetter 49 = .ok (.iconst 5, 1) := by decide +kernel
theorem dX1_placeAfterLetter_50 : decode cX1_placeAfterLetter 50 = .ok (.ireturn, 1) := by decide +kernel
theorem dX1_placeAfterLetter_51 : decode cX1_placeAfterLetter 51 = .ok (.bipush 7, 2) := by decide +kernel
theorem dX1_placeAfterLetter_53 : decode cX1_placeAfterLetter 53 = .ok (.ireturn, 1) := by decide +kernel
theorem dX1_placeAfterLetter_54 : decode cX1_placeAfterLetter 54 = .ok (.bipush 9, 2) := by decide +kernel
theorem dX1_placeAfterLetter_56 : decode cX1_placeAfterLetter 56 = .ok (.ireturn, 1) := by decide +kernel
set_option maxRecDepth 20000 in
theorem ggX1_number_X2_at : GoodIn wsX1_number wsX2_at := goodIn_r _ [6, 7, 8, 10, 11] (by decide +kernel) (by decide +kernel)
