theorem dX1_errorOfBuffer_98 : decode cX1_errorOfBuffer 98 = .ok (.bipush (-11), 2) := by decide +kernel
theorem dX1_errorOfBuffer_100 : decode cX1_errorOfBuffer 100 = .ok (.ireturn, 1) := by decide +kernel
theorem dX1_errorOfBuffer_101 : decode cX1_errorOfBuffer 101 = .ok (.iinc 1 4, 3) := by decide +kernel
theorem dX1_errorOfBuffer_104 : decode cX1_errorOfBuffer 104 = .ok (.goto (-102), 3) := by decide +kernel
theorem dX1_errorOfBuffer_107 : decode cX1_errorOfBuffer 107 = .ok (.iconst 0, 1) := by decide +kernel
theorem dX1_errorOfBuffer_108 : decode cX1_errorOfBuffer 108 = .ok (.ireturn, 1) := by decide +kernel
set_option maxRecDepth 20000 in
theorem ggX1_load_X1_rightLength : GoodIn wsX1_load wsX1_rightLength := goodIn_r _ [9, 1, 10, 11, 12, 8, 13, 4, 14, 15, 16, 17, 44, 45, 46, 47, 48, 49, 50, 51, 52, 53, 54, 55, 56] (by decide +kernel) (by decide +kernel)
set_option maxRecDepth 20000 in
theorem gX1_load_X1_rightLength : GoodIn wsX1_load (wsV RX1 78 RX1 yX1_rightLength wsX1_rightLength) := goodIn_app (goodIn_of _ (by decide +kernel)) ggX1_load_X1_rightLength
set_option maxRecDepth 20000 in
theorem ggX1_load_X1_errorOfBuffer : GoodIn wsX1_load wsX1_errorOfBuffer := goodIn_r _ [21, 1, 4, 22, 23, 24, 8, 25, 26, 14, 27, 28, 29, 30, 31, 32, 33, 34, 35, 44, 45, 46, 47, 48, 49, 50, 51, 52, 53, 54, 55, 56] (by decide +kernel) (by decide +kernel)
set_option maxRecDepth 20000 in
theorem gX1_load_X1_errorOfBuffer : GoodIn wsX1_load (wsV RX1 85 RX1 yX1_errorOfBuffer wsX1_errorOfBuffer) := goodIn_app (goodIn_of _ (by decide +kernel)) ggX1_load_X1_errorOfBuffer
set_option maxRecDepth 20000 in
theorem ggX1_load_X1_lay : GoodIn wsX1_load wsX1_lay := goodIn_r _ [39, 40, 3, 2, 41, 42, 43, 44, 45, 46, 47, 48, 49, 50, 51, 52, 53, 54, 55, 56] (by decide +kernel) (by decide +kernel)
set_option maxRecDepth 20000 in
theorem gX1_load_X1_lay : GoodIn wsX1_load (wsV RX1 68 RX1 yX1_lay wsX1_lay) := goodIn_app (goodIn_of _ (by decide +kernel)) ggX1_load_X1_lay
theorem dX1_load_0 : decode cX1_load 0 = .ok (.aload_n 0, 1) := by decide +kernel
theorem dX1_load_1 : decode cX1_load 1 = .ok (.getfield 72, 3) := by decide +kernel
theorem dX1_load_4 : decode cX1_load 4 = .ok (.iconst 4, 1) := by decide +kernel
theorem dX1_load_5 : decode cX1_load 5 = .ok (.irem, 1) := by decide +kernel
theorem dX1_load_6 : decode cX1_load 6 = .ok (.iconst 3, 1) := by decide +kernel
theorem dX1_load_7 : decode cX1_load 7 = .ok (.if_icmp .ne 14, 3) := by decide +kernel
theorem dX1_load_10 : decode cX1_load 10 = .ok (.aload_n 0, 1) := by decide +kernel
theorem dX1_load_11 : decode cX1_load 11 = .ok (.invokevirtual 78, 3) := by decide +kernel
theorem dX1_load_14 : decode cX1_load 14 = .ok (.aload_n 0, 1) := by decide +kernel
theorem dX1_load_15 : decode cX1_load 15 = .ok (.getfield 72, 3) := by decide +kernel
theorem dX1_load_18 : decode cX1_load 18 = .ok (.if_icmp .ge 6, 3) := by decide +kernel
theorem dX1_load_21 : decode cX1_load 21 = .ok (.bipush (-4), 2) := by decide +kernel
theorem dX1_load_23 : decode cX1_load 23 = .ok (.ireturn, 1) := by decide +kernel
theorem dX1_load_24 : decode cX1_load 24 = .ok (.aload_n 0, 1) := by decide +kernel
theorem dX1_load_25 : decode cX1_load 25 = .ok (.invokevirtual 85, 3) := by decide +kernel
theorem dX1_load_28 : decode cX1_load 28 = .ok (.istore_n 1, 1) := by decide +kernel
theorem dX1_load_29 : decode cX1_load 29 = .ok (.iload_n 1, 1) := by decide +kernel
theorem dX1_load_30 : decode cX1_load 30 = .ok (.ifCond .ge 5, 3) := by decide +kernel
theorem dX1_load_33 : decode cX1_load 33 = .ok (.iload_n 1, 1) := by decide +kernel
theorem dX1_load_34 : decode cX1_load 34 = .ok (.ireturn, 1) := by decide +kernel
theorem dX1_load_35 : decode cX1_load 35 = .ok (.aload_n 0, 1) := by decide +kernel
theorem dX1_load_36 : decode cX1_load 36 = .ok (.iconst 1, 1) := by decide +kernel
theorem dX1_load_37 : decode cX1_load 37 = .ok (.putfield 43, 3) := by decide +kernel
theorem dX1_load_40 : decode cX1_load 40 = .ok (.aload_n 0, 1) := by decide +kernel
theorem dX1_load_41 : decode cX1_load 41 = .ok (.iconst 0, 1) := by decide +kernel
theorem dX1_load_42 : decode cX1_load 42 = .ok (.putfield 46, 3) := by decide +kernel
theorem dX1_load_45 : decode cX1_load 45 = .ok (.iconst 0, 1) := by decide +kernel
theorem dX1_load_46 : decode cX1_load 46 = .ok (.istore_n 2, 1) := by decide +kernel
theorem dX1_load_47 : decode cX1_load 47 = .ok (.iload_n 2, 1) := by decide +kernel
theorem dX1_load_48 : decode cX1_load 48 = .ok (.aload_n 0, 1) := by decide +kernel
theorem dX1_load_49 : decode cX1_load 49 = .ok (.getfield 72, 3) := by decide +kernel
theorem dX1_load_52 : decode cX1_load 52 = .ok (.if_icmp .ge 82, 3) := by decide +kernel
theorem dX1_load_55 : decode cX1_load 55 = .ok (.aload_n 0, 1) := by decide +kernel
theorem dX1_load_56 : decode cX1_load 56 = .ok (.dup, 1) := by decide +kernel
theorem dX1_load_57 : decode cX1_load 57 = .ok (.getfield 43, 3) := by decide +kernel
theorem dX1_load_60 : decode cX1_load 60 = .ok (.iload_n 2, 1) := by decide +kernel
theorem dX1_load_61 : decode cX1_load 61 = .ok (.ifCond .le 20, 3) := by decide +kernel
theorem dX1_load_64 : decode cX1_load 64 = .ok (.aload_n 0, 1) := by decide +kernel
theorem dX1_load_65 : decode cX1_load 65 = .ok (.getfield 27, 3) := by decide +kernel
theorem dX1_load_68 : decode cX1_load 68 = .ok (.iload_n 2, 1) := by decide +kernel
theorem dX1_load_69 : decode cX1_load 69 = .ok (.iconst 1, 1) := by decide +kernel
theorem dX1_load_70 : decode cX1_load 70 = .ok (.isub, 1) := by decide +kernel
theorem dX1_load_71 : decode cX1_load 71 = .ok (.iaload, 1) := by decide +kernel
theorem dX1_load_72 : decode cX1_load 72 = .ok (.bipush 59, 2) := by decide +kernel
theorem dX1_load_74 : decode cX1_load 74 = .ok (.if_icmp .ne 7, 3) := by decide +kernel
theorem dX1_load_77 : decode cX1_load 77 = .ok (.iconst 1, 1) := by decide +kernel
theorem dX1_load_78 : decode cX1_load 78 = .ok (.goto 4, 3) := by decide +kernel
theorem dX1_load_81 : decode cX1_load 81 = .ok (.iconst 0, 1) := by decide +kernel
theorem dX1_load_82 : decode cX1_load 82 = .ok (.iadd, 1) := by decide +kernel
theorem dX1_load_83 : decode cX1_load 83 = .ok (.putfield 43, 3) := by decide +kernel
theorem dX1_load_86 : decode cX1_load 86 = .ok (.aload_n 0, 1) := by decide +kernel
theorem dX1_load_87 : decode cX1_load 87 = .ok (.aload_n 0, 1) := by decide +kernel
theorem dX1_load_88 : decode cX1_load 88 = .ok (.getfield 27, 3) := by decide +kernel
theorem dX1_load_91 : decode cX1_load 91 = .ok (.iload_n 2, 1) := by decide +kernel
theorem dX1_load_92 : decode cX1_load 92 = .ok (.iaload, 1) := by decide +kernel
theorem dX1_load_93 : decode cX1_load 93 = .ok (.bipush 48, 2) := by decide +kernel
theorem dX1_load_95 : decode cX1_load 95 = .ok (.isub, 1) := by decide +kernel
theorem dX1_load_96 : decode cX1_load 96 = .ok (.aload_n 0, 1) := by decide +kernel
theorem dX1_load_97 : decode cX1_load 97 = .ok (.getfield 27, 3) := by decide +kernel
theorem dX1_load_100 : decode cX1_load 100 = .ok (.iload_n 2, 1) := by decide +kernel
theorem dX1_load_101 : decode cX1_load 101 = .ok (.iconst 2, 1) := by decide +kernel
theorem dX1_load_102 : decode cX1_load 102 = .ok (.iadd, 1) := by decide +kernel
theorem dX1_load_103 : decode cX1_load 103 = .ok (.iaload, 1) := by decide +kernel
theorem dX1_load_104 : decode cX1_load 104 = .ok (.bipush 48, 2) := by decide +kernel
theorem dX1_load_106 : decode cX1_load 106 = .ok (.isub, 1) := by decide +kernel
theorem dX1_load_107 : decode cX1_load 107 = .ok (.aload_n 0, 1) := by decide +kernel
theorem dX1_load_108 : decode cX1_load 108 = .ok (.getfield 27, 3) := by decide +kernel
theorem dX1_load_111 : decode cX1_load 111 = .ok (.iload_n 2, 1) := by decide +kernel
theorem dX1_load_112 : decode cX1_load 112 = .ok (.iconst 1, 1) := by decide +kernel
theorem dX1_load_113 : decode cX1_load 113 = .ok (.iadd, 1) := by decide +kernel
theorem dX1_load_114 : decode cX1_load 114 = .ok (.iaload, 1) := by decide +kernel
theorem dX1_load_115 : decode cX1_load 115 = .ok (.bipush 62, 2) := by decide +kernel
theorem dX1_load_117 : decode cX1_load 117 = .ok (.if_icmp .ne 7, 3) := by decide +kernel
theorem dX1_load_120 : decode cX1_load 120 = .ok (.iconst 1, 1) := by decide +kernel
theorem dX1_load_121 : decode cX1_load 121 = .ok (.goto 4, 3) := by decide +kernel
theorem dX1_load_124 : decode cX1_load 124 = .ok (.iconst 0, 1) := by decide +kernel
theorem dX1_load_125 : decode cX1_load 125 = .ok (.invokevirtual 68, 3) := by decide +kernel
theorem dX1_load_128 : decode cX1_load 128 = .ok (.iinc 2 4, 3) := by decide +kernel
theorem dX1_load_131 : decode cX1_load 131 = .ok (.goto (-84), 3) := by decide +kernel
theorem dX1_load_134 : decode cX1_load 134 = .ok (.aload_n 0, 1) := by decide +kernel
theorem dX1_load_135 : decode cX1_load 135 = .ok (.iconst 0, 1) := by decide +kernel
theorem dX1_load_136 : decode cX1_load 136 = .ok (.putfield 72, 3) := by decide +kernel
theorem dX1_load_139 : decode cX1_load 139 = .ok (.aload_n 0, 1) := by decide +kernel
theorem dX1_load_140 : decode cX1_load 140 = .ok (.getfield 46, 3) := by decide +kernel
theorem dX1_load_143 : decode cX1_load 143 = .ok (.ireturn, 1) := by decide +kernel
theorem dX1_clear_0 : decode cX1_clear 0 = .ok (.aload_n 0, 1) := by decide +kernel
theorem dX1_clear_1 : decode cX1_clear 1 = .ok (.iconst 0, 1) := by decide +kernel
theorem dX1_clear_2 : decode cX1_clear 2 = .ok (.putfield 43, 3) := by decide +kernel
theorem dX1_clear_5 : decode cX1_clear 5 = .ok (.aload_n 0, 1) := by decide +kernel
theorem dX1_clear_6 : decode cX1_clear 6 = .ok (.iconst 0, 1) := by decide +kernel
theorem dX1_clear_7 : decode cX1_clear 7 = .ok (.putfield 46, 3) := by decide +kernel
theorem dX1_clear_10 : decode cX1_clear 10 = .ok (.return_, 1) := by decide +kernel
set_option maxRecDepth 20000 in
theorem ggX1_round_X1_lay : GoodIn wsX1_round wsX1_lay := goodIn_r _ [6, 7, 8, 1, 9, 10, 11, 12, 13, 14, 15, 16, 17, 18, 19, 20, 21, 22, 23, 24] (by decide +kernel) (by decide +kernel)
set_option maxRecDepth 20000 in
theorem gX1_round_X1_lay : GoodIn wsX1_round (wsV RX1 68 RX1 yX1_lay wsX1_lay) := goodIn_app (goodIn_of _ (by decide +kernel)) ggX1_round_X1_lay
theorem dX1_round_0 : decode cX1_round 0 = .ok (.aload_n 0, 1) := by decide +kernel
theorem dX1_round_1 : decode cX1_round 1 = .ok (.dup, 1) := by decide +kernel
theorem dX1_round_2 : decode cX1_round 2 = .ok (.getfield 43, 3) := by decide +kernel
theorem dX1_round_5 : decode cX1_round 5 = .ok (.iconst 1, 1) := by decide +kernel
theorem dX1_round_6 : decode cX1_round 6 = .ok (.iadd, 1) := by decide +kernel
theorem dX1_round_7 : decode cX1_round 7 = .ok (.putfield 43, 3) := by decide +kernel
theorem dX1_round_10 : decode cX1_round 10 = .ok (.aload_n 0, 1) := by decide +kernel
theorem dX1_round_11 : decode cX1_round 11 = .ok (.iload_n 1, 1) := by decide +kernel
theorem dX1_round_12 : decode cX1_round 12 = .ok (.iload_n 2, 1) := by decide +kernel
theorem dX1_round_13 : decode cX1_round 13 = .ok (.iload_n 3, 1) := by decide +kernel
theorem dX1_round_14 : decode cX1_round 14 = .ok (.invokevirtual 68, 3) := by decide +kernel
theorem dX1_round_17 : decode cX1_round 17 = .ok (.return_, 1) := by decide +kernel
set_option maxRecDepth 20000 in
theorem ggX1_buildDoubling_X1_isPower : GoodIn wsX1_buildDoubling wsX1_isPower := goodIn_r _ [10, 3, 23, 24, 25, 26, 27, 28, 29, 30, 31, 32, 33, 34, 35] (by decide +kernel) (by decide +kernel)
set_option maxRecDepth 20000 in
theorem gX1_buildDoubling_X1_isPower : GoodIn wsX1_buildDoubling (wsV RX1 49 RX1 yX1_isPower wsX1_isPower) := goodIn_app (goodIn_of _ (by decide +kernel)) ggX1_buildDoubling_X1_isPower
set_option maxRecDepth 20000 in
theorem ggX1_buildDoubling_X1_clear : GoodIn wsX1_buildDoubling wsX1_clear := goodIn_r _ [14, 4, 5, 23, 24, 25, 26, 27, 28, 29, 30, 31, 32, 33, 34, 35] (by decide +kernel) (by decide +kernel)
set_option maxRecDepth 20000 in
theorem gX1_buildDoubling_X1_clear : GoodIn wsX1_buildDoubling (wsV RX1 88 RX1 yX1_clear wsX1_clear) := goodIn_app (goodIn_of _ (by decide +kernel)) ggX1_buildDoubling_X1_clear
set_option maxRecDepth 20000 in
theorem ggX1_buildDoubling_X1_lay : GoodIn wsX1_buildDoubling wsX1_lay := goodIn_r _ [18, 19, 5, 4, 20, 21, 22, 23, 24, 25, 26, 27, 28, 29, 30, 31, 32, 33, 34, 35] (by decide +kernel) (by decide +kernel)
set_option maxRecDepth 20000 in
theorem gX1_buildDoubling_X1_lay : GoodIn wsX1_buildDoubling (wsV RX1 68 RX1 yX1_lay wsX1_lay) := goodIn_app (goodIn_of _ (by decide +kernel)) ggX1_buildDoubling_X1_lay
theorem dX1_buildDoubling_0 : decode cX1_buildDoubling 0 = .ok (.aload_n 0, 1) := by decide +kernel
theorem dX1_buildDoubling_1 : decode cX1_buildDoubling 1 = .ok (.invokevirtual 49, 3) := by decide +kernel
theorem dX1_buildDoubling_4 : decode cX1_buildDoubling 4 = .ok (.ifCond .ne 6, 3) := by decide +kernel
theorem dX1_buildDoubling_7 : decode cX1_buildDoubling 7 = .ok (.bipush (-14), 2) := by decide +kernel
theorem dX1_buildDoubling_9 : decode cX1_buildDoubling 9 = .ok (.ireturn, 1) := by decide +kernel
theorem dX1_buildDoubling_10 : decode cX1_buildDoubling 10 = .ok (.aload_n 0, 1) := by decide +kernel
theorem dX1_buildDoubling_11 : decode cX1_buildDoubling 11 = .ok (.getfield 37, 3) := by decide +kernel
theorem dX1_buildDoubling_14 : decode cX1_buildDoubling 14 = .ok (.iconst 2, 1) := by decide +kernel
theorem dX1_buildDoubling_15 : decode cX1_buildDoubling 15 = .ok (.if_icmp .ne 6, 3) := by decide +kernel
theorem dX1_buildDoubling_18 : decode cX1_buildDoubling 18 = .ok (.bipush (-11), 2) := by decide +kernel
theorem dX1_buildDoubling_20 : decode cX1_buildDoubling 20 = .ok (.ireturn, 1) := by decide +kernel
theorem dX1_buildDoubling_21 : decode cX1_buildDoubling 21 = .ok (.aload_n 0, 1) := by decide +kernel
theorem dX1_buildDoubling_22 : decode cX1_buildDoubling 22 = .ok (.getfield 40, 3) := by decide +kernel
theorem dX1_buildDoubling_25 : decode cX1_buildDoubling 25 = .ok (.ifCond .eq 14, 3) := by decide +kernel
theorem dX1_buildDoubling_28 : decode cX1_buildDoubling 28 = .ok (.aload_n 0, 1) := by decide +kernel
theorem dX1_buildDoubling_29 : decode cX1_buildDoubling 29 = .ok (.getfield 40, 3) := by decide +kernel
theorem dX1_buildDoubling_32 : decode cX1_buildDoubling 32 = .ok (.iconst 4, 1) := by decide +kernel
theorem dX1_buildDoubling_33 : decode cX1_buildDoubling 33 = .ok (.if_icmp .eq 6, 3) := by decide +kernel
theorem dX1_buildDoubling_36 : decode cX1_buildDoubling 36 = .ok (.bipush (-10), 2) := by decide +kernel
theorem dX1_buildDoubling_38 : decode cX1_buildDoubling 38 = .ok (.ireturn, 1) := by decide +kernel
theorem dX1_buildDoubling_39 : decode cX1_buildDoubling 39 = .ok (.aload_n 0, 1) := by decide +kernel
theorem dX1_buildDoubling_40 : decode cX1_buildDoubling 40 = .ok (.invokevirtual 88, 3) := by decide +kernel
theorem dX1_buildDoubling_43 : decode cX1_buildDoubling 43 = .ok (.iconst 1, 1) := by decide +kernel
theorem dX1_buildDoubling_44 : decode cX1_buildDoubling 44 = .ok (.istore_n 1, 1) := by decide +kernel
theorem dX1_buildDoubling_45 : decode cX1_buildDoubling 45 = .ok (.iload_n 1, 1) := by decide +kernel
theorem dX1_buildDoubling_46 : decode cX1_buildDoubling 46 = .ok (.aload_n 0, 1) := by decide +kernel
theorem dX1_buildDoubling_47 : decode cX1_buildDoubling 47 = .ok (.getfield 7, 3) := by decide +kernel
theorem dX1_buildDoubling_50 : decode cX1_buildDoubling 50 = .ok (.if_icmp .ge 51, 3) := by decide +kernel
theorem dX1_buildDoubling_53 : decode cX1_buildDoubling 53 = .ok (.aload_n 0, 1) := by decide +kernel
theorem dX1_buildDoubling_54 : decode cX1_buildDoubling 54 = .ok (.dup, 1) := by decide +kernel
theorem dX1_buildDoubling_55 : decode cX1_buildDoubling 55 = .ok (.getfield 43, 3) := by decide +kernel
theorem dX1_buildDoubling_58 : decode cX1_buildDoubling 58 = .ok (.iconst 1, 1) := by decide +kernel
theorem dX1_buildDoubling_59 : decode cX1_buildDoubling 59 = .ok (.iadd, 1) := by decide +kernel
theorem dX1_buildDoubling_60 : decode cX1_buildDoubling 60 = .ok (.putfield 43, 3) := by decide +kernel
theorem dX1_buildDoubling_63 : decode cX1_buildDoubling 63 = .ok (.iconst 0, 1) := by decide +kernel
theorem dX1_buildDoubling_64 : decode cX1_buildDoubling 64 = .ok (.istore_n 2, 1) := by decide +kernel
theorem dX1_buildDoubling_65 : decode cX1_buildDoubling 65 = .ok (.iload_n 2, 1) := by decide +kernel
theorem dX1_buildDoubling_66 : decode cX1_buildDoubling 66 = .ok (.aload_n 0, 1) := by decide +kernel
theorem dX1_buildDoubling_67 : decode cX1_buildDoubling 67 = .ok (.getfield 7, 3) := by decide +kernel
theorem dX1_buildDoubling_70 : decode cX1_buildDoubling 70 = .ok (.if_icmp .ge 24, 3) := by decide +kernel
theorem dX1_buildDoubling_73 : decode cX1_buildDoubling 73 = .ok (.iload_n 2, 1) := by decide +kernel
theorem dX1_buildDoubling_74 : decode cX1_buildDoubling 74 = .ok (.iload_n 1, 1) := by decide +kernel
theorem dX1_buildDoubling_75 : decode cX1_buildDoubling 75 = .ok (.iand, 1) := by decide +kernel
theorem dX1_buildDoubling_76 : decode cX1_buildDoubling 76 = .ok (.ifCond .ne 12, 3) := by decide +kernel
theorem dX1_buildDoubling_79 : decode cX1_buildDoubling 79 = .ok (.aload_n 0, 1) := by decide +kernel
theorem dX1_buildDoubling_80 : decode cX1_buildDoubling 80 = .ok (.iload_n 2, 1) := by decide +kernel
theorem dX1_buildDoubling_81 : decode cX1_buildDoubling 81 = .ok (.iload_n 2, 1) := by decide +kernel
theorem dX1_buildDoubling_82 : decode cX1_buildDoubling 82 = .ok (.iload_n 1, 1) := by decide +kernel
theorem dX1_buildDoubling_83 : decode cX1_buildDoubling 83 = .ok (.iadd, 1) := by decide +kernel
theorem dX1_buildDoubling_84 : decode cX1_buildDoubling 84 = .ok (.iconst 0, 1) := by decide +kernel
theorem dX1_buildDoubling_85 : decode cX1_buildDoubling 85 = .ok (.invokevirtual 68, 3) := by decide +kernel
theorem dX1_buildDoubling_88 : decode cX1_buildDoubling 88 = .ok (.iinc 2 1, 3) := by decide +kernel
theorem dX1_buildDoubling_91 : decode cX1_buildDoubling 91 = .ok (.goto (-26), 3) := by decide +kernel
theorem dX1_buildDoubling_94 : decode cX1_buildDoubling 94 = .ok (.iload_n 1, 1) := by decide +kernel
theorem dX1_buildDoubling_95 : decode cX1_buildDoubling 95 = .ok (.iconst 2, 1) := by decide +kernel
theorem dX1_buildDoubling_96 : decode cX1_buildDoubling 96 = .ok (.imul, 1) := by decide +kernel
theorem dX1_buildDoubling_97 : decode cX1_buildDoubling 97 = .ok (.istore_n 1, 1) := by decide +kernel
theorem dX1_buildDoubling_98 : decode cX1_buildDoubling 98 = .ok (.goto (-53), 3) := by decide +kernel
theorem dX1_buildDoubling_101 : decode cX1_buildDoubling 101 = .ok (.aload_n 0, 1) := by decide +kernel
theorem dX1_buildDoubling_102 : decode cX1_buildDoubling 102 = .ok (.getfield 46, 3) := by decide +kernel
theorem dX1_buildDoubling_105 : decode cX1_buildDoubling 105 = .ok (.ireturn, 1) := by decide +kernel
set_option maxRecDepth 20000 in
theorem ggX1_buildFourCore_X1_clear : GoodIn wsX1_buildFourCore wsX1_clear := goodIn_r _ [9, 10, 4, 23, 24, 25, 26, 27, 28, 29, 30, 31, 32, 33, 34, 35] (by decide +kernel) (by decide +kernel)
set_option maxRecDepth 20000 in
theorem gX1_buildFourCore_X1_clear : GoodIn wsX1_buildFourCore (wsV RX1 88 RX1 yX1_clear wsX1_clear) := goodIn_app (goodIn_of _ (by decide +kernel)) ggX1_buildFourCore_X1_clear
set_option maxRecDepth 20000 in
theorem ggX1_buildFourCore_X1_round : GoodIn wsX1_buildFourCore wsX1_round := goodIn_r _ [14, 10, 15, 16, 17, 8, 18, 19, 4, 20, 21, 22, 23, 24, 25, 26, 27, 28, 29, 30, 31, 32, 33, 34, 35] (by decide +kernel) (by decide +kernel)
set_option maxRecDepth 20000 in
theorem gX1_buildFourCore_X1_round : GoodIn wsX1_buildFourCore (wsV RX1 91 RX1 yX1_round wsX1_round) := goodIn_app (goodIn_of _ (by decide +kernel)) ggX1_buildFourCore_X1_round
set_option maxRecDepth 20000 in
theorem ggX1_buildFourCore_X1_lay : GoodIn wsX1_buildFourCore wsX1_lay := goodIn_r _ [18, 19, 4, 10, 20, 21, 22, 23, 24, 25, 26, 27, 28, 29, 30, 31, 32, 33, 34, 35] (by decide +kernel) (by decide +kernel)
set_option maxRecDepth 20000 in
theorem gX1_buildFourCore_X1_lay : GoodIn wsX1_buildFourCore (wsV RX1 68 RX1 yX1_lay wsX1_lay) := goodIn_app (goodIn_of _ (by decide +kernel)) ggX1_buildFourCore_X1_lay
theorem dX1_buildFourCore_0 : decode cX1_buildFourCore 0 = .ok (.aload_n 0, 1) := by decide +kernel
theorem dX1_buildFourCore_1 : decode cX1_buildFourCore 1 = .ok (.getfield 7, 3) := by decide +kernel
theorem dX1_buildFourCore_4 : decode cX1_buildFourCore 4 = .ok (.iconst 4, 1) := by decide +kernel
theorem dX1_buildFourCore_5 : decode cX1_buildFourCore 5 = .ok (.if_icmp .ge 6, 3) := by decide +kernel
theorem dX1_buildFourCore_8 : decode cX1_buildFourCore 8 = .ok (.bipush (-14), 2) := by decide +kernel
theorem dX1_buildFourCore_10 : decode cX1_buildFourCore 10 = .ok (.ireturn, 1) := by decide +kernel
theorem dX1_buildFourCore_11 : decode cX1_buildFourCore 11 = .ok (.aload_n 0, 1) := by decide +kernel
theorem dX1_buildFourCore_12 : decode cX1_buildFourCore 12 = .ok (.getfield 37, 3) := by decide +kernel
theorem dX1_buildFourCore_15 : decode cX1_buildFourCore 15 = .ok (.iconst 2, 1) := by decide +kernel
theorem dX1_buildFourCore_16 : decode cX1_buildFourCore 16 = .ok (.if_icmp .ne 6, 3) := by decide +kernel
theorem dX1_buildFourCore_19 : decode cX1_buildFourCore 19 = .ok (.bipush (-11), 2) := by decide +kernel
theorem dX1_buildFourCore_21 : decode cX1_buildFourCore 21 = .ok (.ireturn, 1) := by decide +kernel
theorem dX1_buildFourCore_22 : decode cX1_buildFourCore 22 = .ok (.aload_n 0, 1) := by decide +kernel
theorem dX1_buildFourCore_23 : decode cX1_buildFourCore 23 = .ok (.getfield 40, 3) := by decide +kernel
theorem dX1_buildFourCore_26 : decode cX1_buildFourCore 26 = .ok (.ifCond .eq 6, 3) := by decide +kernel
theorem dX1_buildFourCore_29 : decode cX1_buildFourCore 29 = .ok (.bipush (-10), 2) := by decide +kernel
theorem dX1_buildFourCore_31 : decode cX1_buildFourCore 31 = .ok (.ireturn, 1) := by decide +kernel
theorem dX1_buildFourCore_32 : decode cX1_buildFourCore 32 = .ok (.aload_n 0, 1) := by decide +kernel
theorem dX1_buildFourCore_33 : decode cX1_buildFourCore 33 = .ok (.invokevirtual 88, 3) := by decide +kernel
theorem dX1_buildFourCore_36 : decode cX1_buildFourCore 36 = .ok (.iconst 4, 1) := by decide +kernel
theorem dX1_buildFourCore_37 : decode cX1_buildFourCore 37 = .ok (.istore_n 1, 1) := by decide +kernel
theorem dX1_buildFourCore_38 : decode cX1_buildFourCore 38 = .ok (.iload_n 1, 1) := by decide +kernel
theorem dX1_buildFourCore_39 : decode cX1_buildFourCore 39 = .ok (.aload_n 0, 1) := by decide +kernel
theorem dX1_buildFourCore_40 : decode cX1_buildFourCore 40 = .ok (.getfield 7, 3) := by decide +kernel
theorem dX1_buildFourCore_43 : decode cX1_buildFourCore 43 = .ok (.if_icmp .ge 16, 3) := by decide +kernel
theorem dX1_buildFourCore_46 : decode cX1_buildFourCore 46 = .ok (.aload_n 0, 1) := by decide +kernel
theorem dX1_buildFourCore_47 : decode cX1_buildFourCore 47 = .ok (.iload_n 1, 1) := by decide +kernel
theorem dX1_buildFourCore_48 : decode cX1_buildFourCore 48 = .ok (.iconst 0, 1) := by decide +kernel
theorem dX1_buildFourCore_49 : decode cX1_buildFourCore 49 = .ok (.iconst 0, 1) := by decide +kernel
theorem dX1_buildFourCore_50 : decode cX1_buildFourCore 50 = .ok (.invokevirtual 91, 3) := by decide +kernel
theorem dX1_buildFourCore_53 : decode cX1_buildFourCore 53 = .ok (.iinc 1 1, 3) := by decide +kernel
theorem dX1_buildFourCore_56 : decode cX1_buildFourCore 56 = .ok (.goto (-18), 3) := by decide +kernel
theorem dX1_buildFourCore_59 : decode cX1_buildFourCore 59 = .ok (.aload_n 0, 1) := by decide +kernel
theorem dX1_buildFourCore_60 : decode cX1_buildFourCore 60 = .ok (.iconst 0, 1) := by decide +kernel
theorem dX1_buildFourCore_61 : decode cX1_buildFourCore 61 = .ok (.iconst 1, 1) := by decide +kernel
theorem dX1_buildFourCore_62 : decode cX1_buildFourCore 62 = .ok (.iconst 0, 1) := by decide +kernel
theorem dX1_buildFourCore_63 : decode cX1_buildFourCore 63 = .ok (.invokevirtual 91, 3) := by decide +kernel
theorem dX1_buildFourCore_66 : decode cX1_buildFourCore 66 = .ok (.aload_n 0, 1) := by decide +kernel
theorem dX1_buildFourCore_67 : decode cX1_buildFourCore 67 = .ok (.iconst 2, 1) := by decide +kernel
theorem dX1_buildFourCore_68 : decode cX1_buildFourCore 68 = .ok (.iconst 3, 1) := by decide +kernel
theorem dX1_buildFourCore_69 : decode cX1_buildFourCore 69 = .ok (.iconst 0, 1) := by decide +kernel
theorem dX1_buildFourCore_70 : decode cX1_buildFourCore 70 = .ok (.invokevirtual 68, 3) := by decide +kernel
theorem dX1_buildFourCore_73 : decode cX1_buildFourCore 73 = .ok (.aload_n 0, 1) := by decide +kernel
theorem dX1_buildFourCore_74 : decode cX1_buildFourCore 74 = .ok (.iconst 0, 1) := by decide +kernel
theorem dX1_buildFourCore_75 : decode cX1_buildFourCore 75 = .ok (.iconst 2, 1) := by decide +kernel
theorem dX1_buildFourCore_76 : decode cX1_buildFourCore 76 = .ok (.iconst 0, 1) := by decide +kernel
theorem dX1_buildFourCore_77 : decode cX1_buildFourCore 77 = .ok (.invokevirtual 91, 3) := by decide +kernel
theorem dX1_buildFourCore_80 : decode cX1_buildFourCore 80 = .ok (.aload_n 0, 1) := by decide +kernel
theorem dX1_buildFourCore_81 : decode cX1_buildFourCore 81 = .ok (.iconst 1, 1) := by decide +kernel
theorem dX1_buildFourCore_82 : decode cX1_buildFourCore 82 = .ok (.iconst 3, 1) := by decide +kernel
theorem dX1_buildFourCore_83 : decode cX1_buildFourCore 83 = .ok (.iconst 0, 1) := by decide +kernel
theorem dX1_buildFourCore_84 : decode cX1_buildFourCore 84 = .ok (.invokevirtual 68, 3) := by decide +kernel
theorem dX1_buildFourCore_87 : decode cX1_buildFourCore 87 = .ok (.iconst 4, 1) := by decide +kernel
theorem dX1_buildFourCore_88 : decode cX1_buildFourCore 88 = .ok (.istore_n 1, 1) := by decide +kernel
theorem dX1_buildFourCore_89 : decode cX1_buildFourCore 89 = .ok (.iload_n 1, 1) := by decide +kernel
theorem dX1_buildFourCore_90 : decode cX1_buildFourCore 90 = .ok (.aload_n 0, 1) := by decide +kernel
theorem dX1_buildFourCore_91 : decode cX1_buildFourCore 91 = .ok (.getfield 7, 3) := by decide +kernel
theorem dX1_buildFourCore_94 : decode cX1_buildFourCore 94 = .ok (.if_icmp .ge 16, 3) := by decide +kernel
theorem dX1_buildFourCore_97 : decode cX1_buildFourCore 97 = .ok (.aload_n 0, 1) := by decide +kernel
theorem dX1_buildFourCore_98 : decode cX1_buildFourCore 98 = .ok (.iconst 0, 1) := by decide +kernel
theorem dX1_buildFourCore_99 : decode cX1_buildFourCore 99 = .ok (.iload_n 1, 1) := by decide +kernel
theorem dX1_buildFourCore_100 : decode cX1_buildFourCore 100 = .ok (.iconst 0, 1) := by decide +kernel
theorem dX1_buildFourCore_101 : decode cX1_buildFourCore 101 = .ok (.invokevirtual 91, 3) := by decide +kernel
theorem dX1_buildFourCore_104 : decode cX1_buildFourCore 104 = .ok (.iinc 1 1, 3) := by decide +kernel
theorem dX1_buildFourCore_107 : decode cX1_buildFourCore 107 = .ok (.goto (-18), 3) := by decide +kernel
theorem dX1_buildFourCore_110 : decode cX1_buildFourCore 110 = .ok (.aload_n 0, 1) := by decide +kernel
theorem dX1_buildFourCore_111 : decode cX1_buildFourCore 111 = .ok (.getfield 46, 3) := by decide +kernel
theorem dX1_buildFourCore_114 : decode cX1_buildFourCore 114 = .ok (.ireturn, 1) := by decide +kernel
set_option maxRecDepth 20000 in
theorem ggX1_buildGatherSpread_X1_isEdge : GoodIn wsX1_buildGatherSpread wsX1_isEdge := goodIn_r _ [8, 9, 1, 27, 28, 29, 30, 31, 32, 33, 34, 35, 36, 37, 38, 39] (by decide +kernel) (by decide +kernel)
set_option maxRecDepth 20000 in
theorem gX1_buildGatherSpread_X1_isEdge : GoodIn wsX1_buildGatherSpread (wsV RX1 57 RX1 yX1_isEdge wsX1_isEdge) := goodIn_app (goodIn_of _ (by decide +kernel)) ggX1_buildGatherSpread_X1_isEdge
set_option maxRecDepth 20000 in
theorem ggX1_buildGatherSpread_X1_clear : GoodIn wsX1_buildGatherSpread wsX1_clear := goodIn_r _ [13, 14, 3, 27, 28, 29, 30, 31, 32, 33, 34, 35, 36, 37, 38, 39] (by decide +kernel) (by decide +kernel)
set_option maxRecDepth 20000 in
theorem gX1_buildGatherSpread_X1_clear : GoodIn wsX1_buildGatherSpread (wsV RX1 88 RX1 yX1_clear wsX1_clear) := goodIn_app (goodIn_of _ (by decide +kernel)) ggX1_buildGatherSpread_X1_clear
set_option maxRecDepth 20000 in
theorem ggX1_buildGatherSpread_X1_round : GoodIn wsX1_buildGatherSpread wsX1_round := goodIn_r _ [18, 14, 19, 20, 21, 7, 22, 23, 3, 24, 25, 26, 27, 28, 29, 30, 31, 32, 33, 34, 35, 36, 37, 38, 39] (by decide +kernel) (by decide +kernel)
set_option maxRecDepth 20000 in
theorem gX1_buildGatherSpread_X1_round : GoodIn wsX1_buildGatherSpread (wsV RX1 91 RX1 yX1_round wsX1_round) := goodIn_app (goodIn_of _ (by decide +kernel)) ggX1_buildGatherSpread_X1_round
theorem dX1_buildGatherSpread_0 : decode cX1_buildGatherSpread 0 = .ok (.iconst 1, 1) := by decide +kernel
theorem dX1_buildGatherSpread_1 : decode cX1_buildGatherSpread 1 = .ok (.istore_n 1, 1) := by decide +kernel
theorem dX1_buildGatherSpread_2 : decode cX1_buildGatherSpread 2 = .ok (.iconst 1, 1) := by decide +kernel
theorem dX1_buildGatherSpread_3 : decode cX1_buildGatherSpread 3 = .ok (.istore_n 2, 1) := by decide +kernel
theorem dX1_buildGatherSpread_4 : decode cX1_buildGatherSpread 4 = .ok (.iload_n 2, 1) := by decide +kernel
theorem dX1_buildGatherSpread_5 : decode cX1_buildGatherSpread 5 = .ok (.aload_n 0, 1) := by decide +kernel
theorem dX1_buildGatherSpread_6 : decode cX1_buildGatherSpread 6 = .ok (.getfield 7, 3) := by decide +kernel
theorem dX1_buildGatherSpread_9 : decode cX1_buildGatherSpread 9 = .ok (.if_icmp .ge 28, 3) := by decide +kernel
theorem dX1_buildGatherSpread_12 : decode cX1_buildGatherSpread 12 = .ok (.iload_n 1, 1) := by decide +kernel
theorem dX1_buildGatherSpread_13 : decode cX1_buildGatherSpread 13 = .ok (.ifCond .eq 16, 3) := by decide +kernel
theorem dX1_buildGatherSpread_16 : decode cX1_buildGatherSpread 16 = .ok (.aload_n 0, 1) := by decide +kernel
theorem dX1_buildGatherSpread_17 : decode cX1_buildGatherSpread 17 = .ok (.iconst 0, 1) := by decide +kernel
theorem dX1_buildGatherSpread_18 : decode cX1_buildGatherSpread 18 = .ok (.iload_n 2, 1) := by decide +kernel
theorem dX1_buildGatherSpread_19 : decode cX1_buildGatherSpread 19 = .ok (.invokevirtual 57, 3) := by decide +kernel
theorem dX1_buildGatherSpread_22 : decode cX1_buildGatherSpread 22 = .ok (.ifCond .eq 7, 3) := by decide +kernel
theorem dX1_buildGatherSpread_25 : decode cX1_buildGatherSpread 25 = .ok (.iconst 1, 1) := by decide +kernel
theorem dX1_buildGatherSpread_26 : decode cX1_buildGatherSpread 26 = .ok (.goto 4, 3) := by decide +kernel
theorem dX1_buildGatherSpread_29 : decode cX1_buildGatherSpread 29 = .ok (.iconst 0, 1) := by decide +kernel
theorem dX1_buildGatherSpread_30 : decode cX1_buildGatherSpread 30 = .ok (.istore_n 1, 1) := by decide +kernel
theorem dX1_buildGatherSpread_31 : decode cX1_buildGatherSpread 31 = .ok (.iinc 2 1, 3) := by decide +kernel
theorem dX1_buildGatherSpread_34 : decode cX1_buildGatherSpread 34 = .ok (.goto (-30), 3) := by decide +kernel
theorem dX1_buildGatherSpread_37 : decode cX1_buildGatherSpread 37 = .ok (.iload_n 1, 1) := by decide +kernel
theorem dX1_buildGatherSpread_38 : decode cX1_buildGatherSpread 38 = .ok (.ifCond .ne 6, 3) := by decide +kernel
theorem dX1_buildGatherSpread_41 : decode cX1_buildGatherSpread 41 = .ok (.bipush (-10), 2) := by decide +kernel
theorem dX1_buildGatherSpread_43 : decode cX1_buildGatherSpread 43 = .ok (.ireturn, 1) := by decide +kernel
theorem dX1_buildGatherSpread_44 : decode cX1_buildGatherSpread 44 = .ok (.aload_n 0, 1) := by decide +kernel
theorem dX1_buildGatherSpread_45 : decode cX1_buildGatherSpread 45 = .ok (.invokevirtual 88, 3) := by decide +kernel
theorem dX1_buildGatherSpread_48 : decode cX1_buildGatherSpread 48 = .ok (.aload_n 0, 1) := by decide +kernel
theorem dX1_buildGatherSpread_49 : decode cX1_buildGatherSpread 49 = .ok (.getfield 37, 3) := by decide +kernel
theorem dX1_buildGatherSpread_52 : decode cX1_buildGatherSpread 52 = .ok (.iconst 2, 1) := by decide +kernel
theorem dX1_buildGatherSpread_53 : decode cX1_buildGatherSpread 53 = .ok (.if_icmp .ne 7, 3) := by decide +kernel
theorem dX1_buildGatherSpread_56 : decode cX1_buildGatherSpread 56 = .ok (.iconst 1, 1) := by decide +kernel
theorem dX1_buildGatherSpread_57 : decode cX1_buildGatherSpread 57 = .ok (.goto 4, 3) := by decide +kernel
theorem dX1_buildGatherSpread_60 : decode cX1_buildGatherSpread 60 = .ok (.iconst 0, 1) := by decide +kernel
theorem dX1_buildGatherSpread_61 : decode cX1_buildGatherSpread 61 = .ok (.istore_n 2, 1) := by decide +kernel
theorem dX1_buildGatherSpread_62 : decode cX1_buildGatherSpread 62 = .ok (.iconst 1, 1) := by decide +kernel
theorem dX1_buildGatherSpread_63 : decode cX1_buildGatherSpread 63 = .ok (.istore_n 3, 1) := by decide +kernel
theorem dX1_buildGatherSpread_64 : decode cX1_buildGatherSpread 64 = .ok (.iload_n 3, 1) := by decide +kernel
theorem dX1_buildGatherSpread_65 : decode cX1_buildGatherSpread 65 = .ok (.aload_n 0, 1) := by decide +kernel
theorem dX1_buildGatherSpread_66 : decode cX1_buildGatherSpread 66 = .ok (.getfield 7, 3) := by decide +kernel
theorem dX1_buildGatherSpread_69 : decode cX1_buildGatherSpread 69 = .ok (.if_icmp .ge 16, 3) := by decide +kernel
theorem dX1_buildGatherSpread_72 : decode cX1_buildGatherSpread 72 = .ok (.aload_n 0, 1) := by decide +kernel
theorem dX1_buildGatherSpread_73 : decode cX1_buildGatherSpread 73 = .ok (.iload_n 3, 1) := by decide +kernel
theorem dX1_buildGatherSpread_74 : decode cX1_buildGatherSpread 74 = .ok (.iconst 0, 1) := by decide +kernel
theorem dX1_buildGatherSpread_75 : decode cX1_buildGatherSpread 75 = .ok (.iload_n 2, 1) := by decide +kernel
theorem dX1_buildGatherSpread_76 : decode cX1_buildGatherSpread 76 = .ok (.invokevirtual 91, 3) := by decide +kernel
theorem dX1_buildGatherSpread_79 : decode cX1_buildGatherSpread 79 = .ok (.iinc 3 1, 3) := by decide +kernel
theorem dX1_buildGatherSpread_82 : decode cX1_buildGatherSpread 82 = .ok (.goto (-18), 3) := by decide +kernel
theorem dX1_buildGatherSpread_85 : decode cX1_buildGatherSpread 85 = .ok (.iconst 1, 1) := by decide +kernel
theorem dX1_buildGatherSpread_86 : decode cX1_buildGatherSpread 86 = .ok (.istore_n 3, 1) := by decide +kernel
theorem dX1_buildGatherSpread_87 : decode cX1_buildGatherSpread 87 = .ok (.iload_n 3, 1) := by decide +kernel
theorem dX1_buildGatherSpread_88 : decode cX1_buildGatherSpread 88 = .ok (.iload_n 2, 1) := by decide +kernel
theorem dX1_buildGatherSpread_89 : decode cX1_buildGatherSpread 89 = .ok (.ifCond .eq 10, 3) := by decide +kernel
theorem dX1_buildGatherSpread_92 : decode cX1_buildGatherSpread 92 = .ok (.aload_n 0, 1) := by decide +kernel
theorem dX1_buildGatherSpread_93 : decode cX1_buildGatherSpread 93 = .ok (.getfield 7, 3) := by decide +kernel
theorem dX1_buildGatherSpread_96 : decode cX1_buildGatherSpread 96 = .ok (.goto 9, 3) := by decide +kernel
theorem dX1_buildGatherSpread_99 : decode cX1_buildGatherSpread 99 = .ok (.aload_n 0, 1) := by decide +kernel
theorem dX1_buildGatherSpread_100 : decode cX1_buildGatherSpread 100 = .ok (.getfield 7, 3) := by decide +kernel
theorem dX1_buildGatherSpread_103 : decode cX1_buildGatherSpread 103 = .ok (.iconst 1, 1) := by decide +kernel
theorem dX1_buildGatherSpread_104 : decode cX1_buildGatherSpread 104 = .ok (.isub, 1) := by decide +kernel
theorem dX1_buildGatherSpread_105 : decode cX1_buildGatherSpread 105 = .ok (.if_icmp .ge 16, 3) := by decide +kernel
theorem dX1_buildGatherSpread_108 : decode cX1_buildGatherSpread 108 = .ok (.aload_n 0, 1) := by decide +kernel
theorem dX1_buildGatherSpread_109 : decode cX1_buildGatherSpread 109 = .ok (.iconst 0, 1) := by decide +kernel
theorem dX1_buildGatherSpread_110 : decode cX1_buildGatherSpread 110 = .ok (.iload_n 3, 1) := by decide +kernel
theorem dX1_buildGatherSpread_111 : decode cX1_buildGatherSpread 111 = .ok (.iload_n 2, 1) := by decide +kernel
theorem dX1_buildGatherSpread_112 : decode cX1_buildGatherSpread 112 = .ok (.invokevirtual 91, 3) := by decide +kernel
theorem dX1_buildGatherSpread_115 : decode cX1_buildGatherSpread 115 = .ok (.iinc 3 1, 3) := by decide +kernel
theorem dX1_buildGatherSpread_118 : decode cX1_buildGatherSpread 118 = .ok (.goto (-31), 3) := by decide +kernel
theorem dX1_buildGatherSpread_121 : decode cX1_buildGatherSpread 121 = .ok (.aload_n 0, 1) := by decide +kernel
theorem dX1_buildGatherSpread_122 : decode cX1_buildGatherSpread 122 = .ok (.getfield 46, 3) := by decide +kernel
theorem dX1_buildGatherSpread_125 : decode cX1_buildGatherSpread 125 = .ok (.ireturn, 1) := by decide +kernel
theorem dX1_personCount_0 : decode cX1_personCount 0 = .ok (.aload_n 0, 1) := by decide +kernel
theorem dX1_personCount_1 : decode cX1_personCount 1 = .ok (.getfield 7, 3) := by decide +kernel
theorem dX1_personCount_4 : decode cX1_personCount 4 = .ok (.ireturn, 1) := by decide +kernel
theorem dX1_roundCount_0 : decode cX1_roundCount 0 = .ok (.aload_n 0, 1) := by decide +kernel
theorem dX1_roundCount_1 : decode cX1_roundCount 1 = .ok (.getfield 43, 3) := by decide +kernel
theorem dX1_roundCount_4 : decode cX1_roundCount 4 = .ok (.ireturn, 1) := by decide +kernel
theorem dX1_callCount_0 : decode cX1_callCount 0 = .ok (.aload_n 0, 1) := by decide +kernel
theorem dX1_callCount_1 : decode cX1_callCount 1 = .ok (.getfield 46, 3) := by decide +kernel
theorem dX1_callCount_4 : decode cX1_callCount 4 = .ok (.ireturn, 1) := by decide +kernel
set_option maxRecDepth 20000 in
theorem ggX1_isCall_X1_within : GoodIn wsX1_isCall wsX1_within := goodIn_r _ [5] (by decide +kernel) (by decide +kernel)
set_option maxRecDepth 20000 in
theorem gX1_isCall_X1_within : GoodIn wsX1_isCall (va_wsS RX1 33 yX1_within wsX1_within) := goodIn_app (goodIn_of _ (by decide +kernel)) ggX1_isCall_X1_within
theorem dX1_isCall_0 : decode cX1_isCall 0 = .ok (.iload_n 1, 1) := by decide +kernel
theorem dX1_isCall_1 : decode cX1_isCall 1 = .ok (.iconst 0, 1) := by decide +kernel
theorem dX1_isCall_2 : decode cX1_isCall 2 = .ok (.aload_n 0, 1) := by decide +kernel
theorem dX1_isCall_3 : decode cX1_isCall 3 = .ok (.getfield 46, 3) := by decide +kernel
theorem dX1_isCall_6 : decode cX1_isCall 6 = .ok (.iconst 1, 1) := by decide +kernel
theorem dX1_isCall_7 : decode cX1_isCall 7 = .ok (.isub, 1) := by decide +kernel
theorem dX1_isCall_8 : decode cX1_isCall 8 = .ok (.invokestatic 33, 3) := by decide +kernel
theorem dX1_isCall_11 : decode cX1_isCall 11 = .ok (.ireturn, 1) := by decide +kernel
theorem dX1_described_0 : decode cX1_described 0 = .ok (.sipush 1000, 3) := by decide +kernel
theorem dX1_described_3 : decode cX1_described 3 = .ok (.aload_n 0, 1) := by decide +kernel
theorem dX1_described_4 : decode cX1_described 4 = .ok (.getfield 13, 3) := by decide +kernel
theorem dX1_described_7 : decode cX1_described 7 = .ok (.iload_n 1, 1) := by decide +kernel
theorem dX1_described_8 : decode cX1_described 8 = .ok (.iaload, 1) := by decide +kernel
theorem dX1_described_9 : decode cX1_described 9 = .ok (.imul, 1) := by decide +kernel
theorem dX1_described_10 : decode cX1_described 10 = .ok (.aload_n 0, 1) := by decide +kernel
theorem dX1_described_11 : decode cX1_described 11 = .ok (.getfield 23, 3) := by decide +kernel
theorem dX1_described_14 : decode cX1_described 14 = .ok (.iload_n 1, 1) := by decide +kernel
theorem dX1_described_15 : decode cX1_described 15 = .ok (.baload, 1) := by decide +kernel
theorem dX1_described_16 : decode cX1_described 16 = .ok (.ifCond .eq 8, 3) := by decide +kernel
theorem dX1_described_19 : decode cX1_described 19 = .ok (.bipush 100, 2) := by decide +kernel
theorem dX1_described_21 : decode cX1_described 21 = .ok (.goto 4, 3) := by decide +kernel
theorem dX1_described_24 : decode cX1_described 24 = .ok (.iconst 0, 1) := by decide +kernel
theorem dX1_described_25 : decode cX1_described 25 = .ok (.iadd, 1) := by decide +kernel
theorem dX1_described_26 : decode cX1_described 26 = .ok (.bipush 10, 2) := by decide +kernel
theorem dX1_described_28 : decode cX1_described 28 = .ok (.aload_n 0, 1) := by decide +kernel
theorem dX1_described_29 : decode cX1_described 29 = .ok (.getfield 17, 3) := by decide +kernel
theorem dX1_described_32 : decode cX1_described 32 = .ok (.iload_n 1, 1) := by decide +kernel
theorem dX1_described_33 : decode cX1_described 33 = .ok (.iaload, 1) := by decide +kernel
theorem dX1_described_34 : decode cX1_described 34 = .ok (.imul, 1) := by decide +kernel
theorem dX1_described_35 : decode cX1_described 35 = .ok (.iadd, 1) := by decide +kernel
theorem dX1_described_36 : decode cX1_described 36 = .ok (.aload_n 0, 1) := by decide +kernel
theorem dX1_described_37 : decode cX1_described 37 = .ok (.getfield 20, 3) := by decide +kernel
theorem dX1_described_40 : decode cX1_described 40 = .ok (.iload_n 1, 1) := by decide +kernel
theorem dX1_described_41 : decode cX1_described 41 = .ok (.iaload, 1) := by decide +kernel
theorem dX1_described_42 : decode cX1_described 42 = .ok (.iadd, 1) := by decide +kernel
theorem dX1_described_43 : decode cX1_described 43 = .ok (.ireturn, 1) := by decide +kernel
set_option maxRecDepth 20000 in
theorem ggX1_describeCall_X1_isCall : GoodIn wsX1_describeCall wsX1_isCall := goodIn_r _ [5, 6, 7, 8, 4, 9, 18, 19, 20, 21, 22, 23, 24, 25, 26, 27, 28, 29, 30] (by decide +kernel) (by decide +kernel)
set_option maxRecDepth 20000 in
theorem gX1_describeCall_X1_isCall : GoodIn wsX1_describeCall (wsV RX1 94 RX1 yX1_isCall wsX1_isCall) := goodIn_app (goodIn_of _ (by decide +kernel)) ggX1_describeCall_X1_isCall
set_option maxRecDepth 20000 in
theorem ggX1_describeCall_X1_described : GoodIn wsX1_describeCall wsX1_described := goodIn_r _ [13, 14, 15, 16, 17, 18, 19, 20, 21, 22, 23, 24, 25, 26, 27, 28, 29, 30] (by decide +kernel) (by decide +kernel)
set_option maxRecDepth 20000 in
theorem gX1_describeCall_X1_described : GoodIn wsX1_describeCall (wsV RX1 97 RX1 yX1_described wsX1_described) := goodIn_app (goodIn_of _ (by decide +kernel)) ggX1_describeCall_X1_described
theorem dX1_describeCall_0 : decode cX1_describeCall 0 = .ok (.aload_n 0, 1) := by decide +kernel
theorem dX1_describeCall_1 : decode cX1_describeCall 1 = .ok (.iload_n 1, 1) := by decide +kernel
theorem dX1_describeCall_2 : decode cX1_describeCall 2 = .ok (.invokevirtual 94, 3) := by decide +kernel
theorem dX1_describeCall_5 : decode cX1_describeCall 5 = .ok (.ifCond .eq 11, 3) := by decide +kernel
theorem dX1_describeCall_8 : decode cX1_describeCall 8 = .ok (.aload_n 0, 1) := by decide +kernel
theorem dX1_describeCall_9 : decode cX1_describeCall 9 = .ok (.iload_n 1, 1) := by decide +kernel
theorem dX1_describeCall_10 : decode cX1_describeCall 10 = .ok (.invokevirtual 97, 3) := by decide +kernel
theorem dX1_describeCall_13 : decode cX1_describeCall 13 = .ok (.goto 5, 3) := by decide +kernel
theorem dX1_describeCall_16 : decode cX1_describeCall 16 = .ok (.bipush (-7), 2) := by decide +kernel
theorem dX1_describeCall_18 : decode cX1_describeCall 18 = .ok (.ireturn, 1) := by decide +kernel
theorem dX1_begin_0 : decode cX1_begin 0 = .ok (.iconst 0, 1) := by decide +kernel
theorem dX1_begin_1 : decode cX1_begin 1 = .ok (.istore_n 1, 1) := by decide +kernel
theorem dX1_begin_2 : decode cX1_begin 2 = .ok (.iload_n 1, 1) := by decide +kernel
theorem dX1_begin_3 : decode cX1_begin 3 = .ok (.bipush 8, 2) := by decide +kernel
theorem dX1_begin_5 : decode cX1_begin 5 = .ok (.if_icmp .ge 18, 3) := by decide +kernel
theorem dX1_begin_8 : decode cX1_begin 8 = .ok (.aload_n 0, 1) := by decide +kernel
theorem dX1_begin_9 : decode cX1_begin 9 = .ok (.getfield 30, 3) := by decide +kernel
theorem dX1_begin_12 : decode cX1_begin 12 = .ok (.iload_n 1, 1) := by decide +kernel
theorem dX1_begin_13 : decode cX1_begin 13 = .ok (.iconst 1, 1) := by decide +kernel
theorem dX1_begin_14 : decode cX1_begin 14 = .ok (.iload_n 1, 1) := by decide +kernel
theorem dX1_begin_15 : decode cX1_begin 15 = .ok (.ishl, 1) := by decide +kernel
theorem dX1_begin_16 : decode cX1_begin 16 = .ok (.iastore, 1) := by decide +kernel
theorem dX1_begin_17 : decode cX1_begin 17 = .ok (.iinc 1 1, 3) := by decide +kernel
theorem dX1_begin_20 : decode cX1_begin 20 = .ok (.goto (-18), 3) := by decide +kernel
theorem dX1_begin_23 : decode cX1_begin 23 = .ok (.return_, 1) := by decide +kernel
theorem dX1_happens_0 : decode cX1_happens 0 = .ok (.aload_n 0, 1) := by decide +kernel
theorem dX1_happens_1 : decode cX1_happens 1 = .ok (.getfield 17, 3) := by decide +kernel
theorem dX1_happens_4 : decode cX1_happens 4 = .ok (.iload_n 1, 1) := by decide +kernel
theorem dX1_happens_5 : decode cX1_happens 5 = .ok (.iaload, 1) := by decide +kernel
theorem dX1_happens_6 : decode cX1_happens 6 = .ok (.istore_n 2, 1) := by decide +kernel
theorem dX1_happens_7 : decode cX1_happens 7 = .ok (.aload_n 0, 1) := by decide +kernel
theorem dX1_happens_8 : decode cX1_happens 8 = .ok (.getfield 20, 3) := by decide +kernel
theorem dX1_happens_11 : decode cX1_happens 11 = .ok (.iload_n 1, 1) := by decide +kernel
theorem dX1_happens_12 : decode cX1_happens 12 = .ok (.iaload, 1) := by decide +kernel
theorem dX1_happens_13 : decode cX1_happens 13 = .ok (.istore_n 3, 1) := by decide +kernel
theorem dX1_happens_14 : decode cX1_happens 14 = .ok (.aload_n 0, 1) := by decide +kernel
theorem dX1_happens_15 : decode cX1_happens 15 = .ok (.getfield 30, 3) := by decide +kernel
theorem dX1_happens_18 : decode cX1_happens 18 = .ok (.iload_n 2, 1) := by decide +kernel
theorem dX1_happens_19 : decode cX1_happens 19 = .ok (.iaload, 1) := by decide +kernel
theorem dX1_happens_20 : decode cX1_happens 20 = .ok (.aload_n 0, 1) := by decide +kernel
theorem dX1_happens_21 : decode cX1_happens 21 = .ok (.getfield 30, 3) := by decide +kernel
theorem dX1_happens_24 : decode cX1_happens 24 = .ok (.iload_n 3, 1) := by decide +kernel
theorem dX1_happens_25 : decode cX1_happens 25 = .ok (.iaload, 1) := by decide +kernel
theorem dX1_happens_26 : decode cX1_happens 26 = .ok (.ior, 1) := by decide +kernel
theorem dX1_happens_27 : decode cX1_happens 27 = .ok (.istore 4, 2) := by decide +kernel
theorem dX1_happens_29 : decode cX1_happens 29 = .ok (.aload_n 0, 1) := by decide +kernel
theorem dX1_happens_30 : decode cX1_happens 30 = .ok (.getfield 30, 3) := by decide +kernel
theorem dX1_happens_33 : decode cX1_happens 33 = .ok (.iload_n 3, 1) := by decide +kernel
theorem dX1_happens_34 : decode cX1_happens 34 = .ok (.iaload, 1) := by decide +kernel
theorem dX1_happens_35 : decode cX1_happens 35 = .ok (.iload 4, 2) := by decide +kernel
theorem dX1_happens_37 : decode cX1_happens 37 = .ok (.if_icmp .ne 23, 3) := by decide +kernel
theorem dX1_happens_40 : decode cX1_happens 40 = .ok (.aload_n 0, 1) := by decide +kernel
theorem dX1_happens_41 : decode cX1_happens 41 = .ok (.getfield 23, 3) := by decide +kernel
theorem dX1_happens_44 : decode cX1_happens 44 = .ok (.iload_n 1, 1) := by decide +kernel
theorem dX1_happens_45 : decode cX1_happens 45 = .ok (.baload, 1) := by decide +kernel
theorem dX1_happens_46 : decode cX1_happens 46 = .ok (.ifCond .ne 18, 3) := by decide +kernel
theorem dX1_happens_49 : decode cX1_happens 49 = .ok (.aload_n 0, 1) := by decide +kernel
theorem dX1_happens_50 : decode cX1_happens 50 = .ok (.getfield 30, 3) := by decide +kernel
theorem dX1_happens_53 : decode cX1_happens 53 = .ok (.iload_n 2, 1) := by decide +kernel
theorem dX1_happens_54 : decode cX1_happens 54 = .ok (.iaload, 1) := by decide +kernel
theorem dX1_happens_55 : decode cX1_happens 55 = .ok (.iload 4, 2) := by decide +kernel
theorem dX1_happens_57 : decode cX1_happens 57 = .ok (.if_icmp .eq 7, 3) := by decide +kernel
theorem dX1_happens_60 : decode cX1_happens 60 = .ok (.iconst 1, 1) := by decide +kernel
theorem dX1_happens_61 : decode cX1_happens 61 = .ok (.goto 4, 3) := by decide +kernel
theorem dX1_happens_64 : decode cX1_happens 64 = .ok (.iconst 0, 1) := by decide +kernel
theorem dX1_happens_65 : decode cX1_happens 65 = .ok (.istore 5, 2) := by decide +kernel
theorem dX1_happens_67 : decode cX1_happens 67 = .ok (.aload_n 0, 1) := by decide +kernel
theorem dX1_happens_68 : decode cX1_happens 68 = .ok (.getfield 30, 3) := by decide +kernel
theorem dX1_happens_71 : decode cX1_happens 71 = .ok (.iload_n 3, 1) := by decide +kernel
theorem dX1_happens_72 : decode cX1_happens 72 = .ok (.iload 4, 2) := by decide +kernel
theorem dX1_happens_74 : decode cX1_happens 74 = .ok (.iastore, 1) := by decide +kernel
theorem dX1_happens_75 : decode cX1_happens 75 = .ok (.aload_n 0, 1) := by decide +kernel
theorem dX1_happens_76 : decode cX1_happens 76 = .ok (.getfield 30, 3) := by decide +kernel
theorem dX1_happens_79 : decode cX1_happens 79 = .ok (.iload_n 2, 1) := by decide +kernel
theorem dX1_happens_80 : decode cX1_happens 80 = .ok (.aload_n 0, 1) := by decide +kernel
theorem dX1_happens_81 : decode cX1_happens 81 = .ok (.getfield 23, 3) := by decide +kernel
theorem dX1_happens_84 : decode cX1_happens 84 = .ok (.iload_n 1, 1) := by decide +kernel
theorem dX1_happens_85 : decode cX1_happens 85 = .ok (.baload, 1) := by decide +kernel
theorem dX1_happens_86 : decode cX1_happens 86 = .ok (.ifCond .eq 12, 3) := by decide +kernel
theorem dX1_happens_89 : decode cX1_happens 89 = .ok (.aload_n 0, 1) := by decide +kernel
theorem dX1_happens_90 : decode cX1_happens 90 = .ok (.getfield 30, 3) := by decide +kernel
theorem dX1_happens_93 : decode cX1_happens 93 = .ok (.iload_n 2, 1) := by decide +kernel
theorem dX1_happens_94 : decode cX1_happens 94 = .ok (.iaload, 1) := by decide +kernel
theorem dX1_happens_95 : decode cX1_happens 95 = .ok (.goto 5, 3) := by decide +kernel
theorem dX1_happens_98 : decode cX1_happens 98 = .ok (.iload 4, 2) := by decide +kernel
theorem dX1_happens_100 : decode cX1_happens 100 = .ok (.iastore, 1) := by decide +kernel
theorem dX1_happens_101 : decode cX1_happens 101 = .ok (.iload 5, 2) := by decide +kernel
theorem dX1_happens_103 : decode cX1_happens 103 = .ok (.ireturn, 1) := by decide +kernel
set_option maxRecDepth 20000 in
theorem ggX1_afterRounds_X1_begin : GoodIn wsX1_afterRounds wsX1_begin := goodIn_r _ [7, 8, 16, 17, 18, 19, 20, 21, 22, 23, 24, 25, 26, 27, 28] (by decide +kernel) (by decide +kernel)
set_option maxRecDepth 20000 in
theorem gX1_afterRounds_X1_begin : GoodIn wsX1_afterRounds (wsV RX1 101 RX1 yX1_begin wsX1_begin) := goodIn_app (goodIn_of _ (by decide +kernel)) ggX1_afterRounds_X1_begin
set_option maxRecDepth 20000 in
theorem ggX1_afterRounds_X1_happens : GoodIn wsX1_afterRounds wsX1_happens := goodIn_r _ [12, 13, 14, 8, 15, 16, 17, 18, 19, 20, 21, 22, 23, 24, 25, 26, 27, 28] (by decide +kernel) (by decide +kernel)
set_option maxRecDepth 20000 in
theorem gX1_afterRounds_X1_happens : GoodIn wsX1_afterRounds (wsV RX1 104 RX1 yX1_happens wsX1_happens) := goodIn_app (goodIn_of _ (by decide +kernel)) ggX1_afterRounds_X1_happens
theorem dX1_afterRounds_0 : decode cX1_afterRounds 0 = .ok (.aload_n 0, 1) := by decide +kernel
theorem dX1_afterRounds_1 : decode cX1_afterRounds 1 = .ok (.invokevirtual 101, 3) := by decide +kernel
theorem dX1_afterRounds_4 : decode cX1_afterRounds 4 = .ok (.iconst 0, 1) := by decide +kernel
theorem dX1_afterRounds_5 : decode cX1_afterRounds 5 = .ok (.istore_n 2, 1) := by decide +kernel
theorem dX1_afterRounds_6 : decode cX1_afterRounds 6 = .ok (.iload_n 2, 1) := by decide +kernel
theorem dX1_afterRounds_7 : decode cX1_afterRounds 7 = .ok (.aload_n 0, 1) := by decide +kernel
theorem dX1_afterRounds_8 : decode cX1_afterRounds 8 = .ok (.getfield 46, 3) := by decide +kernel
theorem dX1_afterRounds_11 : decode cX1_afterRounds 11 = .ok (.if_icmp .ge 25, 3) := by decide +kernel
theorem dX1_afterRounds_14 : decode cX1_afterRounds 14 = .ok (.aload_n 0, 1) := by decide +kernel
theorem dX1_afterRounds_15 : decode cX1_afterRounds 15 = .ok (.getfield 13, 3) := by decide +kernel
theorem dX1_afterRounds_18 : decode cX1_afterRounds 18 = .ok (.iload_n 2, 1) := by decide +kernel
theorem dX1_afterRounds_19 : decode cX1_afterRounds 19 = .ok (.iaload, 1) := by decide +kernel
theorem dX1_afterRounds_20 : decode cX1_afterRounds 20 = .ok (.iload_n 1, 1) := by decide +kernel
theorem dX1_afterRounds_21 : decode cX1_afterRounds 21 = .ok (.if_icmp .ge 15, 3) := by decide +kernel
theorem dX1_afterRounds_24 : decode cX1_afterRounds 24 = .ok (.aload_n 0, 1) := by decide +kernel
theorem dX1_afterRounds_25 : decode cX1_afterRounds 25 = .ok (.iload_n 2, 1) := by decide +kernel
theorem dX1_afterRounds_26 : decode cX1_afterRounds 26 = .ok (.invokevirtual 104, 3) := by decide +kernel
theorem dX1_afterRounds_29 : decode cX1_afterRounds 29 = .ok (.pop, 1) := by decide +kernel
theorem dX1_afterRounds_30 : decode cX1_afterRounds 30 = .ok (.iinc 2 1, 3) := by decide +kernel
theorem dX1_afterRounds_33 : decode cX1_afterRounds 33 = .ok (.goto (-27), 3) := by decide +kernel
theorem dX1_afterRounds_36 : decode cX1_afterRounds 36 = .ok (.return_, 1) := by decide +kernel
theorem dX1_isKnown_0 : decode cX1_isKnown 0 = .ok (.iconst 1, 1) := by decide +kernel
theorem dX1_isKnown_1 : decode cX1_isKnown 1 = .ok (.istore_n 1, 1) := by decide +kernel
theorem dX1_isKnown_2 : decode cX1_isKnown 2 = .ok (.iconst 0, 1) := by decide +kernel
theorem dX1_isKnown_3 : decode cX1_isKnown 3 = .ok (.istore_n 2, 1) := by decide +kernel
theorem dX1_isKnown_4 : decode cX1_isKnown 4 = .ok (.iload_n 2, 1) := by decide +kernel
theorem dX1_isKnown_5 : decode cX1_isKnown 5 = .ok (.aload_n 0, 1) := by decide +kernel
theorem dX1_isKnown_6 : decode cX1_isKnown 6 = .ok (.getfield 7, 3) := by decide +kernel
theorem dX1_isKnown_9 : decode cX1_isKnown 9 = .ok (.if_icmp .ge 36, 3) := by decide +kernel
theorem dX1_isKnown_12 : decode cX1_isKnown 12 = .ok (.iload_n 1, 1) := by decide +kernel
theorem dX1_isKnown_13 : decode cX1_isKnown 13 = .ok (.ifCond .eq 24, 3) := by decide +kernel
theorem dX1_isKnown_16 : decode cX1_isKnown 16 = .ok (.aload_n 0, 1) := by decide +kernel
theorem dX1_isKnown_17 : decode cX1_isKnown 17 = .ok (.getfield 30, 3) := by decide +kernel
theorem dX1_isKnown_20 : decode cX1_isKnown 20 = .ok (.iload_n 2, 1) := by decide +kernel
theorem dX1_isKnown_21 : decode cX1_isKnown 21 = .ok (.iaload, 1) := by decide +kernel
theorem dX1_isKnown_22 : decode cX1_isKnown 22 = .ok (.iconst 1, 1) := by decide +kernel
theorem dX1_isKnown_23 : decode cX1_isKnown 23 = .ok (.aload_n 0, 1) := by decide +kernel
theorem dX1_isKnown_24 : decode cX1_isKnown 24 = .ok (.getfield 7, 3) := by decide +kernel
theorem dX1_isKnown_27 : decode cX1_isKnown 27 = .ok (.ishl, 1) := by decide +kernel
theorem dX1_isKnown_28 : decode cX1_isKnown 28 = .ok (.iconst 1, 1) := by decide +kernel
theorem dX1_isKnown_29 : decode cX1_isKnown 29 = .ok (.isub, 1) := by decide +kernel
theorem dX1_isKnown_30 : decode cX1_isKnown 30 = .ok (.if_icmp .ne 7, 3) := by decide +kernel
theorem dX1_isKnown_33 : decode cX1_isKnown 33 = .ok (.iconst 1, 1) := by decide +kernel
theorem dX1_isKnown_34 : decode cX1_isKnown 34 = .ok (.goto 4, 3) := by decide +kernel
theorem dX1_isKnown_37 : decode cX1_isKnown 37 = .ok (.iconst 0, 1) := by decide +kernel
theorem dX1_isKnown_38 : decode cX1_isKnown 38 = .ok (.istore_n 1, 1) := by decide +kernel
theorem dX1_isKnown_39 : decode cX1_isKnown 39 = .ok (.iinc 2 1, 3) := by decide +kernel
theorem dX1_isKnown_42 : decode cX1_isKnown 42 = .ok (.goto (-38), 3) := by decide +kernel
theorem dX1_isKnown_45 : decode cX1_isKnown 45 = .ok (.iload_n 1, 1) := by decide +kernel
theorem dX1_isKnown_46 : decode cX1_isKnown 46 = .ok (.ireturn, 1) := by decide +kernel
set_option maxRecDepth 20000 in
theorem ggX1_knowledge_X1_isPerson : GoodIn wsX1_knowledge wsX1_isPerson := goodIn_r _ [7, 8, 9, 10, 6, 11, 29, 30, 31, 32, 33, 34, 35, 36, 37, 38, 39, 40, 41] (by decide +kernel) (by decide +kernel)
set_option maxRecDepth 20000 in
theorem gX1_knowledge_X1_isPerson : GoodIn wsX1_knowledge (wsV RX1 53 RX1 yX1_isPerson wsX1_isPerson) := goodIn_app (goodIn_of _ (by decide +kernel)) ggX1_knowledge_X1_isPerson
set_option maxRecDepth 20000 in
theorem ggX1_knowledge_X1_within : GoodIn wsX1_knowledge wsX1_within := goodIn_r _ [11] (by decide +kernel) (by decide +kernel)
set_option maxRecDepth 20000 in
theorem gX1_knowledge_X1_within : GoodIn wsX1_knowledge (va_wsS RX1 33 yX1_within wsX1_within) := goodIn_app (goodIn_of _ (by decide +kernel)) ggX1_knowledge_X1_within
set_option maxRecDepth 20000 in
theorem ggX1_knowledge_X1_afterRounds : GoodIn wsX1_knowledge wsX1_afterRounds := goodIn_r _ [15, 16, 17, 18, 19, 20, 6, 21, 2, 22, 23, 24, 25, 26, 27, 28, 29, 30, 31, 32, 33, 34, 35, 36, 37, 38, 39, 40, 41] (by decide +kernel) (by decide +kernel)
set_option maxRecDepth 20000 in
theorem gX1_knowledge_X1_afterRounds : GoodIn wsX1_knowledge (wsV RX1 107 RX1 yX1_afterRounds wsX1_afterRounds) := goodIn_app (goodIn_of _ (by decide +kernel)) ggX1_knowledge_X1_afterRounds
theorem dX1_knowledge_0 : decode cX1_knowledge 0 = .ok (.aload_n 0, 1) := by decide +kernel
theorem dX1_knowledge_1 : decode cX1_knowledge 1 = .ok (.iload_n 1, 1) := by decide +kernel
theorem dX1_knowledge_2 : decode cX1_knowledge 2 = .ok (.invokevirtual 53, 3) := by decide +kernel
theorem dX1_knowledge_5 : decode cX1_knowledge 5 = .ok (.ifCond .ne 6, 3) := by decide +kernel
theorem dX1_knowledge_8 : decode cX1_knowledge 8 = .ok (.bipush (-6), 2) := by decide +kernel
theorem dX1_knowledge_10 : decode cX1_knowledge 10 = .ok (.ireturn, 1) := by decide +kernel
theorem dX1_knowledge_11 : decode cX1_knowledge 11 = .ok (.iload_n 2, 1) := by decide +kernel
theorem dX1_knowledge_12 : decode cX1_knowledge 12 = .ok (.iconst 0, 1) := by decide +kernel
theorem dX1_knowledge_13 : decode cX1_knowledge 13 = .ok (.aload_n 0, 1) := by decide +kernel
theorem dX1_knowledge_14 : decode cX1_knowledge 14 = .ok (.getfield 43, 3) := by decide +kernel
theorem dX1_knowledge_17 : decode cX1_knowledge 17 = .ok (.invokestatic 33, 3) := by decide +kernel
theorem dX1_knowledge_20 : decode cX1_knowledge 20 = .ok (.ifCond .ne 6, 3) := by decide +kernel
theorem dX1_knowledge_23 : decode cX1_knowledge 23 = .ok (.bipush (-5), 2) := by decide +kernel
theorem dX1_knowledge_25 : decode cX1_knowledge 25 = .ok (.ireturn, 1) := by decide +kernel
theorem dX1_knowledge_26 : decode cX1_knowledge 26 = .ok (.aload_n 0, 1) := by decide +kernel
theorem dX1_knowledge_27 : decode cX1_knowledge 27 = .ok (.iload_n 2, 1) := by decide +kernel
theorem dX1_knowledge_28 : decode cX1_knowledge 28 = .ok (.invokevirtual 107, 3) := by decide +kernel
theorem dX1_knowledge_31 : decode cX1_knowledge 31 = .ok (.aload_n 0, 1) := by decide +kernel
theorem dX1_knowledge_32 : decode cX1_knowledge 32 = .ok (.getfield 30, 3) := by decide +kernel
theorem dX1_knowledge_35 : decode cX1_knowledge 35 = .ok (.iload_n 1, 1) := by decide +kernel
theorem dX1_knowledge_36 : decode cX1_knowledge 36 = .ok (.iaload, 1) := by decide +kernel
theorem dX1_knowledge_37 : decode cX1_knowledge 37 = .ok (.ireturn, 1) := by decide +kernel
set_option maxRecDepth 20000 in
theorem ggX1_completeNow_X1_afterRounds : GoodIn wsX1_completeNow wsX1_afterRounds := goodIn_r _ [6, 7, 8, 9, 10, 11, 5, 12, 13, 14, 15, 16, 17, 18, 19, 20, 26, 27, 28, 29, 30, 31, 32, 33, 34, 35, 36, 37, 38] (by decide +kernel) (by decide +kernel)
set_option maxRecDepth 20000 in
theorem gX1_completeNow_X1_afterRounds : GoodIn wsX1_completeNow (wsV RX1 107 RX1 yX1_afterRounds wsX1_afterRounds) := goodIn_app (goodIn_of _ (by decide +kernel)) ggX1_completeNow_X1_afterRounds
set_option maxRecDepth 20000 in
theorem ggX1_completeNow_X1_isKnown : GoodIn wsX1_completeNow wsX1_isKnown := goodIn_r _ [24, 25, 13, 26, 27, 28, 29, 30, 31, 32, 33, 34, 35, 36, 37, 38] (by decide +kernel) (by decide +kernel)
set_option maxRecDepth 20000 in
theorem gX1_completeNow_X1_isKnown : GoodIn wsX1_completeNow (wsV RX1 111 RX1 yX1_isKnown wsX1_isKnown) := goodIn_app (goodIn_of _ (by decide +kernel)) ggX1_completeNow_X1_isKnown
theorem dX1_completeNow_0 : decode cX1_completeNow 0 = .ok (.iconst 0, 1) := by decide +kernel
theorem dX1_completeNow_1 : decode cX1_completeNow 1 = .ok (.istore_n 1, 1) := by decide +kernel
theorem dX1_completeNow_2 : decode cX1_completeNow 2 = .ok (.iload_n 1, 1) := by decide +kernel
theorem dX1_completeNow_3 : decode cX1_completeNow 3 = .ok (.aload_n 0, 1) := by decide +kernel
theorem dX1_completeNow_4 : decode cX1_completeNow 4 = .ok (.getfield 43, 3) := by decide +kernel
theorem dX1_completeNow_7 : decode cX1_completeNow 7 = .ok (.if_icmp .gt 23, 3) := by decide +kernel
theorem dX1_completeNow_10 : decode cX1_completeNow 10 = .ok (.aload_n 0, 1) := by decide +kernel
theorem dX1_completeNow_11 : decode cX1_completeNow 11 = .ok (.iload_n 1, 1) := by decide +kernel
theorem dX1_completeNow_12 : decode cX1_completeNow 12 = .ok (.invokevirtual 107, 3) := by decide +kernel
theorem dX1_completeNow_15 : decode cX1_completeNow 15 = .ok (.aload_n 0, 1) := by decide +kernel
theorem dX1_completeNow_16 : decode cX1_completeNow 16 = .ok (.invokevirtual 111, 3) := by decide +kernel
theorem dX1_completeNow_19 : decode cX1_completeNow 19 = .ok (.ifCond .eq 5, 3) := by decide +kernel
theorem dX1_completeNow_22 : decode cX1_completeNow 22 = .ok (.iload_n 1, 1) := by decide +kernel
theorem dX1_completeNow_23 : decode cX1_completeNow 23 = .ok (.ireturn, 1) := by decide +kernel
theorem dX1_completeNow_24 : decode cX1_completeNow 24 = .ok (.iinc 1 1, 3) := by decide +kernel
theorem dX1_completeNow_27 : decode cX1_completeNow 27 = .ok (.goto (-25), 3) := by decide +kernel
theorem dX1_completeNow_30 : decode cX1_completeNow 30 = .ok (.iconst (-1), 1) := by decide +kernel
theorem dX1_completeNow_31 : decode cX1_completeNow 31 = .ok (.ireturn, 1) := by decide +kernel
set_option maxRecDepth 20000 in
theorem ggX1_completeAfter_X1_completeNow : GoodIn wsX1_completeAfter wsX1_completeNow := goodIn_r _ [5, 6, 7, 8, 9, 4, 10, 11, 12, 13, 14, 15, 16, 17, 18, 19, 20, 21, 22, 23, 24, 25, 26, 27, 28, 29, 30, 31, 32, 33, 34, 35, 36, 37, 38, 39, 40, 41, 42] (by decide +kernel) (by decide +kernel)
set_option maxRecDepth 20000 in
theorem gX1_completeAfter_X1_completeNow : GoodIn wsX1_completeAfter (wsV RX1 114 RX1 yX1_completeNow wsX1_completeNow) := goodIn_app (goodIn_of _ (by decide +kernel)) ggX1_completeAfter_X1_completeNow
theorem dX1_completeAfter_0 : decode cX1_completeAfter 0 = .ok (.aload_n 0, 1) := by decide +kernel
theorem dX1_completeAfter_1 : decode cX1_completeAfter 1 = .ok (.invokevirtual 114, 3) := by decide +kernel
theorem dX1_completeAfter_4 : decode cX1_completeAfter 4 = .ok (.ireturn, 1) := by decide +kernel
set_option maxRecDepth 20000 in
theorem ggX1_redundantNow_X1_begin : GoodIn wsX1_redundantNow wsX1_begin := goodIn_r _ [6, 7, 15, 16, 17, 18, 19, 20, 21, 22, 23, 24, 25, 26, 27] (by decide +kernel) (by decide +kernel)
set_option maxRecDepth 20000 in
theorem gX1_redundantNow_X1_begin : GoodIn wsX1_redundantNow (wsV RX1 101 RX1 yX1_begin wsX1_begin) := goodIn_app (goodIn_of _ (by decide +kernel)) ggX1_redundantNow_X1_begin
set_option maxRecDepth 20000 in
theorem ggX1_redundantNow_X1_happens : GoodIn wsX1_redundantNow wsX1_happens := goodIn_r _ [11, 12, 13, 7, 14, 15, 16, 17, 18, 19, 20, 21, 22, 23, 24, 25, 26, 27] (by decide +kernel) (by decide +kernel)
set_option maxRecDepth 20000 in
theorem gX1_redundantNow_X1_happens : GoodIn wsX1_redundantNow (wsV RX1 104 RX1 yX1_happens wsX1_happens) := goodIn_app (goodIn_of _ (by decide +kernel)) ggX1_redundantNow_X1_happens
theorem dX1_redundantNow_0 : decode cX1_redundantNow 0 = .ok (.iconst 0, 1) := by decide +kernel
theorem dX1_redundantNow_1 : decode cX1_redundantNow 1 = .ok (.istore_n 1, 1) := by decide +kernel
theorem dX1_redundantNow_2 : decode cX1_redundantNow 2 = .ok (.aload_n 0, 1) := by decide +kernel
theorem dX1_redundantNow_3 : decode cX1_redundantNow 3 = .ok (.invokevirtual 101, 3) := by decide +kernel
theorem dX1_redundantNow_6 : decode cX1_redundantNow 6 = .ok (.iconst 0, 1) := by decide +kernel
theorem dX1_redundantNow_7 : decode cX1_redundantNow 7 = .ok (.istore_n 2, 1) := by decide +kernel
theorem dX1_redundantNow_8 : decode cX1_redundantNow 8 = .ok (.iload_n 2, 1) := by decide +kernel
theorem dX1_redundantNow_9 : decode cX1_redundantNow 9 = .ok (.aload_n 0, 1) := by decide +kernel
theorem dX1_redundantNow_10 : decode cX1_redundantNow 10 = .ok (.getfield 46, 3) := by decide +kernel
theorem dX1_redundantNow_13 : decode cX1_redundantNow 13 = .ok (.if_icmp .ge 25, 3) := by decide +kernel
theorem dX1_redundantNow_16 : decode cX1_redundantNow 16 = .ok (.iload_n 1, 1) := by decide +kernel
theorem dX1_redundantNow_17 : decode cX1_redundantNow 17 = .ok (.aload_n 0, 1) := by decide +kernel
theorem dX1_redundantNow_18 : decode cX1_redundantNow 18 = .ok (.iload_n 2, 1) := by decide +kernel
theorem dX1_redundantNow_19 : decode cX1_redundantNow 19 = .ok (.invokevirtual 104, 3) := by decide +kernel
theorem dX1_redundantNow_22 : decode cX1_redundantNow 22 = .ok (.ifCond .eq 7, 3) := by decide +kernel
theorem dX1_redundantNow_25 : decode cX1_redundantNow 25 = .ok (.iconst 0, 1) := by decide +kernel
theorem dX1_redundantNow_26 : decode cX1_redundantNow 26 = .ok (.goto 4, 3) := by decide +kernel
theorem dX1_redundantNow_29 : decode cX1_redundantNow 29 = .ok (.iconst 1, 1) := by decide +kernel
theorem dX1_redundantNow_30 : decode cX1_redundantNow 30 = .ok (.iadd, 1) := by decide +kernel
theorem dX1_redundantNow_31 : decode cX1_redundantNow 31 = .ok (.istore_n 1, 1) := by decide +kernel
theorem dX1_redundantNow_32 : decode cX1_redundantNow 32 = .ok (.iinc 2 1, 3) := by decide +kernel
theorem dX1_redundantNow_35 : decode cX1_redundantNow 35 = .ok (.goto (-27), 3) := by decide +kernel
theorem dX1_redundantNow_38 : decode cX1_redundantNow 38 = .ok (.iload_n 1, 1) := by decide +kernel
theorem dX1_redundantNow_39 : decode cX1_redundantNow 39 = .ok (.ireturn, 1) := by decide +kernel
set_option maxRecDepth 20000 in
theorem ggX1_redundantCalls_X1_redundantNow : GoodIn wsX1_redundantCalls wsX1_redundantNow := goodIn_r _ [5, 6, 7, 8, 9, 4, 10, 11, 12, 13, 14, 15, 16, 17, 18, 19, 20, 21, 22, 23, 24, 25, 26, 27, 28, 29, 30, 31] (by decide +kernel) (by decide +kernel)
set_option maxRecDepth 20000 in
theorem gX1_redundantCalls_X1_redundantNow : GoodIn wsX1_redundantCalls (wsV RX1 117 RX1 yX1_redundantNow wsX1_redundantNow) := goodIn_app (goodIn_of _ (by decide +kernel)) ggX1_redundantCalls_X1_redundantNow
theorem dX1_redundantCalls_0 : decode cX1_redundantCalls 0 = .ok (.aload_n 0, 1) := by decide +kernel
theorem dX1_redundantCalls_1 : decode cX1_redundantCalls 1 = .ok (.invokevirtual 117, 3) := by decide +kernel
theorem dX1_redundantCalls_4 : decode cX1_redundantCalls 4 = .ok (.ireturn, 1) := by decide +kernel
set_option maxRecDepth 20000 in
theorem ggX1_averageNow_X1_afterRounds : GoodIn wsX1_averageNow wsX1_afterRounds := goodIn_r _ [7, 8, 9, 10, 11, 12, 6, 13, 2, 14, 15, 16, 17, 18, 19, 20, 33, 34, 35, 36, 37, 38, 39, 40, 41, 42, 43, 44, 45] (by decide +kernel) (by decide +kernel)
set_option maxRecDepth 20000 in
theorem gX1_averageNow_X1_afterRounds : GoodIn wsX1_averageNow (wsV RX1 107 RX1 yX1_afterRounds wsX1_afterRounds) := goodIn_app (goodIn_of _ (by decide +kernel)) ggX1_averageNow_X1_afterRounds
set_option maxRecDepth 20000 in
theorem ggX1_averageNow_Jxf58ca_floatToIntBits_5c35a : GoodIn wsX1_averageNow wsJxf58ca_floatToIntBits_5c35a := goodIn_r _ [24, 25, 26, 27, 28, 29, 30, 31, 23, 32] (by decide +kernel) (by decide +kernel)
set_option maxRecDepth 20000 in
theorem gX1_averageNow_Jxf58ca_floatToIntBits_5c35a : GoodIn wsX1_averageNow (va_wsS RX1 120 yJxf58ca_floatToIntBits_5c35a wsJxf58ca_floatToIntBits_5c35a) := goodIn_app (goodIn_of _ (by decide +kernel)) ggX1_averageNow_Jxf58ca_floatToIntBits_5c35a
theorem dX1_averageNow_0 : decode cX1_averageNow 0 = .ok (.aload_n 0, 1) := by decide +kernel
theorem dX1_averageNow_1 : decode cX1_averageNow 1 = .ok (.iload_n 1, 1) := by decide +kernel
theorem dX1_averageNow_2 : decode cX1_averageNow 2 = .ok (.invokevirtual 107, 3) := by decide +kernel
theorem dX1_averageNow_5 : decode cX1_averageNow 5 = .ok (.iconst 0, 1) := by decide +kernel
theorem dX1_averageNow_6 : decode cX1_averageNow 6 = .ok (.istore_n 2, 1) := by decide +kernel
theorem dX1_averageNow_7 : decode cX1_averageNow 7 = .ok (.iconst 0, 1) := by decide +kernel
theorem dX1_averageNow_8 : decode cX1_averageNow 8 = .ok (.istore_n 3, 1) := by decide +kernel
theorem dX1_averageNow_9 : decode cX1_averageNow 9 = .ok (.iload_n 3, 1) := by decide +kernel
theorem dX1_averageNow_10 : decode cX1_averageNow 10 = .ok (.aload_n 0, 1) := by decide +kernel
theorem dX1_averageNow_11 : decode cX1_averageNow 11 = .ok (.getfield 7, 3) := by decide +kernel
theorem dX1_averageNow_14 : decode cX1_averageNow 14 = .ok (.if_icmp .ge 39, 3) := by decide +kernel
theorem dX1_averageNow_17 : decode cX1_averageNow 17 = .ok (.iconst 0, 1) := by decide +kernel
theorem dX1_averageNow_18 : decode cX1_averageNow 18 = .ok (.istore 4, 2) := by decide +kernel
