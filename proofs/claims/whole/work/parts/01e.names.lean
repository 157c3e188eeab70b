theorem dX1_init_20 : decode cX1_init 20 = .ok (.newarray .int, 2) := by decide +kernel
theorem dX1_init_22 : decode cX1_init 22 = .ok (.putfield 17, 3) := by decide +kernel
theorem dX1_init_25 : decode cX1_init 25 = .ok (.aload_n 0, 1) := by decide +kernel
theorem dX1_init_26 : decode cX1_init 26 = .ok (.bipush 28, 2) := by decide +kernel
theorem dX1_init_28 : decode cX1_init 28 = .ok (.newarray .int, 2) := by decide +kernel
theorem dX1_init_30 : decode cX1_init 30 = .ok (.putfield 20, 3) := by decide +kernel
theorem dX1_init_33 : decode cX1_init 33 = .ok (.aload_n 0, 1) := by decide +kernel
theorem dX1_init_34 : decode cX1_init 34 = .ok (.bipush 28, 2) := by decide +kernel
theorem dX1_init_36 : decode cX1_init 36 = .ok (.newarray .boolean, 2) := by decide +kernel
theorem dX1_init_38 : decode cX1_init 38 = .ok (.putfield 23, 3) := by decide +kernel
theorem dX1_init_41 : decode cX1_init 41 = .ok (.aload_n 0, 1) := by decide +kernel
theorem dX1_init_42 : decode cX1_init 42 = .ok (.bipush 59, 2) := by decide +kernel
theorem dX1_init_44 : decode cX1_init 44 = .ok (.newarray .int, 2) := by decide +kernel
theorem dX1_init_46 : decode cX1_init 46 = .ok (.putfield 27, 3) := by decide +kernel
theorem dX1_init_49 : decode cX1_init 49 = .ok (.aload_n 0, 1) := by decide +kernel
theorem dX1_init_50 : decode cX1_init 50 = .ok (.bipush 8, 2) := by decide +kernel
theorem dX1_init_52 : decode cX1_init 52 = .ok (.newarray .int, 2) := by decide +kernel
theorem dX1_init_54 : decode cX1_init 54 = .ok (.putfield 30, 3) := by decide +kernel
theorem dX1_init_57 : decode cX1_init 57 = .ok (.return_, 1) := by decide +kernel
theorem dX1_within_0 : decode cX1_within 0 = .ok (.iload_n 0, 1) := by decide +kernel
theorem dX1_within_1 : decode cX1_within 1 = .ok (.iload_n 1, 1) := by decide +kernel
theorem dX1_within_2 : decode cX1_within 2 = .ok (.if_icmp .lt 12, 3) := by decide +kernel
theorem dX1_within_5 : decode cX1_within 5 = .ok (.iload_n 0, 1) := by decide +kernel
theorem dX1_within_6 : decode cX1_within 6 = .ok (.iload_n 2, 1) := by decide +kernel
theorem dX1_within_7 : decode cX1_within 7 = .ok (.if_icmp .gt 7, 3) := by decide +kernel
theorem dX1_within_10 : decode cX1_within 10 = .ok (.iconst 1, 1) := by decide +kernel
theorem dX1_within_11 : decode cX1_within 11 = .ok (.goto 4, 3) := by decide +kernel
theorem dX1_within_14 : decode cX1_within 14 = .ok (.iconst 0, 1) := by decide +kernel
theorem dX1_within_15 : decode cX1_within 15 = .ok (.ireturn, 1) := by decide +kernel
set_option maxRecDepth 20000 in
theorem ggX1_isPerson_X1_within : GoodIn wsX1_isPerson wsX1_within := goodIn_r _ [5] (by decide +kernel) (by decide +kernel)
set_option maxRecDepth 20000 in
theorem gX1_isPerson_X1_within : GoodIn wsX1_isPerson (va_wsS RX1 33 yX1_within wsX1_within) := goodIn_app (goodIn_of _ (by decide +kernel)) ggX1_isPerson_X1_within
theorem dX1_isPerson_0 : decode cX1_isPerson 0 = .ok (.iload_n 1, 1) := by decide +kernel
theorem dX1_isPerson_1 : decode cX1_isPerson 1 = .ok (.iconst 0, 1) := by decide +kernel
theorem dX1_isPerson_2 : decode cX1_isPerson 2 = .ok (.aload_n 0, 1) := by decide +kernel
theorem dX1_isPerson_3 : decode cX1_isPerson 3 = .ok (.getfield 7, 3) := by decide +kernel
theorem dX1_isPerson_6 : decode cX1_isPerson 6 = .ok (.iconst 1, 1) := by decide +kernel
theorem dX1_isPerson_7 : decode cX1_isPerson 7 = .ok (.isub, 1) := by decide +kernel
theorem dX1_isPerson_8 : decode cX1_isPerson 8 = .ok (.invokestatic 33, 3) := by decide +kernel
theorem dX1_isPerson_11 : decode cX1_isPerson 11 = .ok (.ireturn, 1) := by decide +kernel
set_option maxRecDepth 20000 in
theorem ggX1_newSchedule_X1_within : GoodIn wsX1_newSchedule wsX1_within := goodIn_r _ [9] (by decide +kernel) (by decide +kernel)
set_option maxRecDepth 20000 in
theorem gX1_newSchedule_X1_within : GoodIn wsX1_newSchedule (va_wsS RX1 33 yX1_within wsX1_within) := goodIn_app (goodIn_of _ (by decide +kernel)) ggX1_newSchedule_X1_within
theorem dX1_newSchedule_0 : decode cX1_newSchedule 0 = .ok (.iload_n 1, 1) := by decide +kernel
theorem dX1_newSchedule_1 : decode cX1_newSchedule 1 = .ok (.iconst 2, 1) := by decide +kernel
theorem dX1_newSchedule_2 : decode cX1_newSchedule 2 = .ok (.bipush 8, 2) := by decide +kernel
theorem dX1_newSchedule_4 : decode cX1_newSchedule 4 = .ok (.invokestatic 33, 3) := by decide +kernel
theorem dX1_newSchedule_7 : decode cX1_newSchedule 7 = .ok (.ifCond .eq 12, 3) := by decide +kernel
theorem dX1_newSchedule_10 : decode cX1_newSchedule 10 = .ok (.iload_n 2, 1) := by decide +kernel
theorem dX1_newSchedule_11 : decode cX1_newSchedule 11 = .ok (.iconst 0, 1) := by decide +kernel
theorem dX1_newSchedule_12 : decode cX1_newSchedule 12 = .ok (.iconst 2, 1) := by decide +kernel
theorem dX1_newSchedule_13 : decode cX1_newSchedule 13 = .ok (.invokestatic 33, 3) := by decide +kernel
theorem dX1_newSchedule_16 : decode cX1_newSchedule 16 = .ok (.ifCond .ne 6, 3) := by decide +kernel
theorem dX1_newSchedule_19 : decode cX1_newSchedule 19 = .ok (.bipush (-5), 2) := by decide +kernel
theorem dX1_newSchedule_21 : decode cX1_newSchedule 21 = .ok (.ireturn, 1) := by decide +kernel
theorem dX1_newSchedule_22 : decode cX1_newSchedule 22 = .ok (.aload_n 0, 1) := by decide +kernel
theorem dX1_newSchedule_23 : decode cX1_newSchedule 23 = .ok (.iload_n 1, 1) := by decide +kernel
theorem dX1_newSchedule_24 : decode cX1_newSchedule 24 = .ok (.putfield 7, 3) := by decide +kernel
theorem dX1_newSchedule_27 : decode cX1_newSchedule 27 = .ok (.aload_n 0, 1) := by decide +kernel
theorem dX1_newSchedule_28 : decode cX1_newSchedule 28 = .ok (.iload_n 2, 1) := by decide +kernel
theorem dX1_newSchedule_29 : decode cX1_newSchedule 29 = .ok (.putfield 37, 3) := by decide +kernel
theorem dX1_newSchedule_32 : decode cX1_newSchedule 32 = .ok (.aload_n 0, 1) := by decide +kernel
theorem dX1_newSchedule_33 : decode cX1_newSchedule 33 = .ok (.iconst 0, 1) := by decide +kernel
theorem dX1_newSchedule_34 : decode cX1_newSchedule 34 = .ok (.putfield 40, 3) := by decide +kernel
theorem dX1_newSchedule_37 : decode cX1_newSchedule 37 = .ok (.aload_n 0, 1) := by decide +kernel
theorem dX1_newSchedule_38 : decode cX1_newSchedule 38 = .ok (.iconst 0, 1) := by decide +kernel
theorem dX1_newSchedule_39 : decode cX1_newSchedule 39 = .ok (.putfield 43, 3) := by decide +kernel
theorem dX1_newSchedule_42 : decode cX1_newSchedule 42 = .ok (.aload_n 0, 1) := by decide +kernel
theorem dX1_newSchedule_43 : decode cX1_newSchedule 43 = .ok (.iconst 0, 1) := by decide +kernel
theorem dX1_newSchedule_44 : decode cX1_newSchedule 44 = .ok (.putfield 46, 3) := by decide +kernel
theorem dX1_newSchedule_47 : decode cX1_newSchedule 47 = .ok (.iload_n 1, 1) := by decide +kernel
theorem dX1_newSchedule_48 : decode cX1_newSchedule 48 = .ok (.ireturn, 1) := by decide +kernel
theorem dX1_isPower_0 : decode cX1_isPower 0 = .ok (.aload_n 0, 1) := by decide +kernel
theorem dX1_isPower_1 : decode cX1_isPower 1 = .ok (.getfield 7, 3) := by decide +kernel
theorem dX1_isPower_4 : decode cX1_isPower 4 = .ok (.iconst 2, 1) := by decide +kernel
theorem dX1_isPower_5 : decode cX1_isPower 5 = .ok (.if_icmp .eq 20, 3) := by decide +kernel
theorem dX1_isPower_8 : decode cX1_isPower 8 = .ok (.aload_n 0, 1) := by decide +kernel
theorem dX1_isPower_9 : decode cX1_isPower 9 = .ok (.getfield 7, 3) := by decide +kernel
theorem dX1_isPower_12 : decode cX1_isPower 12 = .ok (.iconst 4, 1) := by decide +kernel
theorem dX1_isPower_13 : decode cX1_isPower 13 = .ok (.if_icmp .eq 12, 3) := by decide +kernel
theorem dX1_isPower_16 : decode cX1_isPower 16 = .ok (.aload_n 0, 1) := by decide +kernel
theorem dX1_isPower_17 : decode cX1_isPower 17 = .ok (.getfield 7, 3) := by decide +kernel
theorem dX1_isPower_20 : decode cX1_isPower 20 = .ok (.bipush 8, 2) := by decide +kernel
theorem dX1_isPower_22 : decode cX1_isPower 22 = .ok (.if_icmp .ne 7, 3) := by decide +kernel
theorem dX1_isPower_25 : decode cX1_isPower 25 = .ok (.iconst 1, 1) := by decide +kernel
theorem dX1_isPower_26 : decode cX1_isPower 26 = .ok (.goto 4, 3) := by decide +kernel
theorem dX1_isPower_29 : decode cX1_isPower 29 = .ok (.iconst 0, 1) := by decide +kernel
theorem dX1_isPower_30 : decode cX1_isPower 30 = .ok (.ireturn, 1) := by decide +kernel
set_option maxRecDepth 20000 in
theorem ggX1_setGraph_X1_within : GoodIn wsX1_setGraph wsX1_within := goodIn_r _ [5] (by decide +kernel) (by decide +kernel)
set_option maxRecDepth 20000 in
theorem gX1_setGraph_X1_within : GoodIn wsX1_setGraph (va_wsS RX1 33 yX1_within wsX1_within) := goodIn_app (goodIn_of _ (by decide +kernel)) ggX1_setGraph_X1_within
set_option maxRecDepth 20000 in
theorem ggX1_setGraph_X1_isPower : GoodIn wsX1_setGraph wsX1_isPower := goodIn_r _ [9, 10, 11, 12, 13, 14, 15, 16, 17, 18, 19, 20, 21, 22, 23] (by decide +kernel) (by decide +kernel)
set_option maxRecDepth 20000 in
theorem gX1_setGraph_X1_isPower : GoodIn wsX1_setGraph (wsV RX1 49 RX1 yX1_isPower wsX1_isPower) := goodIn_app (goodIn_of _ (by decide +kernel)) ggX1_setGraph_X1_isPower
theorem dX1_setGraph_0 : decode cX1_setGraph 0 = .ok (.iload_n 1, 1) := by decide +kernel
theorem dX1_setGraph_1 : decode cX1_setGraph 1 = .ok (.iconst 0, 1) := by decide +kernel
theorem dX1_setGraph_2 : decode cX1_setGraph 2 = .ok (.iconst 4, 1) := by decide +kernel
theorem dX1_setGraph_3 : decode cX1_setGraph 3 = .ok (.invokestatic 33, 3) := by decide +kernel
theorem dX1_setGraph_6 : decode cX1_setGraph 6 = .ok (.ifCond .ne 6, 3) := by decide +kernel
theorem dX1_setGraph_9 : decode cX1_setGraph 9 = .ok (.bipush (-5), 2) := by decide +kernel
theorem dX1_setGraph_11 : decode cX1_setGraph 11 = .ok (.ireturn, 1) := by decide +kernel
theorem dX1_setGraph_12 : decode cX1_setGraph 12 = .ok (.iload_n 1, 1) := by decide +kernel
theorem dX1_setGraph_13 : decode cX1_setGraph 13 = .ok (.iconst 4, 1) := by decide +kernel
theorem dX1_setGraph_14 : decode cX1_setGraph 14 = .ok (.if_icmp .ne 13, 3) := by decide +kernel
theorem dX1_setGraph_17 : decode cX1_setGraph 17 = .ok (.aload_n 0, 1) := by decide +kernel
theorem dX1_setGraph_18 : decode cX1_setGraph 18 = .ok (.invokevirtual 49, 3) := by decide +kernel
theorem dX1_setGraph_21 : decode cX1_setGraph 21 = .ok (.ifCond .ne 6, 3) := by decide +kernel
theorem dX1_setGraph_24 : decode cX1_setGraph 24 = .ok (.bipush (-14), 2) := by decide +kernel
theorem dX1_setGraph_26 : decode cX1_setGraph 26 = .ok (.ireturn, 1) := by decide +kernel
theorem dX1_setGraph_27 : decode cX1_setGraph 27 = .ok (.aload_n 0, 1) := by decide +kernel
theorem dX1_setGraph_28 : decode cX1_setGraph 28 = .ok (.getfield 40, 3) := by decide +kernel
theorem dX1_setGraph_31 : decode cX1_setGraph 31 = .ok (.istore_n 2, 1) := by decide +kernel
theorem dX1_setGraph_32 : decode cX1_setGraph 32 = .ok (.aload_n 0, 1) := by decide +kernel
theorem dX1_setGraph_33 : decode cX1_setGraph 33 = .ok (.iload_n 1, 1) := by decide +kernel
theorem dX1_setGraph_34 : decode cX1_setGraph 34 = .ok (.putfield 40, 3) := by decide +kernel
theorem dX1_setGraph_37 : decode cX1_setGraph 37 = .ok (.iload_n 2, 1) := by decide +kernel
theorem dX1_setGraph_38 : decode cX1_setGraph 38 = .ok (.ireturn, 1) := by decide +kernel
theorem dX1_isEdge_0 : decode cX1_isEdge 0 = .ok (.iload_n 1, 1) := by decide +kernel
theorem dX1_isEdge_1 : decode cX1_isEdge 1 = .ok (.iload_n 2, 1) := by decide +kernel
theorem dX1_isEdge_2 : decode cX1_isEdge 2 = .ok (.if_icmp .ge 7, 3) := by decide +kernel
theorem dX1_isEdge_5 : decode cX1_isEdge 5 = .ok (.iload_n 1, 1) := by decide +kernel
theorem dX1_isEdge_6 : decode cX1_isEdge 6 = .ok (.goto 4, 3) := by decide +kernel
theorem dX1_isEdge_9 : decode cX1_isEdge 9 = .ok (.iload_n 2, 1) := by decide +kernel
theorem dX1_isEdge_10 : decode cX1_isEdge 10 = .ok (.istore_n 3, 1) := by decide +kernel
theorem dX1_isEdge_11 : decode cX1_isEdge 11 = .ok (.iload_n 1, 1) := by decide +kernel
theorem dX1_isEdge_12 : decode cX1_isEdge 12 = .ok (.iload_n 2, 1) := by decide +kernel
theorem dX1_isEdge_13 : decode cX1_isEdge 13 = .ok (.if_icmp .ge 7, 3) := by decide +kernel
theorem dX1_isEdge_16 : decode cX1_isEdge 16 = .ok (.iload_n 2, 1) := by decide +kernel
theorem dX1_isEdge_17 : decode cX1_isEdge 17 = .ok (.goto 4, 3) := by decide +kernel
theorem dX1_isEdge_20 : decode cX1_isEdge 20 = .ok (.iload_n 1, 1) := by decide +kernel
theorem dX1_isEdge_21 : decode cX1_isEdge 21 = .ok (.istore 4, 2) := by decide +kernel
theorem dX1_isEdge_23 : decode cX1_isEdge 23 = .ok (.iload_n 1, 1) := by decide +kernel
theorem dX1_isEdge_24 : decode cX1_isEdge 24 = .ok (.iload_n 2, 1) := by decide +kernel
theorem dX1_isEdge_25 : decode cX1_isEdge 25 = .ok (.ixor, 1) := by decide +kernel
theorem dX1_isEdge_26 : decode cX1_isEdge 26 = .ok (.istore 5, 2) := by decide +kernel
theorem dX1_isEdge_28 : decode cX1_isEdge 28 = .ok (.aload_n 0, 1) := by decide +kernel
theorem dX1_isEdge_29 : decode cX1_isEdge 29 = .ok (.getfield 40, 3) := by decide +kernel
theorem dX1_isEdge_32 : decode cX1_isEdge 32 = .ok (.tableswitch 101 0 3 #[32, 43, 72, 86], 32) := by decide +kernel
theorem dX1_isEdge_64 : decode cX1_isEdge 64 = .ok (.iload_n 1, 1) := by decide +kernel
theorem dX1_isEdge_65 : decode cX1_isEdge 65 = .ok (.iload_n 2, 1) := by decide +kernel
theorem dX1_isEdge_66 : decode cX1_isEdge 66 = .ok (.if_icmp .eq 7, 3) := by decide +kernel
theorem dX1_isEdge_69 : decode cX1_isEdge 69 = .ok (.iconst 1, 1) := by decide +kernel
theorem dX1_isEdge_70 : decode cX1_isEdge 70 = .ok (.goto 4, 3) := by decide +kernel
theorem dX1_isEdge_73 : decode cX1_isEdge 73 = .ok (.iconst 0, 1) := by decide +kernel
theorem dX1_isEdge_74 : decode cX1_isEdge 74 = .ok (.ireturn, 1) := by decide +kernel
theorem dX1_isEdge_75 : decode cX1_isEdge 75 = .ok (.iload 4, 2) := by decide +kernel
theorem dX1_isEdge_77 : decode cX1_isEdge 77 = .ok (.iload_n 3, 1) := by decide +kernel
theorem dX1_isEdge_78 : decode cX1_isEdge 78 = .ok (.isub, 1) := by decide +kernel
theorem dX1_isEdge_79 : decode cX1_isEdge 79 = .ok (.iconst 1, 1) := by decide +kernel
theorem dX1_isEdge_80 : decode cX1_isEdge 80 = .ok (.if_icmp .eq 18, 3) := by decide +kernel
theorem dX1_isEdge_83 : decode cX1_isEdge 83 = .ok (.iload_n 3, 1) := by decide +kernel
theorem dX1_isEdge_84 : decode cX1_isEdge 84 = .ok (.ifCond .ne 18, 3) := by decide +kernel
theorem dX1_isEdge_87 : decode cX1_isEdge 87 = .ok (.iload 4, 2) := by decide +kernel
theorem dX1_isEdge_89 : decode cX1_isEdge 89 = .ok (.aload_n 0, 1) := by decide +kernel
theorem dX1_isEdge_90 : decode cX1_isEdge 90 = .ok (.getfield 7, 3) := by decide +kernel
theorem dX1_isEdge_93 : decode cX1_isEdge 93 = .ok (.iconst 1, 1) := by decide +kernel
theorem dX1_isEdge_94 : decode cX1_isEdge 94 = .ok (.isub, 1) := by decide +kernel
theorem dX1_isEdge_95 : decode cX1_isEdge 95 = .ok (.if_icmp .ne 7, 3) := by decide +kernel
theorem dX1_isEdge_98 : decode cX1_isEdge 98 = .ok (.iconst 1, 1) := by decide +kernel
theorem dX1_isEdge_99 : decode cX1_isEdge 99 = .ok (.goto 4, 3) := by decide +kernel
theorem dX1_isEdge_102 : decode cX1_isEdge 102 = .ok (.iconst 0, 1) := by decide +kernel
theorem dX1_isEdge_103 : decode cX1_isEdge 103 = .ok (.ireturn, 1) := by decide +kernel
theorem dX1_isEdge_104 : decode cX1_isEdge 104 = .ok (.iload 4, 2) := by decide +kernel
theorem dX1_isEdge_106 : decode cX1_isEdge 106 = .ok (.iload_n 3, 1) := by decide +kernel
theorem dX1_isEdge_107 : decode cX1_isEdge 107 = .ok (.isub, 1) := by decide +kernel
theorem dX1_isEdge_108 : decode cX1_isEdge 108 = .ok (.iconst 1, 1) := by decide +kernel
theorem dX1_isEdge_109 : decode cX1_isEdge 109 = .ok (.if_icmp .ne 7, 3) := by decide +kernel
theorem dX1_isEdge_112 : decode cX1_isEdge 112 = .ok (.iconst 1, 1) := by decide +kernel
theorem dX1_isEdge_113 : decode cX1_isEdge 113 = .ok (.goto 4, 3) := by decide +kernel
theorem dX1_isEdge_116 : decode cX1_isEdge 116 = .ok (.iconst 0, 1) := by decide +kernel
theorem dX1_isEdge_117 : decode cX1_isEdge 117 = .ok (.ireturn, 1) := by decide +kernel
theorem dX1_isEdge_118 : decode cX1_isEdge 118 = .ok (.iload_n 3, 1) := by decide +kernel
theorem dX1_isEdge_119 : decode cX1_isEdge 119 = .ok (.ifCond .ne 12, 3) := by decide +kernel
theorem dX1_isEdge_122 : decode cX1_isEdge 122 = .ok (.iload 4, 2) := by decide +kernel
theorem dX1_isEdge_124 : decode cX1_isEdge 124 = .ok (.ifCond .le 7, 3) := by decide +kernel
theorem dX1_isEdge_127 : decode cX1_isEdge 127 = .ok (.iconst 1, 1) := by decide +kernel
theorem dX1_isEdge_128 : decode cX1_isEdge 128 = .ok (.goto 4, 3) := by decide +kernel
theorem dX1_isEdge_131 : decode cX1_isEdge 131 = .ok (.iconst 0, 1) := by decide +kernel
theorem dX1_isEdge_132 : decode cX1_isEdge 132 = .ok (.ireturn, 1) := by decide +kernel
theorem dX1_isEdge_133 : decode cX1_isEdge 133 = .ok (.iload 5, 2) := by decide +kernel
theorem dX1_isEdge_135 : decode cX1_isEdge 135 = .ok (.iconst 1, 1) := by decide +kernel
theorem dX1_isEdge_136 : decode cX1_isEdge 136 = .ok (.if_icmp .eq 15, 3) := by decide +kernel
theorem dX1_isEdge_139 : decode cX1_isEdge 139 = .ok (.iload 5, 2) := by decide +kernel
theorem dX1_isEdge_141 : decode cX1_isEdge 141 = .ok (.iconst 2, 1) := by decide +kernel
theorem dX1_isEdge_142 : decode cX1_isEdge 142 = .ok (.if_icmp .eq 9, 3) := by decide +kernel
theorem dX1_isEdge_145 : decode cX1_isEdge 145 = .ok (.iload 5, 2) := by decide +kernel
theorem dX1_isEdge_147 : decode cX1_isEdge 147 = .ok (.iconst 4, 1) := by decide +kernel
theorem dX1_isEdge_148 : decode cX1_isEdge 148 = .ok (.if_icmp .ne 7, 3) := by decide +kernel
theorem dX1_isEdge_151 : decode cX1_isEdge 151 = .ok (.iconst 1, 1) := by decide +kernel
theorem dX1_isEdge_152 : decode cX1_isEdge 152 = .ok (.goto 4, 3) := by decide +kernel
theorem dX1_isEdge_155 : decode cX1_isEdge 155 = .ok (.iconst 0, 1) := by decide +kernel
theorem dX1_isEdge_156 : decode cX1_isEdge 156 = .ok (.ireturn, 1) := by decide +kernel
set_option maxRecDepth 20000 in
theorem ggX1_areNeighbors_X1_isPerson : GoodIn wsX1_areNeighbors wsX1_isPerson := goodIn_r _ [5, 6, 7, 8, 4, 9, 15, 16, 17, 18, 19, 20, 21, 22, 23, 24, 25, 26, 27] (by decide +kernel) (by decide +kernel)
set_option maxRecDepth 20000 in
theorem gX1_areNeighbors_X1_isPerson : GoodIn wsX1_areNeighbors (wsV RX1 53 RX1 yX1_isPerson wsX1_isPerson) := goodIn_app (goodIn_of _ (by decide +kernel)) ggX1_areNeighbors_X1_isPerson
set_option maxRecDepth 20000 in
theorem ggX1_areNeighbors_X1_isEdge : GoodIn wsX1_areNeighbors wsX1_isEdge := goodIn_r _ [13, 14, 6, 15, 16, 17, 18, 19, 20, 21, 22, 23, 24, 25, 26, 27] (by decide +kernel) (by decide +kernel)
set_option maxRecDepth 20000 in
theorem gX1_areNeighbors_X1_isEdge : GoodIn wsX1_areNeighbors (wsV RX1 57 RX1 yX1_isEdge wsX1_isEdge) := goodIn_app (goodIn_of _ (by decide +kernel)) ggX1_areNeighbors_X1_isEdge
theorem dX1_areNeighbors_0 : decode cX1_areNeighbors 0 = .ok (.aload_n 0, 1) := by decide +kernel
theorem dX1_areNeighbors_1 : decode cX1_areNeighbors 1 = .ok (.iload_n 1, 1) := by decide +kernel
theorem dX1_areNeighbors_2 : decode cX1_areNeighbors 2 = .ok (.invokevirtual 53, 3) := by decide +kernel
theorem dX1_areNeighbors_5 : decode cX1_areNeighbors 5 = .ok (.ifCond .eq 11, 3) := by decide +kernel
theorem dX1_areNeighbors_8 : decode cX1_areNeighbors 8 = .ok (.aload_n 0, 1) := by decide +kernel
theorem dX1_areNeighbors_9 : decode cX1_areNeighbors 9 = .ok (.iload_n 2, 1) := by decide +kernel
theorem dX1_areNeighbors_10 : decode cX1_areNeighbors 10 = .ok (.invokevirtual 53, 3) := by decide +kernel
theorem dX1_areNeighbors_13 : decode cX1_areNeighbors 13 = .ok (.ifCond .ne 6, 3) := by decide +kernel
theorem dX1_areNeighbors_16 : decode cX1_areNeighbors 16 = .ok (.bipush (-6), 2) := by decide +kernel
theorem dX1_areNeighbors_18 : decode cX1_areNeighbors 18 = .ok (.ireturn, 1) := by decide +kernel
theorem dX1_areNeighbors_19 : decode cX1_areNeighbors 19 = .ok (.aload_n 0, 1) := by decide +kernel
theorem dX1_areNeighbors_20 : decode cX1_areNeighbors 20 = .ok (.iload_n 1, 1) := by decide +kernel
theorem dX1_areNeighbors_21 : decode cX1_areNeighbors 21 = .ok (.iload_n 2, 1) := by decide +kernel
theorem dX1_areNeighbors_22 : decode cX1_areNeighbors 22 = .ok (.invokevirtual 57, 3) := by decide +kernel
theorem dX1_areNeighbors_25 : decode cX1_areNeighbors 25 = .ok (.ifCond .eq 7, 3) := by decide +kernel
theorem dX1_areNeighbors_28 : decode cX1_areNeighbors 28 = .ok (.iconst 1, 1) := by decide +kernel
theorem dX1_areNeighbors_29 : decode cX1_areNeighbors 29 = .ok (.goto 4, 3) := by decide +kernel
theorem dX1_areNeighbors_32 : decode cX1_areNeighbors 32 = .ok (.iconst 0, 1) := by decide +kernel
theorem dX1_areNeighbors_33 : decode cX1_areNeighbors 33 = .ok (.ireturn, 1) := by decide +kernel
theorem dX1_addRound_0 : decode cX1_addRound 0 = .ok (.aload_n 0, 1) := by decide +kernel
theorem dX1_addRound_1 : decode cX1_addRound 1 = .ok (.getfield 43, 3) := by decide +kernel
theorem dX1_addRound_4 : decode cX1_addRound 4 = .ok (.bipush 16, 2) := by decide +kernel
theorem dX1_addRound_6 : decode cX1_addRound 6 = .ok (.if_icmp .ne 6, 3) := by decide +kernel
theorem dX1_addRound_9 : decode cX1_addRound 9 = .ok (.bipush (-12), 2) := by decide +kernel
theorem dX1_addRound_11 : decode cX1_addRound 11 = .ok (.ireturn, 1) := by decide +kernel
theorem dX1_addRound_12 : decode cX1_addRound 12 = .ok (.aload_n 0, 1) := by decide +kernel
theorem dX1_addRound_13 : decode cX1_addRound 13 = .ok (.dup, 1) := by decide +kernel
theorem dX1_addRound_14 : decode cX1_addRound 14 = .ok (.getfield 43, 3) := by decide +kernel
theorem dX1_addRound_17 : decode cX1_addRound 17 = .ok (.iconst 1, 1) := by decide +kernel
theorem dX1_addRound_18 : decode cX1_addRound 18 = .ok (.iadd, 1) := by decide +kernel
theorem dX1_addRound_19 : decode cX1_addRound 19 = .ok (.putfield 43, 3) := by decide +kernel
theorem dX1_addRound_22 : decode cX1_addRound 22 = .ok (.aload_n 0, 1) := by decide +kernel
theorem dX1_addRound_23 : decode cX1_addRound 23 = .ok (.getfield 43, 3) := by decide +kernel
theorem dX1_addRound_26 : decode cX1_addRound 26 = .ok (.ireturn, 1) := by decide +kernel
theorem dX1_accepts_0 : decode cX1_accepts 0 = .ok (.aload_n 0, 1) := by decide +kernel
theorem dX1_accepts_1 : decode cX1_accepts 1 = .ok (.getfield 37, 3) := by decide +kernel
theorem dX1_accepts_4 : decode cX1_accepts 4 = .ok (.ifCond .eq 20, 3) := by decide +kernel
theorem dX1_accepts_7 : decode cX1_accepts 7 = .ok (.iload_n 1, 1) := by decide +kernel
theorem dX1_accepts_8 : decode cX1_accepts 8 = .ok (.aload_n 0, 1) := by decide +kernel
theorem dX1_accepts_9 : decode cX1_accepts 9 = .ok (.getfield 37, 3) := by decide +kernel
theorem dX1_accepts_12 : decode cX1_accepts 12 = .ok (.iconst 2, 1) := by decide +kernel
theorem dX1_accepts_13 : decode cX1_accepts 13 = .ok (.if_icmp .ne 7, 3) := by decide +kernel
theorem dX1_accepts_16 : decode cX1_accepts 16 = .ok (.iconst 1, 1) := by decide +kernel
theorem dX1_accepts_17 : decode cX1_accepts 17 = .ok (.goto 4, 3) := by decide +kernel
theorem dX1_accepts_20 : decode cX1_accepts 20 = .ok (.iconst 0, 1) := by decide +kernel
theorem dX1_accepts_21 : decode cX1_accepts 21 = .ok (.if_icmp .ne 7, 3) := by decide +kernel
theorem dX1_accepts_24 : decode cX1_accepts 24 = .ok (.iconst 1, 1) := by decide +kernel
theorem dX1_accepts_25 : decode cX1_accepts 25 = .ok (.goto 4, 3) := by decide +kernel
theorem dX1_accepts_28 : decode cX1_accepts 28 = .ok (.iconst 0, 1) := by decide +kernel
theorem dX1_accepts_29 : decode cX1_accepts 29 = .ok (.ireturn, 1) := by decide +kernel
theorem dX1_isBusy_0 : decode cX1_isBusy 0 = .ok (.iconst 0, 1) := by decide +kernel
theorem dX1_isBusy_1 : decode cX1_isBusy 1 = .ok (.istore_n 2, 1) := by decide +kernel
theorem dX1_isBusy_2 : decode cX1_isBusy 2 = .ok (.iconst 0, 1) := by decide +kernel
theorem dX1_isBusy_3 : decode cX1_isBusy 3 = .ok (.istore_n 3, 1) := by decide +kernel
theorem dX1_isBusy_4 : decode cX1_isBusy 4 = .ok (.iload_n 3, 1) := by decide +kernel
theorem dX1_isBusy_5 : decode cX1_isBusy 5 = .ok (.aload_n 0, 1) := by decide +kernel
theorem dX1_isBusy_6 : decode cX1_isBusy 6 = .ok (.getfield 46, 3) := by decide +kernel
theorem dX1_isBusy_9 : decode cX1_isBusy 9 = .ok (.if_icmp .ge 54, 3) := by decide +kernel
theorem dX1_isBusy_12 : decode cX1_isBusy 12 = .ok (.iload_n 2, 1) := by decide +kernel
theorem dX1_isBusy_13 : decode cX1_isBusy 13 = .ok (.ifCond .ne 38, 3) := by decide +kernel
theorem dX1_isBusy_16 : decode cX1_isBusy 16 = .ok (.aload_n 0, 1) := by decide +kernel
theorem dX1_isBusy_17 : decode cX1_isBusy 17 = .ok (.getfield 13, 3) := by decide +kernel
theorem dX1_isBusy_20 : decode cX1_isBusy 20 = .ok (.iload_n 3, 1) := by decide +kernel
theorem dX1_isBusy_21 : decode cX1_isBusy 21 = .ok (.iaload, 1) := by decide +kernel
theorem dX1_isBusy_22 : decode cX1_isBusy 22 = .ok (.aload_n 0, 1) := by decide +kernel
theorem dX1_isBusy_23 : decode cX1_isBusy 23 = .ok (.getfield 43, 3) := by decide +kernel
theorem dX1_isBusy_26 : decode cX1_isBusy 26 = .ok (.iconst 1, 1) := by decide +kernel
theorem dX1_isBusy_27 : decode cX1_isBusy 27 = .ok (.isub, 1) := by decide +kernel
theorem dX1_isBusy_28 : decode cX1_isBusy 28 = .ok (.if_icmp .ne 27, 3) := by decide +kernel
theorem dX1_isBusy_31 : decode cX1_isBusy 31 = .ok (.aload_n 0, 1) := by decide +kernel
theorem dX1_isBusy_32 : decode cX1_isBusy 32 = .ok (.getfield 17, 3) := by decide +kernel
theorem dX1_isBusy_35 : decode cX1_isBusy 35 = .ok (.iload_n 3, 1) := by decide +kernel
theorem dX1_isBusy_36 : decode cX1_isBusy 36 = .ok (.iaload, 1) := by decide +kernel
theorem dX1_isBusy_37 : decode cX1_isBusy 37 = .ok (.iload_n 1, 1) := by decide +kernel
theorem dX1_isBusy_38 : decode cX1_isBusy 38 = .ok (.if_icmp .eq 13, 3) := by decide +kernel
theorem dX1_isBusy_41 : decode cX1_isBusy 41 = .ok (.aload_n 0, 1) := by decide +kernel
theorem dX1_isBusy_42 : decode cX1_isBusy 42 = .ok (.getfield 20, 3) := by decide +kernel
theorem dX1_isBusy_45 : decode cX1_isBusy 45 = .ok (.iload_n 3, 1) := by decide +kernel
theorem dX1_isBusy_46 : decode cX1_isBusy 46 = .ok (.iaload, 1) := by decide +kernel
theorem dX1_isBusy_47 : decode cX1_isBusy 47 = .ok (.iload_n 1, 1) := by decide +kernel
theorem dX1_isBusy_48 : decode cX1_isBusy 48 = .ok (.if_icmp .ne 7, 3) := by decide +kernel
theorem dX1_isBusy_51 : decode cX1_isBusy 51 = .ok (.iconst 1, 1) := by decide +kernel
theorem dX1_isBusy_52 : decode cX1_isBusy 52 = .ok (.goto 4, 3) := by decide +kernel
theorem dX1_isBusy_55 : decode cX1_isBusy 55 = .ok (.iconst 0, 1) := by decide +kernel
theorem dX1_isBusy_56 : decode cX1_isBusy 56 = .ok (.istore_n 2, 1) := by decide +kernel
theorem dX1_isBusy_57 : decode cX1_isBusy 57 = .ok (.iinc 3 1, 3) := by decide +kernel
theorem dX1_isBusy_60 : decode cX1_isBusy 60 = .ok (.goto (-56), 3) := by decide +kernel
theorem dX1_isBusy_63 : decode cX1_isBusy 63 = .ok (.iload_n 2, 1) := by decide +kernel
theorem dX1_isBusy_64 : decode cX1_isBusy 64 = .ok (.ireturn, 1) := by decide +kernel
theorem dX1_lay_0 : decode cX1_lay 0 = .ok (.aload_n 0, 1) := by decide +kernel
theorem dX1_lay_1 : decode cX1_lay 1 = .ok (.getfield 13, 3) := by decide +kernel
theorem dX1_lay_4 : decode cX1_lay 4 = .ok (.aload_n 0, 1) := by decide +kernel
theorem dX1_lay_5 : decode cX1_lay 5 = .ok (.getfield 46, 3) := by decide +kernel
theorem dX1_lay_8 : decode cX1_lay 8 = .ok (.aload_n 0, 1) := by decide +kernel
theorem dX1_lay_9 : decode cX1_lay 9 = .ok (.getfield 43, 3) := by decide +kernel
theorem dX1_lay_12 : decode cX1_lay 12 = .ok (.iconst 1, 1) := by decide +kernel
theorem dX1_lay_13 : decode cX1_lay 13 = .ok (.isub, 1) := by decide +kernel
theorem dX1_lay_14 : decode cX1_lay 14 = .ok (.iastore, 1) := by decide +kernel
theorem dX1_lay_15 : decode cX1_lay 15 = .ok (.aload_n 0, 1) := by decide +kernel
theorem dX1_lay_16 : decode cX1_lay 16 = .ok (.getfield 17, 3) := by decide +kernel
theorem dX1_lay_19 : decode cX1_lay 19 = .ok (.aload_n 0, 1) := by decide +kernel
theorem dX1_lay_20 : decode cX1_lay 20 = .ok (.getfield 46, 3) := by decide +kernel
theorem dX1_lay_23 : decode cX1_lay 23 = .ok (.iload_n 1, 1) := by decide +kernel
theorem dX1_lay_24 : decode cX1_lay 24 = .ok (.iastore, 1) := by decide +kernel
theorem dX1_lay_25 : decode cX1_lay 25 = .ok (.aload_n 0, 1) := by decide +kernel
theorem dX1_lay_26 : decode cX1_lay 26 = .ok (.getfield 20, 3) := by decide +kernel
theorem dX1_lay_29 : decode cX1_lay 29 = .ok (.aload_n 0, 1) := by decide +kernel
theorem dX1_lay_30 : decode cX1_lay 30 = .ok (.getfield 46, 3) := by decide +kernel
theorem dX1_lay_33 : decode cX1_lay 33 = .ok (.iload_n 2, 1) := by decide +kernel
theorem dX1_lay_34 : decode cX1_lay 34 = .ok (.iastore, 1) := by decide +kernel
theorem dX1_lay_35 : decode cX1_lay 35 = .ok (.aload_n 0, 1) := by decide +kernel
theorem dX1_lay_36 : decode cX1_lay 36 = .ok (.getfield 23, 3) := by decide +kernel
theorem dX1_lay_39 : decode cX1_lay 39 = .ok (.aload_n 0, 1) := by decide +kernel
theorem dX1_lay_40 : decode cX1_lay 40 = .ok (.getfield 46, 3) := by decide +kernel
theorem dX1_lay_43 : decode cX1_lay 43 = .ok (.iload_n 3, 1) := by decide +kernel
theorem dX1_lay_44 : decode cX1_lay 44 = .ok (.bastore, 1) := by decide +kernel
theorem dX1_lay_45 : decode cX1_lay 45 = .ok (.aload_n 0, 1) := by decide +kernel
theorem dX1_lay_46 : decode cX1_lay 46 = .ok (.dup, 1) := by decide +kernel
theorem dX1_lay_47 : decode cX1_lay 47 = .ok (.getfield 46, 3) := by decide +kernel
theorem dX1_lay_50 : decode cX1_lay 50 = .ok (.iconst 1, 1) := by decide +kernel
theorem dX1_lay_51 : decode cX1_lay 51 = .ok (.iadd, 1) := by decide +kernel
theorem dX1_lay_52 : decode cX1_lay 52 = .ok (.putfield 46, 3) := by decide +kernel
theorem dX1_lay_55 : decode cX1_lay 55 = .ok (.return_, 1) := by decide +kernel
set_option maxRecDepth 20000 in
theorem ggX1_addCall_X1_isPerson : GoodIn wsX1_addCall wsX1_isPerson := goodIn_r _ [7, 8, 9, 10, 6, 11, 34, 35, 36, 37, 38, 39, 40, 41, 42, 43, 44, 45, 46] (by decide +kernel) (by decide +kernel)
set_option maxRecDepth 20000 in
theorem gX1_addCall_X1_isPerson : GoodIn wsX1_addCall (wsV RX1 53 RX1 yX1_isPerson wsX1_isPerson) := goodIn_app (goodIn_of _ (by decide +kernel)) ggX1_addCall_X1_isPerson
set_option maxRecDepth 20000 in
theorem ggX1_addCall_X1_isEdge : GoodIn wsX1_addCall wsX1_isEdge := goodIn_r _ [15, 16, 8, 34, 35, 36, 37, 38, 39, 40, 41, 42, 43, 44, 45, 46] (by decide +kernel) (by decide +kernel)
set_option maxRecDepth 20000 in
theorem gX1_addCall_X1_isEdge : GoodIn wsX1_addCall (wsV RX1 57 RX1 yX1_isEdge wsX1_isEdge) := goodIn_app (goodIn_of _ (by decide +kernel)) ggX1_addCall_X1_isEdge
set_option maxRecDepth 20000 in
theorem ggX1_addCall_X1_isBusy : GoodIn wsX1_addCall wsX1_isBusy := goodIn_r _ [20, 2, 21, 1, 22, 23, 34, 35, 36, 37, 38, 39, 40, 41, 42, 43, 44, 45, 46] (by decide +kernel) (by decide +kernel)
set_option maxRecDepth 20000 in
theorem gX1_addCall_X1_isBusy : GoodIn wsX1_addCall (wsV RX1 61 RX1 yX1_isBusy wsX1_isBusy) := goodIn_app (goodIn_of _ (by decide +kernel)) ggX1_addCall_X1_isBusy
set_option maxRecDepth 20000 in
theorem ggX1_addCall_X1_accepts : GoodIn wsX1_addCall wsX1_accepts := goodIn_r _ [27, 28, 34, 35, 36, 37, 38, 39, 40, 41, 42, 43, 44, 45, 46] (by decide +kernel) (by decide +kernel)
set_option maxRecDepth 20000 in
theorem gX1_addCall_X1_accepts : GoodIn wsX1_addCall (wsV RX1 64 RX1 yX1_accepts wsX1_accepts) := goodIn_app (goodIn_of _ (by decide +kernel)) ggX1_addCall_X1_accepts
set_option maxRecDepth 20000 in
theorem ggX1_addCall_X1_lay : GoodIn wsX1_addCall wsX1_lay := goodIn_r _ [32, 21, 2, 1, 22, 23, 33, 34, 35, 36, 37, 38, 39, 40, 41, 42, 43, 44, 45, 46] (by decide +kernel) (by decide +kernel)
set_option maxRecDepth 20000 in
theorem gX1_addCall_X1_lay : GoodIn wsX1_addCall (wsV RX1 68 RX1 yX1_lay wsX1_lay) := goodIn_app (goodIn_of _ (by decide +kernel)) ggX1_addCall_X1_lay
theorem dX1_addCall_0 : decode cX1_addCall 0 = .ok (.aload_n 0, 1) := by decide +kernel
theorem dX1_addCall_1 : decode cX1_addCall 1 = .ok (.iload_n 1, 1) := by decide +kernel
theorem dX1_addCall_2 : decode cX1_addCall 2 = .ok (.invokevirtual 53, 3) := by decide +kernel
theorem dX1_addCall_5 : decode cX1_addCall 5 = .ok (.ifCond .eq 11, 3) := by decide +kernel
theorem dX1_addCall_8 : decode cX1_addCall 8 = .ok (.aload_n 0, 1) := by decide +kernel
theorem dX1_addCall_9 : decode cX1_addCall 9 = .ok (.iload_n 2, 1) := by decide +kernel
theorem dX1_addCall_10 : decode cX1_addCall 10 = .ok (.invokevirtual 53, 3) := by decide +kernel
theorem dX1_addCall_13 : decode cX1_addCall 13 = .ok (.ifCond .ne 6, 3) := by decide +kernel
theorem dX1_addCall_16 : decode cX1_addCall 16 = .ok (.bipush (-6), 2) := by decide +kernel
theorem dX1_addCall_18 : decode cX1_addCall 18 = .ok (.ireturn, 1) := by decide +kernel
theorem dX1_addCall_19 : decode cX1_addCall 19 = .ok (.aload_n 0, 1) := by decide +kernel
theorem dX1_addCall_20 : decode cX1_addCall 20 = .ok (.iload_n 1, 1) := by decide +kernel
theorem dX1_addCall_21 : decode cX1_addCall 21 = .ok (.iload_n 2, 1) := by decide +kernel
theorem dX1_addCall_22 : decode cX1_addCall 22 = .ok (.invokevirtual 57, 3) := by decide +kernel
theorem dX1_addCall_25 : decode cX1_addCall 25 = .ok (.ifCond .ne 6, 3) := by decide +kernel
theorem dX1_addCall_28 : decode cX1_addCall 28 = .ok (.bipush (-10), 2) := by decide +kernel
theorem dX1_addCall_30 : decode cX1_addCall 30 = .ok (.ireturn, 1) := by decide +kernel
theorem dX1_addCall_31 : decode cX1_addCall 31 = .ok (.aload_n 0, 1) := by decide +kernel
theorem dX1_addCall_32 : decode cX1_addCall 32 = .ok (.getfield 43, 3) := by decide +kernel
theorem dX1_addCall_35 : decode cX1_addCall 35 = .ok (.ifCond .ne 6, 3) := by decide +kernel
theorem dX1_addCall_38 : decode cX1_addCall 38 = .ok (.bipush (-8), 2) := by decide +kernel
theorem dX1_addCall_40 : decode cX1_addCall 40 = .ok (.ireturn, 1) := by decide +kernel
theorem dX1_addCall_41 : decode cX1_addCall 41 = .ok (.aload_n 0, 1) := by decide +kernel
theorem dX1_addCall_42 : decode cX1_addCall 42 = .ok (.iload_n 1, 1) := by decide +kernel
theorem dX1_addCall_43 : decode cX1_addCall 43 = .ok (.invokevirtual 61, 3) := by decide +kernel
theorem dX1_addCall_46 : decode cX1_addCall 46 = .ok (.ifCond .ne 11, 3) := by decide +kernel
theorem dX1_addCall_49 : decode cX1_addCall 49 = .ok (.aload_n 0, 1) := by decide +kernel
theorem dX1_addCall_50 : decode cX1_addCall 50 = .ok (.iload_n 2, 1) := by decide +kernel
theorem dX1_addCall_51 : decode cX1_addCall 51 = .ok (.invokevirtual 61, 3) := by decide +kernel
theorem dX1_addCall_54 : decode cX1_addCall 54 = .ok (.ifCond .eq 6, 3) := by decide +kernel
theorem dX1_addCall_57 : decode cX1_addCall 57 = .ok (.bipush (-9), 2) := by decide +kernel
theorem dX1_addCall_59 : decode cX1_addCall 59 = .ok (.ireturn, 1) := by decide +kernel
theorem dX1_addCall_60 : decode cX1_addCall 60 = .ok (.aload_n 0, 1) := by decide +kernel
theorem dX1_addCall_61 : decode cX1_addCall 61 = .ok (.iload_n 3, 1) := by decide +kernel
theorem dX1_addCall_62 : decode cX1_addCall 62 = .ok (.invokevirtual 64, 3) := by decide +kernel
theorem dX1_addCall_65 : decode cX1_addCall 65 = .ok (.ifCond .ne 6, 3) := by decide +kernel
theorem dX1_addCall_68 : decode cX1_addCall 68 = .ok (.bipush (-11), 2) := by decide +kernel
theorem dX1_addCall_70 : decode cX1_addCall 70 = .ok (.ireturn, 1) := by decide +kernel
theorem dX1_addCall_71 : decode cX1_addCall 71 = .ok (.aload_n 0, 1) := by decide +kernel
theorem dX1_addCall_72 : decode cX1_addCall 72 = .ok (.getfield 46, 3) := by decide +kernel
theorem dX1_addCall_75 : decode cX1_addCall 75 = .ok (.bipush 28, 2) := by decide +kernel
theorem dX1_addCall_77 : decode cX1_addCall 77 = .ok (.if_icmp .ne 6, 3) := by decide +kernel
theorem dX1_addCall_80 : decode cX1_addCall 80 = .ok (.bipush (-13), 2) := by decide +kernel
theorem dX1_addCall_82 : decode cX1_addCall 82 = .ok (.ireturn, 1) := by decide +kernel
theorem dX1_addCall_83 : decode cX1_addCall 83 = .ok (.aload_n 0, 1) := by decide +kernel
theorem dX1_addCall_84 : decode cX1_addCall 84 = .ok (.iload_n 1, 1) := by decide +kernel
theorem dX1_addCall_85 : decode cX1_addCall 85 = .ok (.iload_n 2, 1) := by decide +kernel
theorem dX1_addCall_86 : decode cX1_addCall 86 = .ok (.iload_n 3, 1) := by decide +kernel
theorem dX1_addCall_87 : decode cX1_addCall 87 = .ok (.invokevirtual 68, 3) := by decide +kernel
theorem dX1_addCall_90 : decode cX1_addCall 90 = .ok (.aload_n 0, 1) := by decide +kernel
theorem dX1_addCall_91 : decode cX1_addCall 91 = .ok (.getfield 46, 3) := by decide +kernel
theorem dX1_addCall_94 : decode cX1_addCall 94 = .ok (.iconst 1, 1) := by decide +kernel
theorem dX1_addCall_95 : decode cX1_addCall 95 = .ok (.isub, 1) := by decide +kernel
theorem dX1_addCall_96 : decode cX1_addCall 96 = .ok (.ireturn, 1) := by decide +kernel
theorem dX1_removeLastRound_0 : decode cX1_removeLastRound 0 = .ok (.aload_n 0, 1) := by decide +kernel
theorem dX1_removeLastRound_1 : decode cX1_removeLastRound 1 = .ok (.getfield 43, 3) := by decide +kernel
theorem dX1_removeLastRound_4 : decode cX1_removeLastRound 4 = .ok (.ifCond .ne 6, 3) := by decide +kernel
theorem dX1_removeLastRound_7 : decode cX1_removeLastRound 7 = .ok (.bipush (-8), 2) := by decide +kernel
theorem dX1_removeLastRound_9 : decode cX1_removeLastRound 9 = .ok (.ireturn, 1) := by decide +kernel
theorem dX1_removeLastRound_10 : decode cX1_removeLastRound 10 = .ok (.aload_n 0, 1) := by decide +kernel
theorem dX1_removeLastRound_11 : decode cX1_removeLastRound 11 = .ok (.dup, 1) := by decide +kernel
theorem dX1_removeLastRound_12 : decode cX1_removeLastRound 12 = .ok (.getfield 43, 3) := by decide +kernel
theorem dX1_removeLastRound_15 : decode cX1_removeLastRound 15 = .ok (.iconst 1, 1) := by decide +kernel
theorem dX1_removeLastRound_16 : decode cX1_removeLastRound 16 = .ok (.isub, 1) := by decide +kernel
theorem dX1_removeLastRound_17 : decode cX1_removeLastRound 17 = .ok (.putfield 43, 3) := by decide +kernel
theorem dX1_removeLastRound_20 : decode cX1_removeLastRound 20 = .ok (.aload_n 0, 1) := by decide +kernel
theorem dX1_removeLastRound_21 : decode cX1_removeLastRound 21 = .ok (.getfield 46, 3) := by decide +kernel
theorem dX1_removeLastRound_24 : decode cX1_removeLastRound 24 = .ok (.ifCond .le 34, 3) := by decide +kernel
theorem dX1_removeLastRound_27 : decode cX1_removeLastRound 27 = .ok (.aload_n 0, 1) := by decide +kernel
theorem dX1_removeLastRound_28 : decode cX1_removeLastRound 28 = .ok (.getfield 13, 3) := by decide +kernel
theorem dX1_removeLastRound_31 : decode cX1_removeLastRound 31 = .ok (.aload_n 0, 1) := by decide +kernel
theorem dX1_removeLastRound_32 : decode cX1_removeLastRound 32 = .ok (.getfield 46, 3) := by decide +kernel
theorem dX1_removeLastRound_35 : decode cX1_removeLastRound 35 = .ok (.iconst 1, 1) := by decide +kernel
theorem dX1_removeLastRound_36 : decode cX1_removeLastRound 36 = .ok (.isub, 1) := by decide +kernel
theorem dX1_removeLastRound_37 : decode cX1_removeLastRound 37 = .ok (.iaload, 1) := by decide +kernel
theorem dX1_removeLastRound_38 : decode cX1_removeLastRound 38 = .ok (.aload_n 0, 1) := by decide +kernel
theorem dX1_removeLastRound_39 : decode cX1_removeLastRound 39 = .ok (.getfield 43, 3) := by decide +kernel
theorem dX1_removeLastRound_42 : decode cX1_removeLastRound 42 = .ok (.if_icmp .ne 16, 3) := by decide +kernel
theorem dX1_removeLastRound_45 : decode cX1_removeLastRound 45 = .ok (.aload_n 0, 1) := by decide +kernel
theorem dX1_removeLastRound_46 : decode cX1_removeLastRound 46 = .ok (.dup, 1) := by decide +kernel
theorem dX1_removeLastRound_47 : decode cX1_removeLastRound 47 = .ok (.getfield 46, 3) := by decide +kernel
theorem dX1_removeLastRound_50 : decode cX1_removeLastRound 50 = .ok (.iconst 1, 1) := by decide +kernel
theorem dX1_removeLastRound_51 : decode cX1_removeLastRound 51 = .ok (.isub, 1) := by decide +kernel
theorem dX1_removeLastRound_52 : decode cX1_removeLastRound 52 = .ok (.putfield 46, 3) := by decide +kernel
theorem dX1_removeLastRound_55 : decode cX1_removeLastRound 55 = .ok (.goto (-35), 3) := by decide +kernel
theorem dX1_removeLastRound_58 : decode cX1_removeLastRound 58 = .ok (.aload_n 0, 1) := by decide +kernel
theorem dX1_removeLastRound_59 : decode cX1_removeLastRound 59 = .ok (.getfield 43, 3) := by decide +kernel
theorem dX1_removeLastRound_62 : decode cX1_removeLastRound 62 = .ok (.ireturn, 1) := by decide +kernel
set_option maxRecDepth 20000 in
theorem ggX1_append_X1_within : GoodIn wsX1_append wsX1_within := goodIn_r _ [6] (by decide +kernel) (by decide +kernel)
set_option maxRecDepth 20000 in
theorem gX1_append_X1_within : GoodIn wsX1_append (va_wsS RX1 33 yX1_within wsX1_within) := goodIn_app (goodIn_of _ (by decide +kernel)) ggX1_append_X1_within
theorem dX1_append_0 : decode cX1_append 0 = .ok (.iload_n 1, 1) := by decide +kernel
theorem dX1_append_1 : decode cX1_append 1 = .ok (.bipush 32, 2) := by decide +kernel
theorem dX1_append_3 : decode cX1_append 3 = .ok (.bipush 126, 2) := by decide +kernel
theorem dX1_append_5 : decode cX1_append 5 = .ok (.invokestatic 33, 3) := by decide +kernel
theorem dX1_append_8 : decode cX1_append 8 = .ok (.ifCond .ne 6, 3) := by decide +kernel
theorem dX1_append_11 : decode cX1_append 11 = .ok (.bipush (-2), 2) := by decide +kernel
theorem dX1_append_13 : decode cX1_append 13 = .ok (.ireturn, 1) := by decide +kernel
theorem dX1_append_14 : decode cX1_append 14 = .ok (.aload_n 0, 1) := by decide +kernel
theorem dX1_append_15 : decode cX1_append 15 = .ok (.getfield 72, 3) := by decide +kernel
theorem dX1_append_18 : decode cX1_append 18 = .ok (.bipush 59, 2) := by decide +kernel
theorem dX1_append_20 : decode cX1_append 20 = .ok (.if_icmp .ne 6, 3) := by decide +kernel
theorem dX1_append_23 : decode cX1_append 23 = .ok (.bipush (-3), 2) := by decide +kernel
theorem dX1_append_25 : decode cX1_append 25 = .ok (.ireturn, 1) := by decide +kernel
theorem dX1_append_26 : decode cX1_append 26 = .ok (.aload_n 0, 1) := by decide +kernel
theorem dX1_append_27 : decode cX1_append 27 = .ok (.getfield 27, 3) := by decide +kernel
theorem dX1_append_30 : decode cX1_append 30 = .ok (.aload_n 0, 1) := by decide +kernel
theorem dX1_append_31 : decode cX1_append 31 = .ok (.getfield 72, 3) := by decide +kernel
theorem dX1_append_34 : decode cX1_append 34 = .ok (.iload_n 1, 1) := by decide +kernel
theorem dX1_append_35 : decode cX1_append 35 = .ok (.iastore, 1) := by decide +kernel
theorem dX1_append_36 : decode cX1_append 36 = .ok (.aload_n 0, 1) := by decide +kernel
theorem dX1_append_37 : decode cX1_append 37 = .ok (.dup, 1) := by decide +kernel
theorem dX1_append_38 : decode cX1_append 38 = .ok (.getfield 72, 3) := by decide +kernel
theorem dX1_append_41 : decode cX1_append 41 = .ok (.iconst 1, 1) := by decide +kernel
theorem dX1_append_42 : decode cX1_append 42 = .ok (.iadd, 1) := by decide +kernel
theorem dX1_append_43 : decode cX1_append 43 = .ok (.putfield 72, 3) := by decide +kernel
theorem dX1_append_46 : decode cX1_append 46 = .ok (.aload_n 0, 1) := by decide +kernel
theorem dX1_append_47 : decode cX1_append 47 = .ok (.getfield 72, 3) := by decide +kernel
theorem dX1_append_50 : decode cX1_append 50 = .ok (.ireturn, 1) := by decide +kernel
theorem dX1_clearInput_0 : decode cX1_clearInput 0 = .ok (.aload_n 0, 1) := by decide +kernel
theorem dX1_clearInput_1 : decode cX1_clearInput 1 = .ok (.getfield 72, 3) := by decide +kernel
theorem dX1_clearInput_4 : decode cX1_clearInput 4 = .ok (.istore_n 1, 1) := by decide +kernel
theorem dX1_clearInput_5 : decode cX1_clearInput 5 = .ok (.aload_n 0, 1) := by decide +kernel
theorem dX1_clearInput_6 : decode cX1_clearInput 6 = .ok (.iconst 0, 1) := by decide +kernel
theorem dX1_clearInput_7 : decode cX1_clearInput 7 = .ok (.putfield 72, 3) := by decide +kernel
theorem dX1_clearInput_10 : decode cX1_clearInput 10 = .ok (.iload_n 1, 1) := by decide +kernel
theorem dX1_clearInput_11 : decode cX1_clearInput 11 = .ok (.ireturn, 1) := by decide +kernel
set_option maxRecDepth 20000 in
theorem ggX1_isRight_X1_within : GoodIn wsX1_isRight wsX1_within := goodIn_r _ [6] (by decide +kernel) (by decide +kernel)
set_option maxRecDepth 20000 in
theorem gX1_isRight_X1_within : GoodIn wsX1_isRight (va_wsS RX1 33 yX1_within wsX1_within) := goodIn_app (goodIn_of _ (by decide +kernel)) ggX1_isRight_X1_within
theorem dX1_isRight_0 : decode cX1_isRight 0 = .ok (.aload_n 0, 1) := by decide +kernel
theorem dX1_isRight_1 : decode cX1_isRight 1 = .ok (.getfield 27, 3) := by decide +kernel
theorem dX1_isRight_4 : decode cX1_isRight 4 = .ok (.iload_n 1, 1) := by decide +kernel
theorem dX1_isRight_5 : decode cX1_isRight 5 = .ok (.iaload, 1) := by decide +kernel
theorem dX1_isRight_6 : decode cX1_isRight 6 = .ok (.istore_n 2, 1) := by decide +kernel
theorem dX1_isRight_7 : decode cX1_isRight 7 = .ok (.iload_n 2, 1) := by decide +kernel
theorem dX1_isRight_8 : decode cX1_isRight 8 = .ok (.bipush 48, 2) := by decide +kernel
theorem dX1_isRight_10 : decode cX1_isRight 10 = .ok (.bipush 48, 2) := by decide +kernel
theorem dX1_isRight_12 : decode cX1_isRight 12 = .ok (.aload_n 0, 1) := by decide +kernel
theorem dX1_isRight_13 : decode cX1_isRight 13 = .ok (.getfield 7, 3) := by decide +kernel
theorem dX1_isRight_16 : decode cX1_isRight 16 = .ok (.iadd, 1) := by decide +kernel
theorem dX1_isRight_17 : decode cX1_isRight 17 = .ok (.iconst 1, 1) := by decide +kernel
theorem dX1_isRight_18 : decode cX1_isRight 18 = .ok (.isub, 1) := by decide +kernel
theorem dX1_isRight_19 : decode cX1_isRight 19 = .ok (.invokestatic 33, 3) := by decide +kernel
theorem dX1_isRight_22 : decode cX1_isRight 22 = .ok (.istore_n 3, 1) := by decide +kernel
theorem dX1_isRight_23 : decode cX1_isRight 23 = .ok (.iload_n 1, 1) := by decide +kernel
theorem dX1_isRight_24 : decode cX1_isRight 24 = .ok (.iconst 4, 1) := by decide +kernel
theorem dX1_isRight_25 : decode cX1_isRight 25 = .ok (.irem, 1) := by decide +kernel
theorem dX1_isRight_26 : decode cX1_isRight 26 = .ok (.tableswitch 68 0 2 #[26, 28, 46], 26) := by decide +kernel
theorem dX1_isRight_52 : decode cX1_isRight 52 = .ok (.iload_n 3, 1) := by decide +kernel
theorem dX1_isRight_53 : decode cX1_isRight 53 = .ok (.ireturn, 1) := by decide +kernel
theorem dX1_isRight_54 : decode cX1_isRight 54 = .ok (.iload_n 2, 1) := by decide +kernel
theorem dX1_isRight_55 : decode cX1_isRight 55 = .ok (.bipush 45, 2) := by decide +kernel
theorem dX1_isRight_57 : decode cX1_isRight 57 = .ok (.if_icmp .eq 9, 3) := by decide +kernel
theorem dX1_isRight_60 : decode cX1_isRight 60 = .ok (.iload_n 2, 1) := by decide +kernel
theorem dX1_isRight_61 : decode cX1_isRight 61 = .ok (.bipush 62, 2) := by decide +kernel
theorem dX1_isRight_63 : decode cX1_isRight 63 = .ok (.if_icmp .ne 7, 3) := by decide +kernel
theorem dX1_isRight_66 : decode cX1_isRight 66 = .ok (.iconst 1, 1) := by decide +kernel
theorem dX1_isRight_67 : decode cX1_isRight 67 = .ok (.goto 4, 3) := by decide +kernel
theorem dX1_isRight_70 : decode cX1_isRight 70 = .ok (.iconst 0, 1) := by decide +kernel
theorem dX1_isRight_71 : decode cX1_isRight 71 = .ok (.ireturn, 1) := by decide +kernel
theorem dX1_isRight_72 : decode cX1_isRight 72 = .ok (.iload_n 3, 1) := by decide +kernel
theorem dX1_isRight_73 : decode cX1_isRight 73 = .ok (.ifCond .eq 19, 3) := by decide +kernel
theorem dX1_isRight_76 : decode cX1_isRight 76 = .ok (.iload_n 2, 1) := by decide +kernel
theorem dX1_isRight_77 : decode cX1_isRight 77 = .ok (.aload_n 0, 1) := by decide +kernel
theorem dX1_isRight_78 : decode cX1_isRight 78 = .ok (.getfield 27, 3) := by decide +kernel
theorem dX1_isRight_81 : decode cX1_isRight 81 = .ok (.iload_n 1, 1) := by decide +kernel
theorem dX1_isRight_82 : decode cX1_isRight 82 = .ok (.iconst 2, 1) := by decide +kernel
theorem dX1_isRight_83 : decode cX1_isRight 83 = .ok (.isub, 1) := by decide +kernel
theorem dX1_isRight_84 : decode cX1_isRight 84 = .ok (.iaload, 1) := by decide +kernel
theorem dX1_isRight_85 : decode cX1_isRight 85 = .ok (.if_icmp .eq 7, 3) := by decide +kernel
theorem dX1_isRight_88 : decode cX1_isRight 88 = .ok (.iconst 1, 1) := by decide +kernel
theorem dX1_isRight_89 : decode cX1_isRight 89 = .ok (.goto 4, 3) := by decide +kernel
theorem dX1_isRight_92 : decode cX1_isRight 92 = .ok (.iconst 0, 1) := by decide +kernel
theorem dX1_isRight_93 : decode cX1_isRight 93 = .ok (.ireturn, 1) := by decide +kernel
theorem dX1_isRight_94 : decode cX1_isRight 94 = .ok (.iload_n 2, 1) := by decide +kernel
theorem dX1_isRight_95 : decode cX1_isRight 95 = .ok (.bipush 44, 2) := by decide +kernel
theorem dX1_isRight_97 : decode cX1_isRight 97 = .ok (.if_icmp .eq 9, 3) := by decide +kernel
theorem dX1_isRight_100 : decode cX1_isRight 100 = .ok (.iload_n 2, 1) := by decide +kernel
theorem dX1_isRight_101 : decode cX1_isRight 101 = .ok (.bipush 59, 2) := by decide +kernel
theorem dX1_isRight_103 : decode cX1_isRight 103 = .ok (.if_icmp .ne 7, 3) := by decide +kernel
theorem dX1_isRight_106 : decode cX1_isRight 106 = .ok (.iconst 1, 1) := by decide +kernel
theorem dX1_isRight_107 : decode cX1_isRight 107 = .ok (.goto 4, 3) := by decide +kernel
theorem dX1_isRight_110 : decode cX1_isRight 110 = .ok (.iconst 0, 1) := by decide +kernel
theorem dX1_isRight_111 : decode cX1_isRight 111 = .ok (.ireturn, 1) := by decide +kernel
set_option maxRecDepth 20000 in
theorem ggX1_rightLength_X1_isRight : GoodIn wsX1_rightLength wsX1_isRight := goodIn_r _ [6, 7, 8, 9, 10, 5, 11, 12, 13, 14, 15, 16, 17, 18, 19, 20, 21, 22, 23, 24] (by decide +kernel) (by decide +kernel)
set_option maxRecDepth 20000 in
theorem gX1_rightLength_X1_isRight : GoodIn wsX1_rightLength (wsV RX1 75 RX1 yX1_isRight wsX1_isRight) := goodIn_app (goodIn_of _ (by decide +kernel)) ggX1_rightLength_X1_isRight
theorem dX1_rightLength_0 : decode cX1_rightLength 0 = .ok (.iconst 0, 1) := by decide +kernel
theorem dX1_rightLength_1 : decode cX1_rightLength 1 = .ok (.istore_n 1, 1) := by decide +kernel
theorem dX1_rightLength_2 : decode cX1_rightLength 2 = .ok (.iload_n 1, 1) := by decide +kernel
theorem dX1_rightLength_3 : decode cX1_rightLength 3 = .ok (.aload_n 0, 1) := by decide +kernel
theorem dX1_rightLength_4 : decode cX1_rightLength 4 = .ok (.getfield 72, 3) := by decide +kernel
theorem dX1_rightLength_7 : decode cX1_rightLength 7 = .ok (.if_icmp .ge 17, 3) := by decide +kernel
theorem dX1_rightLength_10 : decode cX1_rightLength 10 = .ok (.aload_n 0, 1) := by decide +kernel
theorem dX1_rightLength_11 : decode cX1_rightLength 11 = .ok (.iload_n 1, 1) := by decide +kernel
theorem dX1_rightLength_12 : decode cX1_rightLength 12 = .ok (.invokevirtual 75, 3) := by decide +kernel
theorem dX1_rightLength_15 : decode cX1_rightLength 15 = .ok (.ifCond .eq 9, 3) := by decide +kernel
theorem dX1_rightLength_18 : decode cX1_rightLength 18 = .ok (.iinc 1 1, 3) := by decide +kernel
theorem dX1_rightLength_21 : decode cX1_rightLength 21 = .ok (.goto (-19), 3) := by decide +kernel
theorem dX1_rightLength_24 : decode cX1_rightLength 24 = .ok (.iload_n 1, 1) := by decide +kernel
theorem dX1_rightLength_25 : decode cX1_rightLength 25 = .ok (.ireturn, 1) := by decide +kernel
set_option maxRecDepth 20000 in
theorem ggX1_firstError_X1_rightLength : GoodIn wsX1_firstError wsX1_rightLength := goodIn_r _ [5, 6, 7, 8, 9, 4, 10, 11, 12, 13, 14, 15, 16, 17, 18, 19, 20, 21, 22, 23, 24, 25, 26, 27, 28] (by decide +kernel) (by decide +kernel)
set_option maxRecDepth 20000 in
theorem gX1_firstError_X1_rightLength : GoodIn wsX1_firstError (wsV RX1 78 RX1 yX1_rightLength wsX1_rightLength) := goodIn_app (goodIn_of _ (by decide +kernel)) ggX1_firstError_X1_rightLength
theorem dX1_firstError_0 : decode cX1_firstError 0 = .ok (.aload_n 0, 1) := by decide +kernel
theorem dX1_firstError_1 : decode cX1_firstError 1 = .ok (.invokevirtual 78, 3) := by decide +kernel
theorem dX1_firstError_4 : decode cX1_firstError 4 = .ok (.ireturn, 1) := by decide +kernel
theorem dX1_isBusyBefore_0 : decode cX1_isBusyBefore 0 = .ok (.iconst 0, 1) := by decide +kernel
theorem dX1_isBusyBefore_1 : decode cX1_isBusyBefore 1 = .ok (.istore_n 3, 1) := by decide +kernel
theorem dX1_isBusyBefore_2 : decode cX1_isBusyBefore 2 = .ok (.iload_n 1, 1) := by decide +kernel
theorem dX1_isBusyBefore_3 : decode cX1_isBusyBefore 3 = .ok (.istore 4, 2) := by decide +kernel
theorem dX1_isBusyBefore_5 : decode cX1_isBusyBefore 5 = .ok (.iload 4, 2) := by decide +kernel
theorem dX1_isBusyBefore_7 : decode cX1_isBusyBefore 7 = .ok (.ifCond .le 59, 3) := by decide +kernel
theorem dX1_isBusyBefore_10 : decode cX1_isBusyBefore 10 = .ok (.aload_n 0, 1) := by decide +kernel
theorem dX1_isBusyBefore_11 : decode cX1_isBusyBefore 11 = .ok (.getfield 27, 3) := by decide +kernel
theorem dX1_isBusyBefore_14 : decode cX1_isBusyBefore 14 = .ok (.iload 4, 2) := by decide +kernel
theorem dX1_isBusyBefore_16 : decode cX1_isBusyBefore 16 = .ok (.iconst 1, 1) := by decide +kernel
theorem dX1_isBusyBefore_17 : decode cX1_isBusyBefore 17 = .ok (.isub, 1) := by decide +kernel
theorem dX1_isBusyBefore_18 : decode cX1_isBusyBefore 18 = .ok (.iaload, 1) := by decide +kernel
theorem dX1_isBusyBefore_19 : decode cX1_isBusyBefore 19 = .ok (.bipush 44, 2) := by decide +kernel
theorem dX1_isBusyBefore_21 : decode cX1_isBusyBefore 21 = .ok (.if_icmp .ne 45, 3) := by decide +kernel
theorem dX1_isBusyBefore_24 : decode cX1_isBusyBefore 24 = .ok (.iload_n 3, 1) := by decide +kernel
theorem dX1_isBusyBefore_25 : decode cX1_isBusyBefore 25 = .ok (.ifCond .ne 29, 3) := by decide +kernel
theorem dX1_isBusyBefore_28 : decode cX1_isBusyBefore 28 = .ok (.aload_n 0, 1) := by decide +kernel
theorem dX1_isBusyBefore_29 : decode cX1_isBusyBefore 29 = .ok (.getfield 27, 3) := by decide +kernel
theorem dX1_isBusyBefore_32 : decode cX1_isBusyBefore 32 = .ok (.iload 4, 2) := by decide +kernel
theorem dX1_isBusyBefore_34 : decode cX1_isBusyBefore 34 = .ok (.iconst 4, 1) := by decide +kernel
theorem dX1_isBusyBefore_35 : decode cX1_isBusyBefore 35 = .ok (.isub, 1) := by decide +kernel
theorem dX1_isBusyBefore_36 : decode cX1_isBusyBefore 36 = .ok (.iaload, 1) := by decide +kernel
theorem dX1_isBusyBefore_37 : decode cX1_isBusyBefore 37 = .ok (.iload_n 2, 1) := by decide +kernel
theorem dX1_isBusyBefore_38 : decode cX1_isBusyBefore 38 = .ok (.if_icmp .eq 16, 3) := by decide +kernel
theorem dX1_isBusyBefore_41 : decode cX1_isBusyBefore 41 = .ok (.aload_n 0, 1) := by decide +kernel
theorem dX1_isBusyBefore_42 : decode cX1_isBusyBefore 42 = .ok (.getfield 27, 3) := by decide +kernel
theorem dX1_isBusyBefore_45 : decode cX1_isBusyBefore 45 = .ok (.iload 4, 2) := by decide +kernel
theorem dX1_isBusyBefore_47 : decode cX1_isBusyBefore 47 = .ok (.iconst 2, 1) := by decide +kernel
theorem dX1_isBusyBefore_48 : decode cX1_isBusyBefore 48 = .ok (.isub, 1) := by decide +kernel
theorem dX1_isBusyBefore_49 : decode cX1_isBusyBefore 49 = .ok (.iaload, 1) := by decide +kernel
theorem dX1_isBusyBefore_50 : decode cX1_isBusyBefore 50 = .ok (.iload_n 2, 1) := by decide +kernel
theorem dX1_isBusyBefore_51 : decode cX1_isBusyBefore 51 = .ok (.if_icmp .ne 7, 3) := by decide +kernel
theorem dX1_isBusyBefore_54 : decode cX1_isBusyBefore 54 = .ok (.iconst 1, 1) := by decide +kernel
theorem dX1_isBusyBefore_55 : decode cX1_isBusyBefore 55 = .ok (.goto 4, 3) := by decide +kernel
theorem dX1_isBusyBefore_58 : decode cX1_isBusyBefore 58 = .ok (.iconst 0, 1) := by decide +kernel
theorem dX1_isBusyBefore_59 : decode cX1_isBusyBefore 59 = .ok (.istore_n 3, 1) := by decide +kernel
theorem dX1_isBusyBefore_60 : decode cX1_isBusyBefore 60 = .ok (.iinc 4 (-4), 3) := by decide +kernel
theorem dX1_isBusyBefore_63 : decode cX1_isBusyBefore 63 = .ok (.goto (-58), 3) := by decide +kernel
theorem dX1_isBusyBefore_66 : decode cX1_isBusyBefore 66 = .ok (.iload_n 3, 1) := by decide +kernel
theorem dX1_isBusyBefore_67 : decode cX1_isBusyBefore 67 = .ok (.ireturn, 1) := by decide +kernel
set_option maxRecDepth 20000 in
theorem ggX1_errorOfBuffer_X1_isEdge : GoodIn wsX1_errorOfBuffer wsX1_isEdge := goodIn_r _ [7, 8, 9, 19, 20, 21, 22, 23, 24, 25, 26, 27, 28, 29, 30, 31] (by decide +kernel) (by decide +kernel)
set_option maxRecDepth 20000 in
theorem gX1_errorOfBuffer_X1_isEdge : GoodIn wsX1_errorOfBuffer (wsV RX1 57 RX1 yX1_isEdge wsX1_isEdge) := goodIn_app (goodIn_of _ (by decide +kernel)) ggX1_errorOfBuffer_X1_isEdge
set_option maxRecDepth 20000 in
theorem ggX1_errorOfBuffer_X1_isBusyBefore : GoodIn wsX1_errorOfBuffer wsX1_isBusyBefore := goodIn_r _ [13, 2, 19, 20, 21, 22, 23, 24, 25, 26, 27, 28, 29, 30, 31] (by decide +kernel) (by decide +kernel)
set_option maxRecDepth 20000 in
theorem gX1_errorOfBuffer_X1_isBusyBefore : GoodIn wsX1_errorOfBuffer (wsV RX1 82 RX1 yX1_isBusyBefore wsX1_isBusyBefore) := goodIn_app (goodIn_of _ (by decide +kernel)) ggX1_errorOfBuffer_X1_isBusyBefore
set_option maxRecDepth 20000 in
theorem ggX1_errorOfBuffer_X1_accepts : GoodIn wsX1_errorOfBuffer wsX1_accepts := goodIn_r _ [17, 18, 19, 20, 21, 22, 23, 24, 25, 26, 27, 28, 29, 30, 31] (by decide +kernel) (by decide +kernel)
set_option maxRecDepth 20000 in
theorem gX1_errorOfBuffer_X1_accepts : GoodIn wsX1_errorOfBuffer (wsV RX1 64 RX1 yX1_accepts wsX1_accepts) := goodIn_app (goodIn_of _ (by decide +kernel)) ggX1_errorOfBuffer_X1_accepts
theorem dX1_errorOfBuffer_0 : decode cX1_errorOfBuffer 0 = .ok (.iconst 0, 1) := by decide +kernel
theorem dX1_errorOfBuffer_1 : decode cX1_errorOfBuffer 1 = .ok (.istore_n 1, 1) := by decide +kernel
theorem dX1_errorOfBuffer_2 : decode cX1_errorOfBuffer 2 = .ok (.iload_n 1, 1) := by decide +kernel
theorem dX1_errorOfBuffer_3 : decode cX1_errorOfBuffer 3 = .ok (.aload_n 0, 1) := by decide +kernel
theorem dX1_errorOfBuffer_4 : decode cX1_errorOfBuffer 4 = .ok (.getfield 72, 3) := by decide +kernel
theorem dX1_errorOfBuffer_7 : decode cX1_errorOfBuffer 7 = .ok (.if_icmp .ge 100, 3) := by decide +kernel
theorem dX1_errorOfBuffer_10 : decode cX1_errorOfBuffer 10 = .ok (.aload_n 0, 1) := by decide +kernel
theorem dX1_errorOfBuffer_11 : decode cX1_errorOfBuffer 11 = .ok (.aload_n 0, 1) := by decide +kernel
theorem dX1_errorOfBuffer_12 : decode cX1_errorOfBuffer 12 = .ok (.getfield 27, 3) := by decide +kernel
theorem dX1_errorOfBuffer_15 : decode cX1_errorOfBuffer 15 = .ok (.iload_n 1, 1) := by decide +kernel
theorem dX1_errorOfBuffer_16 : decode cX1_errorOfBuffer 16 = .ok (.iaload, 1) := by decide +kernel
theorem dX1_errorOfBuffer_17 : decode cX1_errorOfBuffer 17 = .ok (.bipush 48, 2) := by decide +kernel
theorem dX1_errorOfBuffer_19 : decode cX1_errorOfBuffer 19 = .ok (.isub, 1) := by decide +kernel
theorem dX1_errorOfBuffer_20 : decode cX1_errorOfBuffer 20 = .ok (.aload_n 0, 1) := by decide +kernel
theorem dX1_errorOfBuffer_21 : decode cX1_errorOfBuffer 21 = .ok (.getfield 27, 3) := by decide +kernel
theorem dX1_errorOfBuffer_24 : decode cX1_errorOfBuffer 24 = .ok (.iload_n 1, 1) := by decide +kernel
theorem dX1_errorOfBuffer_25 : decode cX1_errorOfBuffer 25 = .ok (.iconst 2, 1) := by decide +kernel
theorem dX1_errorOfBuffer_26 : decode cX1_errorOfBuffer 26 = .ok (.iadd, 1) := by decide +kernel
theorem dX1_errorOfBuffer_27 : decode cX1_errorOfBuffer 27 = .ok (.iaload, 1) := by decide +kernel
theorem dX1_errorOfBuffer_28 : decode cX1_errorOfBuffer 28 = .ok (.bipush 48, 2) := by decide +kernel
theorem dX1_errorOfBuffer_30 : decode cX1_errorOfBuffer 30 = .ok (.isub, 1) := by decide +kernel
theorem dX1_errorOfBuffer_31 : decode cX1_errorOfBuffer 31 = .ok (.invokevirtual 57, 3) := by decide +kernel
theorem dX1_errorOfBuffer_34 : decode cX1_errorOfBuffer 34 = .ok (.ifCond .ne 6, 3) := by decide +kernel
theorem dX1_errorOfBuffer_37 : decode cX1_errorOfBuffer 37 = .ok (.bipush (-10), 2) := by decide +kernel
theorem dX1_errorOfBuffer_39 : decode cX1_errorOfBuffer 39 = .ok (.ireturn, 1) := by decide +kernel
theorem dX1_errorOfBuffer_40 : decode cX1_errorOfBuffer 40 = .ok (.aload_n 0, 1) := by decide +kernel
theorem dX1_errorOfBuffer_41 : decode cX1_errorOfBuffer 41 = .ok (.iload_n 1, 1) := by decide +kernel
theorem dX1_errorOfBuffer_42 : decode cX1_errorOfBuffer 42 = .ok (.aload_n 0, 1) := by decide +kernel
theorem dX1_errorOfBuffer_43 : decode cX1_errorOfBuffer 43 = .ok (.getfield 27, 3) := by decide +kernel
theorem dX1_errorOfBuffer_46 : decode cX1_errorOfBuffer 46 = .ok (.iload_n 1, 1) := by decide +kernel
theorem dX1_errorOfBuffer_47 : decode cX1_errorOfBuffer 47 = .ok (.iaload, 1) := by decide +kernel
theorem dX1_errorOfBuffer_48 : decode cX1_errorOfBuffer 48 = .ok (.invokevirtual 82, 3) := by decide +kernel
theorem dX1_errorOfBuffer_51 : decode cX1_errorOfBuffer 51 = .ok (.ifCond .ne 19, 3) := by decide +kernel
theorem dX1_errorOfBuffer_54 : decode cX1_errorOfBuffer 54 = .ok (.aload_n 0, 1) := by decide +kernel
theorem dX1_errorOfBuffer_55 : decode cX1_errorOfBuffer 55 = .ok (.iload_n 1, 1) := by decide +kernel
theorem dX1_errorOfBuffer_56 : decode cX1_errorOfBuffer 56 = .ok (.aload_n 0, 1) := by decide +kernel
theorem dX1_errorOfBuffer_57 : decode cX1_errorOfBuffer 57 = .ok (.getfield 27, 3) := by decide +kernel
theorem dX1_errorOfBuffer_60 : decode cX1_errorOfBuffer 60 = .ok (.iload_n 1, 1) := by decide +kernel
theorem dX1_errorOfBuffer_61 : decode cX1_errorOfBuffer 61 = .ok (.iconst 2, 1) := by decide +kernel
theorem dX1_errorOfBuffer_62 : decode cX1_errorOfBuffer 62 = .ok (.iadd, 1) := by decide +kernel
theorem dX1_errorOfBuffer_63 : decode cX1_errorOfBuffer 63 = .ok (.iaload, 1) := by decide +kernel
theorem dX1_errorOfBuffer_64 : decode cX1_errorOfBuffer 64 = .ok (.invokevirtual 82, 3) := by decide +kernel
theorem dX1_errorOfBuffer_67 : decode cX1_errorOfBuffer 67 = .ok (.ifCond .eq 6, 3) := by decide +kernel
theorem dX1_errorOfBuffer_70 : decode cX1_errorOfBuffer 70 = .ok (.bipush (-9), 2) := by decide +kernel
theorem dX1_errorOfBuffer_72 : decode cX1_errorOfBuffer 72 = .ok (.ireturn, 1) := by decide +kernel
theorem dX1_errorOfBuffer_73 : decode cX1_errorOfBuffer 73 = .ok (.aload_n 0, 1) := by decide +kernel
theorem dX1_errorOfBuffer_74 : decode cX1_errorOfBuffer 74 = .ok (.aload_n 0, 1) := by decide +kernel
theorem dX1_errorOfBuffer_75 : decode cX1_errorOfBuffer 75 = .ok (.getfield 27, 3) := by decide +kernel
theorem dX1_errorOfBuffer_78 : decode cX1_errorOfBuffer 78 = .ok (.iload_n 1, 1) := by decide +kernel
theorem dX1_errorOfBuffer_79 : decode cX1_errorOfBuffer 79 = .ok (.iconst 1, 1) := by decide +kernel
theorem dX1_errorOfBuffer_80 : decode cX1_errorOfBuffer 80 = .ok (.iadd, 1) := by decide +kernel
theorem dX1_errorOfBuffer_81 : decode cX1_errorOfBuffer 81 = .ok (.iaload, 1) := by decide +kernel
theorem dX1_errorOfBuffer_82 : decode cX1_errorOfBuffer 82 = .ok (.bipush 62, 2) := by decide +kernel
theorem dX1_errorOfBuffer_84 : decode cX1_errorOfBuffer 84 = .ok (.if_icmp .ne 7, 3) := by decide +kernel
theorem dX1_errorOfBuffer_87 : decode cX1_errorOfBuffer 87 = .ok (.iconst 1, 1) := by decide +kernel
theorem dX1_errorOfBuffer_88 : decode cX1_errorOfBuffer 88 = .ok (.goto 4, 3) := by decide +kernel
theorem dX1_errorOfBuffer_91 : decode cX1_errorOfBuffer 91 = .ok (.iconst 0, 1) := by decide +kernel
theorem dX1_errorOfBuffer_92 : decode cX1_errorOfBuffer 92 = .ok (.invokevirtual 64, 3) := by decide +kernel
theorem dX1_errorOfBuffer_95 : decode cX1_errorOfBuffer 95 = .ok (.ifCond .ne 6, 3) := by decide +kernel
