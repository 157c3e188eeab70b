theorem dX1_averageNow_20 : decode cX1_averageNow 20 = .ok (.iload 4, 2) := by decide +kernel
theorem dX1_averageNow_22 : decode cX1_averageNow 22 = .ok (.bipush 8, 2) := by decide +kernel
theorem dX1_averageNow_24 : decode cX1_averageNow 24 = .ok (.if_icmp .ge 23, 3) := by decide +kernel
theorem dX1_averageNow_27 : decode cX1_averageNow 27 = .ok (.iload_n 2, 1) := by decide +kernel
theorem dX1_averageNow_28 : decode cX1_averageNow 28 = .ok (.aload_n 0, 1) := by decide +kernel
theorem dX1_averageNow_29 : decode cX1_averageNow 29 = .ok (.getfield 30, 3) := by decide +kernel
theorem dX1_averageNow_32 : decode cX1_averageNow 32 = .ok (.iload_n 3, 1) := by decide +kernel
theorem dX1_averageNow_33 : decode cX1_averageNow 33 = .ok (.iaload, 1) := by decide +kernel
theorem dX1_averageNow_34 : decode cX1_averageNow 34 = .ok (.iload 4, 2) := by decide +kernel
theorem dX1_averageNow_36 : decode cX1_averageNow 36 = .ok (.ishr, 1) := by decide +kernel
theorem dX1_averageNow_37 : decode cX1_averageNow 37 = .ok (.iconst 1, 1) := by decide +kernel
theorem dX1_averageNow_38 : decode cX1_averageNow 38 = .ok (.iand, 1) := by decide +kernel
theorem dX1_averageNow_39 : decode cX1_averageNow 39 = .ok (.iadd, 1) := by decide +kernel
theorem dX1_averageNow_40 : decode cX1_averageNow 40 = .ok (.istore_n 2, 1) := by decide +kernel
theorem dX1_averageNow_41 : decode cX1_averageNow 41 = .ok (.iinc 4 1, 3) := by decide +kernel
theorem dX1_averageNow_44 : decode cX1_averageNow 44 = .ok (.goto (-24), 3) := by decide +kernel
theorem dX1_averageNow_47 : decode cX1_averageNow 47 = .ok (.iinc 3 1, 3) := by decide +kernel
theorem dX1_averageNow_50 : decode cX1_averageNow 50 = .ok (.goto (-41), 3) := by decide +kernel
theorem dX1_averageNow_53 : decode cX1_averageNow 53 = .ok (.iload_n 2, 1) := by decide +kernel
theorem dX1_averageNow_54 : decode cX1_averageNow 54 = .ok (.i2f, 1) := by decide +kernel
theorem dX1_averageNow_55 : decode cX1_averageNow 55 = .ok (.aload_n 0, 1) := by decide +kernel
theorem dX1_averageNow_56 : decode cX1_averageNow 56 = .ok (.getfield 7, 3) := by decide +kernel
theorem dX1_averageNow_59 : decode cX1_averageNow 59 = .ok (.i2f, 1) := by decide +kernel
theorem dX1_averageNow_60 : decode cX1_averageNow 60 = .ok (.fdiv, 1) := by decide +kernel
theorem dX1_averageNow_61 : decode cX1_averageNow 61 = .ok (.invokestatic 120, 3) := by decide +kernel
theorem dX1_averageNow_64 : decode cX1_averageNow 64 = .ok (.ireturn, 1) := by decide +kernel
set_option maxRecDepth 20000 in
theorem ggX1_averageKnowledge_X1_within : GoodIn wsX1_averageKnowledge wsX1_within := goodIn_r _ [5] (by decide +kernel) (by decide +kernel)
set_option maxRecDepth 20000 in
theorem gX1_averageKnowledge_X1_within : GoodIn wsX1_averageKnowledge (va_wsS RX1 33 yX1_within wsX1_within) := goodIn_app (goodIn_of _ (by decide +kernel)) ggX1_averageKnowledge_X1_within
set_option maxRecDepth 20000 in
theorem ggX1_averageKnowledge_X1_averageNow : GoodIn wsX1_averageKnowledge wsX1_averageNow := goodIn_r _ [9, 10, 11, 12, 13, 14, 4, 15, 16, 17, 18, 19, 20, 21, 22, 23, 24, 25, 26, 27, 28, 29, 30, 31, 32, 33, 34, 35, 36, 37, 38, 39, 40, 41, 42, 43, 44, 45, 46, 47, 48, 49, 50, 51, 52, 53] (by decide +kernel) (by decide +kernel)
set_option maxRecDepth 20000 in
theorem gX1_averageKnowledge_X1_averageNow : GoodIn wsX1_averageKnowledge (wsV RX1 126 RX1 yX1_averageNow wsX1_averageNow) := goodIn_app (goodIn_of _ (by decide +kernel)) ggX1_averageKnowledge_X1_averageNow
theorem dX1_averageKnowledge_0 : decode cX1_averageKnowledge 0 = .ok (.iload_n 1, 1) := by decide +kernel
theorem dX1_averageKnowledge_1 : decode cX1_averageKnowledge 1 = .ok (.iconst 0, 1) := by decide +kernel
theorem dX1_averageKnowledge_2 : decode cX1_averageKnowledge 2 = .ok (.aload_n 0, 1) := by decide +kernel
theorem dX1_averageKnowledge_3 : decode cX1_averageKnowledge 3 = .ok (.getfield 43, 3) := by decide +kernel
theorem dX1_averageKnowledge_6 : decode cX1_averageKnowledge 6 = .ok (.invokestatic 33, 3) := by decide +kernel
theorem dX1_averageKnowledge_9 : decode cX1_averageKnowledge 9 = .ok (.ifCond .eq 11, 3) := by decide +kernel
theorem dX1_averageKnowledge_12 : decode cX1_averageKnowledge 12 = .ok (.aload_n 0, 1) := by decide +kernel
theorem dX1_averageKnowledge_13 : decode cX1_averageKnowledge 13 = .ok (.iload_n 1, 1) := by decide +kernel
theorem dX1_averageKnowledge_14 : decode cX1_averageKnowledge 14 = .ok (.invokevirtual 126, 3) := by decide +kernel
theorem dX1_averageKnowledge_17 : decode cX1_averageKnowledge 17 = .ok (.goto 5, 3) := by decide +kernel
theorem dX1_averageKnowledge_20 : decode cX1_averageKnowledge 20 = .ok (.bipush (-5), 2) := by decide +kernel
theorem dX1_averageKnowledge_22 : decode cX1_averageKnowledge 22 = .ok (.ireturn, 1) := by decide +kernel
theorem dX1_hasSquare_0 : decode cX1_hasSquare 0 = .ok (.aload_n 0, 1) := by decide +kernel
theorem dX1_hasSquare_1 : decode cX1_hasSquare 1 = .ok (.getfield 40, 3) := by decide +kernel
theorem dX1_hasSquare_4 : decode cX1_hasSquare 4 = .ok (.ifCond .eq 27, 3) := by decide +kernel
theorem dX1_hasSquare_7 : decode cX1_hasSquare 7 = .ok (.aload_n 0, 1) := by decide +kernel
theorem dX1_hasSquare_8 : decode cX1_hasSquare 8 = .ok (.getfield 40, 3) := by decide +kernel
theorem dX1_hasSquare_11 : decode cX1_hasSquare 11 = .ok (.iconst 1, 1) := by decide +kernel
theorem dX1_hasSquare_12 : decode cX1_hasSquare 12 = .ok (.if_icmp .ne 11, 3) := by decide +kernel
theorem dX1_hasSquare_15 : decode cX1_hasSquare 15 = .ok (.aload_n 0, 1) := by decide +kernel
theorem dX1_hasSquare_16 : decode cX1_hasSquare 16 = .ok (.getfield 7, 3) := by decide +kernel
theorem dX1_hasSquare_19 : decode cX1_hasSquare 19 = .ok (.iconst 4, 1) := by decide +kernel
theorem dX1_hasSquare_20 : decode cX1_hasSquare 20 = .ok (.if_icmp .eq 11, 3) := by decide +kernel
theorem dX1_hasSquare_23 : decode cX1_hasSquare 23 = .ok (.aload_n 0, 1) := by decide +kernel
theorem dX1_hasSquare_24 : decode cX1_hasSquare 24 = .ok (.getfield 40, 3) := by decide +kernel
theorem dX1_hasSquare_27 : decode cX1_hasSquare 27 = .ok (.iconst 4, 1) := by decide +kernel
theorem dX1_hasSquare_28 : decode cX1_hasSquare 28 = .ok (.if_icmp .ne 7, 3) := by decide +kernel
theorem dX1_hasSquare_31 : decode cX1_hasSquare 31 = .ok (.iconst 1, 1) := by decide +kernel
theorem dX1_hasSquare_32 : decode cX1_hasSquare 32 = .ok (.goto 4, 3) := by decide +kernel
theorem dX1_hasSquare_35 : decode cX1_hasSquare 35 = .ok (.iconst 0, 1) := by decide +kernel
theorem dX1_hasSquare_36 : decode cX1_hasSquare 36 = .ok (.ireturn, 1) := by decide +kernel
set_option maxRecDepth 20000 in
theorem ggX1_leastNow_X1_hasSquare : GoodIn wsX1_leastNow wsX1_hasSquare := goodIn_r _ [6, 7, 1, 8, 9, 10, 11, 12, 13, 14, 15, 16, 17, 18, 19, 20] (by decide +kernel) (by decide +kernel)
set_option maxRecDepth 20000 in
theorem gX1_leastNow_X1_hasSquare : GoodIn wsX1_leastNow (wsV RX1 129 RX1 yX1_hasSquare wsX1_hasSquare) := goodIn_app (goodIn_of _ (by decide +kernel)) ggX1_leastNow_X1_hasSquare
theorem dX1_leastNow_0 : decode cX1_leastNow 0 = .ok (.iload_n 1, 1) := by decide +kernel
theorem dX1_leastNow_1 : decode cX1_leastNow 1 = .ok (.ifCond .eq 12, 3) := by decide +kernel
theorem dX1_leastNow_4 : decode cX1_leastNow 4 = .ok (.iconst 2, 1) := by decide +kernel
theorem dX1_leastNow_5 : decode cX1_leastNow 5 = .ok (.aload_n 0, 1) := by decide +kernel
theorem dX1_leastNow_6 : decode cX1_leastNow 6 = .ok (.getfield 7, 3) := by decide +kernel
theorem dX1_leastNow_9 : decode cX1_leastNow 9 = .ok (.imul, 1) := by decide +kernel
theorem dX1_leastNow_10 : decode cX1_leastNow 10 = .ok (.iconst 2, 1) := by decide +kernel
theorem dX1_leastNow_11 : decode cX1_leastNow 11 = .ok (.isub, 1) := by decide +kernel
theorem dX1_leastNow_12 : decode cX1_leastNow 12 = .ok (.ireturn, 1) := by decide +kernel
theorem dX1_leastNow_13 : decode cX1_leastNow 13 = .ok (.aload_n 0, 1) := by decide +kernel
theorem dX1_leastNow_14 : decode cX1_leastNow 14 = .ok (.getfield 7, 3) := by decide +kernel
theorem dX1_leastNow_17 : decode cX1_leastNow 17 = .ok (.iconst 4, 1) := by decide +kernel
theorem dX1_leastNow_18 : decode cX1_leastNow 18 = .ok (.if_icmp .ge 14, 3) := by decide +kernel
theorem dX1_leastNow_21 : decode cX1_leastNow 21 = .ok (.iconst 2, 1) := by decide +kernel
theorem dX1_leastNow_22 : decode cX1_leastNow 22 = .ok (.aload_n 0, 1) := by decide +kernel
theorem dX1_leastNow_23 : decode cX1_leastNow 23 = .ok (.getfield 7, 3) := by decide +kernel
theorem dX1_leastNow_26 : decode cX1_leastNow 26 = .ok (.imul, 1) := by decide +kernel
theorem dX1_leastNow_27 : decode cX1_leastNow 27 = .ok (.iconst 3, 1) := by decide +kernel
theorem dX1_leastNow_28 : decode cX1_leastNow 28 = .ok (.isub, 1) := by decide +kernel
theorem dX1_leastNow_29 : decode cX1_leastNow 29 = .ok (.goto 29, 3) := by decide +kernel
theorem dX1_leastNow_32 : decode cX1_leastNow 32 = .ok (.aload_n 0, 1) := by decide +kernel
theorem dX1_leastNow_33 : decode cX1_leastNow 33 = .ok (.invokevirtual 129, 3) := by decide +kernel
theorem dX1_leastNow_36 : decode cX1_leastNow 36 = .ok (.ifCond .eq 14, 3) := by decide +kernel
theorem dX1_leastNow_39 : decode cX1_leastNow 39 = .ok (.iconst 2, 1) := by decide +kernel
theorem dX1_leastNow_40 : decode cX1_leastNow 40 = .ok (.aload_n 0, 1) := by decide +kernel
theorem dX1_leastNow_41 : decode cX1_leastNow 41 = .ok (.getfield 7, 3) := by decide +kernel
theorem dX1_leastNow_44 : decode cX1_leastNow 44 = .ok (.imul, 1) := by decide +kernel
theorem dX1_leastNow_45 : decode cX1_leastNow 45 = .ok (.iconst 4, 1) := by decide +kernel
theorem dX1_leastNow_46 : decode cX1_leastNow 46 = .ok (.isub, 1) := by decide +kernel
theorem dX1_leastNow_47 : decode cX1_leastNow 47 = .ok (.goto 11, 3) := by decide +kernel
theorem dX1_leastNow_50 : decode cX1_leastNow 50 = .ok (.iconst 2, 1) := by decide +kernel
theorem dX1_leastNow_51 : decode cX1_leastNow 51 = .ok (.aload_n 0, 1) := by decide +kernel
theorem dX1_leastNow_52 : decode cX1_leastNow 52 = .ok (.getfield 7, 3) := by decide +kernel
theorem dX1_leastNow_55 : decode cX1_leastNow 55 = .ok (.imul, 1) := by decide +kernel
theorem dX1_leastNow_56 : decode cX1_leastNow 56 = .ok (.iconst 3, 1) := by decide +kernel
theorem dX1_leastNow_57 : decode cX1_leastNow 57 = .ok (.isub, 1) := by decide +kernel
theorem dX1_leastNow_58 : decode cX1_leastNow 58 = .ok (.ireturn, 1) := by decide +kernel
set_option maxRecDepth 20000 in
theorem ggX1_leastCalls_X1_leastNow : GoodIn wsX1_leastCalls wsX1_leastNow := goodIn_r _ [5, 6, 7, 8, 9, 4, 10, 11, 12, 13, 14, 15, 16, 17, 18, 19, 20, 21, 22, 23, 24] (by decide +kernel) (by decide +kernel)
set_option maxRecDepth 20000 in
theorem gX1_leastCalls_X1_leastNow : GoodIn wsX1_leastCalls (wsV RX1 132 RX1 yX1_leastNow wsX1_leastNow) := goodIn_app (goodIn_of _ (by decide +kernel)) ggX1_leastCalls_X1_leastNow
theorem dX1_leastCalls_0 : decode cX1_leastCalls 0 = .ok (.aload_n 0, 1) := by decide +kernel
theorem dX1_leastCalls_1 : decode cX1_leastCalls 1 = .ok (.iload_n 1, 1) := by decide +kernel
theorem dX1_leastCalls_2 : decode cX1_leastCalls 2 = .ok (.invokevirtual 132, 3) := by decide +kernel
theorem dX1_leastCalls_5 : decode cX1_leastCalls 5 = .ok (.ireturn, 1) := by decide +kernel
set_option maxRecDepth 20000 in
theorem ggX1_suffices_X1_begin : GoodIn wsX1_suffices wsX1_begin := goodIn_r _ [6, 7, 20, 21, 22, 23, 24, 25, 26, 27, 28, 29, 30, 31, 32] (by decide +kernel) (by decide +kernel)
set_option maxRecDepth 20000 in
theorem gX1_suffices_X1_begin : GoodIn wsX1_suffices (wsV RX1 101 RX1 yX1_begin wsX1_begin) := goodIn_app (goodIn_of _ (by decide +kernel)) ggX1_suffices_X1_begin
set_option maxRecDepth 20000 in
theorem ggX1_suffices_X1_happens : GoodIn wsX1_suffices wsX1_happens := goodIn_r _ [11, 12, 13, 7, 14, 20, 21, 22, 23, 24, 25, 26, 27, 28, 29, 30, 31, 32] (by decide +kernel) (by decide +kernel)
set_option maxRecDepth 20000 in
theorem gX1_suffices_X1_happens : GoodIn wsX1_suffices (wsV RX1 104 RX1 yX1_happens wsX1_happens) := goodIn_app (goodIn_of _ (by decide +kernel)) ggX1_suffices_X1_happens
set_option maxRecDepth 20000 in
theorem ggX1_suffices_X1_isKnown : GoodIn wsX1_suffices wsX1_isKnown := goodIn_r _ [18, 19, 7, 20, 21, 22, 23, 24, 25, 26, 27, 28, 29, 30, 31, 32] (by decide +kernel) (by decide +kernel)
set_option maxRecDepth 20000 in
theorem gX1_suffices_X1_isKnown : GoodIn wsX1_suffices (wsV RX1 111 RX1 yX1_isKnown wsX1_isKnown) := goodIn_app (goodIn_of _ (by decide +kernel)) ggX1_suffices_X1_isKnown
theorem dX1_suffices_0 : decode cX1_suffices 0 = .ok (.aload_n 0, 1) := by decide +kernel
theorem dX1_suffices_1 : decode cX1_suffices 1 = .ok (.invokevirtual 101, 3) := by decide +kernel
theorem dX1_suffices_4 : decode cX1_suffices 4 = .ok (.iconst 0, 1) := by decide +kernel
theorem dX1_suffices_5 : decode cX1_suffices 5 = .ok (.istore_n 2, 1) := by decide +kernel
theorem dX1_suffices_6 : decode cX1_suffices 6 = .ok (.iload_n 2, 1) := by decide +kernel
theorem dX1_suffices_7 : decode cX1_suffices 7 = .ok (.aload_n 0, 1) := by decide +kernel
theorem dX1_suffices_8 : decode cX1_suffices 8 = .ok (.getfield 46, 3) := by decide +kernel
theorem dX1_suffices_11 : decode cX1_suffices 11 = .ok (.if_icmp .ge 24, 3) := by decide +kernel
theorem dX1_suffices_14 : decode cX1_suffices 14 = .ok (.iload_n 1, 1) := by decide +kernel
theorem dX1_suffices_15 : decode cX1_suffices 15 = .ok (.iload_n 2, 1) := by decide +kernel
theorem dX1_suffices_16 : decode cX1_suffices 16 = .ok (.ishr, 1) := by decide +kernel
theorem dX1_suffices_17 : decode cX1_suffices 17 = .ok (.iconst 1, 1) := by decide +kernel
theorem dX1_suffices_18 : decode cX1_suffices 18 = .ok (.iand, 1) := by decide +kernel
theorem dX1_suffices_19 : decode cX1_suffices 19 = .ok (.iconst 1, 1) := by decide +kernel
theorem dX1_suffices_20 : decode cX1_suffices 20 = .ok (.if_icmp .ne 9, 3) := by decide +kernel
theorem dX1_suffices_23 : decode cX1_suffices 23 = .ok (.aload_n 0, 1) := by decide +kernel
theorem dX1_suffices_24 : decode cX1_suffices 24 = .ok (.iload_n 2, 1) := by decide +kernel
theorem dX1_suffices_25 : decode cX1_suffices 25 = .ok (.invokevirtual 104, 3) := by decide +kernel
theorem dX1_suffices_28 : decode cX1_suffices 28 = .ok (.pop, 1) := by decide +kernel
theorem dX1_suffices_29 : decode cX1_suffices 29 = .ok (.iinc 2 1, 3) := by decide +kernel
theorem dX1_suffices_32 : decode cX1_suffices 32 = .ok (.goto (-26), 3) := by decide +kernel
theorem dX1_suffices_35 : decode cX1_suffices 35 = .ok (.aload_n 0, 1) := by decide +kernel
theorem dX1_suffices_36 : decode cX1_suffices 36 = .ok (.invokevirtual 111, 3) := by decide +kernel
theorem dX1_suffices_39 : decode cX1_suffices 39 = .ok (.ireturn, 1) := by decide +kernel
set_option maxRecDepth 20000 in
theorem ggX1_isComplete_X1_suffices : GoodIn wsX1_isComplete wsX1_suffices := goodIn_r _ [6, 1, 7, 8, 9, 5, 10, 11, 12, 13, 14, 15, 16, 17, 18, 19, 20, 21, 22, 23, 24, 25, 26, 27, 28, 29, 30, 31, 32, 33, 34, 35, 36] (by decide +kernel) (by decide +kernel)
set_option maxRecDepth 20000 in
theorem gX1_isComplete_X1_suffices : GoodIn wsX1_isComplete (wsV RX1 136 RX1 yX1_suffices wsX1_suffices) := goodIn_app (goodIn_of _ (by decide +kernel)) ggX1_isComplete_X1_suffices
theorem dX1_isComplete_0 : decode cX1_isComplete 0 = .ok (.aload_n 0, 1) := by decide +kernel
theorem dX1_isComplete_1 : decode cX1_isComplete 1 = .ok (.iconst 1, 1) := by decide +kernel
theorem dX1_isComplete_2 : decode cX1_isComplete 2 = .ok (.aload_n 0, 1) := by decide +kernel
theorem dX1_isComplete_3 : decode cX1_isComplete 3 = .ok (.getfield 46, 3) := by decide +kernel
theorem dX1_isComplete_6 : decode cX1_isComplete 6 = .ok (.ishl, 1) := by decide +kernel
theorem dX1_isComplete_7 : decode cX1_isComplete 7 = .ok (.iconst 1, 1) := by decide +kernel
theorem dX1_isComplete_8 : decode cX1_isComplete 8 = .ok (.isub, 1) := by decide +kernel
theorem dX1_isComplete_9 : decode cX1_isComplete 9 = .ok (.invokevirtual 136, 3) := by decide +kernel
theorem dX1_isComplete_12 : decode cX1_isComplete 12 = .ok (.ireturn, 1) := by decide +kernel
set_option maxRecDepth 20000 in
theorem ggX1_criticalNow_X1_isComplete : GoodIn wsX1_criticalNow wsX1_isComplete := goodIn_r _ [6, 1, 7, 8, 9, 5, 10, 11, 12, 13, 14, 15, 16, 17, 18, 19, 20, 21, 22, 23, 24, 25, 26, 27, 28, 29, 30, 31, 32, 33, 34, 35, 36, 37, 38, 39, 40] (by decide +kernel) (by decide +kernel)
set_option maxRecDepth 20000 in
theorem gX1_criticalNow_X1_isComplete : GoodIn wsX1_criticalNow (wsV RX1 139 RX1 yX1_isComplete wsX1_isComplete) := goodIn_app (goodIn_of _ (by decide +kernel)) ggX1_criticalNow_X1_isComplete
set_option maxRecDepth 20000 in
theorem ggX1_criticalNow_X1_suffices : GoodIn wsX1_criticalNow wsX1_suffices := goodIn_r _ [10, 1, 11, 12, 13, 5, 14, 15, 16, 17, 18, 19, 20, 21, 22, 23, 24, 25, 26, 27, 28, 29, 30, 31, 32, 33, 34, 35, 36, 37, 38, 39, 40] (by decide +kernel) (by decide +kernel)
set_option maxRecDepth 20000 in
theorem gX1_criticalNow_X1_suffices : GoodIn wsX1_criticalNow (wsV RX1 136 RX1 yX1_suffices wsX1_suffices) := goodIn_app (goodIn_of _ (by decide +kernel)) ggX1_criticalNow_X1_suffices
theorem dX1_criticalNow_0 : decode cX1_criticalNow 0 = .ok (.aload_n 0, 1) := by decide +kernel
theorem dX1_criticalNow_1 : decode cX1_criticalNow 1 = .ok (.invokevirtual 139, 3) := by decide +kernel
theorem dX1_criticalNow_4 : decode cX1_criticalNow 4 = .ok (.ifCond .eq 28, 3) := by decide +kernel
theorem dX1_criticalNow_7 : decode cX1_criticalNow 7 = .ok (.aload_n 0, 1) := by decide +kernel
theorem dX1_criticalNow_8 : decode cX1_criticalNow 8 = .ok (.iconst 1, 1) := by decide +kernel
theorem dX1_criticalNow_9 : decode cX1_criticalNow 9 = .ok (.aload_n 0, 1) := by decide +kernel
theorem dX1_criticalNow_10 : decode cX1_criticalNow 10 = .ok (.getfield 46, 3) := by decide +kernel
theorem dX1_criticalNow_13 : decode cX1_criticalNow 13 = .ok (.ishl, 1) := by decide +kernel
theorem dX1_criticalNow_14 : decode cX1_criticalNow 14 = .ok (.iconst 1, 1) := by decide +kernel
theorem dX1_criticalNow_15 : decode cX1_criticalNow 15 = .ok (.isub, 1) := by decide +kernel
theorem dX1_criticalNow_16 : decode cX1_criticalNow 16 = .ok (.iconst 1, 1) := by decide +kernel
theorem dX1_criticalNow_17 : decode cX1_criticalNow 17 = .ok (.iload_n 1, 1) := by decide +kernel
theorem dX1_criticalNow_18 : decode cX1_criticalNow 18 = .ok (.ishl, 1) := by decide +kernel
theorem dX1_criticalNow_19 : decode cX1_criticalNow 19 = .ok (.iconst (-1), 1) := by decide +kernel
theorem dX1_criticalNow_20 : decode cX1_criticalNow 20 = .ok (.ixor, 1) := by decide +kernel
theorem dX1_criticalNow_21 : decode cX1_criticalNow 21 = .ok (.iand, 1) := by decide +kernel
theorem dX1_criticalNow_22 : decode cX1_criticalNow 22 = .ok (.invokevirtual 136, 3) := by decide +kernel
theorem dX1_criticalNow_25 : decode cX1_criticalNow 25 = .ok (.ifCond .ne 7, 3) := by decide +kernel
theorem dX1_criticalNow_28 : decode cX1_criticalNow 28 = .ok (.iconst 1, 1) := by decide +kernel
theorem dX1_criticalNow_29 : decode cX1_criticalNow 29 = .ok (.goto 4, 3) := by decide +kernel
theorem dX1_criticalNow_32 : decode cX1_criticalNow 32 = .ok (.iconst 0, 1) := by decide +kernel
theorem dX1_criticalNow_33 : decode cX1_criticalNow 33 = .ok (.ireturn, 1) := by decide +kernel
set_option maxRecDepth 20000 in
theorem ggX1_isCritical_X1_isCall : GoodIn wsX1_isCritical wsX1_isCall := goodIn_r _ [5, 6, 7, 8, 4, 9, 39, 40, 41, 42, 43, 44, 45, 46, 47, 48, 49, 50, 51] (by decide +kernel) (by decide +kernel)
set_option maxRecDepth 20000 in
theorem gX1_isCritical_X1_isCall : GoodIn wsX1_isCritical (wsV RX1 94 RX1 yX1_isCall wsX1_isCall) := goodIn_app (goodIn_of _ (by decide +kernel)) ggX1_isCritical_X1_isCall
set_option maxRecDepth 20000 in
theorem ggX1_isCritical_X1_criticalNow : GoodIn wsX1_isCritical wsX1_criticalNow := goodIn_r _ [13, 6, 14, 15, 16, 4, 17, 18, 19, 20, 21, 22, 23, 24, 25, 26, 27, 28, 29, 30, 31, 32, 33, 34, 35, 36, 37, 38, 39, 40, 41, 42, 43, 44, 45, 46, 47, 48, 49, 50, 51] (by decide +kernel) (by decide +kernel)
set_option maxRecDepth 20000 in
theorem gX1_isCritical_X1_criticalNow : GoodIn wsX1_isCritical (wsV RX1 142 RX1 yX1_criticalNow wsX1_criticalNow) := goodIn_app (goodIn_of _ (by decide +kernel)) ggX1_isCritical_X1_criticalNow
theorem dX1_isCritical_0 : decode cX1_isCritical 0 = .ok (.aload_n 0, 1) := by decide +kernel
theorem dX1_isCritical_1 : decode cX1_isCritical 1 = .ok (.iload_n 1, 1) := by decide +kernel
theorem dX1_isCritical_2 : decode cX1_isCritical 2 = .ok (.invokevirtual 94, 3) := by decide +kernel
theorem dX1_isCritical_5 : decode cX1_isCritical 5 = .ok (.ifCond .eq 11, 3) := by decide +kernel
theorem dX1_isCritical_8 : decode cX1_isCritical 8 = .ok (.aload_n 0, 1) := by decide +kernel
theorem dX1_isCritical_9 : decode cX1_isCritical 9 = .ok (.iload_n 1, 1) := by decide +kernel
theorem dX1_isCritical_10 : decode cX1_isCritical 10 = .ok (.invokevirtual 142, 3) := by decide +kernel
theorem dX1_isCritical_13 : decode cX1_isCritical 13 = .ok (.goto 5, 3) := by decide +kernel
theorem dX1_isCritical_16 : decode cX1_isCritical 16 = .ok (.bipush (-7), 2) := by decide +kernel
theorem dX1_isCritical_18 : decode cX1_isCritical 18 = .ok (.ireturn, 1) := by decide +kernel
theorem dX1_ones_0 : decode cX1_ones 0 = .ok (.iconst 0, 1) := by decide +kernel
theorem dX1_ones_1 : decode cX1_ones 1 = .ok (.istore_n 1, 1) := by decide +kernel
theorem dX1_ones_2 : decode cX1_ones 2 = .ok (.iconst 0, 1) := by decide +kernel
theorem dX1_ones_3 : decode cX1_ones 3 = .ok (.istore_n 2, 1) := by decide +kernel
theorem dX1_ones_4 : decode cX1_ones 4 = .ok (.iload_n 2, 1) := by decide +kernel
theorem dX1_ones_5 : decode cX1_ones 5 = .ok (.bipush 28, 2) := by decide +kernel
theorem dX1_ones_7 : decode cX1_ones 7 = .ok (.if_icmp .ge 17, 3) := by decide +kernel
theorem dX1_ones_10 : decode cX1_ones 10 = .ok (.iload_n 1, 1) := by decide +kernel
theorem dX1_ones_11 : decode cX1_ones 11 = .ok (.iload_n 0, 1) := by decide +kernel
theorem dX1_ones_12 : decode cX1_ones 12 = .ok (.iload_n 2, 1) := by decide +kernel
theorem dX1_ones_13 : decode cX1_ones 13 = .ok (.ishr, 1) := by decide +kernel
theorem dX1_ones_14 : decode cX1_ones 14 = .ok (.iconst 1, 1) := by decide +kernel
theorem dX1_ones_15 : decode cX1_ones 15 = .ok (.iand, 1) := by decide +kernel
theorem dX1_ones_16 : decode cX1_ones 16 = .ok (.iadd, 1) := by decide +kernel
theorem dX1_ones_17 : decode cX1_ones 17 = .ok (.istore_n 1, 1) := by decide +kernel
theorem dX1_ones_18 : decode cX1_ones 18 = .ok (.iinc 2 1, 3) := by decide +kernel
theorem dX1_ones_21 : decode cX1_ones 21 = .ok (.goto (-17), 3) := by decide +kernel
theorem dX1_ones_24 : decode cX1_ones 24 = .ok (.iload_n 1, 1) := by decide +kernel
theorem dX1_ones_25 : decode cX1_ones 25 = .ok (.ireturn, 1) := by decide +kernel
set_option maxRecDepth 20000 in
theorem ggX1_smallestNow_X1_ones : GoodIn wsX1_smallestNow wsX1_ones := goodIn_r _ [5] (by decide +kernel) (by decide +kernel)
set_option maxRecDepth 20000 in
theorem gX1_smallestNow_X1_ones : GoodIn wsX1_smallestNow (va_wsS RX1 145 yX1_ones wsX1_ones) := goodIn_app (goodIn_of _ (by decide +kernel)) ggX1_smallestNow_X1_ones
set_option maxRecDepth 20000 in
theorem ggX1_smallestNow_X1_suffices : GoodIn wsX1_smallestNow wsX1_suffices := goodIn_r _ [9, 1, 10, 11, 12, 4, 13, 14, 15, 16, 17, 18, 19, 20, 21, 22, 23, 24, 25, 26, 27, 28, 29, 30, 31, 32, 33, 34, 35, 36, 37, 38, 39] (by decide +kernel) (by decide +kernel)
set_option maxRecDepth 20000 in
theorem gX1_smallestNow_X1_suffices : GoodIn wsX1_smallestNow (wsV RX1 136 RX1 yX1_suffices wsX1_suffices) := goodIn_app (goodIn_of _ (by decide +kernel)) ggX1_smallestNow_X1_suffices
theorem dX1_smallestNow_0 : decode cX1_smallestNow 0 = .ok (.aload_n 0, 1) := by decide +kernel
theorem dX1_smallestNow_1 : decode cX1_smallestNow 1 = .ok (.getfield 46, 3) := by decide +kernel
theorem dX1_smallestNow_4 : decode cX1_smallestNow 4 = .ok (.bipush 12, 2) := by decide +kernel
theorem dX1_smallestNow_6 : decode cX1_smallestNow 6 = .ok (.if_icmp .le 6, 3) := by decide +kernel
theorem dX1_smallestNow_9 : decode cX1_smallestNow 9 = .ok (.bipush (-15), 2) := by decide +kernel
theorem dX1_smallestNow_11 : decode cX1_smallestNow 11 = .ok (.ireturn, 1) := by decide +kernel
theorem dX1_smallestNow_12 : decode cX1_smallestNow 12 = .ok (.iconst (-1), 1) := by decide +kernel
theorem dX1_smallestNow_13 : decode cX1_smallestNow 13 = .ok (.istore_n 1, 1) := by decide +kernel
theorem dX1_smallestNow_14 : decode cX1_smallestNow 14 = .ok (.bipush 28, 2) := by decide +kernel
theorem dX1_smallestNow_16 : decode cX1_smallestNow 16 = .ok (.istore_n 2, 1) := by decide +kernel
theorem dX1_smallestNow_17 : decode cX1_smallestNow 17 = .ok (.iconst 0, 1) := by decide +kernel
theorem dX1_smallestNow_18 : decode cX1_smallestNow 18 = .ok (.istore_n 3, 1) := by decide +kernel
theorem dX1_smallestNow_19 : decode cX1_smallestNow 19 = .ok (.iload_n 3, 1) := by decide +kernel
theorem dX1_smallestNow_20 : decode cX1_smallestNow 20 = .ok (.iconst 1, 1) := by decide +kernel
theorem dX1_smallestNow_21 : decode cX1_smallestNow 21 = .ok (.aload_n 0, 1) := by decide +kernel
theorem dX1_smallestNow_22 : decode cX1_smallestNow 22 = .ok (.getfield 46, 3) := by decide +kernel
theorem dX1_smallestNow_25 : decode cX1_smallestNow 25 = .ok (.ishl, 1) := by decide +kernel
theorem dX1_smallestNow_26 : decode cX1_smallestNow 26 = .ok (.if_icmp .ge 34, 3) := by decide +kernel
theorem dX1_smallestNow_29 : decode cX1_smallestNow 29 = .ok (.iload_n 3, 1) := by decide +kernel
theorem dX1_smallestNow_30 : decode cX1_smallestNow 30 = .ok (.invokestatic 145, 3) := by decide +kernel
theorem dX1_smallestNow_33 : decode cX1_smallestNow 33 = .ok (.istore 4, 2) := by decide +kernel
theorem dX1_smallestNow_35 : decode cX1_smallestNow 35 = .ok (.iload 4, 2) := by decide +kernel
theorem dX1_smallestNow_37 : decode cX1_smallestNow 37 = .ok (.iload_n 2, 1) := by decide +kernel
theorem dX1_smallestNow_38 : decode cX1_smallestNow 38 = .ok (.if_icmp .ge 16, 3) := by decide +kernel
theorem dX1_smallestNow_41 : decode cX1_smallestNow 41 = .ok (.aload_n 0, 1) := by decide +kernel
theorem dX1_smallestNow_42 : decode cX1_smallestNow 42 = .ok (.iload_n 3, 1) := by decide +kernel
theorem dX1_smallestNow_43 : decode cX1_smallestNow 43 = .ok (.invokevirtual 136, 3) := by decide +kernel
theorem dX1_smallestNow_46 : decode cX1_smallestNow 46 = .ok (.ifCond .eq 8, 3) := by decide +kernel
theorem dX1_smallestNow_49 : decode cX1_smallestNow 49 = .ok (.iload_n 3, 1) := by decide +kernel
theorem dX1_smallestNow_50 : decode cX1_smallestNow 50 = .ok (.istore_n 1, 1) := by decide +kernel
theorem dX1_smallestNow_51 : decode cX1_smallestNow 51 = .ok (.iload 4, 2) := by decide +kernel
theorem dX1_smallestNow_53 : decode cX1_smallestNow 53 = .ok (.istore_n 2, 1) := by decide +kernel
theorem dX1_smallestNow_54 : decode cX1_smallestNow 54 = .ok (.iinc 3 1, 3) := by decide +kernel
theorem dX1_smallestNow_57 : decode cX1_smallestNow 57 = .ok (.goto (-38), 3) := by decide +kernel
theorem dX1_smallestNow_60 : decode cX1_smallestNow 60 = .ok (.iload_n 1, 1) := by decide +kernel
theorem dX1_smallestNow_61 : decode cX1_smallestNow 61 = .ok (.ireturn, 1) := by decide +kernel
set_option maxRecDepth 20000 in
theorem ggX1_smallestSufficientCalls_X1_smallestNow : GoodIn wsX1_smallestSufficientCalls wsX1_smallestNow := goodIn_r _ [5, 6, 7, 8, 4, 9, 10, 11, 12, 13, 14, 15, 16, 17, 18, 19, 20, 21, 22, 23, 24, 25, 26, 27, 28, 29, 30, 31, 32, 33, 34, 35, 36, 37, 38, 39, 40, 41, 42, 43] (by decide +kernel) (by decide +kernel)
set_option maxRecDepth 20000 in
theorem gX1_smallestSufficientCalls_X1_smallestNow : GoodIn wsX1_smallestSufficientCalls (wsV RX1 148 RX1 yX1_smallestNow wsX1_smallestNow) := goodIn_app (goodIn_of _ (by decide +kernel)) ggX1_smallestSufficientCalls_X1_smallestNow
theorem dX1_smallestSufficientCalls_0 : decode cX1_smallestSufficientCalls 0 = .ok (.aload_n 0, 1) := by decide +kernel
theorem dX1_smallestSufficientCalls_1 : decode cX1_smallestSufficientCalls 1 = .ok (.invokevirtual 148, 3) := by decide +kernel
theorem dX1_smallestSufficientCalls_4 : decode cX1_smallestSufficientCalls 4 = .ok (.ireturn, 1) := by decide +kernel
set_option maxRecDepth 20000 in
theorem ggX1_probabilityNow_X1_suffices : GoodIn wsX1_probabilityNow wsX1_suffices := goodIn_r _ [7, 2, 8, 9, 10, 6, 11, 12, 13, 14, 15, 16, 17, 18, 19, 20, 21, 22, 23, 24, 37, 38, 39, 40, 41, 42, 43, 44, 45, 46, 47, 48, 49] (by decide +kernel) (by decide +kernel)
set_option maxRecDepth 20000 in
theorem gX1_probabilityNow_X1_suffices : GoodIn wsX1_probabilityNow (wsV RX1 136 RX1 yX1_suffices wsX1_suffices) := goodIn_app (goodIn_of _ (by decide +kernel)) ggX1_probabilityNow_X1_suffices
set_option maxRecDepth 20000 in
theorem ggX1_probabilityNow_Jxe99ae_doubleToLongBits_ccdee : GoodIn wsX1_probabilityNow wsJxe99ae_doubleToLongBits_ccdee := goodIn_r _ [28, 29, 30, 31, 32, 33, 34, 35, 27, 36] (by decide +kernel) (by decide +kernel)
set_option maxRecDepth 20000 in
theorem gX1_probabilityNow_Jxe99ae_doubleToLongBits_ccdee : GoodIn wsX1_probabilityNow (va_wsS RX1 153 yJxe99ae_doubleToLongBits_ccdee wsJxe99ae_doubleToLongBits_ccdee) := goodIn_app (goodIn_of _ (by decide +kernel)) ggX1_probabilityNow_Jxe99ae_doubleToLongBits_ccdee
theorem dX1_probabilityNow_0 : decode cX1_probabilityNow 0 = .ok (.iload_n 1, 1) := by decide +kernel
theorem dX1_probabilityNow_1 : decode cX1_probabilityNow 1 = .ok (.i2d, 1) := by decide +kernel
theorem dX1_probabilityNow_2 : decode cX1_probabilityNow 2 = .ok (.ldc2_w 151, 3) := by decide +kernel
theorem dX1_probabilityNow_5 : decode cX1_probabilityNow 5 = .ok (.ddiv, 1) := by decide +kernel
theorem dX1_probabilityNow_6 : decode cX1_probabilityNow 6 = .ok (.dstore_n 2, 1) := by decide +kernel
theorem dX1_probabilityNow_7 : decode cX1_probabilityNow 7 = .ok (.dconst 0, 1) := by decide +kernel
theorem dX1_probabilityNow_8 : decode cX1_probabilityNow 8 = .ok (.dstore 4, 2) := by decide +kernel
theorem dX1_probabilityNow_10 : decode cX1_probabilityNow 10 = .ok (.iconst 0, 1) := by decide +kernel
theorem dX1_probabilityNow_11 : decode cX1_probabilityNow 11 = .ok (.istore 6, 2) := by decide +kernel
theorem dX1_probabilityNow_13 : decode cX1_probabilityNow 13 = .ok (.iload 6, 2) := by decide +kernel
theorem dX1_probabilityNow_15 : decode cX1_probabilityNow 15 = .ok (.iconst 1, 1) := by decide +kernel
theorem dX1_probabilityNow_16 : decode cX1_probabilityNow 16 = .ok (.aload_n 0, 1) := by decide +kernel
theorem dX1_probabilityNow_17 : decode cX1_probabilityNow 17 = .ok (.getfield 46, 3) := by decide +kernel
theorem dX1_probabilityNow_20 : decode cX1_probabilityNow 20 = .ok (.ishl, 1) := by decide +kernel
theorem dX1_probabilityNow_21 : decode cX1_probabilityNow 21 = .ok (.if_icmp .ge 69, 3) := by decide +kernel
theorem dX1_probabilityNow_24 : decode cX1_probabilityNow 24 = .ok (.aload_n 0, 1) := by decide +kernel
theorem dX1_probabilityNow_25 : decode cX1_probabilityNow 25 = .ok (.iload 6, 2) := by decide +kernel
theorem dX1_probabilityNow_27 : decode cX1_probabilityNow 27 = .ok (.invokevirtual 136, 3) := by decide +kernel
theorem dX1_probabilityNow_30 : decode cX1_probabilityNow 30 = .ok (.ifCond .eq 54, 3) := by decide +kernel
theorem dX1_probabilityNow_33 : decode cX1_probabilityNow 33 = .ok (.dconst 1, 1) := by decide +kernel
theorem dX1_probabilityNow_34 : decode cX1_probabilityNow 34 = .ok (.dstore 7, 2) := by decide +kernel
theorem dX1_probabilityNow_36 : decode cX1_probabilityNow 36 = .ok (.iconst 0, 1) := by decide +kernel
theorem dX1_probabilityNow_37 : decode cX1_probabilityNow 37 = .ok (.istore 9, 2) := by decide +kernel
theorem dX1_probabilityNow_39 : decode cX1_probabilityNow 39 = .ok (.iload 9, 2) := by decide +kernel
theorem dX1_probabilityNow_41 : decode cX1_probabilityNow 41 = .ok (.aload_n 0, 1) := by decide +kernel
theorem dX1_probabilityNow_42 : decode cX1_probabilityNow 42 = .ok (.getfield 46, 3) := by decide +kernel
theorem dX1_probabilityNow_45 : decode cX1_probabilityNow 45 = .ok (.if_icmp .ge 32, 3) := by decide +kernel
theorem dX1_probabilityNow_48 : decode cX1_probabilityNow 48 = .ok (.dload 7, 2) := by decide +kernel
theorem dX1_probabilityNow_50 : decode cX1_probabilityNow 50 = .ok (.iload 6, 2) := by decide +kernel
theorem dX1_probabilityNow_52 : decode cX1_probabilityNow 52 = .ok (.iload 9, 2) := by decide +kernel
theorem dX1_probabilityNow_54 : decode cX1_probabilityNow 54 = .ok (.ishr, 1) := by decide +kernel
theorem dX1_probabilityNow_55 : decode cX1_probabilityNow 55 = .ok (.iconst 1, 1) := by decide +kernel
theorem dX1_probabilityNow_56 : decode cX1_probabilityNow 56 = .ok (.iand, 1) := by decide +kernel
theorem dX1_probabilityNow_57 : decode cX1_probabilityNow 57 = .ok (.iconst 1, 1) := by decide +kernel
theorem dX1_probabilityNow_58 : decode cX1_probabilityNow 58 = .ok (.if_icmp .ne 7, 3) := by decide +kernel
theorem dX1_probabilityNow_61 : decode cX1_probabilityNow 61 = .ok (.dload_n 2, 1) := by decide +kernel
theorem dX1_probabilityNow_62 : decode cX1_probabilityNow 62 = .ok (.goto 6, 3) := by decide +kernel
theorem dX1_probabilityNow_65 : decode cX1_probabilityNow 65 = .ok (.dconst 1, 1) := by decide +kernel
theorem dX1_probabilityNow_66 : decode cX1_probabilityNow 66 = .ok (.dload_n 2, 1) := by decide +kernel
theorem dX1_probabilityNow_67 : decode cX1_probabilityNow 67 = .ok (.dsub, 1) := by decide +kernel
theorem dX1_probabilityNow_68 : decode cX1_probabilityNow 68 = .ok (.dmul, 1) := by decide +kernel
theorem dX1_probabilityNow_69 : decode cX1_probabilityNow 69 = .ok (.dstore 7, 2) := by decide +kernel
theorem dX1_probabilityNow_71 : decode cX1_probabilityNow 71 = .ok (.iinc 9 1, 3) := by decide +kernel
theorem dX1_probabilityNow_74 : decode cX1_probabilityNow 74 = .ok (.goto (-35), 3) := by decide +kernel
theorem dX1_probabilityNow_77 : decode cX1_probabilityNow 77 = .ok (.dload 4, 2) := by decide +kernel
theorem dX1_probabilityNow_79 : decode cX1_probabilityNow 79 = .ok (.dload 7, 2) := by decide +kernel
theorem dX1_probabilityNow_81 : decode cX1_probabilityNow 81 = .ok (.dadd, 1) := by decide +kernel
theorem dX1_probabilityNow_82 : decode cX1_probabilityNow 82 = .ok (.dstore 4, 2) := by decide +kernel
theorem dX1_probabilityNow_84 : decode cX1_probabilityNow 84 = .ok (.iinc 6 1, 3) := by decide +kernel
theorem dX1_probabilityNow_87 : decode cX1_probabilityNow 87 = .ok (.goto (-74), 3) := by decide +kernel
theorem dX1_probabilityNow_90 : decode cX1_probabilityNow 90 = .ok (.dload 4, 2) := by decide +kernel
theorem dX1_probabilityNow_92 : decode cX1_probabilityNow 92 = .ok (.invokestatic 153, 3) := by decide +kernel
theorem dX1_probabilityNow_95 : decode cX1_probabilityNow 95 = .ok (.lreturn, 1) := by decide +kernel
set_option maxRecDepth 20000 in
theorem ggX1_successProbability_X1_within : GoodIn wsX1_successProbability wsX1_within := goodIn_r _ [7] (by decide +kernel) (by decide +kernel)
set_option maxRecDepth 20000 in
theorem gX1_successProbability_X1_within : GoodIn wsX1_successProbability (va_wsS RX1 33 yX1_within wsX1_within) := goodIn_app (goodIn_of _ (by decide +kernel)) ggX1_successProbability_X1_within
set_option maxRecDepth 20000 in
theorem ggX1_successProbability_X1_probabilityNow : GoodIn wsX1_successProbability wsX1_probabilityNow := goodIn_r _ [11, 12, 2, 13, 14, 15, 6, 16, 17, 18, 19, 20, 21, 22, 23, 24, 25, 26, 27, 28, 29, 30, 31, 32, 33, 34, 35, 36, 37, 38, 39, 40, 41, 42, 43, 44, 45, 46, 47, 48, 49, 50, 51, 52, 53, 54, 55, 56, 57, 58] (by decide +kernel) (by decide +kernel)
set_option maxRecDepth 20000 in
theorem gX1_successProbability_X1_probabilityNow : GoodIn wsX1_successProbability (wsV RX1 163 RX1 yX1_probabilityNow wsX1_probabilityNow) := goodIn_app (goodIn_of _ (by decide +kernel)) ggX1_successProbability_X1_probabilityNow
theorem dX1_successProbability_0 : decode cX1_successProbability 0 = .ok (.iload_n 1, 1) := by decide +kernel
theorem dX1_successProbability_1 : decode cX1_successProbability 1 = .ok (.iconst 0, 1) := by decide +kernel
theorem dX1_successProbability_2 : decode cX1_successProbability 2 = .ok (.bipush 100, 2) := by decide +kernel
theorem dX1_successProbability_4 : decode cX1_successProbability 4 = .ok (.invokestatic 33, 3) := by decide +kernel
theorem dX1_successProbability_7 : decode cX1_successProbability 7 = .ok (.ifCond .ne 7, 3) := by decide +kernel
theorem dX1_successProbability_10 : decode cX1_successProbability 10 = .ok (.ldc2_w 159, 3) := by decide +kernel
theorem dX1_successProbability_13 : decode cX1_successProbability 13 = .ok (.lreturn, 1) := by decide +kernel
theorem dX1_successProbability_14 : decode cX1_successProbability 14 = .ok (.aload_n 0, 1) := by decide +kernel
theorem dX1_successProbability_15 : decode cX1_successProbability 15 = .ok (.getfield 46, 3) := by decide +kernel
theorem dX1_successProbability_18 : decode cX1_successProbability 18 = .ok (.bipush 12, 2) := by decide +kernel
theorem dX1_successProbability_20 : decode cX1_successProbability 20 = .ok (.if_icmp .le 9, 3) := by decide +kernel
theorem dX1_successProbability_23 : decode cX1_successProbability 23 = .ok (.ldc2_w 161, 3) := by decide +kernel
theorem dX1_successProbability_26 : decode cX1_successProbability 26 = .ok (.goto 8, 3) := by decide +kernel
theorem dX1_successProbability_29 : decode cX1_successProbability 29 = .ok (.aload_n 0, 1) := by decide +kernel
theorem dX1_successProbability_30 : decode cX1_successProbability 30 = .ok (.iload_n 1, 1) := by decide +kernel
theorem dX1_successProbability_31 : decode cX1_successProbability 31 = .ok (.invokevirtual 163, 3) := by decide +kernel
theorem dX1_successProbability_34 : decode cX1_successProbability 34 = .ok (.lreturn, 1) := by decide +kernel
theorem dX1_mix_0 : decode cX1_mix 0 = .ok (.aload_n 0, 1) := by decide +kernel
theorem dX1_mix_1 : decode cX1_mix 1 = .ok (.ldc2_w 167, 3) := by decide +kernel
theorem dX1_mix_4 : decode cX1_mix 4 = .ok (.aload_n 0, 1) := by decide +kernel
theorem dX1_mix_5 : decode cX1_mix 5 = .ok (.getfield 169, 3) := by decide +kernel
theorem dX1_mix_8 : decode cX1_mix 8 = .ok (.lmul, 1) := by decide +kernel
theorem dX1_mix_9 : decode cX1_mix 9 = .ok (.lload_n 1, 1) := by decide +kernel
theorem dX1_mix_10 : decode cX1_mix 10 = .ok (.ladd, 1) := by decide +kernel
theorem dX1_mix_11 : decode cX1_mix 11 = .ok (.putfield 169, 3) := by decide +kernel
theorem dX1_mix_14 : decode cX1_mix 14 = .ok (.return_, 1) := by decide +kernel
set_option maxRecDepth 20000 in
theorem ggX1_mixRound_X1_afterRounds : GoodIn wsX1_mixRound wsX1_afterRounds := goodIn_r _ [7, 8, 9, 10, 11, 12, 6, 13, 2, 14, 15, 16, 17, 18, 19, 20, 43, 44, 45, 46, 47, 48, 49, 50, 51, 52, 53, 54, 55] (by decide +kernel) (by decide +kernel)
set_option maxRecDepth 20000 in
theorem gX1_mixRound_X1_afterRounds : GoodIn wsX1_mixRound (wsV RX1 107 RX1 yX1_afterRounds wsX1_afterRounds) := goodIn_app (goodIn_of _ (by decide +kernel)) ggX1_mixRound_X1_afterRounds
set_option maxRecDepth 20000 in
theorem ggX1_mixRound_X1_mix : GoodIn wsX1_mixRound wsX1_mix := goodIn_r _ [24, 25, 26, 43, 44, 45, 46, 47, 48, 49, 50, 51, 52, 53, 54, 55] (by decide +kernel) (by decide +kernel)
set_option maxRecDepth 20000 in
theorem gX1_mixRound_X1_mix : GoodIn wsX1_mixRound (wsV RX1 173 RX1 yX1_mix wsX1_mix) := goodIn_app (goodIn_of _ (by decide +kernel)) ggX1_mixRound_X1_mix
set_option maxRecDepth 20000 in
theorem ggX1_mixRound_X1_averageNow : GoodIn wsX1_mixRound wsX1_averageNow := goodIn_r _ [30, 1, 2, 3, 4, 5, 6, 7, 8, 9, 10, 11, 12, 13, 14, 15, 16, 17, 18, 19, 20, 31, 32, 33, 34, 35, 36, 37, 38, 39, 40, 41, 42, 43, 44, 45, 46, 47, 48, 49, 50, 51, 52, 53, 54, 55] (by decide +kernel) (by decide +kernel)
set_option maxRecDepth 20000 in
theorem gX1_mixRound_X1_averageNow : GoodIn wsX1_mixRound (wsV RX1 126 RX1 yX1_averageNow wsX1_averageNow) := goodIn_app (goodIn_of _ (by decide +kernel)) ggX1_mixRound_X1_averageNow
theorem dX1_mixRound_0 : decode cX1_mixRound 0 = .ok (.aload_n 0, 1) := by decide +kernel
theorem dX1_mixRound_1 : decode cX1_mixRound 1 = .ok (.iload_n 1, 1) := by decide +kernel
theorem dX1_mixRound_2 : decode cX1_mixRound 2 = .ok (.invokevirtual 107, 3) := by decide +kernel
theorem dX1_mixRound_5 : decode cX1_mixRound 5 = .ok (.iconst 0, 1) := by decide +kernel
theorem dX1_mixRound_6 : decode cX1_mixRound 6 = .ok (.istore_n 2, 1) := by decide +kernel
theorem dX1_mixRound_7 : decode cX1_mixRound 7 = .ok (.iload_n 2, 1) := by decide +kernel
theorem dX1_mixRound_8 : decode cX1_mixRound 8 = .ok (.aload_n 0, 1) := by decide +kernel
theorem dX1_mixRound_9 : decode cX1_mixRound 9 = .ok (.getfield 7, 3) := by decide +kernel
theorem dX1_mixRound_12 : decode cX1_mixRound 12 = .ok (.if_icmp .ge 20, 3) := by decide +kernel
theorem dX1_mixRound_15 : decode cX1_mixRound 15 = .ok (.aload_n 0, 1) := by decide +kernel
theorem dX1_mixRound_16 : decode cX1_mixRound 16 = .ok (.aload_n 0, 1) := by decide +kernel
theorem dX1_mixRound_17 : decode cX1_mixRound 17 = .ok (.getfield 30, 3) := by decide +kernel
theorem dX1_mixRound_20 : decode cX1_mixRound 20 = .ok (.iload_n 2, 1) := by decide +kernel
theorem dX1_mixRound_21 : decode cX1_mixRound 21 = .ok (.iaload, 1) := by decide +kernel
theorem dX1_mixRound_22 : decode cX1_mixRound 22 = .ok (.i2l, 1) := by decide +kernel
theorem dX1_mixRound_23 : decode cX1_mixRound 23 = .ok (.invokevirtual 173, 3) := by decide +kernel
theorem dX1_mixRound_26 : decode cX1_mixRound 26 = .ok (.iinc 2 1, 3) := by decide +kernel
theorem dX1_mixRound_29 : decode cX1_mixRound 29 = .ok (.goto (-22), 3) := by decide +kernel
theorem dX1_mixRound_32 : decode cX1_mixRound 32 = .ok (.aload_n 0, 1) := by decide +kernel
theorem dX1_mixRound_33 : decode cX1_mixRound 33 = .ok (.aload_n 0, 1) := by decide +kernel
theorem dX1_mixRound_34 : decode cX1_mixRound 34 = .ok (.iload_n 1, 1) := by decide +kernel
theorem dX1_mixRound_35 : decode cX1_mixRound 35 = .ok (.invokevirtual 126, 3) := by decide +kernel
theorem dX1_mixRound_38 : decode cX1_mixRound 38 = .ok (.i2l, 1) := by decide +kernel
theorem dX1_mixRound_39 : decode cX1_mixRound 39 = .ok (.invokevirtual 173, 3) := by decide +kernel
theorem dX1_mixRound_42 : decode cX1_mixRound 42 = .ok (.return_, 1) := by decide +kernel
set_option maxRecDepth 20000 in
theorem ggX1_digest_X1_mix : GoodIn wsX1_digest wsX1_mix := goodIn_r _ [14, 15, 2, 122, 123, 124, 125, 126, 127, 128, 129, 130, 131, 132, 133, 134] (by decide +kernel) (by decide +kernel)
set_option maxRecDepth 20000 in
theorem gX1_digest_X1_mix : GoodIn wsX1_digest (wsV RX1 173 RX1 yX1_mix wsX1_mix) := goodIn_app (goodIn_of _ (by decide +kernel)) ggX1_digest_X1_mix
set_option maxRecDepth 20000 in
theorem ggX1_digest_X1_described : GoodIn wsX1_digest wsX1_described := goodIn_r _ [19, 20, 21, 22, 23, 122, 123, 124, 125, 126, 127, 128, 129, 130, 131, 132, 133, 134] (by decide +kernel) (by decide +kernel)
set_option maxRecDepth 20000 in
theorem gX1_digest_X1_described : GoodIn wsX1_digest (wsV RX1 97 RX1 yX1_described wsX1_described) := goodIn_app (goodIn_of _ (by decide +kernel)) ggX1_digest_X1_described
set_option maxRecDepth 20000 in
theorem ggX1_digest_X1_criticalNow : GoodIn wsX1_digest wsX1_criticalNow := goodIn_r _ [27, 7, 28, 29, 30, 13, 31, 32, 33, 34, 35, 36, 37, 38, 39, 40, 41, 42, 43, 44, 22, 23, 21, 45, 46, 47, 48, 3, 122, 123, 124, 125, 126, 127, 128, 129, 130, 131, 132, 133, 134] (by decide +kernel) (by decide +kernel)
set_option maxRecDepth 20000 in
theorem gX1_digest_X1_criticalNow : GoodIn wsX1_digest (wsV RX1 142 RX1 yX1_criticalNow wsX1_criticalNow) := goodIn_app (goodIn_of _ (by decide +kernel)) ggX1_digest_X1_criticalNow
set_option maxRecDepth 20000 in
theorem ggX1_digest_X1_mixRound : GoodIn wsX1_digest wsX1_mixRound := goodIn_r _ [52, 3, 40, 53, 54, 55, 13, 56, 7, 20, 36, 37, 38, 39, 41, 42, 43, 44, 22, 23, 21, 10, 11, 12, 14, 15, 2, 57, 58, 59, 60, 61, 62, 63, 64, 65, 66, 67, 68, 69, 70, 71, 72, 122, 123, 124, 125, 126, 127, 128, 129, 130, 131, 132, 133, 134] (by decide +kernel) (by decide +kernel)
set_option maxRecDepth 20000 in
theorem gX1_digest_X1_mixRound : GoodIn wsX1_digest (wsV RX1 179 RX1 yX1_mixRound wsX1_mixRound) := goodIn_app (goodIn_of _ (by decide +kernel)) ggX1_digest_X1_mixRound
set_option maxRecDepth 20000 in
theorem ggX1_digest_X1_completeNow : GoodIn wsX1_digest wsX1_completeNow := goodIn_r _ [76, 6, 53, 54, 55, 13, 56, 7, 20, 36, 37, 38, 39, 40, 41, 42, 43, 44, 22, 23, 21, 45, 46, 47, 48, 3, 122, 123, 124, 125, 126, 127, 128, 129, 130, 131, 132, 133, 134] (by decide +kernel) (by decide +kernel)
set_option maxRecDepth 20000 in
theorem gX1_digest_X1_completeNow : GoodIn wsX1_digest (wsV RX1 114 RX1 yX1_completeNow wsX1_completeNow) := goodIn_app (goodIn_of _ (by decide +kernel)) ggX1_digest_X1_completeNow
set_option maxRecDepth 20000 in
theorem ggX1_digest_X1_redundantNow : GoodIn wsX1_digest wsX1_redundantNow := goodIn_r _ [80, 7, 36, 37, 38, 13, 39, 40, 41, 42, 43, 44, 22, 23, 21, 122, 123, 124, 125, 126, 127, 128, 129, 130, 131, 132, 133, 134] (by decide +kernel) (by decide +kernel)
set_option maxRecDepth 20000 in
theorem gX1_digest_X1_redundantNow : GoodIn wsX1_digest (wsV RX1 117 RX1 yX1_redundantNow wsX1_redundantNow) := goodIn_app (goodIn_of _ (by decide +kernel)) ggX1_digest_X1_redundantNow
set_option maxRecDepth 20000 in
theorem ggX1_digest_X1_leastNow : GoodIn wsX1_digest wsX1_leastNow := goodIn_r _ [84, 3, 85, 86, 87, 13, 88, 5, 122, 123, 124, 125, 126, 127, 128, 129, 130, 131, 132, 133, 134] (by decide +kernel) (by decide +kernel)
set_option maxRecDepth 20000 in
theorem gX1_digest_X1_leastNow : GoodIn wsX1_digest (wsV RX1 132 RX1 yX1_leastNow wsX1_leastNow) := goodIn_app (goodIn_of _ (by decide +kernel)) ggX1_digest_X1_leastNow
set_option maxRecDepth 20000 in
theorem ggX1_digest_X1_smallestNow : GoodIn wsX1_digest wsX1_smallestNow := goodIn_r _ [92, 7, 93, 94, 13, 95, 32, 33, 34, 35, 36, 37, 38, 39, 40, 41, 42, 43, 44, 22, 23, 21, 45, 46, 47, 48, 3, 122, 123, 124, 125, 126, 127, 128, 129, 130, 131, 132, 133, 134] (by decide +kernel) (by decide +kernel)
set_option maxRecDepth 20000 in
theorem gX1_digest_X1_smallestNow : GoodIn wsX1_digest (wsV RX1 148 RX1 yX1_smallestNow wsX1_smallestNow) := goodIn_app (goodIn_of _ (by decide +kernel)) ggX1_digest_X1_smallestNow
set_option maxRecDepth 20000 in
theorem ggX1_digest_X1_successProbability : GoodIn wsX1_digest wsX1_successProbability := goodIn_r _ [99, 100, 7, 101, 102, 103, 13, 104, 105, 106, 107, 108, 109, 32, 33, 34, 35, 36, 37, 38, 39, 40, 41, 42, 43, 44, 22, 23, 21, 45, 46, 47, 48, 3, 110, 111, 112, 113, 114, 115, 116, 117, 118, 119, 120, 121, 122, 123, 124, 125, 126, 127, 128, 129, 130, 131, 132, 133, 134] (by decide +kernel) (by decide +kernel)
set_option maxRecDepth 20000 in
theorem gX1_digest_X1_successProbability : GoodIn wsX1_digest (wsV RX1 182 RX1 yX1_successProbability wsX1_successProbability) := goodIn_app (goodIn_of _ (by decide +kernel)) ggX1_digest_X1_successProbability
theorem dX1_digest_0 : decode cX1_digest 0 = .ok (.aload_n 0, 1) := by decide +kernel
theorem dX1_digest_1 : decode cX1_digest 1 = .ok (.ldc2_w 177, 3) := by decide +kernel
theorem dX1_digest_4 : decode cX1_digest 4 = .ok (.putfield 169, 3) := by decide +kernel
theorem dX1_digest_7 : decode cX1_digest 7 = .ok (.aload_n 0, 1) := by decide +kernel
theorem dX1_digest_8 : decode cX1_digest 8 = .ok (.aload_n 0, 1) := by decide +kernel
theorem dX1_digest_9 : decode cX1_digest 9 = .ok (.getfield 7, 3) := by decide +kernel
theorem dX1_digest_12 : decode cX1_digest 12 = .ok (.i2l, 1) := by decide +kernel
theorem dX1_digest_13 : decode cX1_digest 13 = .ok (.invokevirtual 173, 3) := by decide +kernel
theorem dX1_digest_16 : decode cX1_digest 16 = .ok (.aload_n 0, 1) := by decide +kernel
theorem dX1_digest_17 : decode cX1_digest 17 = .ok (.aload_n 0, 1) := by decide +kernel
theorem dX1_digest_18 : decode cX1_digest 18 = .ok (.getfield 37, 3) := by decide +kernel
theorem dX1_digest_21 : decode cX1_digest 21 = .ok (.i2l, 1) := by decide +kernel
theorem dX1_digest_22 : decode cX1_digest 22 = .ok (.invokevirtual 173, 3) := by decide +kernel
theorem dX1_digest_25 : decode cX1_digest 25 = .ok (.aload_n 0, 1) := by decide +kernel
theorem dX1_digest_26 : decode cX1_digest 26 = .ok (.aload_n 0, 1) := by decide +kernel
theorem dX1_digest_27 : decode cX1_digest 27 = .ok (.getfield 40, 3) := by decide +kernel
theorem dX1_digest_30 : decode cX1_digest 30 = .ok (.i2l, 1) := by decide +kernel
theorem dX1_digest_31 : decode cX1_digest 31 = .ok (.invokevirtual 173, 3) := by decide +kernel
theorem dX1_digest_34 : decode cX1_digest 34 = .ok (.aload_n 0, 1) := by decide +kernel
theorem dX1_digest_35 : decode cX1_digest 35 = .ok (.aload_n 0, 1) := by decide +kernel
theorem dX1_digest_36 : decode cX1_digest 36 = .ok (.getfield 43, 3) := by decide +kernel
theorem dX1_digest_39 : decode cX1_digest 39 = .ok (.i2l, 1) := by decide +kernel
theorem dX1_digest_40 : decode cX1_digest 40 = .ok (.invokevirtual 173, 3) := by decide +kernel
theorem dX1_digest_43 : decode cX1_digest 43 = .ok (.aload_n 0, 1) := by decide +kernel
theorem dX1_digest_44 : decode cX1_digest 44 = .ok (.aload_n 0, 1) := by decide +kernel
theorem dX1_digest_45 : decode cX1_digest 45 = .ok (.getfield 46, 3) := by decide +kernel
theorem dX1_digest_48 : decode cX1_digest 48 = .ok (.i2l, 1) := by decide +kernel
theorem dX1_digest_49 : decode cX1_digest 49 = .ok (.invokevirtual 173, 3) := by decide +kernel
theorem dX1_digest_52 : decode cX1_digest 52 = .ok (.iconst 0, 1) := by decide +kernel
theorem dX1_digest_53 : decode cX1_digest 53 = .ok (.istore_n 1, 1) := by decide +kernel
theorem dX1_digest_54 : decode cX1_digest 54 = .ok (.iload_n 1, 1) := by decide +kernel
theorem dX1_digest_55 : decode cX1_digest 55 = .ok (.aload_n 0, 1) := by decide +kernel
theorem dX1_digest_56 : decode cX1_digest 56 = .ok (.getfield 46, 3) := by decide +kernel
theorem dX1_digest_59 : decode cX1_digest 59 = .ok (.if_icmp .ge 29, 3) := by decide +kernel
theorem dX1_digest_62 : decode cX1_digest 62 = .ok (.aload_n 0, 1) := by decide +kernel
theorem dX1_digest_63 : decode cX1_digest 63 = .ok (.aload_n 0, 1) := by decide +kernel
theorem dX1_digest_64 : decode cX1_digest 64 = .ok (.iload_n 1, 1) := by decide +kernel
theorem dX1_digest_65 : decode cX1_digest 65 = .ok (.invokevirtual 97, 3) := by decide +kernel
theorem dX1_digest_68 : decode cX1_digest 68 = .ok (.i2l, 1) := by decide +kernel
theorem dX1_digest_69 : decode cX1_digest 69 = .ok (.invokevirtual 173, 3) := by decide +kernel
theorem dX1_digest_72 : decode cX1_digest 72 = .ok (.aload_n 0, 1) := by decide +kernel
theorem dX1_digest_73 : decode cX1_digest 73 = .ok (.aload_n 0, 1) := by decide +kernel
theorem dX1_digest_74 : decode cX1_digest 74 = .ok (.iload_n 1, 1) := by decide +kernel
theorem dX1_digest_75 : decode cX1_digest 75 = .ok (.invokevirtual 142, 3) := by decide +kernel
theorem dX1_digest_78 : decode cX1_digest 78 = .ok (.i2l, 1) := by decide +kernel
theorem dX1_digest_79 : decode cX1_digest 79 = .ok (.invokevirtual 173, 3) := by decide +kernel
theorem dX1_digest_82 : decode cX1_digest 82 = .ok (.iinc 1 1, 3) := by decide +kernel
theorem dX1_digest_85 : decode cX1_digest 85 = .ok (.goto (-31), 3) := by decide +kernel
theorem dX1_digest_88 : decode cX1_digest 88 = .ok (.iconst 0, 1) := by decide +kernel
theorem dX1_digest_89 : decode cX1_digest 89 = .ok (.istore_n 1, 1) := by decide +kernel
theorem dX1_digest_90 : decode cX1_digest 90 = .ok (.iload_n 1, 1) := by decide +kernel
theorem dX1_digest_91 : decode cX1_digest 91 = .ok (.aload_n 0, 1) := by decide +kernel
theorem dX1_digest_92 : decode cX1_digest 92 = .ok (.getfield 43, 3) := by decide +kernel
theorem dX1_digest_95 : decode cX1_digest 95 = .ok (.if_icmp .gt 14, 3) := by decide +kernel
theorem dX1_digest_98 : decode cX1_digest 98 = .ok (.aload_n 0, 1) := by decide +kernel
theorem dX1_digest_99 : decode cX1_digest 99 = .ok (.iload_n 1, 1) := by decide +kernel
theorem dX1_digest_100 : decode cX1_digest 100 = .ok (.invokevirtual 179, 3) := by decide +kernel
theorem dX1_digest_103 : decode cX1_digest 103 = .ok (.iinc 1 1, 3) := by decide +kernel
theorem dX1_digest_106 : decode cX1_digest 106 = .ok (.goto (-16), 3) := by decide +kernel
theorem dX1_digest_109 : decode cX1_digest 109 = .ok (.aload_n 0, 1) := by decide +kernel
theorem dX1_digest_110 : decode cX1_digest 110 = .ok (.aload_n 0, 1) := by decide +kernel
theorem dX1_digest_111 : decode cX1_digest 111 = .ok (.invokevirtual 114, 3) := by decide +kernel
theorem dX1_digest_114 : decode cX1_digest 114 = .ok (.i2l, 1) := by decide +kernel
theorem dX1_digest_115 : decode cX1_digest 115 = .ok (.invokevirtual 173, 3) := by decide +kernel
theorem dX1_digest_118 : decode cX1_digest 118 = .ok (.aload_n 0, 1) := by decide +kernel
theorem dX1_digest_119 : decode cX1_digest 119 = .ok (.aload_n 0, 1) := by decide +kernel
theorem dX1_digest_120 : decode cX1_digest 120 = .ok (.invokevirtual 117, 3) := by decide +kernel
theorem dX1_digest_123 : decode cX1_digest 123 = .ok (.i2l, 1) := by decide +kernel
theorem dX1_digest_124 : decode cX1_digest 124 = .ok (.invokevirtual 173, 3) := by decide +kernel
theorem dX1_digest_127 : decode cX1_digest 127 = .ok (.aload_n 0, 1) := by decide +kernel
theorem dX1_digest_128 : decode cX1_digest 128 = .ok (.aload_n 0, 1) := by decide +kernel
theorem dX1_digest_129 : decode cX1_digest 129 = .ok (.iconst 0, 1) := by decide +kernel
theorem dX1_digest_130 : decode cX1_digest 130 = .ok (.invokevirtual 132, 3) := by decide +kernel
theorem dX1_digest_133 : decode cX1_digest 133 = .ok (.i2l, 1) := by decide +kernel
theorem dX1_digest_134 : decode cX1_digest 134 = .ok (.invokevirtual 173, 3) := by decide +kernel
theorem dX1_digest_137 : decode cX1_digest 137 = .ok (.aload_n 0, 1) := by decide +kernel
theorem dX1_digest_138 : decode cX1_digest 138 = .ok (.aload_n 0, 1) := by decide +kernel
theorem dX1_digest_139 : decode cX1_digest 139 = .ok (.iconst 1, 1) := by decide +kernel
theorem dX1_digest_140 : decode cX1_digest 140 = .ok (.invokevirtual 132, 3) := by decide +kernel
theorem dX1_digest_143 : decode cX1_digest 143 = .ok (.i2l, 1) := by decide +kernel
theorem dX1_digest_144 : decode cX1_digest 144 = .ok (.invokevirtual 173, 3) := by decide +kernel
theorem dX1_digest_147 : decode cX1_digest 147 = .ok (.aload_n 0, 1) := by decide +kernel
theorem dX1_digest_148 : decode cX1_digest 148 = .ok (.aload_n 0, 1) := by decide +kernel
theorem dX1_digest_149 : decode cX1_digest 149 = .ok (.invokevirtual 148, 3) := by decide +kernel
theorem dX1_digest_152 : decode cX1_digest 152 = .ok (.i2l, 1) := by decide +kernel
theorem dX1_digest_153 : decode cX1_digest 153 = .ok (.invokevirtual 173, 3) := by decide +kernel
theorem dX1_digest_156 : decode cX1_digest 156 = .ok (.aload_n 0, 1) := by decide +kernel
theorem dX1_digest_157 : decode cX1_digest 157 = .ok (.aload_n 0, 1) := by decide +kernel
theorem dX1_digest_158 : decode cX1_digest 158 = .ok (.bipush 50, 2) := by decide +kernel
theorem dX1_digest_160 : decode cX1_digest 160 = .ok (.invokevirtual 182, 3) := by decide +kernel
theorem dX1_digest_163 : decode cX1_digest 163 = .ok (.invokevirtual 173, 3) := by decide +kernel
theorem dX1_digest_166 : decode cX1_digest 166 = .ok (.aload_n 0, 1) := by decide +kernel
theorem dX1_digest_167 : decode cX1_digest 167 = .ok (.aload_n 0, 1) := by decide +kernel
theorem dX1_digest_168 : decode cX1_digest 168 = .ok (.getfield 72, 3) := by decide +kernel
theorem dX1_digest_171 : decode cX1_digest 171 = .ok (.i2l, 1) := by decide +kernel
theorem dX1_digest_172 : decode cX1_digest 172 = .ok (.invokevirtual 173, 3) := by decide +kernel
theorem dX1_digest_175 : decode cX1_digest 175 = .ok (.iconst 0, 1) := by decide +kernel
theorem dX1_digest_176 : decode cX1_digest 176 = .ok (.istore_n 1, 1) := by decide +kernel
theorem dX1_digest_177 : decode cX1_digest 177 = .ok (.iload_n 1, 1) := by decide +kernel
theorem dX1_digest_178 : decode cX1_digest 178 = .ok (.aload_n 0, 1) := by decide +kernel
theorem dX1_digest_179 : decode cX1_digest 179 = .ok (.getfield 72, 3) := by decide +kernel
theorem dX1_digest_182 : decode cX1_digest 182 = .ok (.if_icmp .ge 20, 3) := by decide +kernel
theorem dX1_digest_185 : decode cX1_digest 185 = .ok (.aload_n 0, 1) := by decide +kernel
theorem dX1_digest_186 : decode cX1_digest 186 = .ok (.aload_n 0, 1) := by decide +kernel
theorem dX1_digest_187 : decode cX1_digest 187 = .ok (.getfield 27, 3) := by decide +kernel
theorem dX1_digest_190 : decode cX1_digest 190 = .ok (.iload_n 1, 1) := by decide +kernel
theorem dX1_digest_191 : decode cX1_digest 191 = .ok (.iaload, 1) := by decide +kernel
theorem dX1_digest_192 : decode cX1_digest 192 = .ok (.i2l, 1) := by decide +kernel
theorem dX1_digest_193 : decode cX1_digest 193 = .ok (.invokevirtual 173, 3) := by decide +kernel
theorem dX1_digest_196 : decode cX1_digest 196 = .ok (.iinc 1 1, 3) := by decide +kernel
theorem dX1_digest_199 : decode cX1_digest 199 = .ok (.goto (-22), 3) := by decide +kernel
theorem dX1_digest_202 : decode cX1_digest 202 = .ok (.aload_n 0, 1) := by decide +kernel
theorem dX1_digest_203 : decode cX1_digest 203 = .ok (.getfield 169, 3) := by decide +kernel
theorem dX1_digest_206 : decode cX1_digest 206 = .ok (.lreturn, 1) := by decide +kernel
theorem dJxe99ae_isNaN_b9ae7_0 : decode cJxe99ae_isNaN_b9ae7 0 = .ok (.dload_n 0, 1) := by decide +kernel
theorem dJxe99ae_isNaN_b9ae7_1 : decode cJxe99ae_isNaN_b9ae7 1 = .ok (.dload_n 0, 1) := by decide +kernel
theorem dJxe99ae_isNaN_b9ae7_2 : decode cJxe99ae_isNaN_b9ae7 2 = .ok (.dcmp .l, 1) := by decide +kernel
theorem dJxe99ae_isNaN_b9ae7_3 : decode cJxe99ae_isNaN_b9ae7 3 = .ok (.ifCond .eq 7, 3) := by decide +kernel
theorem dJxe99ae_isNaN_b9ae7_6 : decode cJxe99ae_isNaN_b9ae7 6 = .ok (.iconst 1, 1) := by decide +kernel
theorem dJxe99ae_isNaN_b9ae7_7 : decode cJxe99ae_isNaN_b9ae7 7 = .ok (.goto 4, 3) := by decide +kernel
theorem dJxe99ae_isNaN_b9ae7_10 : decode cJxe99ae_isNaN_b9ae7 10 = .ok (.iconst 0, 1) := by decide +kernel
theorem dJxe99ae_isNaN_b9ae7_11 : decode cJxe99ae_isNaN_b9ae7 11 = .ok (.ireturn, 1) := by decide +kernel
set_option maxRecDepth 20000 in
theorem ggJxe99ae_doubleToLongBits_ccdee_Jxe99ae_isNaN_b9ae7 : GoodIn wsJxe99ae_doubleToLongBits_ccdee wsJxe99ae_isNaN_b9ae7 := goodIn_r _ [9] (by decide +kernel) (by decide +kernel)
set_option maxRecDepth 20000 in
theorem gJxe99ae_doubleToLongBits_ccdee_Jxe99ae_isNaN_b9ae7 : GoodIn wsJxe99ae_doubleToLongBits_ccdee (va_wsS RJxe99ae 122 yJxe99ae_isNaN_b9ae7 wsJxe99ae_isNaN_b9ae7) := goodIn_app (goodIn_of _ (by decide +kernel)) ggJxe99ae_doubleToLongBits_ccdee_Jxe99ae_isNaN_b9ae7
theorem dJxe99ae_doubleToLongBits_ccdee_0 : decode cJxe99ae_doubleToLongBits_ccdee 0 = .ok (.dload_n 0, 1) := by decide +kernel
theorem dJxe99ae_doubleToLongBits_ccdee_1 : decode cJxe99ae_doubleToLongBits_ccdee 1 = .ok (.invokestatic 122, 3) := by decide +kernel
theorem dJxe99ae_doubleToLongBits_ccdee_4 : decode cJxe99ae_doubleToLongBits_ccdee 4 = .ok (.ifCond .ne 8, 3) := by decide +kernel
theorem dJxe99ae_doubleToLongBits_ccdee_7 : decode cJxe99ae_doubleToLongBits_ccdee 7 = .ok (.dload_n 0, 1) := by decide +kernel
theorem dJxe99ae_doubleToLongBits_ccdee_8 : decode cJxe99ae_doubleToLongBits_ccdee 8 = .ok (.invokestatic 134, 3) := by decide +kernel
theorem dJxe99ae_doubleToLongBits_ccdee_11 : decode cJxe99ae_doubleToLongBits_ccdee 11 = .ok (.lreturn, 1) := by decide +kernel
theorem dJxe99ae_doubleToLongBits_ccdee_12 : decode cJxe99ae_doubleToLongBits_ccdee 12 = .ok (.ldc2_w 137, 3) := by decide +kernel
theorem dJxe99ae_doubleToLongBits_ccdee_15 : decode cJxe99ae_doubleToLongBits_ccdee 15 = .ok (.lreturn, 1) := by decide +kernel
theorem dJxf58ca_isNaN_12338_0 : decode cJxf58ca_isNaN_12338 0 = .ok (.fload_n 0, 1) := by decide +kernel
theorem dJxf58ca_isNaN_12338_1 : decode cJxf58ca_isNaN_12338 1 = .ok (.fload_n 0, 1) := by decide +kernel
theorem dJxf58ca_isNaN_12338_2 : decode cJxf58ca_isNaN_12338 2 = .ok (.fcmp .l, 1) := by decide +kernel
theorem dJxf58ca_isNaN_12338_3 : decode cJxf58ca_isNaN_12338 3 = .ok (.ifCond .eq 7, 3) := by decide +kernel
theorem dJxf58ca_isNaN_12338_6 : decode cJxf58ca_isNaN_12338 6 = .ok (.iconst 1, 1) := by decide +kernel
theorem dJxf58ca_isNaN_12338_7 : decode cJxf58ca_isNaN_12338 7 = .ok (.goto 4, 3) := by decide +kernel
theorem dJxf58ca_isNaN_12338_10 : decode cJxf58ca_isNaN_12338 10 = .ok (.iconst 0, 1) := by decide +kernel
theorem dJxf58ca_isNaN_12338_11 : decode cJxf58ca_isNaN_12338 11 = .ok (.ireturn, 1) := by decide +kernel
set_option maxRecDepth 20000 in
theorem ggJxf58ca_floatToIntBits_5c35a_Jxf58ca_isNaN_12338 : GoodIn wsJxf58ca_floatToIntBits_5c35a wsJxf58ca_isNaN_12338 := goodIn_r _ [9] (by decide +kernel) (by decide +kernel)
set_option maxRecDepth 20000 in
theorem gJxf58ca_floatToIntBits_5c35a_Jxf58ca_isNaN_12338 : GoodIn wsJxf58ca_floatToIntBits_5c35a (va_wsS RJxf58ca 59 yJxf58ca_isNaN_12338 wsJxf58ca_isNaN_12338) := goodIn_app (goodIn_of _ (by decide +kernel)) ggJxf58ca_floatToIntBits_5c35a_Jxf58ca_isNaN_12338
theorem dJxf58ca_floatToIntBits_5c35a_0 : decode cJxf58ca_floatToIntBits_5c35a 0 = .ok (.fload_n 0, 1) := by decide +kernel
theorem dJxf58ca_floatToIntBits_5c35a_1 : decode cJxf58ca_floatToIntBits_5c35a 1 = .ok (.invokestatic 59, 3) := by decide +kernel
theorem dJxf58ca_floatToIntBits_5c35a_4 : decode cJxf58ca_floatToIntBits_5c35a 4 = .ok (.ifCond .ne 8, 3) := by decide +kernel
theorem dJxf58ca_floatToIntBits_5c35a_7 : decode cJxf58ca_floatToIntBits_5c35a 7 = .ok (.fload_n 0, 1) := by decide +kernel
theorem dJxf58ca_floatToIntBits_5c35a_8 : decode cJxf58ca_floatToIntBits_5c35a 8 = .ok (.invokestatic 74, 3) := by decide +kernel
theorem dJxf58ca_floatToIntBits_5c35a_11 : decode cJxf58ca_floatToIntBits_5c35a 11 = .ok (.ireturn, 1) := by decide +kernel
theorem dJxf58ca_floatToIntBits_5c35a_12 : decode cJxf58ca_floatToIntBits_5c35a 12 = .ok (.ldc 77, 2) := by decide +kernel
theorem dJxf58ca_floatToIntBits_5c35a_14 : decode cJxf58ca_floatToIntBits_5c35a 14 = .ok (.ireturn, 1) := by decide +kernel
theorem dJ6_bitCount_0f7a4_0 : decode cJ6_bitCount_0f7a4 0 = .ok (.iload_n 0, 1) := by decide +kernel
theorem dJ6_bitCount_0f7a4_1 : decode cJ6_bitCount_0f7a4 1 = .ok (.iload_n 0, 1) := by decide +kernel
theorem dJ6_bitCount_0f7a4_2 : decode cJ6_bitCount_0f7a4 2 = .ok (.iconst 1, 1) := by decide +kernel
theorem dJ6_bitCount_0f7a4_3 : decode cJ6_bitCount_0f7a4 3 = .ok (.iushr, 1) := by decide +kernel
theorem dJ6_bitCount_0f7a4_4 : decode cJ6_bitCount_0f7a4 4 = .ok (.ldc_w 265, 3) := by decide +kernel
theorem dJ6_bitCount_0f7a4_7 : decode cJ6_bitCount_0f7a4 7 = .ok (.iand, 1) := by decide +kernel
theorem dJ6_bitCount_0f7a4_8 : decode cJ6_bitCount_0f7a4 8 = .ok (.isub, 1) := by decide +kernel
theorem dJ6_bitCount_0f7a4_9 : decode cJ6_bitCount_0f7a4 9 = .ok (.istore_n 0, 1) := by decide +kernel
theorem dJ6_bitCount_0f7a4_10 : decode cJ6_bitCount_0f7a4 10 = .ok (.iload_n 0, 1) := by decide +kernel
theorem dJ6_bitCount_0f7a4_11 : decode cJ6_bitCount_0f7a4 11 = .ok (.ldc_w 266, 3) := by decide +kernel
theorem dJ6_bitCount_0f7a4_14 : decode cJ6_bitCount_0f7a4 14 = .ok (.iand, 1) := by decide +kernel
theorem dJ6_bitCount_0f7a4_15 : decode cJ6_bitCount_0f7a4 15 = .ok (.iload_n 0, 1) := by decide +kernel
theorem dJ6_bitCount_0f7a4_16 : decode cJ6_bitCount_0f7a4 16 = .ok (.iconst 2, 1) := by decide +kernel
theorem dJ6_bitCount_0f7a4_17 : decode cJ6_bitCount_0f7a4 17 = .ok (.iushr, 1) := by decide +kernel
theorem dJ6_bitCount_0f7a4_18 : decode cJ6_bitCount_0f7a4 18 = .ok (.ldc_w 266, 3) := by decide +kernel
theorem dJ6_bitCount_0f7a4_21 : decode cJ6_bitCount_0f7a4 21 = .ok (.iand, 1) := by decide +kernel
theorem dJ6_bitCount_0f7a4_22 : decode cJ6_bitCount_0f7a4 22 = .ok (.iadd, 1) := by decide +kernel
theorem dJ6_bitCount_0f7a4_23 : decode cJ6_bitCount_0f7a4 23 = .ok (.istore_n 0, 1) := by decide +kernel
theorem dJ6_bitCount_0f7a4_24 : decode cJ6_bitCount_0f7a4 24 = .ok (.iload_n 0, 1) := by decide +kernel
theorem dJ6_bitCount_0f7a4_25 : decode cJ6_bitCount_0f7a4 25 = .ok (.iload_n 0, 1) := by decide +kernel
theorem dJ6_bitCount_0f7a4_26 : decode cJ6_bitCount_0f7a4 26 = .ok (.iconst 4, 1) := by decide +kernel
theorem dJ6_bitCount_0f7a4_27 : decode cJ6_bitCount_0f7a4 27 = .ok (.iushr, 1) := by decide +kernel
theorem dJ6_bitCount_0f7a4_28 : decode cJ6_bitCount_0f7a4 28 = .ok (.iadd, 1) := by decide +kernel
theorem dJ6_bitCount_0f7a4_29 : decode cJ6_bitCount_0f7a4 29 = .ok (.ldc_w 267, 3) := by decide +kernel
theorem dJ6_bitCount_0f7a4_32 : decode cJ6_bitCount_0f7a4 32 = .ok (.iand, 1) := by decide +kernel
theorem dJ6_bitCount_0f7a4_33 : decode cJ6_bitCount_0f7a4 33 = .ok (.istore_n 0, 1) := by decide +kernel
theorem dJ6_bitCount_0f7a4_34 : decode cJ6_bitCount_0f7a4 34 = .ok (.iload_n 0, 1) := by decide +kernel
theorem dJ6_bitCount_0f7a4_35 : decode cJ6_bitCount_0f7a4 35 = .ok (.iload_n 0, 1) := by decide +kernel
theorem dJ6_bitCount_0f7a4_36 : decode cJ6_bitCount_0f7a4 36 = .ok (.bipush 8, 2) := by decide +kernel
theorem dJ6_bitCount_0f7a4_38 : decode cJ6_bitCount_0f7a4 38 = .ok (.iushr, 1) := by decide +kernel
theorem dJ6_bitCount_0f7a4_39 : decode cJ6_bitCount_0f7a4 39 = .ok (.iadd, 1) := by decide +kernel
theorem dJ6_bitCount_0f7a4_40 : decode cJ6_bitCount_0f7a4 40 = .ok (.istore_n 0, 1) := by decide +kernel
theorem dJ6_bitCount_0f7a4_41 : decode cJ6_bitCount_0f7a4 41 = .ok (.iload_n 0, 1) := by decide +kernel
theorem dJ6_bitCount_0f7a4_42 : decode cJ6_bitCount_0f7a4 42 = .ok (.iload_n 0, 1) := by decide +kernel
theorem dJ6_bitCount_0f7a4_43 : decode cJ6_bitCount_0f7a4 43 = .ok (.bipush 16, 2) := by decide +kernel
theorem dJ6_bitCount_0f7a4_45 : decode cJ6_bitCount_0f7a4 45 = .ok (.iushr, 1) := by decide +kernel
theorem dJ6_bitCount_0f7a4_46 : decode cJ6_bitCount_0f7a4 46 = .ok (.iadd, 1) := by decide +kernel
theorem dJ6_bitCount_0f7a4_47 : decode cJ6_bitCount_0f7a4 47 = .ok (.istore_n 0, 1) := by decide +kernel
theorem dJ6_bitCount_0f7a4_48 : decode cJ6_bitCount_0f7a4 48 = .ok (.iload_n 0, 1) := by decide +kernel
theorem dJ6_bitCount_0f7a4_49 : decode cJ6_bitCount_0f7a4 49 = .ok (.bipush 63, 2) := by decide +kernel
theorem dJ6_bitCount_0f7a4_51 : decode cJ6_bitCount_0f7a4 51 = .ok (.iand, 1) := by decide +kernel
theorem dJ6_bitCount_0f7a4_52 : decode cJ6_bitCount_0f7a4 52 = .ok (.ireturn, 1) := by decide +kernel
theorem dJ13_bitCount_95d88_0 : decode cJ13_bitCount_95d88 0 = .ok (.lload_n 0, 1) := by decide +kernel
theorem dJ13_bitCount_95d88_1 : decode cJ13_bitCount_95d88 1 = .ok (.lload_n 0, 1) := by decide +kernel
theorem dJ13_bitCount_95d88_2 : decode cJ13_bitCount_95d88 2 = .ok (.iconst 1, 1) := by decide +kernel
theorem dJ13_bitCount_95d88_3 : decode cJ13_bitCount_95d88 3 = .ok (.lushr, 1) := by decide +kernel
theorem dJ13_bitCount_95d88_4 : decode cJ13_bitCount_95d88 4 = .ok (.ldc2_w 314, 3) := by decide +kernel
theorem dJ13_bitCount_95d88_7 : decode cJ13_bitCount_95d88 7 = .ok (.land, 1) := by decide +kernel
theorem dJ13_bitCount_95d88_8 : decode cJ13_bitCount_95d88 8 = .ok (.lsub, 1) := by decide +kernel
theorem dJ13_bitCount_95d88_9 : decode cJ13_bitCount_95d88 9 = .ok (.lstore_n 0, 1) := by decide +kernel
theorem dJ13_bitCount_95d88_10 : decode cJ13_bitCount_95d88 10 = .ok (.lload_n 0, 1) := by decide +kernel
theorem dJ13_bitCount_95d88_11 : decode cJ13_bitCount_95d88 11 = .ok (.ldc2_w 316, 3) := by decide +kernel
theorem dJ13_bitCount_95d88_14 : decode cJ13_bitCount_95d88 14 = .ok (.land, 1) := by decide +kernel
theorem dJ13_bitCount_95d88_15 : decode cJ13_bitCount_95d88 15 = .ok (.lload_n 0, 1) := by decide +kernel
theorem dJ13_bitCount_95d88_16 : decode cJ13_bitCount_95d88 16 = .ok (.iconst 2, 1) := by decide +kernel
theorem dJ13_bitCount_95d88_17 : decode cJ13_bitCount_95d88 17 = .ok (.lushr, 1) := by decide +kernel
theorem dJ13_bitCount_95d88_18 : decode cJ13_bitCount_95d88 18 = .ok (.ldc2_w 316, 3) := by decide +kernel
theorem dJ13_bitCount_95d88_21 : decode cJ13_bitCount_95d88 21 = .ok (.land, 1) := by decide +kernel
theorem dJ13_bitCount_95d88_22 : decode cJ13_bitCount_95d88 22 = .ok (.ladd, 1) := by decide +kernel
theorem dJ13_bitCount_95d88_23 : decode cJ13_bitCount_95d88 23 = .ok (.lstore_n 0, 1) := by decide +kernel
theorem dJ13_bitCount_95d88_24 : decode cJ13_bitCount_95d88 24 = .ok (.lload_n 0, 1) := by decide +kernel
theorem dJ13_bitCount_95d88_25 : decode cJ13_bitCount_95d88 25 = .ok (.lload_n 0, 1) := by decide +kernel
theorem dJ13_bitCount_95d88_26 : decode cJ13_bitCount_95d88 26 = .ok (.iconst 4, 1) := by decide +kernel
theorem dJ13_bitCount_95d88_27 : decode cJ13_bitCount_95d88 27 = .ok (.lushr, 1) := by decide +kernel
theorem dJ13_bitCount_95d88_28 : decode cJ13_bitCount_95d88 28 = .ok (.ladd, 1) := by decide +kernel
theorem dJ13_bitCount_95d88_29 : decode cJ13_bitCount_95d88 29 = .ok (.ldc2_w 318, 3) := by decide +kernel
theorem dJ13_bitCount_95d88_32 : decode cJ13_bitCount_95d88 32 = .ok (.land, 1) := by decide +kernel
theorem dJ13_bitCount_95d88_33 : decode cJ13_bitCount_95d88 33 = .ok (.lstore_n 0, 1) := by decide +kernel
theorem dJ13_bitCount_95d88_34 : decode cJ13_bitCount_95d88 34 = .ok (.lload_n 0, 1) := by decide +kernel
theorem dJ13_bitCount_95d88_35 : decode cJ13_bitCount_95d88 35 = .ok (.lload_n 0, 1) := by decide +kernel
theorem dJ13_bitCount_95d88_36 : decode cJ13_bitCount_95d88 36 = .ok (.bipush 8, 2) := by decide +kernel
theorem dJ13_bitCount_95d88_38 : decode cJ13_bitCount_95d88 38 = .ok (.lushr, 1) := by decide +kernel
theorem dJ13_bitCount_95d88_39 : decode cJ13_bitCount_95d88 39 = .ok (.ladd, 1) := by decide +kernel
theorem dJ13_bitCount_95d88_40 : decode cJ13_bitCount_95d88 40 = .ok (.lstore_n 0, 1) := by decide +kernel
theorem dJ13_bitCount_95d88_41 : decode cJ13_bitCount_95d88 41 = .ok (.lload_n 0, 1) := by decide +kernel
theorem dJ13_bitCount_95d88_42 : decode cJ13_bitCount_95d88 42 = .ok (.lload_n 0, 1) := by decide +kernel
theorem dJ13_bitCount_95d88_43 : decode cJ13_bitCount_95d88 43 = .ok (.bipush 16, 2) := by decide +kernel
theorem dJ13_bitCount_95d88_45 : decode cJ13_bitCount_95d88 45 = .ok (.lushr, 1) := by decide +kernel
theorem dJ13_bitCount_95d88_46 : decode cJ13_bitCount_95d88 46 = .ok (.ladd, 1) := by decide +kernel
theorem dJ13_bitCount_95d88_47 : decode cJ13_bitCount_95d88 47 = .ok (.lstore_n 0, 1) := by decide +kernel
theorem dJ13_bitCount_95d88_48 : decode cJ13_bitCount_95d88 48 = .ok (.lload_n 0, 1) := by decide +kernel
theorem dJ13_bitCount_95d88_49 : decode cJ13_bitCount_95d88 49 = .ok (.lload_n 0, 1) := by decide +kernel
theorem dJ13_bitCount_95d88_50 : decode cJ13_bitCount_95d88 50 = .ok (.bipush 32, 2) := by decide +kernel
theorem dJ13_bitCount_95d88_52 : decode cJ13_bitCount_95d88 52 = .ok (.lushr, 1) := by decide +kernel
theorem dJ13_bitCount_95d88_53 : decode cJ13_bitCount_95d88 53 = .ok (.ladd, 1) := by decide +kernel
theorem dJ13_bitCount_95d88_54 : decode cJ13_bitCount_95d88 54 = .ok (.lstore_n 0, 1) := by decide +kernel
theorem dJ13_bitCount_95d88_55 : decode cJ13_bitCount_95d88 55 = .ok (.lload_n 0, 1) := by decide +kernel
theorem dJ13_bitCount_95d88_56 : decode cJ13_bitCount_95d88 56 = .ok (.l2i, 1) := by decide +kernel
theorem dJ13_bitCount_95d88_57 : decode cJ13_bitCount_95d88 57 = .ok (.bipush 127, 2) := by decide +kernel
theorem dJ13_bitCount_95d88_59 : decode cJ13_bitCount_95d88 59 = .ok (.iand, 1) := by decide +kernel
theorem dJ13_bitCount_95d88_60 : decode cJ13_bitCount_95d88 60 = .ok (.ireturn, 1) := by decide +kernel
theorem dJ9_abs_0f7a4_0 : decode cJ9_abs_0f7a4 0 = .ok (.iload_n 0, 1) := by decide +kernel
theorem dJ9_abs_0f7a4_1 : decode cJ9_abs_0f7a4 1 = .ok (.ifCond .ge 8, 3) := by decide +kernel
theorem dJ9_abs_0f7a4_4 : decode cJ9_abs_0f7a4 4 = .ok (.iload_n 0, 1) := by decide +kernel
theorem dJ9_abs_0f7a4_5 : decode cJ9_abs_0f7a4 5 = .ok (.ineg, 1) := by decide +kernel
theorem dJ9_abs_0f7a4_6 : decode cJ9_abs_0f7a4 6 = .ok (.goto 4, 3) := by decide +kernel
theorem dJ9_abs_0f7a4_9 : decode cJ9_abs_0f7a4 9 = .ok (.iload_n 0, 1) := by decide +kernel
theorem dJ9_abs_0f7a4_10 : decode cJ9_abs_0f7a4 10 = .ok (.ireturn, 1) := by decide +kernel
