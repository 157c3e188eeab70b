theorem dX0_redundantCalls_35 : decode cX0_redundantCalls 35 = .ok (.iinc 1 1, 3) := by decide +kernel
theorem dX0_redundantCalls_38 : decode cX0_redundantCalls 38 = .ok (.lload 5, 2) := by decide +kernel
theorem dX0_redundantCalls_40 : decode cX0_redundantCalls 40 = .ok (.lstore_n 2, 1) := by decide +kernel
theorem dX0_redundantCalls_41 : decode cX0_redundantCalls 41 = .ok (.iinc 4 1, 3) := by decide +kernel
theorem dX0_redundantCalls_44 : decode cX0_redundantCalls 44 = .ok (.goto (-34), 3) := by decide +kernel
theorem dX0_redundantCalls_47 : decode cX0_redundantCalls 47 = .ok (.iload_n 1, 1) := by decide +kernel
theorem dX0_redundantCalls_48 : decode cX0_redundantCalls 48 = .ok (.ireturn, 1) := by decide +kernel
set_option maxRecDepth 20000 in
theorem ggX0_averageKnowledge_X0_knownAfterRounds : GoodIn wsX0_averageKnowledge wsX0_knownAfterRounds := goodIn_r _ [6, 7, 8, 9, 10, 11, 5, 12, 13, 14, 15, 16, 17, 18, 19, 20, 21, 37, 38, 39, 40, 41, 42, 43, 44, 45, 46, 47, 48] (by decide +kernel) (by decide +kernel)
set_option maxRecDepth 20000 in
theorem gX0_averageKnowledge_X0_knownAfterRounds : GoodIn wsX0_averageKnowledge (wsV RX0 106 RX0 yX0_knownAfterRounds wsX0_knownAfterRounds) := goodIn_app (goodIn_of _ (by decide +kernel)) ggX0_averageKnowledge_X0_knownAfterRounds
set_option maxRecDepth 20000 in
theorem ggX0_averageKnowledge_X0_averageBits : GoodIn wsX0_averageKnowledge wsX0_averageBits := goodIn_r _ [25, 13, 26, 27, 28, 29, 30, 31, 32, 33, 34, 5, 35, 36, 37, 38, 39, 40, 41, 42, 43, 44, 45, 46, 47, 48] (by decide +kernel) (by decide +kernel)
set_option maxRecDepth 20000 in
theorem gX0_averageKnowledge_X0_averageBits : GoodIn wsX0_averageKnowledge (wsV RX0 125 RX0 yX0_averageBits wsX0_averageBits) := goodIn_app (goodIn_of _ (by decide +kernel)) ggX0_averageKnowledge_X0_averageBits
theorem dX0_averageKnowledge_0 : decode cX0_averageKnowledge 0 = .ok (.iload_n 1, 1) := by decide +kernel
theorem dX0_averageKnowledge_1 : decode cX0_averageKnowledge 1 = .ok (.ifCond .lt 11, 3) := by decide +kernel
theorem dX0_averageKnowledge_4 : decode cX0_averageKnowledge 4 = .ok (.iload_n 1, 1) := by decide +kernel
theorem dX0_averageKnowledge_5 : decode cX0_averageKnowledge 5 = .ok (.aload_n 0, 1) := by decide +kernel
theorem dX0_averageKnowledge_6 : decode cX0_averageKnowledge 6 = .ok (.getfield 55, 3) := by decide +kernel
theorem dX0_averageKnowledge_9 : decode cX0_averageKnowledge 9 = .ok (.if_icmp .le 6, 3) := by decide +kernel
theorem dX0_averageKnowledge_12 : decode cX0_averageKnowledge 12 = .ok (.bipush (-5), 2) := by decide +kernel
theorem dX0_averageKnowledge_14 : decode cX0_averageKnowledge 14 = .ok (.ireturn, 1) := by decide +kernel
theorem dX0_averageKnowledge_15 : decode cX0_averageKnowledge 15 = .ok (.aload_n 0, 1) := by decide +kernel
theorem dX0_averageKnowledge_16 : decode cX0_averageKnowledge 16 = .ok (.aload_n 0, 1) := by decide +kernel
theorem dX0_averageKnowledge_17 : decode cX0_averageKnowledge 17 = .ok (.iload_n 1, 1) := by decide +kernel
theorem dX0_averageKnowledge_18 : decode cX0_averageKnowledge 18 = .ok (.invokevirtual 106, 3) := by decide +kernel
theorem dX0_averageKnowledge_21 : decode cX0_averageKnowledge 21 = .ok (.invokevirtual 125, 3) := by decide +kernel
theorem dX0_averageKnowledge_24 : decode cX0_averageKnowledge 24 = .ok (.ireturn, 1) := by decide +kernel
set_option maxRecDepth 20000 in
theorem ggX0_leastCalls_X0_graphHasFourCycle : GoodIn wsX0_leastCalls wsX0_graphHasFourCycle := goodIn_r _ [6, 7, 1, 8, 9, 10, 11, 12, 13, 14, 15, 16, 17, 18, 19] (by decide +kernel) (by decide +kernel)
set_option maxRecDepth 20000 in
theorem gX0_leastCalls_X0_graphHasFourCycle : GoodIn wsX0_leastCalls (wsV RX0 129 RX0 yX0_graphHasFourCycle wsX0_graphHasFourCycle) := goodIn_app (goodIn_of _ (by decide +kernel)) ggX0_leastCalls_X0_graphHasFourCycle
theorem dX0_leastCalls_0 : decode cX0_leastCalls 0 = .ok (.iload_n 1, 1) := by decide +kernel
theorem dX0_leastCalls_1 : decode cX0_leastCalls 1 = .ok (.ifCond .eq 12, 3) := by decide +kernel
theorem dX0_leastCalls_4 : decode cX0_leastCalls 4 = .ok (.iconst 2, 1) := by decide +kernel
theorem dX0_leastCalls_5 : decode cX0_leastCalls 5 = .ok (.aload_n 0, 1) := by decide +kernel
theorem dX0_leastCalls_6 : decode cX0_leastCalls 6 = .ok (.getfield 9, 3) := by decide +kernel
theorem dX0_leastCalls_9 : decode cX0_leastCalls 9 = .ok (.imul, 1) := by decide +kernel
theorem dX0_leastCalls_10 : decode cX0_leastCalls 10 = .ok (.iconst 2, 1) := by decide +kernel
theorem dX0_leastCalls_11 : decode cX0_leastCalls 11 = .ok (.isub, 1) := by decide +kernel
theorem dX0_leastCalls_12 : decode cX0_leastCalls 12 = .ok (.ireturn, 1) := by decide +kernel
theorem dX0_leastCalls_13 : decode cX0_leastCalls 13 = .ok (.aload_n 0, 1) := by decide +kernel
theorem dX0_leastCalls_14 : decode cX0_leastCalls 14 = .ok (.getfield 9, 3) := by decide +kernel
theorem dX0_leastCalls_17 : decode cX0_leastCalls 17 = .ok (.iconst 4, 1) := by decide +kernel
theorem dX0_leastCalls_18 : decode cX0_leastCalls 18 = .ok (.if_icmp .ge 12, 3) := by decide +kernel
theorem dX0_leastCalls_21 : decode cX0_leastCalls 21 = .ok (.iconst 2, 1) := by decide +kernel
theorem dX0_leastCalls_22 : decode cX0_leastCalls 22 = .ok (.aload_n 0, 1) := by decide +kernel
theorem dX0_leastCalls_23 : decode cX0_leastCalls 23 = .ok (.getfield 9, 3) := by decide +kernel
theorem dX0_leastCalls_26 : decode cX0_leastCalls 26 = .ok (.imul, 1) := by decide +kernel
theorem dX0_leastCalls_27 : decode cX0_leastCalls 27 = .ok (.iconst 3, 1) := by decide +kernel
theorem dX0_leastCalls_28 : decode cX0_leastCalls 28 = .ok (.isub, 1) := by decide +kernel
theorem dX0_leastCalls_29 : decode cX0_leastCalls 29 = .ok (.ireturn, 1) := by decide +kernel
theorem dX0_leastCalls_30 : decode cX0_leastCalls 30 = .ok (.aload_n 0, 1) := by decide +kernel
theorem dX0_leastCalls_31 : decode cX0_leastCalls 31 = .ok (.invokevirtual 129, 3) := by decide +kernel
theorem dX0_leastCalls_34 : decode cX0_leastCalls 34 = .ok (.ifCond .eq 14, 3) := by decide +kernel
theorem dX0_leastCalls_37 : decode cX0_leastCalls 37 = .ok (.iconst 2, 1) := by decide +kernel
theorem dX0_leastCalls_38 : decode cX0_leastCalls 38 = .ok (.aload_n 0, 1) := by decide +kernel
theorem dX0_leastCalls_39 : decode cX0_leastCalls 39 = .ok (.getfield 9, 3) := by decide +kernel
theorem dX0_leastCalls_42 : decode cX0_leastCalls 42 = .ok (.imul, 1) := by decide +kernel
theorem dX0_leastCalls_43 : decode cX0_leastCalls 43 = .ok (.iconst 4, 1) := by decide +kernel
theorem dX0_leastCalls_44 : decode cX0_leastCalls 44 = .ok (.isub, 1) := by decide +kernel
theorem dX0_leastCalls_45 : decode cX0_leastCalls 45 = .ok (.goto 11, 3) := by decide +kernel
theorem dX0_leastCalls_48 : decode cX0_leastCalls 48 = .ok (.iconst 2, 1) := by decide +kernel
theorem dX0_leastCalls_49 : decode cX0_leastCalls 49 = .ok (.aload_n 0, 1) := by decide +kernel
theorem dX0_leastCalls_50 : decode cX0_leastCalls 50 = .ok (.getfield 9, 3) := by decide +kernel
theorem dX0_leastCalls_53 : decode cX0_leastCalls 53 = .ok (.imul, 1) := by decide +kernel
theorem dX0_leastCalls_54 : decode cX0_leastCalls 54 = .ok (.iconst 3, 1) := by decide +kernel
theorem dX0_leastCalls_55 : decode cX0_leastCalls 55 = .ok (.isub, 1) := by decide +kernel
theorem dX0_leastCalls_56 : decode cX0_leastCalls 56 = .ok (.ireturn, 1) := by decide +kernel
set_option maxRecDepth 20000 in
theorem ggX0_isCritical_X0_callExists : GoodIn wsX0_isCritical wsX0_callExists := goodIn_r _ [5, 6, 38, 39, 40, 41, 42, 43, 44, 45, 46, 47, 48, 49] (by decide +kernel) (by decide +kernel)
set_option maxRecDepth 20000 in
theorem gX0_isCritical_X0_callExists : GoodIn wsX0_isCritical (wsV RX0 103 RX0 yX0_callExists wsX0_callExists) := goodIn_app (goodIn_of _ (by decide +kernel)) ggX0_isCritical_X0_callExists
set_option maxRecDepth 20000 in
theorem ggX0_isCritical_X0_scheduleIsComplete : GoodIn wsX0_isCritical wsX0_scheduleIsComplete := goodIn_r _ [10, 11, 12, 13, 14, 4, 15, 6, 16, 17, 18, 19, 20, 21, 22, 23, 24, 25, 26, 27, 28, 29, 30, 31, 32, 33, 38, 39, 40, 41, 42, 43, 44, 45, 46, 47, 48, 49] (by decide +kernel) (by decide +kernel)
set_option maxRecDepth 20000 in
theorem gX0_isCritical_X0_scheduleIsComplete : GoodIn wsX0_isCritical (wsV RX0 132 RX0 yX0_scheduleIsComplete wsX0_scheduleIsComplete) := goodIn_app (goodIn_of _ (by decide +kernel)) ggX0_isCritical_X0_scheduleIsComplete
set_option maxRecDepth 20000 in
theorem ggX0_isCritical_X0_isCompleteWithout : GoodIn wsX0_isCritical wsX0_isCompleteWithout := goodIn_r _ [37, 6, 17, 18, 19, 4, 20, 21, 22, 23, 24, 25, 26, 27, 28, 29, 30, 31, 32, 33, 38, 39, 40, 41, 42, 43, 44, 45, 46, 47, 48, 49] (by decide +kernel) (by decide +kernel)
set_option maxRecDepth 20000 in
theorem gX0_isCritical_X0_isCompleteWithout : GoodIn wsX0_isCritical (wsV RX0 135 RX0 yX0_isCompleteWithout wsX0_isCompleteWithout) := goodIn_app (goodIn_of _ (by decide +kernel)) ggX0_isCritical_X0_isCompleteWithout
theorem dX0_isCritical_0 : decode cX0_isCritical 0 = .ok (.aload_n 0, 1) := by decide +kernel
theorem dX0_isCritical_1 : decode cX0_isCritical 1 = .ok (.iload_n 1, 1) := by decide +kernel
theorem dX0_isCritical_2 : decode cX0_isCritical 2 = .ok (.invokevirtual 103, 3) := by decide +kernel
theorem dX0_isCritical_5 : decode cX0_isCritical 5 = .ok (.ifCond .ne 6, 3) := by decide +kernel
theorem dX0_isCritical_8 : decode cX0_isCritical 8 = .ok (.bipush (-7), 2) := by decide +kernel
theorem dX0_isCritical_10 : decode cX0_isCritical 10 = .ok (.ireturn, 1) := by decide +kernel
theorem dX0_isCritical_11 : decode cX0_isCritical 11 = .ok (.aload_n 0, 1) := by decide +kernel
theorem dX0_isCritical_12 : decode cX0_isCritical 12 = .ok (.invokevirtual 132, 3) := by decide +kernel
theorem dX0_isCritical_15 : decode cX0_isCritical 15 = .ok (.ifCond .eq 15, 3) := by decide +kernel
theorem dX0_isCritical_18 : decode cX0_isCritical 18 = .ok (.aload_n 0, 1) := by decide +kernel
theorem dX0_isCritical_19 : decode cX0_isCritical 19 = .ok (.iload_n 1, 1) := by decide +kernel
theorem dX0_isCritical_20 : decode cX0_isCritical 20 = .ok (.invokevirtual 135, 3) := by decide +kernel
theorem dX0_isCritical_23 : decode cX0_isCritical 23 = .ok (.ifCond .ne 7, 3) := by decide +kernel
theorem dX0_isCritical_26 : decode cX0_isCritical 26 = .ok (.iconst 1, 1) := by decide +kernel
theorem dX0_isCritical_27 : decode cX0_isCritical 27 = .ok (.goto 4, 3) := by decide +kernel
theorem dX0_isCritical_30 : decode cX0_isCritical 30 = .ok (.iconst 0, 1) := by decide +kernel
theorem dX0_isCritical_31 : decode cX0_isCritical 31 = .ok (.ireturn, 1) := by decide +kernel
set_option maxRecDepth 20000 in
theorem ggX0_smallestSufficientCalls_X0_scheduleIsComplete : GoodIn wsX0_smallestSufficientCalls wsX0_scheduleIsComplete := goodIn_r _ [7, 8, 9, 10, 11, 6, 12, 1, 13, 14, 15, 16, 17, 18, 19, 20, 21, 22, 23, 24, 25, 26, 27, 28, 29, 30, 42, 43, 44, 45, 46, 47, 48, 49, 50, 51, 52, 53] (by decide +kernel) (by decide +kernel)
set_option maxRecDepth 20000 in
theorem gX0_smallestSufficientCalls_X0_scheduleIsComplete : GoodIn wsX0_smallestSufficientCalls (wsV RX0 132 RX0 yX0_scheduleIsComplete wsX0_scheduleIsComplete) := goodIn_app (goodIn_of _ (by decide +kernel)) ggX0_smallestSufficientCalls_X0_scheduleIsComplete
set_option maxRecDepth 20000 in
theorem ggX0_smallestSufficientCalls_X0_fillKnownAfterMasks : GoodIn wsX0_smallestSufficientCalls wsX0_fillKnownAfterMasks := goodIn_r _ [34, 2, 1, 14, 15, 16, 6, 17, 18, 19, 20, 21, 22, 23, 24, 25, 26, 42, 43, 44, 45, 46, 47, 48, 49, 50, 51, 52, 53] (by decide +kernel) (by decide +kernel)
set_option maxRecDepth 20000 in
theorem gX0_smallestSufficientCalls_X0_fillKnownAfterMasks : GoodIn wsX0_smallestSufficientCalls (wsV RX0 138 RX0 yX0_fillKnownAfterMasks wsX0_fillKnownAfterMasks) := goodIn_app (goodIn_of _ (by decide +kernel)) ggX0_smallestSufficientCalls_X0_fillKnownAfterMasks
set_option maxRecDepth 20000 in
theorem ggX0_smallestSufficientCalls_X0_everythingKnown : GoodIn wsX0_smallestSufficientCalls wsX0_everythingKnown := goodIn_r _ [30, 18, 42, 43, 44, 45, 46, 47, 48, 49, 50, 51, 52, 53] (by decide +kernel) (by decide +kernel)
set_option maxRecDepth 20000 in
theorem gX0_smallestSufficientCalls_X0_everythingKnown : GoodIn wsX0_smallestSufficientCalls (wsV RX0 114 RX0 yX0_everythingKnown wsX0_everythingKnown) := goodIn_app (goodIn_of _ (by decide +kernel)) ggX0_smallestSufficientCalls_X0_everythingKnown
set_option maxRecDepth 20000 in
theorem ggX0_smallestSufficientCalls_J6_bitCount_0f7a4 : GoodIn wsX0_smallestSufficientCalls wsJ6_bitCount_0f7a4 := goodIn_r _ [38, 39, 40, 41] (by decide +kernel) (by decide +kernel)
set_option maxRecDepth 20000 in
theorem gX0_smallestSufficientCalls_J6_bitCount_0f7a4 : GoodIn wsX0_smallestSufficientCalls (va_wsS RX0 141 yJ6_bitCount_0f7a4 wsJ6_bitCount_0f7a4) := goodIn_app (goodIn_of _ (by decide +kernel)) ggX0_smallestSufficientCalls_J6_bitCount_0f7a4
theorem dX0_smallestSufficientCalls_0 : decode cX0_smallestSufficientCalls 0 = .ok (.aload_n 0, 1) := by decide +kernel
theorem dX0_smallestSufficientCalls_1 : decode cX0_smallestSufficientCalls 1 = .ok (.getfield 70, 3) := by decide +kernel
theorem dX0_smallestSufficientCalls_4 : decode cX0_smallestSufficientCalls 4 = .ok (.bipush 12, 2) := by decide +kernel
theorem dX0_smallestSufficientCalls_6 : decode cX0_smallestSufficientCalls 6 = .ok (.if_icmp .le 6, 3) := by decide +kernel
theorem dX0_smallestSufficientCalls_9 : decode cX0_smallestSufficientCalls 9 = .ok (.bipush (-15), 2) := by decide +kernel
theorem dX0_smallestSufficientCalls_11 : decode cX0_smallestSufficientCalls 11 = .ok (.ireturn, 1) := by decide +kernel
theorem dX0_smallestSufficientCalls_12 : decode cX0_smallestSufficientCalls 12 = .ok (.aload_n 0, 1) := by decide +kernel
theorem dX0_smallestSufficientCalls_13 : decode cX0_smallestSufficientCalls 13 = .ok (.invokevirtual 132, 3) := by decide +kernel
theorem dX0_smallestSufficientCalls_16 : decode cX0_smallestSufficientCalls 16 = .ok (.ifCond .ne 5, 3) := by decide +kernel
theorem dX0_smallestSufficientCalls_19 : decode cX0_smallestSufficientCalls 19 = .ok (.iconst (-1), 1) := by decide +kernel
theorem dX0_smallestSufficientCalls_20 : decode cX0_smallestSufficientCalls 20 = .ok (.ireturn, 1) := by decide +kernel
theorem dX0_smallestSufficientCalls_21 : decode cX0_smallestSufficientCalls 21 = .ok (.aload_n 0, 1) := by decide +kernel
theorem dX0_smallestSufficientCalls_22 : decode cX0_smallestSufficientCalls 22 = .ok (.invokevirtual 138, 3) := by decide +kernel
theorem dX0_smallestSufficientCalls_25 : decode cX0_smallestSufficientCalls 25 = .ok (.aload_n 0, 1) := by decide +kernel
theorem dX0_smallestSufficientCalls_26 : decode cX0_smallestSufficientCalls 26 = .ok (.invokevirtual 114, 3) := by decide +kernel
theorem dX0_smallestSufficientCalls_29 : decode cX0_smallestSufficientCalls 29 = .ok (.lstore_n 1, 1) := by decide +kernel
theorem dX0_smallestSufficientCalls_30 : decode cX0_smallestSufficientCalls 30 = .ok (.iconst 1, 1) := by decide +kernel
theorem dX0_smallestSufficientCalls_31 : decode cX0_smallestSufficientCalls 31 = .ok (.aload_n 0, 1) := by decide +kernel
theorem dX0_smallestSufficientCalls_32 : decode cX0_smallestSufficientCalls 32 = .ok (.getfield 70, 3) := by decide +kernel
theorem dX0_smallestSufficientCalls_35 : decode cX0_smallestSufficientCalls 35 = .ok (.ishl, 1) := by decide +kernel
theorem dX0_smallestSufficientCalls_36 : decode cX0_smallestSufficientCalls 36 = .ok (.istore_n 3, 1) := by decide +kernel
theorem dX0_smallestSufficientCalls_37 : decode cX0_smallestSufficientCalls 37 = .ok (.iconst (-1), 1) := by decide +kernel
theorem dX0_smallestSufficientCalls_38 : decode cX0_smallestSufficientCalls 38 = .ok (.istore 4, 2) := by decide +kernel
theorem dX0_smallestSufficientCalls_40 : decode cX0_smallestSufficientCalls 40 = .ok (.aload_n 0, 1) := by decide +kernel
theorem dX0_smallestSufficientCalls_41 : decode cX0_smallestSufficientCalls 41 = .ok (.getfield 70, 3) := by decide +kernel
theorem dX0_smallestSufficientCalls_44 : decode cX0_smallestSufficientCalls 44 = .ok (.iconst 1, 1) := by decide +kernel
theorem dX0_smallestSufficientCalls_45 : decode cX0_smallestSufficientCalls 45 = .ok (.iadd, 1) := by decide +kernel
theorem dX0_smallestSufficientCalls_46 : decode cX0_smallestSufficientCalls 46 = .ok (.istore 5, 2) := by decide +kernel
theorem dX0_smallestSufficientCalls_48 : decode cX0_smallestSufficientCalls 48 = .ok (.iconst 0, 1) := by decide +kernel
theorem dX0_smallestSufficientCalls_49 : decode cX0_smallestSufficientCalls 49 = .ok (.istore 6, 2) := by decide +kernel
theorem dX0_smallestSufficientCalls_51 : decode cX0_smallestSufficientCalls 51 = .ok (.iload 6, 2) := by decide +kernel
theorem dX0_smallestSufficientCalls_53 : decode cX0_smallestSufficientCalls 53 = .ok (.iload_n 3, 1) := by decide +kernel
theorem dX0_smallestSufficientCalls_54 : decode cX0_smallestSufficientCalls 54 = .ok (.if_icmp .ge 42, 3) := by decide +kernel
theorem dX0_smallestSufficientCalls_57 : decode cX0_smallestSufficientCalls 57 = .ok (.aload_n 0, 1) := by decide +kernel
theorem dX0_smallestSufficientCalls_58 : decode cX0_smallestSufficientCalls 58 = .ok (.getfield 36, 3) := by decide +kernel
theorem dX0_smallestSufficientCalls_61 : decode cX0_smallestSufficientCalls 61 = .ok (.iload 6, 2) := by decide +kernel
theorem dX0_smallestSufficientCalls_63 : decode cX0_smallestSufficientCalls 63 = .ok (.laload, 1) := by decide +kernel
theorem dX0_smallestSufficientCalls_64 : decode cX0_smallestSufficientCalls 64 = .ok (.lload_n 1, 1) := by decide +kernel
theorem dX0_smallestSufficientCalls_65 : decode cX0_smallestSufficientCalls 65 = .ok (.lcmp, 1) := by decide +kernel
theorem dX0_smallestSufficientCalls_66 : decode cX0_smallestSufficientCalls 66 = .ok (.ifCond .ne 24, 3) := by decide +kernel
theorem dX0_smallestSufficientCalls_69 : decode cX0_smallestSufficientCalls 69 = .ok (.iload 6, 2) := by decide +kernel
theorem dX0_smallestSufficientCalls_71 : decode cX0_smallestSufficientCalls 71 = .ok (.invokestatic 141, 3) := by decide +kernel
theorem dX0_smallestSufficientCalls_74 : decode cX0_smallestSufficientCalls 74 = .ok (.iload 5, 2) := by decide +kernel
theorem dX0_smallestSufficientCalls_76 : decode cX0_smallestSufficientCalls 76 = .ok (.if_icmp .ge 14, 3) := by decide +kernel
theorem dX0_smallestSufficientCalls_79 : decode cX0_smallestSufficientCalls 79 = .ok (.iload 6, 2) := by decide +kernel
theorem dX0_smallestSufficientCalls_81 : decode cX0_smallestSufficientCalls 81 = .ok (.istore 4, 2) := by decide +kernel
theorem dX0_smallestSufficientCalls_83 : decode cX0_smallestSufficientCalls 83 = .ok (.iload 6, 2) := by decide +kernel
theorem dX0_smallestSufficientCalls_85 : decode cX0_smallestSufficientCalls 85 = .ok (.invokestatic 141, 3) := by decide +kernel
theorem dX0_smallestSufficientCalls_88 : decode cX0_smallestSufficientCalls 88 = .ok (.istore 5, 2) := by decide +kernel
theorem dX0_smallestSufficientCalls_90 : decode cX0_smallestSufficientCalls 90 = .ok (.iinc 6 1, 3) := by decide +kernel
theorem dX0_smallestSufficientCalls_93 : decode cX0_smallestSufficientCalls 93 = .ok (.goto (-42), 3) := by decide +kernel
theorem dX0_smallestSufficientCalls_96 : decode cX0_smallestSufficientCalls 96 = .ok (.iload 4, 2) := by decide +kernel
theorem dX0_smallestSufficientCalls_98 : decode cX0_smallestSufficientCalls 98 = .ok (.ireturn, 1) := by decide +kernel
set_option maxRecDepth 20000 in
theorem ggX0_successProbability_X0_fillKnownAfterMasks : GoodIn wsX0_successProbability wsX0_fillKnownAfterMasks := goodIn_r _ [10, 5, 2, 11, 12, 13, 9, 14, 15, 16, 17, 18, 19, 20, 21, 22, 23, 38, 39, 40, 41, 42, 43, 44, 45, 46, 47, 48, 49] (by decide +kernel) (by decide +kernel)
set_option maxRecDepth 20000 in
theorem gX0_successProbability_X0_fillKnownAfterMasks : GoodIn wsX0_successProbability (wsV RX0 138 RX0 yX0_fillKnownAfterMasks wsX0_fillKnownAfterMasks) := goodIn_app (goodIn_of _ (by decide +kernel)) ggX0_successProbability_X0_fillKnownAfterMasks
set_option maxRecDepth 20000 in
theorem ggX0_successProbability_X0_everythingKnown : GoodIn wsX0_successProbability wsX0_everythingKnown := goodIn_r _ [27, 15, 38, 39, 40, 41, 42, 43, 44, 45, 46, 47, 48, 49] (by decide +kernel) (by decide +kernel)
set_option maxRecDepth 20000 in
theorem gX0_successProbability_X0_everythingKnown : GoodIn wsX0_successProbability (wsV RX0 114 RX0 yX0_everythingKnown wsX0_everythingKnown) := goodIn_app (goodIn_of _ (by decide +kernel)) ggX0_successProbability_X0_everythingKnown
set_option maxRecDepth 20000 in
theorem ggX0_successProbability_X0_chanceOfMask : GoodIn wsX0_successProbability wsX0_chanceOfMask := goodIn_r _ [31, 2, 38, 39, 40, 41, 42, 43, 44, 45, 46, 47, 48, 49] (by decide +kernel) (by decide +kernel)
set_option maxRecDepth 20000 in
theorem gX0_successProbability_X0_chanceOfMask : GoodIn wsX0_successProbability (wsV RX0 153 RX0 yX0_chanceOfMask wsX0_chanceOfMask) := goodIn_app (goodIn_of _ (by decide +kernel)) ggX0_successProbability_X0_chanceOfMask
set_option maxRecDepth 20000 in
theorem ggX0_successProbability_X0_bitsOfDouble : GoodIn wsX0_successProbability wsX0_bitsOfDouble := goodIn_r _ [34, 35, 36, 37] (by decide +kernel) (by decide +kernel)
set_option maxRecDepth 20000 in
theorem gX0_successProbability_X0_bitsOfDouble : GoodIn wsX0_successProbability (va_wsS RX0 157 yX0_bitsOfDouble wsX0_bitsOfDouble) := goodIn_app (goodIn_of _ (by decide +kernel)) ggX0_successProbability_X0_bitsOfDouble
theorem dX0_successProbability_0 : decode cX0_successProbability 0 = .ok (.iload_n 1, 1) := by decide +kernel
theorem dX0_successProbability_1 : decode cX0_successProbability 1 = .ok (.ifCond .lt 9, 3) := by decide +kernel
theorem dX0_successProbability_4 : decode cX0_successProbability 4 = .ok (.iload_n 1, 1) := by decide +kernel
theorem dX0_successProbability_5 : decode cX0_successProbability 5 = .ok (.bipush 100, 2) := by decide +kernel
theorem dX0_successProbability_7 : decode cX0_successProbability 7 = .ok (.if_icmp .le 7, 3) := by decide +kernel
theorem dX0_successProbability_10 : decode cX0_successProbability 10 = .ok (.ldc2_w 147, 3) := by decide +kernel
theorem dX0_successProbability_13 : decode cX0_successProbability 13 = .ok (.lreturn, 1) := by decide +kernel
theorem dX0_successProbability_14 : decode cX0_successProbability 14 = .ok (.aload_n 0, 1) := by decide +kernel
theorem dX0_successProbability_15 : decode cX0_successProbability 15 = .ok (.getfield 70, 3) := by decide +kernel
theorem dX0_successProbability_18 : decode cX0_successProbability 18 = .ok (.bipush 12, 2) := by decide +kernel
theorem dX0_successProbability_20 : decode cX0_successProbability 20 = .ok (.if_icmp .le 7, 3) := by decide +kernel
theorem dX0_successProbability_23 : decode cX0_successProbability 23 = .ok (.ldc2_w 149, 3) := by decide +kernel
theorem dX0_successProbability_26 : decode cX0_successProbability 26 = .ok (.lreturn, 1) := by decide +kernel
theorem dX0_successProbability_27 : decode cX0_successProbability 27 = .ok (.aload_n 0, 1) := by decide +kernel
theorem dX0_successProbability_28 : decode cX0_successProbability 28 = .ok (.invokevirtual 138, 3) := by decide +kernel
theorem dX0_successProbability_31 : decode cX0_successProbability 31 = .ok (.aload_n 0, 1) := by decide +kernel
theorem dX0_successProbability_32 : decode cX0_successProbability 32 = .ok (.invokevirtual 114, 3) := by decide +kernel
theorem dX0_successProbability_35 : decode cX0_successProbability 35 = .ok (.lstore_n 2, 1) := by decide +kernel
theorem dX0_successProbability_36 : decode cX0_successProbability 36 = .ok (.iconst 1, 1) := by decide +kernel
theorem dX0_successProbability_37 : decode cX0_successProbability 37 = .ok (.aload_n 0, 1) := by decide +kernel
theorem dX0_successProbability_38 : decode cX0_successProbability 38 = .ok (.getfield 70, 3) := by decide +kernel
theorem dX0_successProbability_41 : decode cX0_successProbability 41 = .ok (.ishl, 1) := by decide +kernel
theorem dX0_successProbability_42 : decode cX0_successProbability 42 = .ok (.istore 4, 2) := by decide +kernel
theorem dX0_successProbability_44 : decode cX0_successProbability 44 = .ok (.iload_n 1, 1) := by decide +kernel
theorem dX0_successProbability_45 : decode cX0_successProbability 45 = .ok (.i2d, 1) := by decide +kernel
theorem dX0_successProbability_46 : decode cX0_successProbability 46 = .ok (.ldc2_w 151, 3) := by decide +kernel
theorem dX0_successProbability_49 : decode cX0_successProbability 49 = .ok (.ddiv, 1) := by decide +kernel
theorem dX0_successProbability_50 : decode cX0_successProbability 50 = .ok (.dstore 5, 2) := by decide +kernel
theorem dX0_successProbability_52 : decode cX0_successProbability 52 = .ok (.dconst 0, 1) := by decide +kernel
theorem dX0_successProbability_53 : decode cX0_successProbability 53 = .ok (.dstore 7, 2) := by decide +kernel
theorem dX0_successProbability_55 : decode cX0_successProbability 55 = .ok (.iconst 0, 1) := by decide +kernel
theorem dX0_successProbability_56 : decode cX0_successProbability 56 = .ok (.istore 9, 2) := by decide +kernel
theorem dX0_successProbability_58 : decode cX0_successProbability 58 = .ok (.iload 9, 2) := by decide +kernel
theorem dX0_successProbability_60 : decode cX0_successProbability 60 = .ok (.iload 4, 2) := by decide +kernel
theorem dX0_successProbability_62 : decode cX0_successProbability 62 = .ok (.if_icmp .ge 34, 3) := by decide +kernel
theorem dX0_successProbability_65 : decode cX0_successProbability 65 = .ok (.aload_n 0, 1) := by decide +kernel
theorem dX0_successProbability_66 : decode cX0_successProbability 66 = .ok (.getfield 36, 3) := by decide +kernel
theorem dX0_successProbability_69 : decode cX0_successProbability 69 = .ok (.iload 9, 2) := by decide +kernel
theorem dX0_successProbability_71 : decode cX0_successProbability 71 = .ok (.laload, 1) := by decide +kernel
theorem dX0_successProbability_72 : decode cX0_successProbability 72 = .ok (.lload_n 2, 1) := by decide +kernel
theorem dX0_successProbability_73 : decode cX0_successProbability 73 = .ok (.lcmp, 1) := by decide +kernel
theorem dX0_successProbability_74 : decode cX0_successProbability 74 = .ok (.ifCond .ne 16, 3) := by decide +kernel
theorem dX0_successProbability_77 : decode cX0_successProbability 77 = .ok (.dload 7, 2) := by decide +kernel
theorem dX0_successProbability_79 : decode cX0_successProbability 79 = .ok (.aload_n 0, 1) := by decide +kernel
theorem dX0_successProbability_80 : decode cX0_successProbability 80 = .ok (.iload 9, 2) := by decide +kernel
theorem dX0_successProbability_82 : decode cX0_successProbability 82 = .ok (.dload 5, 2) := by decide +kernel
theorem dX0_successProbability_84 : decode cX0_successProbability 84 = .ok (.invokevirtual 153, 3) := by decide +kernel
theorem dX0_successProbability_87 : decode cX0_successProbability 87 = .ok (.dadd, 1) := by decide +kernel
theorem dX0_successProbability_88 : decode cX0_successProbability 88 = .ok (.dstore 7, 2) := by decide +kernel
theorem dX0_successProbability_90 : decode cX0_successProbability 90 = .ok (.iinc 9 1, 3) := by decide +kernel
theorem dX0_successProbability_93 : decode cX0_successProbability 93 = .ok (.goto (-35), 3) := by decide +kernel
theorem dX0_successProbability_96 : decode cX0_successProbability 96 = .ok (.dload 7, 2) := by decide +kernel
theorem dX0_successProbability_98 : decode cX0_successProbability 98 = .ok (.invokestatic 157, 3) := by decide +kernel
theorem dX0_successProbability_101 : decode cX0_successProbability 101 = .ok (.lreturn, 1) := by decide +kernel
set_option maxRecDepth 20000 in
theorem ggX0_digest_X0_mix : GoodIn wsX0_digest wsX0_mix := goodIn_r _ [10, 11] (by decide +kernel) (by decide +kernel)
set_option maxRecDepth 20000 in
theorem gX0_digest_X0_mix : GoodIn wsX0_digest (va_wsS RX0 163 yX0_mix wsX0_mix) := goodIn_app (goodIn_of _ (by decide +kernel)) ggX0_digest_X0_mix
set_option maxRecDepth 20000 in
theorem ggX0_digest_X0_mixCalls : GoodIn wsX0_digest wsX0_mixCalls := goodIn_r _ [15, 6, 16, 17, 18, 9, 19, 20, 21, 22, 23, 24, 25, 26, 27, 7, 8, 10, 11, 28, 29, 30, 31, 32, 33, 34, 35, 5, 36, 37, 38, 39, 40, 41, 42, 43, 2, 44, 45, 46, 47, 48, 49, 50, 51, 52, 53, 54, 55, 56, 134, 135, 136, 137, 138, 139, 140, 141, 142, 143, 144, 145] (by decide +kernel) (by decide +kernel)
set_option maxRecDepth 20000 in
theorem gX0_digest_X0_mixCalls : GoodIn wsX0_digest (wsV RX0 167 RX0 yX0_mixCalls wsX0_mixCalls) := goodIn_app (goodIn_of _ (by decide +kernel)) ggX0_digest_X0_mixCalls
set_option maxRecDepth 20000 in
theorem ggX0_digest_X0_mixKnowledge : GoodIn wsX0_digest wsX0_mixKnowledge := goodIn_r _ [60, 5, 2, 36, 37, 38, 9, 39, 6, 21, 40, 41, 42, 43, 44, 45, 46, 47, 22, 23, 48, 20, 61, 62, 63, 7, 8, 10, 11, 64, 65, 66, 67, 68, 69, 70, 71, 72, 73, 74, 75, 76, 77, 78, 134, 135, 136, 137, 138, 139, 140, 141, 142, 143, 144, 145] (by decide +kernel) (by decide +kernel)
set_option maxRecDepth 20000 in
theorem gX0_digest_X0_mixKnowledge : GoodIn wsX0_digest (wsV RX0 171 RX0 yX0_mixKnowledge wsX0_mixKnowledge) := goodIn_app (goodIn_of _ (by decide +kernel)) ggX0_digest_X0_mixKnowledge
set_option maxRecDepth 20000 in
theorem ggX0_digest_X0_completeAfter : GoodIn wsX0_digest wsX0_completeAfter := goodIn_r _ [82, 6, 21, 49, 50, 51, 9, 52, 2, 40, 41, 42, 43, 44, 45, 46, 47, 22, 23, 48, 20, 134, 135, 136, 137, 138, 139, 140, 141, 142, 143, 144, 145] (by decide +kernel) (by decide +kernel)
set_option maxRecDepth 20000 in
theorem gX0_digest_X0_completeAfter : GoodIn wsX0_digest (wsV RX0 174 RX0 yX0_completeAfter wsX0_completeAfter) := goodIn_app (goodIn_of _ (by decide +kernel)) ggX0_digest_X0_completeAfter
set_option maxRecDepth 20000 in
theorem ggX0_digest_X0_redundantCalls : GoodIn wsX0_digest wsX0_redundantCalls := goodIn_r _ [86, 6, 40, 41, 42, 9, 43, 2, 44, 45, 46, 47, 22, 23, 48, 20, 134, 135, 136, 137, 138, 139, 140, 141, 142, 143, 144, 145] (by decide +kernel) (by decide +kernel)
set_option maxRecDepth 20000 in
theorem gX0_digest_X0_redundantCalls : GoodIn wsX0_digest (wsV RX0 177 RX0 yX0_redundantCalls wsX0_redundantCalls) := goodIn_app (goodIn_of _ (by decide +kernel)) ggX0_digest_X0_redundantCalls
set_option maxRecDepth 20000 in
theorem ggX0_digest_X0_leastCalls : GoodIn wsX0_digest wsX0_leastCalls := goodIn_r _ [90, 2, 91, 92, 93, 9, 94, 4, 134, 135, 136, 137, 138, 139, 140, 141, 142, 143, 144, 145] (by decide +kernel) (by decide +kernel)
set_option maxRecDepth 20000 in
theorem gX0_digest_X0_leastCalls : GoodIn wsX0_digest (wsV RX0 180 RX0 yX0_leastCalls wsX0_leastCalls) := goodIn_app (goodIn_of _ (by decide +kernel)) ggX0_digest_X0_leastCalls
set_option maxRecDepth 20000 in
theorem ggX0_digest_X0_smallestSufficientCalls : GoodIn wsX0_digest wsX0_smallestSufficientCalls := goodIn_r _ [98, 6, 99, 32, 33, 34, 9, 35, 5, 36, 37, 38, 39, 21, 40, 41, 42, 43, 2, 44, 45, 46, 47, 22, 23, 48, 20, 49, 50, 51, 52, 100, 101, 102, 103, 104, 105, 106, 107, 108, 109, 110, 134, 135, 136, 137, 138, 139, 140, 141, 142, 143, 144, 145] (by decide +kernel) (by decide +kernel)
set_option maxRecDepth 20000 in
theorem gX0_digest_X0_smallestSufficientCalls : GoodIn wsX0_digest (wsV RX0 184 RX0 yX0_smallestSufficientCalls wsX0_smallestSufficientCalls) := goodIn_app (goodIn_of _ (by decide +kernel)) ggX0_digest_X0_smallestSufficientCalls
set_option maxRecDepth 20000 in
theorem ggX0_digest_X0_successProbability : GoodIn wsX0_digest wsX0_successProbability := goodIn_r _ [114, 115, 6, 116, 117, 99, 100, 101, 102, 9, 103, 40, 41, 42, 43, 2, 44, 45, 46, 47, 22, 23, 48, 20, 49, 50, 51, 52, 118, 119, 120, 121, 122, 123, 124, 125, 126, 127, 134, 135, 136, 137, 138, 139, 140, 141, 142, 143, 144, 145] (by decide +kernel) (by decide +kernel)
set_option maxRecDepth 20000 in
theorem gX0_digest_X0_successProbability : GoodIn wsX0_digest (wsV RX0 187 RX0 yX0_successProbability wsX0_successProbability) := goodIn_app (goodIn_of _ (by decide +kernel)) ggX0_digest_X0_successProbability
set_option maxRecDepth 20000 in
theorem ggX0_digest_X0_mixInput : GoodIn wsX0_digest wsX0_mixInput := goodIn_r _ [131, 132, 133, 7, 8, 9, 10, 11, 134, 135, 136, 137, 138, 139, 140, 141, 142, 143, 144, 145] (by decide +kernel) (by decide +kernel)
set_option maxRecDepth 20000 in
theorem gX0_digest_X0_mixInput : GoodIn wsX0_digest (wsV RX0 190 RX0 yX0_mixInput wsX0_mixInput) := goodIn_app (goodIn_of _ (by decide +kernel)) ggX0_digest_X0_mixInput
theorem dX0_digest_0 : decode cX0_digest 0 = .ok (.ldc2_w 161, 3) := by decide +kernel
theorem dX0_digest_3 : decode cX0_digest 3 = .ok (.lstore_n 1, 1) := by decide +kernel
theorem dX0_digest_4 : decode cX0_digest 4 = .ok (.lload_n 1, 1) := by decide +kernel
theorem dX0_digest_5 : decode cX0_digest 5 = .ok (.aload_n 0, 1) := by decide +kernel
theorem dX0_digest_6 : decode cX0_digest 6 = .ok (.getfield 9, 3) := by decide +kernel
theorem dX0_digest_9 : decode cX0_digest 9 = .ok (.i2l, 1) := by decide +kernel
theorem dX0_digest_10 : decode cX0_digest 10 = .ok (.invokestatic 163, 3) := by decide +kernel
theorem dX0_digest_13 : decode cX0_digest 13 = .ok (.lstore_n 1, 1) := by decide +kernel
theorem dX0_digest_14 : decode cX0_digest 14 = .ok (.lload_n 1, 1) := by decide +kernel
theorem dX0_digest_15 : decode cX0_digest 15 = .ok (.aload_n 0, 1) := by decide +kernel
theorem dX0_digest_16 : decode cX0_digest 16 = .ok (.getfield 13, 3) := by decide +kernel
theorem dX0_digest_19 : decode cX0_digest 19 = .ok (.i2l, 1) := by decide +kernel
theorem dX0_digest_20 : decode cX0_digest 20 = .ok (.invokestatic 163, 3) := by decide +kernel
theorem dX0_digest_23 : decode cX0_digest 23 = .ok (.lstore_n 1, 1) := by decide +kernel
theorem dX0_digest_24 : decode cX0_digest 24 = .ok (.lload_n 1, 1) := by decide +kernel
theorem dX0_digest_25 : decode cX0_digest 25 = .ok (.aload_n 0, 1) := by decide +kernel
theorem dX0_digest_26 : decode cX0_digest 26 = .ok (.getfield 16, 3) := by decide +kernel
theorem dX0_digest_29 : decode cX0_digest 29 = .ok (.i2l, 1) := by decide +kernel
theorem dX0_digest_30 : decode cX0_digest 30 = .ok (.invokestatic 163, 3) := by decide +kernel
theorem dX0_digest_33 : decode cX0_digest 33 = .ok (.lstore_n 1, 1) := by decide +kernel
theorem dX0_digest_34 : decode cX0_digest 34 = .ok (.lload_n 1, 1) := by decide +kernel
theorem dX0_digest_35 : decode cX0_digest 35 = .ok (.aload_n 0, 1) := by decide +kernel
theorem dX0_digest_36 : decode cX0_digest 36 = .ok (.getfield 55, 3) := by decide +kernel
theorem dX0_digest_39 : decode cX0_digest 39 = .ok (.i2l, 1) := by decide +kernel
theorem dX0_digest_40 : decode cX0_digest 40 = .ok (.invokestatic 163, 3) := by decide +kernel
theorem dX0_digest_43 : decode cX0_digest 43 = .ok (.lstore_n 1, 1) := by decide +kernel
theorem dX0_digest_44 : decode cX0_digest 44 = .ok (.lload_n 1, 1) := by decide +kernel
theorem dX0_digest_45 : decode cX0_digest 45 = .ok (.aload_n 0, 1) := by decide +kernel
theorem dX0_digest_46 : decode cX0_digest 46 = .ok (.getfield 70, 3) := by decide +kernel
theorem dX0_digest_49 : decode cX0_digest 49 = .ok (.i2l, 1) := by decide +kernel
theorem dX0_digest_50 : decode cX0_digest 50 = .ok (.invokestatic 163, 3) := by decide +kernel
theorem dX0_digest_53 : decode cX0_digest 53 = .ok (.lstore_n 1, 1) := by decide +kernel
theorem dX0_digest_54 : decode cX0_digest 54 = .ok (.aload_n 0, 1) := by decide +kernel
theorem dX0_digest_55 : decode cX0_digest 55 = .ok (.lload_n 1, 1) := by decide +kernel
theorem dX0_digest_56 : decode cX0_digest 56 = .ok (.invokevirtual 167, 3) := by decide +kernel
theorem dX0_digest_59 : decode cX0_digest 59 = .ok (.lstore_n 1, 1) := by decide +kernel
theorem dX0_digest_60 : decode cX0_digest 60 = .ok (.aload_n 0, 1) := by decide +kernel
theorem dX0_digest_61 : decode cX0_digest 61 = .ok (.lload_n 1, 1) := by decide +kernel
theorem dX0_digest_62 : decode cX0_digest 62 = .ok (.invokevirtual 171, 3) := by decide +kernel
theorem dX0_digest_65 : decode cX0_digest 65 = .ok (.lstore_n 1, 1) := by decide +kernel
theorem dX0_digest_66 : decode cX0_digest 66 = .ok (.lload_n 1, 1) := by decide +kernel
theorem dX0_digest_67 : decode cX0_digest 67 = .ok (.aload_n 0, 1) := by decide +kernel
theorem dX0_digest_68 : decode cX0_digest 68 = .ok (.invokevirtual 174, 3) := by decide +kernel
theorem dX0_digest_71 : decode cX0_digest 71 = .ok (.i2l, 1) := by decide +kernel
theorem dX0_digest_72 : decode cX0_digest 72 = .ok (.invokestatic 163, 3) := by decide +kernel
theorem dX0_digest_75 : decode cX0_digest 75 = .ok (.lstore_n 1, 1) := by decide +kernel
theorem dX0_digest_76 : decode cX0_digest 76 = .ok (.lload_n 1, 1) := by decide +kernel
theorem dX0_digest_77 : decode cX0_digest 77 = .ok (.aload_n 0, 1) := by decide +kernel
theorem dX0_digest_78 : decode cX0_digest 78 = .ok (.invokevirtual 177, 3) := by decide +kernel
theorem dX0_digest_81 : decode cX0_digest 81 = .ok (.i2l, 1) := by decide +kernel
theorem dX0_digest_82 : decode cX0_digest 82 = .ok (.invokestatic 163, 3) := by decide +kernel
theorem dX0_digest_85 : decode cX0_digest 85 = .ok (.lstore_n 1, 1) := by decide +kernel
theorem dX0_digest_86 : decode cX0_digest 86 = .ok (.lload_n 1, 1) := by decide +kernel
theorem dX0_digest_87 : decode cX0_digest 87 = .ok (.aload_n 0, 1) := by decide +kernel
theorem dX0_digest_88 : decode cX0_digest 88 = .ok (.iconst 0, 1) := by decide +kernel
theorem dX0_digest_89 : decode cX0_digest 89 = .ok (.invokevirtual 180, 3) := by decide +kernel
theorem dX0_digest_92 : decode cX0_digest 92 = .ok (.i2l, 1) := by decide +kernel
theorem dX0_digest_93 : decode cX0_digest 93 = .ok (.invokestatic 163, 3) := by decide +kernel
theorem dX0_digest_96 : decode cX0_digest 96 = .ok (.lstore_n 1, 1) := by decide +kernel
theorem dX0_digest_97 : decode cX0_digest 97 = .ok (.lload_n 1, 1) := by decide +kernel
theorem dX0_digest_98 : decode cX0_digest 98 = .ok (.aload_n 0, 1) := by decide +kernel
theorem dX0_digest_99 : decode cX0_digest 99 = .ok (.iconst 1, 1) := by decide +kernel
theorem dX0_digest_100 : decode cX0_digest 100 = .ok (.invokevirtual 180, 3) := by decide +kernel
theorem dX0_digest_103 : decode cX0_digest 103 = .ok (.i2l, 1) := by decide +kernel
theorem dX0_digest_104 : decode cX0_digest 104 = .ok (.invokestatic 163, 3) := by decide +kernel
theorem dX0_digest_107 : decode cX0_digest 107 = .ok (.lstore_n 1, 1) := by decide +kernel
theorem dX0_digest_108 : decode cX0_digest 108 = .ok (.lload_n 1, 1) := by decide +kernel
theorem dX0_digest_109 : decode cX0_digest 109 = .ok (.aload_n 0, 1) := by decide +kernel
theorem dX0_digest_110 : decode cX0_digest 110 = .ok (.invokevirtual 184, 3) := by decide +kernel
theorem dX0_digest_113 : decode cX0_digest 113 = .ok (.i2l, 1) := by decide +kernel
theorem dX0_digest_114 : decode cX0_digest 114 = .ok (.invokestatic 163, 3) := by decide +kernel
theorem dX0_digest_117 : decode cX0_digest 117 = .ok (.lstore_n 1, 1) := by decide +kernel
theorem dX0_digest_118 : decode cX0_digest 118 = .ok (.lload_n 1, 1) := by decide +kernel
theorem dX0_digest_119 : decode cX0_digest 119 = .ok (.aload_n 0, 1) := by decide +kernel
theorem dX0_digest_120 : decode cX0_digest 120 = .ok (.bipush 50, 2) := by decide +kernel
theorem dX0_digest_122 : decode cX0_digest 122 = .ok (.invokevirtual 187, 3) := by decide +kernel
theorem dX0_digest_125 : decode cX0_digest 125 = .ok (.invokestatic 163, 3) := by decide +kernel
theorem dX0_digest_128 : decode cX0_digest 128 = .ok (.lstore_n 1, 1) := by decide +kernel
theorem dX0_digest_129 : decode cX0_digest 129 = .ok (.aload_n 0, 1) := by decide +kernel
theorem dX0_digest_130 : decode cX0_digest 130 = .ok (.lload_n 1, 1) := by decide +kernel
theorem dX0_digest_131 : decode cX0_digest 131 = .ok (.invokevirtual 190, 3) := by decide +kernel
theorem dX0_digest_134 : decode cX0_digest 134 = .ok (.lreturn, 1) := by decide +kernel
theorem dX0_personExists_0 : decode cX0_personExists 0 = .ok (.iload_n 1, 1) := by decide +kernel
theorem dX0_personExists_1 : decode cX0_personExists 1 = .ok (.ifCond .lt 15, 3) := by decide +kernel
theorem dX0_personExists_4 : decode cX0_personExists 4 = .ok (.iload_n 1, 1) := by decide +kernel
theorem dX0_personExists_5 : decode cX0_personExists 5 = .ok (.aload_n 0, 1) := by decide +kernel
theorem dX0_personExists_6 : decode cX0_personExists 6 = .ok (.getfield 9, 3) := by decide +kernel
theorem dX0_personExists_9 : decode cX0_personExists 9 = .ok (.if_icmp .ge 7, 3) := by decide +kernel
theorem dX0_personExists_12 : decode cX0_personExists 12 = .ok (.iconst 1, 1) := by decide +kernel
theorem dX0_personExists_13 : decode cX0_personExists 13 = .ok (.goto 4, 3) := by decide +kernel
theorem dX0_personExists_16 : decode cX0_personExists 16 = .ok (.iconst 0, 1) := by decide +kernel
theorem dX0_personExists_17 : decode cX0_personExists 17 = .ok (.ireturn, 1) := by decide +kernel
set_option maxRecDepth 20000 in
theorem ggX0_personsFillCube_J6_bitCount_0f7a4 : GoodIn wsX0_personsFillCube wsJ6_bitCount_0f7a4 := goodIn_r _ [5, 6, 7, 8] (by decide +kernel) (by decide +kernel)
set_option maxRecDepth 20000 in
theorem gX0_personsFillCube_J6_bitCount_0f7a4 : GoodIn wsX0_personsFillCube (va_wsS RX0 141 yJ6_bitCount_0f7a4 wsJ6_bitCount_0f7a4) := goodIn_app (goodIn_of _ (by decide +kernel)) ggX0_personsFillCube_J6_bitCount_0f7a4
theorem dX0_personsFillCube_0 : decode cX0_personsFillCube 0 = .ok (.aload_n 0, 1) := by decide +kernel
theorem dX0_personsFillCube_1 : decode cX0_personsFillCube 1 = .ok (.getfield 9, 3) := by decide +kernel
theorem dX0_personsFillCube_4 : decode cX0_personsFillCube 4 = .ok (.invokestatic 141, 3) := by decide +kernel
theorem dX0_personsFillCube_7 : decode cX0_personsFillCube 7 = .ok (.iconst 1, 1) := by decide +kernel
theorem dX0_personsFillCube_8 : decode cX0_personsFillCube 8 = .ok (.if_icmp .ne 7, 3) := by decide +kernel
theorem dX0_personsFillCube_11 : decode cX0_personsFillCube 11 = .ok (.iconst 1, 1) := by decide +kernel
theorem dX0_personsFillCube_12 : decode cX0_personsFillCube 12 = .ok (.goto 4, 3) := by decide +kernel
theorem dX0_personsFillCube_15 : decode cX0_personsFillCube 15 = .ok (.iconst 0, 1) := by decide +kernel
theorem dX0_personsFillCube_16 : decode cX0_personsFillCube 16 = .ok (.ireturn, 1) := by decide +kernel
set_option maxRecDepth 20000 in
theorem ggX0_graphJoins_J6_bitCount_0f7a4 : GoodIn wsX0_graphJoins wsJ6_bitCount_0f7a4 := goodIn_r _ [10, 11, 12, 13] (by decide +kernel) (by decide +kernel)
set_option maxRecDepth 20000 in
theorem gX0_graphJoins_J6_bitCount_0f7a4 : GoodIn wsX0_graphJoins (va_wsS RX0 141 yJ6_bitCount_0f7a4 wsJ6_bitCount_0f7a4) := goodIn_app (goodIn_of _ (by decide +kernel)) ggX0_graphJoins_J6_bitCount_0f7a4
theorem dX0_graphJoins_0 : decode cX0_graphJoins 0 = .ok (.iload_n 1, 1) := by decide +kernel
theorem dX0_graphJoins_1 : decode cX0_graphJoins 1 = .ok (.iload_n 2, 1) := by decide +kernel
theorem dX0_graphJoins_2 : decode cX0_graphJoins 2 = .ok (.if_icmp .ne 5, 3) := by decide +kernel
theorem dX0_graphJoins_5 : decode cX0_graphJoins 5 = .ok (.iconst 0, 1) := by decide +kernel
theorem dX0_graphJoins_6 : decode cX0_graphJoins 6 = .ok (.ireturn, 1) := by decide +kernel
theorem dX0_graphJoins_7 : decode cX0_graphJoins 7 = .ok (.iload_n 1, 1) := by decide +kernel
theorem dX0_graphJoins_8 : decode cX0_graphJoins 8 = .ok (.iload_n 2, 1) := by decide +kernel
theorem dX0_graphJoins_9 : decode cX0_graphJoins 9 = .ok (.isub, 1) := by decide +kernel
theorem dX0_graphJoins_10 : decode cX0_graphJoins 10 = .ok (.invokestatic 193, 3) := by decide +kernel
theorem dX0_graphJoins_13 : decode cX0_graphJoins 13 = .ok (.istore_n 3, 1) := by decide +kernel
theorem dX0_graphJoins_14 : decode cX0_graphJoins 14 = .ok (.aload_n 0, 1) := by decide +kernel
theorem dX0_graphJoins_15 : decode cX0_graphJoins 15 = .ok (.getfield 16, 3) := by decide +kernel
theorem dX0_graphJoins_18 : decode cX0_graphJoins 18 = .ok (.tableswitch 92 1 4 #[30, 51, 62, 76], 30) := by decide +kernel
theorem dX0_graphJoins_48 : decode cX0_graphJoins 48 = .ok (.iload_n 3, 1) := by decide +kernel
theorem dX0_graphJoins_49 : decode cX0_graphJoins 49 = .ok (.iconst 1, 1) := by decide +kernel
theorem dX0_graphJoins_50 : decode cX0_graphJoins 50 = .ok (.if_icmp .eq 13, 3) := by decide +kernel
theorem dX0_graphJoins_53 : decode cX0_graphJoins 53 = .ok (.iload_n 3, 1) := by decide +kernel
theorem dX0_graphJoins_54 : decode cX0_graphJoins 54 = .ok (.aload_n 0, 1) := by decide +kernel
theorem dX0_graphJoins_55 : decode cX0_graphJoins 55 = .ok (.getfield 9, 3) := by decide +kernel
theorem dX0_graphJoins_58 : decode cX0_graphJoins 58 = .ok (.iconst 1, 1) := by decide +kernel
theorem dX0_graphJoins_59 : decode cX0_graphJoins 59 = .ok (.isub, 1) := by decide +kernel
theorem dX0_graphJoins_60 : decode cX0_graphJoins 60 = .ok (.if_icmp .ne 7, 3) := by decide +kernel
theorem dX0_graphJoins_63 : decode cX0_graphJoins 63 = .ok (.iconst 1, 1) := by decide +kernel
theorem dX0_graphJoins_64 : decode cX0_graphJoins 64 = .ok (.goto 4, 3) := by decide +kernel
theorem dX0_graphJoins_67 : decode cX0_graphJoins 67 = .ok (.iconst 0, 1) := by decide +kernel
theorem dX0_graphJoins_68 : decode cX0_graphJoins 68 = .ok (.ireturn, 1) := by decide +kernel
theorem dX0_graphJoins_69 : decode cX0_graphJoins 69 = .ok (.iload_n 3, 1) := by decide +kernel
theorem dX0_graphJoins_70 : decode cX0_graphJoins 70 = .ok (.iconst 1, 1) := by decide +kernel
theorem dX0_graphJoins_71 : decode cX0_graphJoins 71 = .ok (.if_icmp .ne 7, 3) := by decide +kernel
theorem dX0_graphJoins_74 : decode cX0_graphJoins 74 = .ok (.iconst 1, 1) := by decide +kernel
theorem dX0_graphJoins_75 : decode cX0_graphJoins 75 = .ok (.goto 4, 3) := by decide +kernel
theorem dX0_graphJoins_78 : decode cX0_graphJoins 78 = .ok (.iconst 0, 1) := by decide +kernel
theorem dX0_graphJoins_79 : decode cX0_graphJoins 79 = .ok (.ireturn, 1) := by decide +kernel
theorem dX0_graphJoins_80 : decode cX0_graphJoins 80 = .ok (.iload_n 1, 1) := by decide +kernel
theorem dX0_graphJoins_81 : decode cX0_graphJoins 81 = .ok (.ifCond .eq 7, 3) := by decide +kernel
theorem dX0_graphJoins_84 : decode cX0_graphJoins 84 = .ok (.iload_n 2, 1) := by decide +kernel
theorem dX0_graphJoins_85 : decode cX0_graphJoins 85 = .ok (.ifCond .ne 7, 3) := by decide +kernel
theorem dX0_graphJoins_88 : decode cX0_graphJoins 88 = .ok (.iconst 1, 1) := by decide +kernel
theorem dX0_graphJoins_89 : decode cX0_graphJoins 89 = .ok (.goto 4, 3) := by decide +kernel
theorem dX0_graphJoins_92 : decode cX0_graphJoins 92 = .ok (.iconst 0, 1) := by decide +kernel
theorem dX0_graphJoins_93 : decode cX0_graphJoins 93 = .ok (.ireturn, 1) := by decide +kernel
theorem dX0_graphJoins_94 : decode cX0_graphJoins 94 = .ok (.iload_n 1, 1) := by decide +kernel
theorem dX0_graphJoins_95 : decode cX0_graphJoins 95 = .ok (.iload_n 2, 1) := by decide +kernel
theorem dX0_graphJoins_96 : decode cX0_graphJoins 96 = .ok (.ixor, 1) := by decide +kernel
theorem dX0_graphJoins_97 : decode cX0_graphJoins 97 = .ok (.invokestatic 141, 3) := by decide +kernel
theorem dX0_graphJoins_100 : decode cX0_graphJoins 100 = .ok (.iconst 1, 1) := by decide +kernel
theorem dX0_graphJoins_101 : decode cX0_graphJoins 101 = .ok (.if_icmp .ne 7, 3) := by decide +kernel
theorem dX0_graphJoins_104 : decode cX0_graphJoins 104 = .ok (.iconst 1, 1) := by decide +kernel
theorem dX0_graphJoins_105 : decode cX0_graphJoins 105 = .ok (.goto 4, 3) := by decide +kernel
theorem dX0_graphJoins_108 : decode cX0_graphJoins 108 = .ok (.iconst 0, 1) := by decide +kernel
theorem dX0_graphJoins_109 : decode cX0_graphJoins 109 = .ok (.ireturn, 1) := by decide +kernel
theorem dX0_graphJoins_110 : decode cX0_graphJoins 110 = .ok (.iconst 1, 1) := by decide +kernel
theorem dX0_graphJoins_111 : decode cX0_graphJoins 111 = .ok (.ireturn, 1) := by decide +kernel
theorem dX0_graphHasFourCycle_0 : decode cX0_graphHasFourCycle 0 = .ok (.aload_n 0, 1) := by decide +kernel
theorem dX0_graphHasFourCycle_1 : decode cX0_graphHasFourCycle 1 = .ok (.getfield 16, 3) := by decide +kernel
theorem dX0_graphHasFourCycle_4 : decode cX0_graphHasFourCycle 4 = .ok (.ifCond .eq 27, 3) := by decide +kernel
theorem dX0_graphHasFourCycle_7 : decode cX0_graphHasFourCycle 7 = .ok (.aload_n 0, 1) := by decide +kernel
theorem dX0_graphHasFourCycle_8 : decode cX0_graphHasFourCycle 8 = .ok (.getfield 16, 3) := by decide +kernel
theorem dX0_graphHasFourCycle_11 : decode cX0_graphHasFourCycle 11 = .ok (.iconst 4, 1) := by decide +kernel
theorem dX0_graphHasFourCycle_12 : decode cX0_graphHasFourCycle 12 = .ok (.if_icmp .eq 19, 3) := by decide +kernel
theorem dX0_graphHasFourCycle_15 : decode cX0_graphHasFourCycle 15 = .ok (.aload_n 0, 1) := by decide +kernel
theorem dX0_graphHasFourCycle_16 : decode cX0_graphHasFourCycle 16 = .ok (.getfield 16, 3) := by decide +kernel
theorem dX0_graphHasFourCycle_19 : decode cX0_graphHasFourCycle 19 = .ok (.iconst 1, 1) := by decide +kernel
theorem dX0_graphHasFourCycle_20 : decode cX0_graphHasFourCycle 20 = .ok (.if_icmp .ne 15, 3) := by decide +kernel
theorem dX0_graphHasFourCycle_23 : decode cX0_graphHasFourCycle 23 = .ok (.aload_n 0, 1) := by decide +kernel
theorem dX0_graphHasFourCycle_24 : decode cX0_graphHasFourCycle 24 = .ok (.getfield 9, 3) := by decide +kernel
theorem dX0_graphHasFourCycle_27 : decode cX0_graphHasFourCycle 27 = .ok (.iconst 4, 1) := by decide +kernel
theorem dX0_graphHasFourCycle_28 : decode cX0_graphHasFourCycle 28 = .ok (.if_icmp .ne 7, 3) := by decide +kernel
theorem dX0_graphHasFourCycle_31 : decode cX0_graphHasFourCycle 31 = .ok (.iconst 1, 1) := by decide +kernel
theorem dX0_graphHasFourCycle_32 : decode cX0_graphHasFourCycle 32 = .ok (.goto 4, 3) := by decide +kernel
theorem dX0_graphHasFourCycle_35 : decode cX0_graphHasFourCycle 35 = .ok (.iconst 0, 1) := by decide +kernel
theorem dX0_graphHasFourCycle_36 : decode cX0_graphHasFourCycle 36 = .ok (.ireturn, 1) := by decide +kernel
theorem dX0_callExists_0 : decode cX0_callExists 0 = .ok (.iload_n 1, 1) := by decide +kernel
theorem dX0_callExists_1 : decode cX0_callExists 1 = .ok (.ifCond .lt 15, 3) := by decide +kernel
theorem dX0_callExists_4 : decode cX0_callExists 4 = .ok (.iload_n 1, 1) := by decide +kernel
theorem dX0_callExists_5 : decode cX0_callExists 5 = .ok (.aload_n 0, 1) := by decide +kernel
theorem dX0_callExists_6 : decode cX0_callExists 6 = .ok (.getfield 70, 3) := by decide +kernel
theorem dX0_callExists_9 : decode cX0_callExists 9 = .ok (.if_icmp .ge 7, 3) := by decide +kernel
theorem dX0_callExists_12 : decode cX0_callExists 12 = .ok (.iconst 1, 1) := by decide +kernel
theorem dX0_callExists_13 : decode cX0_callExists 13 = .ok (.goto 4, 3) := by decide +kernel
theorem dX0_callExists_16 : decode cX0_callExists 16 = .ok (.iconst 0, 1) := by decide +kernel
theorem dX0_callExists_17 : decode cX0_callExists 17 = .ok (.ireturn, 1) := by decide +kernel
theorem dX0_modeAccepts_0 : decode cX0_modeAccepts 0 = .ok (.aload_n 0, 1) := by decide +kernel
theorem dX0_modeAccepts_1 : decode cX0_modeAccepts 1 = .ok (.getfield 13, 3) := by decide +kernel
theorem dX0_modeAccepts_4 : decode cX0_modeAccepts 4 = .ok (.ifCond .eq 20, 3) := by decide +kernel
theorem dX0_modeAccepts_7 : decode cX0_modeAccepts 7 = .ok (.iload_n 1, 1) := by decide +kernel
theorem dX0_modeAccepts_8 : decode cX0_modeAccepts 8 = .ok (.aload_n 0, 1) := by decide +kernel
theorem dX0_modeAccepts_9 : decode cX0_modeAccepts 9 = .ok (.getfield 13, 3) := by decide +kernel
theorem dX0_modeAccepts_12 : decode cX0_modeAccepts 12 = .ok (.iconst 2, 1) := by decide +kernel
theorem dX0_modeAccepts_13 : decode cX0_modeAccepts 13 = .ok (.if_icmp .ne 7, 3) := by decide +kernel
theorem dX0_modeAccepts_16 : decode cX0_modeAccepts 16 = .ok (.iconst 1, 1) := by decide +kernel
theorem dX0_modeAccepts_17 : decode cX0_modeAccepts 17 = .ok (.goto 4, 3) := by decide +kernel
theorem dX0_modeAccepts_20 : decode cX0_modeAccepts 20 = .ok (.iconst 0, 1) := by decide +kernel
theorem dX0_modeAccepts_21 : decode cX0_modeAccepts 21 = .ok (.if_icmp .ne 7, 3) := by decide +kernel
theorem dX0_modeAccepts_24 : decode cX0_modeAccepts 24 = .ok (.iconst 1, 1) := by decide +kernel
theorem dX0_modeAccepts_25 : decode cX0_modeAccepts 25 = .ok (.goto 4, 3) := by decide +kernel
theorem dX0_modeAccepts_28 : decode cX0_modeAccepts 28 = .ok (.iconst 0, 1) := by decide +kernel
theorem dX0_modeAccepts_29 : decode cX0_modeAccepts 29 = .ok (.ireturn, 1) := by decide +kernel
theorem dX0_pairOf_0 : decode cX0_pairOf 0 = .ok (.iconst 1, 1) := by decide +kernel
theorem dX0_pairOf_1 : decode cX0_pairOf 1 = .ok (.iload_n 0, 1) := by decide +kernel
theorem dX0_pairOf_2 : decode cX0_pairOf 2 = .ok (.ishl, 1) := by decide +kernel
theorem dX0_pairOf_3 : decode cX0_pairOf 3 = .ok (.iconst 1, 1) := by decide +kernel
theorem dX0_pairOf_4 : decode cX0_pairOf 4 = .ok (.iload_n 1, 1) := by decide +kernel
theorem dX0_pairOf_5 : decode cX0_pairOf 5 = .ok (.ishl, 1) := by decide +kernel
theorem dX0_pairOf_6 : decode cX0_pairOf 6 = .ok (.ior, 1) := by decide +kernel
theorem dX0_pairOf_7 : decode cX0_pairOf 7 = .ok (.ireturn, 1) := by decide +kernel
set_option maxRecDepth 20000 in
theorem ggX0_busyInLastRound_X0_pairOf : GoodIn wsX0_busyInLastRound wsX0_pairOf := goodIn_r _ [9] (by decide +kernel) (by decide +kernel)
set_option maxRecDepth 20000 in
theorem gX0_busyInLastRound_X0_pairOf : GoodIn wsX0_busyInLastRound (va_wsS RX0 62 yX0_pairOf wsX0_pairOf) := goodIn_app (goodIn_of _ (by decide +kernel)) ggX0_busyInLastRound_X0_pairOf
theorem dX0_busyInLastRound_0 : decode cX0_busyInLastRound 0 = .ok (.iconst 0, 1) := by decide +kernel
theorem dX0_busyInLastRound_1 : decode cX0_busyInLastRound 1 = .ok (.istore_n 1, 1) := by decide +kernel
theorem dX0_busyInLastRound_2 : decode cX0_busyInLastRound 2 = .ok (.aload_n 0, 1) := by decide +kernel
theorem dX0_busyInLastRound_3 : decode cX0_busyInLastRound 3 = .ok (.getfield 70, 3) := by decide +kernel
theorem dX0_busyInLastRound_6 : decode cX0_busyInLastRound 6 = .ok (.iconst 1, 1) := by decide +kernel
theorem dX0_busyInLastRound_7 : decode cX0_busyInLastRound 7 = .ok (.isub, 1) := by decide +kernel
theorem dX0_busyInLastRound_8 : decode cX0_busyInLastRound 8 = .ok (.istore_n 2, 1) := by decide +kernel
theorem dX0_busyInLastRound_9 : decode cX0_busyInLastRound 9 = .ok (.iload_n 2, 1) := by decide +kernel
theorem dX0_busyInLastRound_10 : decode cX0_busyInLastRound 10 = .ok (.ifCond .lt 42, 3) := by decide +kernel
theorem dX0_busyInLastRound_13 : decode cX0_busyInLastRound 13 = .ok (.aload_n 0, 1) := by decide +kernel
theorem dX0_busyInLastRound_14 : decode cX0_busyInLastRound 14 = .ok (.getfield 19, 3) := by decide +kernel
theorem dX0_busyInLastRound_17 : decode cX0_busyInLastRound 17 = .ok (.iload_n 2, 1) := by decide +kernel
theorem dX0_busyInLastRound_18 : decode cX0_busyInLastRound 18 = .ok (.iaload, 1) := by decide +kernel
theorem dX0_busyInLastRound_19 : decode cX0_busyInLastRound 19 = .ok (.aload_n 0, 1) := by decide +kernel
theorem dX0_busyInLastRound_20 : decode cX0_busyInLastRound 20 = .ok (.getfield 55, 3) := by decide +kernel
theorem dX0_busyInLastRound_23 : decode cX0_busyInLastRound 23 = .ok (.iconst 1, 1) := by decide +kernel
theorem dX0_busyInLastRound_24 : decode cX0_busyInLastRound 24 = .ok (.isub, 1) := by decide +kernel
theorem dX0_busyInLastRound_25 : decode cX0_busyInLastRound 25 = .ok (.if_icmp .ne 27, 3) := by decide +kernel
theorem dX0_busyInLastRound_28 : decode cX0_busyInLastRound 28 = .ok (.iload_n 1, 1) := by decide +kernel
theorem dX0_busyInLastRound_29 : decode cX0_busyInLastRound 29 = .ok (.aload_n 0, 1) := by decide +kernel
theorem dX0_busyInLastRound_30 : decode cX0_busyInLastRound 30 = .ok (.getfield 23, 3) := by decide +kernel
theorem dX0_busyInLastRound_33 : decode cX0_busyInLastRound 33 = .ok (.iload_n 2, 1) := by decide +kernel
theorem dX0_busyInLastRound_34 : decode cX0_busyInLastRound 34 = .ok (.iaload, 1) := by decide +kernel
theorem dX0_busyInLastRound_35 : decode cX0_busyInLastRound 35 = .ok (.aload_n 0, 1) := by decide +kernel
theorem dX0_busyInLastRound_36 : decode cX0_busyInLastRound 36 = .ok (.getfield 26, 3) := by decide +kernel
theorem dX0_busyInLastRound_39 : decode cX0_busyInLastRound 39 = .ok (.iload_n 2, 1) := by decide +kernel
theorem dX0_busyInLastRound_40 : decode cX0_busyInLastRound 40 = .ok (.iaload, 1) := by decide +kernel
theorem dX0_busyInLastRound_41 : decode cX0_busyInLastRound 41 = .ok (.invokestatic 62, 3) := by decide +kernel
theorem dX0_busyInLastRound_44 : decode cX0_busyInLastRound 44 = .ok (.ior, 1) := by decide +kernel
theorem dX0_busyInLastRound_45 : decode cX0_busyInLastRound 45 = .ok (.istore_n 1, 1) := by decide +kernel
theorem dX0_busyInLastRound_46 : decode cX0_busyInLastRound 46 = .ok (.iinc 2 (-1), 3) := by decide +kernel
theorem dX0_busyInLastRound_49 : decode cX0_busyInLastRound 49 = .ok (.goto (-40), 3) := by decide +kernel
theorem dX0_busyInLastRound_52 : decode cX0_busyInLastRound 52 = .ok (.iload_n 1, 1) := by decide +kernel
theorem dX0_busyInLastRound_53 : decode cX0_busyInLastRound 53 = .ok (.ireturn, 1) := by decide +kernel
theorem dX0_dropRounds_0 : decode cX0_dropRounds 0 = .ok (.aload_n 0, 1) := by decide +kernel
theorem dX0_dropRounds_1 : decode cX0_dropRounds 1 = .ok (.iconst 0, 1) := by decide +kernel
theorem dX0_dropRounds_2 : decode cX0_dropRounds 2 = .ok (.putfield 55, 3) := by decide +kernel
theorem dX0_dropRounds_5 : decode cX0_dropRounds 5 = .ok (.aload_n 0, 1) := by decide +kernel
theorem dX0_dropRounds_6 : decode cX0_dropRounds 6 = .ok (.iconst 0, 1) := by decide +kernel
theorem dX0_dropRounds_7 : decode cX0_dropRounds 7 = .ok (.putfield 70, 3) := by decide +kernel
theorem dX0_dropRounds_10 : decode cX0_dropRounds 10 = .ok (.return_, 1) := by decide +kernel
theorem dX0_putCall_0 : decode cX0_putCall 0 = .ok (.aload_n 0, 1) := by decide +kernel
theorem dX0_putCall_1 : decode cX0_putCall 1 = .ok (.getfield 70, 3) := by decide +kernel
theorem dX0_putCall_4 : decode cX0_putCall 4 = .ok (.bipush 28, 2) := by decide +kernel
theorem dX0_putCall_6 : decode cX0_putCall 6 = .ok (.if_icmp .lt 4, 3) := by decide +kernel
theorem dX0_putCall_9 : decode cX0_putCall 9 = .ok (.return_, 1) := by decide +kernel
theorem dX0_putCall_10 : decode cX0_putCall 10 = .ok (.aload_n 0, 1) := by decide +kernel
theorem dX0_putCall_11 : decode cX0_putCall 11 = .ok (.getfield 19, 3) := by decide +kernel
theorem dX0_putCall_14 : decode cX0_putCall 14 = .ok (.aload_n 0, 1) := by decide +kernel
theorem dX0_putCall_15 : decode cX0_putCall 15 = .ok (.getfield 70, 3) := by decide +kernel
theorem dX0_putCall_18 : decode cX0_putCall 18 = .ok (.aload_n 0, 1) := by decide +kernel
theorem dX0_putCall_19 : decode cX0_putCall 19 = .ok (.getfield 55, 3) := by decide +kernel
theorem dX0_putCall_22 : decode cX0_putCall 22 = .ok (.iconst 1, 1) := by decide +kernel
theorem dX0_putCall_23 : decode cX0_putCall 23 = .ok (.isub, 1) := by decide +kernel
theorem dX0_putCall_24 : decode cX0_putCall 24 = .ok (.iastore, 1) := by decide +kernel
theorem dX0_putCall_25 : decode cX0_putCall 25 = .ok (.aload_n 0, 1) := by decide +kernel
theorem dX0_putCall_26 : decode cX0_putCall 26 = .ok (.getfield 23, 3) := by decide +kernel
theorem dX0_putCall_29 : decode cX0_putCall 29 = .ok (.aload_n 0, 1) := by decide +kernel
theorem dX0_putCall_30 : decode cX0_putCall 30 = .ok (.getfield 70, 3) := by decide +kernel
theorem dX0_putCall_33 : decode cX0_putCall 33 = .ok (.iload_n 1, 1) := by decide +kernel
theorem dX0_putCall_34 : decode cX0_putCall 34 = .ok (.iastore, 1) := by decide +kernel
theorem dX0_putCall_35 : decode cX0_putCall 35 = .ok (.aload_n 0, 1) := by decide +kernel
theorem dX0_putCall_36 : decode cX0_putCall 36 = .ok (.getfield 26, 3) := by decide +kernel
theorem dX0_putCall_39 : decode cX0_putCall 39 = .ok (.aload_n 0, 1) := by decide +kernel
theorem dX0_putCall_40 : decode cX0_putCall 40 = .ok (.getfield 70, 3) := by decide +kernel
theorem dX0_putCall_43 : decode cX0_putCall 43 = .ok (.iload_n 2, 1) := by decide +kernel
theorem dX0_putCall_44 : decode cX0_putCall 44 = .ok (.iastore, 1) := by decide +kernel
theorem dX0_putCall_45 : decode cX0_putCall 45 = .ok (.aload_n 0, 1) := by decide +kernel
theorem dX0_putCall_46 : decode cX0_putCall 46 = .ok (.getfield 29, 3) := by decide +kernel
theorem dX0_putCall_49 : decode cX0_putCall 49 = .ok (.aload_n 0, 1) := by decide +kernel
theorem dX0_putCall_50 : decode cX0_putCall 50 = .ok (.getfield 70, 3) := by decide +kernel
theorem dX0_putCall_53 : decode cX0_putCall 53 = .ok (.iload_n 3, 1) := by decide +kernel
theorem dX0_putCall_54 : decode cX0_putCall 54 = .ok (.bastore, 1) := by decide +kernel
theorem dX0_putCall_55 : decode cX0_putCall 55 = .ok (.aload_n 0, 1) := by decide +kernel
theorem dX0_putCall_56 : decode cX0_putCall 56 = .ok (.dup, 1) := by decide +kernel
theorem dX0_putCall_57 : decode cX0_putCall 57 = .ok (.getfield 70, 3) := by decide +kernel
theorem dX0_putCall_60 : decode cX0_putCall 60 = .ok (.iconst 1, 1) := by decide +kernel
theorem dX0_putCall_61 : decode cX0_putCall 61 = .ok (.iadd, 1) := by decide +kernel
theorem dX0_putCall_62 : decode cX0_putCall 62 = .ok (.putfield 70, 3) := by decide +kernel
theorem dX0_putCall_65 : decode cX0_putCall 65 = .ok (.return_, 1) := by decide +kernel
set_option maxRecDepth 20000 in
theorem ggX0_putCallsOverStep_X0_putCall : GoodIn wsX0_putCallsOverStep wsX0_putCall := goodIn_r _ [6, 7, 8, 9, 10, 11, 12, 13, 14, 15, 16, 17, 18, 19, 20, 21, 22, 23, 24] (by decide +kernel) (by decide +kernel)
set_option maxRecDepth 20000 in
theorem gX0_putCallsOverStep_X0_putCall : GoodIn wsX0_putCallsOverStep (wsV RX0 73 RX0 yX0_putCall wsX0_putCall) := goodIn_app (goodIn_of _ (by decide +kernel)) ggX0_putCallsOverStep_X0_putCall
theorem dX0_putCallsOverStep_0 : decode cX0_putCallsOverStep 0 = .ok (.iconst 0, 1) := by decide +kernel
theorem dX0_putCallsOverStep_1 : decode cX0_putCallsOverStep 1 = .ok (.istore_n 2, 1) := by decide +kernel
theorem dX0_putCallsOverStep_2 : decode cX0_putCallsOverStep 2 = .ok (.iload_n 2, 1) := by decide +kernel
theorem dX0_putCallsOverStep_3 : decode cX0_putCallsOverStep 3 = .ok (.iload_n 1, 1) := by decide +kernel
theorem dX0_putCallsOverStep_4 : decode cX0_putCallsOverStep 4 = .ok (.iadd, 1) := by decide +kernel
theorem dX0_putCallsOverStep_5 : decode cX0_putCallsOverStep 5 = .ok (.aload_n 0, 1) := by decide +kernel
theorem dX0_putCallsOverStep_6 : decode cX0_putCallsOverStep 6 = .ok (.getfield 9, 3) := by decide +kernel
theorem dX0_putCallsOverStep_9 : decode cX0_putCallsOverStep 9 = .ok (.if_icmp .ge 24, 3) := by decide +kernel
theorem dX0_putCallsOverStep_12 : decode cX0_putCallsOverStep 12 = .ok (.iload_n 2, 1) := by decide +kernel
theorem dX0_putCallsOverStep_13 : decode cX0_putCallsOverStep 13 = .ok (.iload_n 1, 1) := by decide +kernel
theorem dX0_putCallsOverStep_14 : decode cX0_putCallsOverStep 14 = .ok (.iand, 1) := by decide +kernel
theorem dX0_putCallsOverStep_15 : decode cX0_putCallsOverStep 15 = .ok (.ifCond .ne 12, 3) := by decide +kernel
theorem dX0_putCallsOverStep_18 : decode cX0_putCallsOverStep 18 = .ok (.aload_n 0, 1) := by decide +kernel
theorem dX0_putCallsOverStep_19 : decode cX0_putCallsOverStep 19 = .ok (.iload_n 2, 1) := by decide +kernel
theorem dX0_putCallsOverStep_20 : decode cX0_putCallsOverStep 20 = .ok (.iload_n 2, 1) := by decide +kernel
theorem dX0_putCallsOverStep_21 : decode cX0_putCallsOverStep 21 = .ok (.iload_n 1, 1) := by decide +kernel
theorem dX0_putCallsOverStep_22 : decode cX0_putCallsOverStep 22 = .ok (.iadd, 1) := by decide +kernel
theorem dX0_putCallsOverStep_23 : decode cX0_putCallsOverStep 23 = .ok (.iconst 0, 1) := by decide +kernel
theorem dX0_putCallsOverStep_24 : decode cX0_putCallsOverStep 24 = .ok (.invokevirtual 73, 3) := by decide +kernel
theorem dX0_putCallsOverStep_27 : decode cX0_putCallsOverStep 27 = .ok (.iinc 2 1, 3) := by decide +kernel
theorem dX0_putCallsOverStep_30 : decode cX0_putCallsOverStep 30 = .ok (.goto (-28), 3) := by decide +kernel
theorem dX0_putCallsOverStep_33 : decode cX0_putCallsOverStep 33 = .ok (.return_, 1) := by decide +kernel
set_option maxRecDepth 20000 in
theorem ggX0_putGathering_X0_putCall : GoodIn wsX0_putGathering wsX0_putCall := goodIn_r _ [7, 8, 9, 2, 10, 11, 12, 13, 14, 15, 16, 17, 18, 19, 20, 21, 22, 23, 24] (by decide +kernel) (by decide +kernel)
set_option maxRecDepth 20000 in
theorem gX0_putGathering_X0_putCall : GoodIn wsX0_putGathering (wsV RX0 73 RX0 yX0_putCall wsX0_putCall) := goodIn_app (goodIn_of _ (by decide +kernel)) ggX0_putGathering_X0_putCall
theorem dX0_putGathering_0 : decode cX0_putGathering 0 = .ok (.iload_n 1, 1) := by decide +kernel
theorem dX0_putGathering_1 : decode cX0_putGathering 1 = .ok (.istore_n 3, 1) := by decide +kernel
theorem dX0_putGathering_2 : decode cX0_putGathering 2 = .ok (.iload_n 3, 1) := by decide +kernel
theorem dX0_putGathering_3 : decode cX0_putGathering 3 = .ok (.aload_n 0, 1) := by decide +kernel
theorem dX0_putGathering_4 : decode cX0_putGathering 4 = .ok (.getfield 9, 3) := by decide +kernel
theorem dX0_putGathering_7 : decode cX0_putGathering 7 = .ok (.if_icmp .ge 26, 3) := by decide +kernel
theorem dX0_putGathering_10 : decode cX0_putGathering 10 = .ok (.aload_n 0, 1) := by decide +kernel
theorem dX0_putGathering_11 : decode cX0_putGathering 11 = .ok (.dup, 1) := by decide +kernel
theorem dX0_putGathering_12 : decode cX0_putGathering 12 = .ok (.getfield 55, 3) := by decide +kernel
theorem dX0_putGathering_15 : decode cX0_putGathering 15 = .ok (.iconst 1, 1) := by decide +kernel
theorem dX0_putGathering_16 : decode cX0_putGathering 16 = .ok (.iadd, 1) := by decide +kernel
theorem dX0_putGathering_17 : decode cX0_putGathering 17 = .ok (.putfield 55, 3) := by decide +kernel
theorem dX0_putGathering_20 : decode cX0_putGathering 20 = .ok (.aload_n 0, 1) := by decide +kernel
theorem dX0_putGathering_21 : decode cX0_putGathering 21 = .ok (.iload_n 3, 1) := by decide +kernel
theorem dX0_putGathering_22 : decode cX0_putGathering 22 = .ok (.iconst 0, 1) := by decide +kernel
theorem dX0_putGathering_23 : decode cX0_putGathering 23 = .ok (.iload_n 2, 1) := by decide +kernel
theorem dX0_putGathering_24 : decode cX0_putGathering 24 = .ok (.invokevirtual 73, 3) := by decide +kernel
theorem dX0_putGathering_27 : decode cX0_putGathering 27 = .ok (.iinc 3 1, 3) := by decide +kernel
theorem dX0_putGathering_30 : decode cX0_putGathering 30 = .ok (.goto (-28), 3) := by decide +kernel
theorem dX0_putGathering_33 : decode cX0_putGathering 33 = .ok (.return_, 1) := by decide +kernel
set_option maxRecDepth 20000 in
theorem ggX0_putSpreading_X0_putCall : GoodIn wsX0_putSpreading wsX0_putCall := goodIn_r _ [6, 7, 8, 1, 9, 10, 11, 12, 13, 14, 15, 16, 17, 18, 19, 20, 21, 22, 23] (by decide +kernel) (by decide +kernel)
set_option maxRecDepth 20000 in
theorem gX0_putSpreading_X0_putCall : GoodIn wsX0_putSpreading (wsV RX0 73 RX0 yX0_putCall wsX0_putCall) := goodIn_app (goodIn_of _ (by decide +kernel)) ggX0_putSpreading_X0_putCall
theorem dX0_putSpreading_0 : decode cX0_putSpreading 0 = .ok (.iload_n 1, 1) := by decide +kernel
theorem dX0_putSpreading_1 : decode cX0_putSpreading 1 = .ok (.istore 4, 2) := by decide +kernel
theorem dX0_putSpreading_3 : decode cX0_putSpreading 3 = .ok (.iload 4, 2) := by decide +kernel
theorem dX0_putSpreading_5 : decode cX0_putSpreading 5 = .ok (.iload_n 2, 1) := by decide +kernel
theorem dX0_putSpreading_6 : decode cX0_putSpreading 6 = .ok (.if_icmp .gt 27, 3) := by decide +kernel
theorem dX0_putSpreading_9 : decode cX0_putSpreading 9 = .ok (.aload_n 0, 1) := by decide +kernel
theorem dX0_putSpreading_10 : decode cX0_putSpreading 10 = .ok (.dup, 1) := by decide +kernel
theorem dX0_putSpreading_11 : decode cX0_putSpreading 11 = .ok (.getfield 55, 3) := by decide +kernel
theorem dX0_putSpreading_14 : decode cX0_putSpreading 14 = .ok (.iconst 1, 1) := by decide +kernel
theorem dX0_putSpreading_15 : decode cX0_putSpreading 15 = .ok (.iadd, 1) := by decide +kernel
theorem dX0_putSpreading_16 : decode cX0_putSpreading 16 = .ok (.putfield 55, 3) := by decide +kernel
theorem dX0_putSpreading_19 : decode cX0_putSpreading 19 = .ok (.aload_n 0, 1) := by decide +kernel
theorem dX0_putSpreading_20 : decode cX0_putSpreading 20 = .ok (.iconst 0, 1) := by decide +kernel
theorem dX0_putSpreading_21 : decode cX0_putSpreading 21 = .ok (.iload 4, 2) := by decide +kernel
theorem dX0_putSpreading_23 : decode cX0_putSpreading 23 = .ok (.iload_n 3, 1) := by decide +kernel
theorem dX0_putSpreading_24 : decode cX0_putSpreading 24 = .ok (.invokevirtual 73, 3) := by decide +kernel
theorem dX0_putSpreading_27 : decode cX0_putSpreading 27 = .ok (.iinc 4 1, 3) := by decide +kernel
theorem dX0_putSpreading_30 : decode cX0_putSpreading 30 = .ok (.goto (-27), 3) := by decide +kernel
theorem dX0_putSpreading_33 : decode cX0_putSpreading 33 = .ok (.return_, 1) := by decide +kernel
set_option maxRecDepth 20000 in
theorem ggX0_characterFits_X0_isPersonDigit : GoodIn wsX0_characterFits wsX0_isPersonDigit := goodIn_r _ [6, 7, 8, 9, 5, 10, 11, 12, 13, 14, 15, 16, 17, 18, 19, 20, 21, 22, 23] (by decide +kernel) (by decide +kernel)
set_option maxRecDepth 20000 in
theorem gX0_characterFits_X0_isPersonDigit : GoodIn wsX0_characterFits (wsV RX0 198 RX0 yX0_isPersonDigit wsX0_isPersonDigit) := goodIn_app (goodIn_of _ (by decide +kernel)) ggX0_characterFits_X0_isPersonDigit
theorem dX0_characterFits_0 : decode cX0_characterFits 0 = .ok (.aload_n 0, 1) := by decide +kernel
theorem dX0_characterFits_1 : decode cX0_characterFits 1 = .ok (.getfield 33, 3) := by decide +kernel
theorem dX0_characterFits_4 : decode cX0_characterFits 4 = .ok (.iload_n 1, 1) := by decide +kernel
theorem dX0_characterFits_5 : decode cX0_characterFits 5 = .ok (.iaload, 1) := by decide +kernel
theorem dX0_characterFits_6 : decode cX0_characterFits 6 = .ok (.istore_n 2, 1) := by decide +kernel
theorem dX0_characterFits_7 : decode cX0_characterFits 7 = .ok (.iload_n 1, 1) := by decide +kernel
theorem dX0_characterFits_8 : decode cX0_characterFits 8 = .ok (.iconst 4, 1) := by decide +kernel
theorem dX0_characterFits_9 : decode cX0_characterFits 9 = .ok (.irem, 1) := by decide +kernel
theorem dX0_characterFits_10 : decode cX0_characterFits 10 = .ok (.tableswitch 76 0 2 #[26, 32, 50], 26) := by decide +kernel
theorem dX0_characterFits_36 : decode cX0_characterFits 36 = .ok (.aload_n 0, 1) := by decide +kernel
theorem dX0_characterFits_37 : decode cX0_characterFits 37 = .ok (.iload_n 2, 1) := by decide +kernel
theorem dX0_characterFits_38 : decode cX0_characterFits 38 = .ok (.invokevirtual 198, 3) := by decide +kernel
theorem dX0_characterFits_41 : decode cX0_characterFits 41 = .ok (.ireturn, 1) := by decide +kernel
theorem dX0_characterFits_42 : decode cX0_characterFits 42 = .ok (.iload_n 2, 1) := by decide +kernel
theorem dX0_characterFits_43 : decode cX0_characterFits 43 = .ok (.bipush 45, 2) := by decide +kernel
theorem dX0_characterFits_45 : decode cX0_characterFits 45 = .ok (.if_icmp .eq 9, 3) := by decide +kernel
theorem dX0_characterFits_48 : decode cX0_characterFits 48 = .ok (.iload_n 2, 1) := by decide +kernel
theorem dX0_characterFits_49 : decode cX0_characterFits 49 = .ok (.bipush 62, 2) := by decide +kernel
theorem dX0_characterFits_51 : decode cX0_characterFits 51 = .ok (.if_icmp .ne 7, 3) := by decide +kernel
theorem dX0_characterFits_54 : decode cX0_characterFits 54 = .ok (.iconst 1, 1) := by decide +kernel
theorem dX0_characterFits_55 : decode cX0_characterFits 55 = .ok (.goto 4, 3) := by decide +kernel
theorem dX0_characterFits_58 : decode cX0_characterFits 58 = .ok (.iconst 0, 1) := by decide +kernel
theorem dX0_characterFits_59 : decode cX0_characterFits 59 = .ok (.ireturn, 1) := by decide +kernel
theorem dX0_characterFits_60 : decode cX0_characterFits 60 = .ok (.aload_n 0, 1) := by decide +kernel
theorem dX0_characterFits_61 : decode cX0_characterFits 61 = .ok (.iload_n 2, 1) := by decide +kernel
theorem dX0_characterFits_62 : decode cX0_characterFits 62 = .ok (.invokevirtual 198, 3) := by decide +kernel
theorem dX0_characterFits_65 : decode cX0_characterFits 65 = .ok (.ifCond .eq 19, 3) := by decide +kernel
theorem dX0_characterFits_68 : decode cX0_characterFits 68 = .ok (.iload_n 2, 1) := by decide +kernel
theorem dX0_characterFits_69 : decode cX0_characterFits 69 = .ok (.aload_n 0, 1) := by decide +kernel
theorem dX0_characterFits_70 : decode cX0_characterFits 70 = .ok (.getfield 33, 3) := by decide +kernel
theorem dX0_characterFits_73 : decode cX0_characterFits 73 = .ok (.iload_n 1, 1) := by decide +kernel
theorem dX0_characterFits_74 : decode cX0_characterFits 74 = .ok (.iconst 2, 1) := by decide +kernel
theorem dX0_characterFits_75 : decode cX0_characterFits 75 = .ok (.isub, 1) := by decide +kernel
theorem dX0_characterFits_76 : decode cX0_characterFits 76 = .ok (.iaload, 1) := by decide +kernel
theorem dX0_characterFits_77 : decode cX0_characterFits 77 = .ok (.if_icmp .eq 7, 3) := by decide +kernel
theorem dX0_characterFits_80 : decode cX0_characterFits 80 = .ok (.iconst 1, 1) := by decide +kernel
theorem dX0_characterFits_81 : decode cX0_characterFits 81 = .ok (.goto 4, 3) := by decide +kernel
theorem dX0_characterFits_84 : decode cX0_characterFits 84 = .ok (.iconst 0, 1) := by decide +kernel
theorem dX0_characterFits_85 : decode cX0_characterFits 85 = .ok (.ireturn, 1) := by decide +kernel
theorem dX0_characterFits_86 : decode cX0_characterFits 86 = .ok (.iload_n 2, 1) := by decide +kernel
theorem dX0_characterFits_87 : decode cX0_characterFits 87 = .ok (.bipush 44, 2) := by decide +kernel
theorem dX0_characterFits_89 : decode cX0_characterFits 89 = .ok (.if_icmp .eq 9, 3) := by decide +kernel
theorem dX0_characterFits_92 : decode cX0_characterFits 92 = .ok (.iload_n 2, 1) := by decide +kernel
theorem dX0_characterFits_93 : decode cX0_characterFits 93 = .ok (.bipush 59, 2) := by decide +kernel
