theorem dX0_init_0 : decode cX0_init 0 = .ok (.aload_n 0, 1) := by decide +kernel
theorem dX0_init_1 : decode cX0_init 1 = .ok (.invokespecial 1, 3) := by decide +kernel
theorem dX0_init_4 : decode cX0_init 4 = .ok (.aload_n 0, 1) := by decide +kernel
theorem dX0_init_5 : decode cX0_init 5 = .ok (.iconst 2, 1) := by decide +kernel
theorem dX0_init_6 : decode cX0_init 6 = .ok (.putfield 9, 3) := by decide +kernel
theorem dX0_init_9 : decode cX0_init 9 = .ok (.aload_n 0, 1) := by decide +kernel
theorem dX0_init_10 : decode cX0_init 10 = .ok (.iconst 0, 1) := by decide +kernel
theorem dX0_init_11 : decode cX0_init 11 = .ok (.putfield 13, 3) := by decide +kernel
theorem dX0_init_14 : decode cX0_init 14 = .ok (.aload_n 0, 1) := by decide +kernel
theorem dX0_init_15 : decode cX0_init 15 = .ok (.iconst 0, 1) := by decide +kernel
theorem dX0_init_16 : decode cX0_init 16 = .ok (.putfield 16, 3) := by decide +kernel
theorem dX0_init_19 : decode cX0_init 19 = .ok (.aload_n 0, 1) := by decide +kernel
theorem dX0_init_20 : decode cX0_init 20 = .ok (.bipush 28, 2) := by decide +kernel
theorem dX0_init_22 : decode cX0_init 22 = .ok (.newarray .int, 2) := by decide +kernel
theorem dX0_init_24 : decode cX0_init 24 = .ok (.putfield 19, 3) := by decide +kernel
theorem dX0_init_27 : decode cX0_init 27 = .ok (.aload_n 0, 1) := by decide +kernel
theorem dX0_init_28 : decode cX0_init 28 = .ok (.bipush 28, 2) := by decide +kernel
theorem dX0_init_30 : decode cX0_init 30 = .ok (.newarray .int, 2) := by decide +kernel
theorem dX0_init_32 : decode cX0_init 32 = .ok (.putfield 23, 3) := by decide +kernel
theorem dX0_init_35 : decode cX0_init 35 = .ok (.aload_n 0, 1) := by decide +kernel
theorem dX0_init_36 : decode cX0_init 36 = .ok (.bipush 28, 2) := by decide +kernel
theorem dX0_init_38 : decode cX0_init 38 = .ok (.newarray .int, 2) := by decide +kernel
theorem dX0_init_40 : decode cX0_init 40 = .ok (.putfield 26, 3) := by decide +kernel
theorem dX0_init_43 : decode cX0_init 43 = .ok (.aload_n 0, 1) := by decide +kernel
theorem dX0_init_44 : decode cX0_init 44 = .ok (.bipush 28, 2) := by decide +kernel
theorem dX0_init_46 : decode cX0_init 46 = .ok (.newarray .boolean, 2) := by decide +kernel
theorem dX0_init_48 : decode cX0_init 48 = .ok (.putfield 29, 3) := by decide +kernel
theorem dX0_init_51 : decode cX0_init 51 = .ok (.aload_n 0, 1) := by decide +kernel
theorem dX0_init_52 : decode cX0_init 52 = .ok (.bipush 59, 2) := by decide +kernel
theorem dX0_init_54 : decode cX0_init 54 = .ok (.newarray .int, 2) := by decide +kernel
theorem dX0_init_56 : decode cX0_init 56 = .ok (.putfield 33, 3) := by decide +kernel
theorem dX0_init_59 : decode cX0_init 59 = .ok (.aload_n 0, 1) := by decide +kernel
theorem dX0_init_60 : decode cX0_init 60 = .ok (.sipush 4096, 3) := by decide +kernel
theorem dX0_init_63 : decode cX0_init 63 = .ok (.newarray .long, 2) := by decide +kernel
theorem dX0_init_65 : decode cX0_init 65 = .ok (.putfield 36, 3) := by decide +kernel
theorem dX0_init_68 : decode cX0_init 68 = .ok (.return_, 1) := by decide +kernel
set_option maxRecDepth 20000 in
theorem ggX0_newSchedule_X0_dropRounds : GoodIn wsX0_newSchedule wsX0_dropRounds := goodIn_r _ [8, 9, 10, 11, 12, 13, 14, 15, 16, 17, 18, 19, 20, 21, 22] (by decide +kernel) (by decide +kernel)
set_option maxRecDepth 20000 in
theorem gX0_newSchedule_X0_dropRounds : GoodIn wsX0_newSchedule (wsV RX0 40 RX0 yX0_dropRounds wsX0_dropRounds) := goodIn_app (goodIn_of _ (by decide +kernel)) ggX0_newSchedule_X0_dropRounds
theorem dX0_newSchedule_0 : decode cX0_newSchedule 0 = .ok (.iload_n 1, 1) := by decide +kernel
theorem dX0_newSchedule_1 : decode cX0_newSchedule 1 = .ok (.iconst 2, 1) := by decide +kernel
theorem dX0_newSchedule_2 : decode cX0_newSchedule 2 = .ok (.if_icmp .lt 9, 3) := by decide +kernel
theorem dX0_newSchedule_5 : decode cX0_newSchedule 5 = .ok (.iload_n 1, 1) := by decide +kernel
theorem dX0_newSchedule_6 : decode cX0_newSchedule 6 = .ok (.bipush 8, 2) := by decide +kernel
theorem dX0_newSchedule_8 : decode cX0_newSchedule 8 = .ok (.if_icmp .le 6, 3) := by decide +kernel
theorem dX0_newSchedule_11 : decode cX0_newSchedule 11 = .ok (.bipush (-5), 2) := by decide +kernel
theorem dX0_newSchedule_13 : decode cX0_newSchedule 13 = .ok (.ireturn, 1) := by decide +kernel
theorem dX0_newSchedule_14 : decode cX0_newSchedule 14 = .ok (.iload_n 2, 1) := by decide +kernel
theorem dX0_newSchedule_15 : decode cX0_newSchedule 15 = .ok (.ifCond .lt 8, 3) := by decide +kernel
theorem dX0_newSchedule_18 : decode cX0_newSchedule 18 = .ok (.iload_n 2, 1) := by decide +kernel
theorem dX0_newSchedule_19 : decode cX0_newSchedule 19 = .ok (.iconst 2, 1) := by decide +kernel
theorem dX0_newSchedule_20 : decode cX0_newSchedule 20 = .ok (.if_icmp .le 6, 3) := by decide +kernel
theorem dX0_newSchedule_23 : decode cX0_newSchedule 23 = .ok (.bipush (-5), 2) := by decide +kernel
theorem dX0_newSchedule_25 : decode cX0_newSchedule 25 = .ok (.ireturn, 1) := by decide +kernel
theorem dX0_newSchedule_26 : decode cX0_newSchedule 26 = .ok (.aload_n 0, 1) := by decide +kernel
theorem dX0_newSchedule_27 : decode cX0_newSchedule 27 = .ok (.iload_n 1, 1) := by decide +kernel
theorem dX0_newSchedule_28 : decode cX0_newSchedule 28 = .ok (.putfield 9, 3) := by decide +kernel
theorem dX0_newSchedule_31 : decode cX0_newSchedule 31 = .ok (.aload_n 0, 1) := by decide +kernel
theorem dX0_newSchedule_32 : decode cX0_newSchedule 32 = .ok (.iload_n 2, 1) := by decide +kernel
theorem dX0_newSchedule_33 : decode cX0_newSchedule 33 = .ok (.putfield 13, 3) := by decide +kernel
theorem dX0_newSchedule_36 : decode cX0_newSchedule 36 = .ok (.aload_n 0, 1) := by decide +kernel
theorem dX0_newSchedule_37 : decode cX0_newSchedule 37 = .ok (.iconst 0, 1) := by decide +kernel
theorem dX0_newSchedule_38 : decode cX0_newSchedule 38 = .ok (.putfield 16, 3) := by decide +kernel
theorem dX0_newSchedule_41 : decode cX0_newSchedule 41 = .ok (.aload_n 0, 1) := by decide +kernel
theorem dX0_newSchedule_42 : decode cX0_newSchedule 42 = .ok (.invokevirtual 40, 3) := by decide +kernel
theorem dX0_newSchedule_45 : decode cX0_newSchedule 45 = .ok (.aload_n 0, 1) := by decide +kernel
theorem dX0_newSchedule_46 : decode cX0_newSchedule 46 = .ok (.getfield 9, 3) := by decide +kernel
theorem dX0_newSchedule_49 : decode cX0_newSchedule 49 = .ok (.ireturn, 1) := by decide +kernel
set_option maxRecDepth 20000 in
theorem ggX0_setGraph_X0_personsFillCube : GoodIn wsX0_setGraph wsX0_personsFillCube := goodIn_r _ [6, 7, 8, 9, 10, 11, 12, 13, 14, 15, 16, 17, 18, 19, 20, 21, 22, 23, 24, 25, 26] (by decide +kernel) (by decide +kernel)
set_option maxRecDepth 20000 in
theorem gX0_setGraph_X0_personsFillCube : GoodIn wsX0_setGraph (wsV RX0 43 RX0 yX0_personsFillCube wsX0_personsFillCube) := goodIn_app (goodIn_of _ (by decide +kernel)) ggX0_setGraph_X0_personsFillCube
theorem dX0_setGraph_0 : decode cX0_setGraph 0 = .ok (.iload_n 1, 1) := by decide +kernel
theorem dX0_setGraph_1 : decode cX0_setGraph 1 = .ok (.ifCond .lt 8, 3) := by decide +kernel
theorem dX0_setGraph_4 : decode cX0_setGraph 4 = .ok (.iload_n 1, 1) := by decide +kernel
theorem dX0_setGraph_5 : decode cX0_setGraph 5 = .ok (.iconst 4, 1) := by decide +kernel
theorem dX0_setGraph_6 : decode cX0_setGraph 6 = .ok (.if_icmp .le 6, 3) := by decide +kernel
theorem dX0_setGraph_9 : decode cX0_setGraph 9 = .ok (.bipush (-5), 2) := by decide +kernel
theorem dX0_setGraph_11 : decode cX0_setGraph 11 = .ok (.ireturn, 1) := by decide +kernel
theorem dX0_setGraph_12 : decode cX0_setGraph 12 = .ok (.iload_n 1, 1) := by decide +kernel
theorem dX0_setGraph_13 : decode cX0_setGraph 13 = .ok (.iconst 4, 1) := by decide +kernel
theorem dX0_setGraph_14 : decode cX0_setGraph 14 = .ok (.if_icmp .ne 13, 3) := by decide +kernel
theorem dX0_setGraph_17 : decode cX0_setGraph 17 = .ok (.aload_n 0, 1) := by decide +kernel
theorem dX0_setGraph_18 : decode cX0_setGraph 18 = .ok (.invokevirtual 43, 3) := by decide +kernel
theorem dX0_setGraph_21 : decode cX0_setGraph 21 = .ok (.ifCond .ne 6, 3) := by decide +kernel
theorem dX0_setGraph_24 : decode cX0_setGraph 24 = .ok (.bipush (-14), 2) := by decide +kernel
theorem dX0_setGraph_26 : decode cX0_setGraph 26 = .ok (.ireturn, 1) := by decide +kernel
theorem dX0_setGraph_27 : decode cX0_setGraph 27 = .ok (.aload_n 0, 1) := by decide +kernel
theorem dX0_setGraph_28 : decode cX0_setGraph 28 = .ok (.getfield 16, 3) := by decide +kernel
theorem dX0_setGraph_31 : decode cX0_setGraph 31 = .ok (.istore_n 2, 1) := by decide +kernel
theorem dX0_setGraph_32 : decode cX0_setGraph 32 = .ok (.aload_n 0, 1) := by decide +kernel
theorem dX0_setGraph_33 : decode cX0_setGraph 33 = .ok (.iload_n 1, 1) := by decide +kernel
theorem dX0_setGraph_34 : decode cX0_setGraph 34 = .ok (.putfield 16, 3) := by decide +kernel
theorem dX0_setGraph_37 : decode cX0_setGraph 37 = .ok (.iload_n 2, 1) := by decide +kernel
theorem dX0_setGraph_38 : decode cX0_setGraph 38 = .ok (.ireturn, 1) := by decide +kernel
set_option maxRecDepth 20000 in
theorem ggX0_areNeighbors_X0_personExists : GoodIn wsX0_areNeighbors wsX0_personExists := goodIn_r _ [5, 6, 23, 24, 25, 26, 27, 28, 29, 30, 31, 32, 33, 34] (by decide +kernel) (by decide +kernel)
set_option maxRecDepth 20000 in
theorem gX0_areNeighbors_X0_personExists : GoodIn wsX0_areNeighbors (wsV RX0 47 RX0 yX0_personExists wsX0_personExists) := goodIn_app (goodIn_of _ (by decide +kernel)) ggX0_areNeighbors_X0_personExists
set_option maxRecDepth 20000 in
theorem ggX0_areNeighbors_X0_graphJoins : GoodIn wsX0_areNeighbors wsX0_graphJoins := goodIn_r _ [10, 11, 12, 13, 14, 15, 6, 16, 17, 18, 19, 20, 21, 22, 23, 24, 25, 26, 27, 28, 29, 30, 31, 32, 33, 34] (by decide +kernel) (by decide +kernel)
set_option maxRecDepth 20000 in
theorem gX0_areNeighbors_X0_graphJoins : GoodIn wsX0_areNeighbors (wsV RX0 51 RX0 yX0_graphJoins wsX0_graphJoins) := goodIn_app (goodIn_of _ (by decide +kernel)) ggX0_areNeighbors_X0_graphJoins
theorem dX0_areNeighbors_0 : decode cX0_areNeighbors 0 = .ok (.aload_n 0, 1) := by decide +kernel
theorem dX0_areNeighbors_1 : decode cX0_areNeighbors 1 = .ok (.iload_n 1, 1) := by decide +kernel
theorem dX0_areNeighbors_2 : decode cX0_areNeighbors 2 = .ok (.invokevirtual 47, 3) := by decide +kernel
theorem dX0_areNeighbors_5 : decode cX0_areNeighbors 5 = .ok (.ifCond .eq 11, 3) := by decide +kernel
theorem dX0_areNeighbors_8 : decode cX0_areNeighbors 8 = .ok (.aload_n 0, 1) := by decide +kernel
theorem dX0_areNeighbors_9 : decode cX0_areNeighbors 9 = .ok (.iload_n 2, 1) := by decide +kernel
theorem dX0_areNeighbors_10 : decode cX0_areNeighbors 10 = .ok (.invokevirtual 47, 3) := by decide +kernel
theorem dX0_areNeighbors_13 : decode cX0_areNeighbors 13 = .ok (.ifCond .ne 6, 3) := by decide +kernel
theorem dX0_areNeighbors_16 : decode cX0_areNeighbors 16 = .ok (.bipush (-6), 2) := by decide +kernel
theorem dX0_areNeighbors_18 : decode cX0_areNeighbors 18 = .ok (.ireturn, 1) := by decide +kernel
theorem dX0_areNeighbors_19 : decode cX0_areNeighbors 19 = .ok (.aload_n 0, 1) := by decide +kernel
theorem dX0_areNeighbors_20 : decode cX0_areNeighbors 20 = .ok (.iload_n 1, 1) := by decide +kernel
theorem dX0_areNeighbors_21 : decode cX0_areNeighbors 21 = .ok (.iload_n 2, 1) := by decide +kernel
theorem dX0_areNeighbors_22 : decode cX0_areNeighbors 22 = .ok (.invokevirtual 51, 3) := by decide +kernel
theorem dX0_areNeighbors_25 : decode cX0_areNeighbors 25 = .ok (.ifCond .eq 7, 3) := by decide +kernel
theorem dX0_areNeighbors_28 : decode cX0_areNeighbors 28 = .ok (.iconst 1, 1) := by decide +kernel
theorem dX0_areNeighbors_29 : decode cX0_areNeighbors 29 = .ok (.goto 4, 3) := by decide +kernel
theorem dX0_areNeighbors_32 : decode cX0_areNeighbors 32 = .ok (.iconst 0, 1) := by decide +kernel
theorem dX0_areNeighbors_33 : decode cX0_areNeighbors 33 = .ok (.ireturn, 1) := by decide +kernel
theorem dX0_addRound_0 : decode cX0_addRound 0 = .ok (.aload_n 0, 1) := by decide +kernel
theorem dX0_addRound_1 : decode cX0_addRound 1 = .ok (.getfield 55, 3) := by decide +kernel
theorem dX0_addRound_4 : decode cX0_addRound 4 = .ok (.bipush 16, 2) := by decide +kernel
theorem dX0_addRound_6 : decode cX0_addRound 6 = .ok (.if_icmp .lt 6, 3) := by decide +kernel
theorem dX0_addRound_9 : decode cX0_addRound 9 = .ok (.bipush (-12), 2) := by decide +kernel
theorem dX0_addRound_11 : decode cX0_addRound 11 = .ok (.ireturn, 1) := by decide +kernel
theorem dX0_addRound_12 : decode cX0_addRound 12 = .ok (.aload_n 0, 1) := by decide +kernel
theorem dX0_addRound_13 : decode cX0_addRound 13 = .ok (.dup, 1) := by decide +kernel
theorem dX0_addRound_14 : decode cX0_addRound 14 = .ok (.getfield 55, 3) := by decide +kernel
theorem dX0_addRound_17 : decode cX0_addRound 17 = .ok (.iconst 1, 1) := by decide +kernel
theorem dX0_addRound_18 : decode cX0_addRound 18 = .ok (.iadd, 1) := by decide +kernel
theorem dX0_addRound_19 : decode cX0_addRound 19 = .ok (.putfield 55, 3) := by decide +kernel
theorem dX0_addRound_22 : decode cX0_addRound 22 = .ok (.aload_n 0, 1) := by decide +kernel
theorem dX0_addRound_23 : decode cX0_addRound 23 = .ok (.getfield 55, 3) := by decide +kernel
theorem dX0_addRound_26 : decode cX0_addRound 26 = .ok (.ireturn, 1) := by decide +kernel
set_option maxRecDepth 20000 in
theorem ggX0_addCall_X0_personExists : GoodIn wsX0_addCall wsX0_personExists := goodIn_r _ [7, 8, 45, 46, 47, 48, 49, 50, 51, 52, 53, 54, 55, 56] (by decide +kernel) (by decide +kernel)
set_option maxRecDepth 20000 in
theorem gX0_addCall_X0_personExists : GoodIn wsX0_addCall (wsV RX0 47 RX0 yX0_personExists wsX0_personExists) := goodIn_app (goodIn_of _ (by decide +kernel)) ggX0_addCall_X0_personExists
set_option maxRecDepth 20000 in
theorem ggX0_addCall_X0_graphJoins : GoodIn wsX0_addCall wsX0_graphJoins := goodIn_r _ [12, 13, 14, 15, 16, 17, 8, 18, 19, 20, 21, 22, 23, 24, 45, 46, 47, 48, 49, 50, 51, 52, 53, 54, 55, 56] (by decide +kernel) (by decide +kernel)
set_option maxRecDepth 20000 in
theorem gX0_addCall_X0_graphJoins : GoodIn wsX0_addCall (wsV RX0 51 RX0 yX0_graphJoins wsX0_graphJoins) := goodIn_app (goodIn_of _ (by decide +kernel)) ggX0_addCall_X0_graphJoins
set_option maxRecDepth 20000 in
theorem ggX0_addCall_X0_busyInLastRound : GoodIn wsX0_addCall wsX0_busyInLastRound := goodIn_r _ [28, 2, 29, 1, 30, 31, 32, 33, 6, 34, 45, 46, 47, 48, 49, 50, 51, 52, 53, 54, 55, 56] (by decide +kernel) (by decide +kernel)
set_option maxRecDepth 20000 in
theorem gX0_addCall_X0_busyInLastRound : GoodIn wsX0_addCall (wsV RX0 58 RX0 yX0_busyInLastRound wsX0_busyInLastRound) := goodIn_app (goodIn_of _ (by decide +kernel)) ggX0_addCall_X0_busyInLastRound
set_option maxRecDepth 20000 in
theorem ggX0_addCall_X0_pairOf : GoodIn wsX0_addCall wsX0_pairOf := goodIn_r _ [34] (by decide +kernel) (by decide +kernel)
set_option maxRecDepth 20000 in
theorem gX0_addCall_X0_pairOf : GoodIn wsX0_addCall (va_wsS RX0 62 yX0_pairOf wsX0_pairOf) := goodIn_app (goodIn_of _ (by decide +kernel)) ggX0_addCall_X0_pairOf
set_option maxRecDepth 20000 in
theorem ggX0_addCall_X0_modeAccepts : GoodIn wsX0_addCall wsX0_modeAccepts := goodIn_r _ [38, 39, 45, 46, 47, 48, 49, 50, 51, 52, 53, 54, 55, 56] (by decide +kernel) (by decide +kernel)
set_option maxRecDepth 20000 in
theorem gX0_addCall_X0_modeAccepts : GoodIn wsX0_addCall (wsV RX0 66 RX0 yX0_modeAccepts wsX0_modeAccepts) := goodIn_app (goodIn_of _ (by decide +kernel)) ggX0_addCall_X0_modeAccepts
set_option maxRecDepth 20000 in
theorem ggX0_addCall_X0_putCall : GoodIn wsX0_addCall wsX0_putCall := goodIn_r _ [43, 2, 29, 1, 30, 31, 44, 45, 46, 47, 48, 49, 50, 51, 52, 53, 54, 55, 56] (by decide +kernel) (by decide +kernel)
set_option maxRecDepth 20000 in
theorem gX0_addCall_X0_putCall : GoodIn wsX0_addCall (wsV RX0 73 RX0 yX0_putCall wsX0_putCall) := goodIn_app (goodIn_of _ (by decide +kernel)) ggX0_addCall_X0_putCall
theorem dX0_addCall_0 : decode cX0_addCall 0 = .ok (.aload_n 0, 1) := by decide +kernel
theorem dX0_addCall_1 : decode cX0_addCall 1 = .ok (.iload_n 1, 1) := by decide +kernel
theorem dX0_addCall_2 : decode cX0_addCall 2 = .ok (.invokevirtual 47, 3) := by decide +kernel
theorem dX0_addCall_5 : decode cX0_addCall 5 = .ok (.ifCond .eq 11, 3) := by decide +kernel
theorem dX0_addCall_8 : decode cX0_addCall 8 = .ok (.aload_n 0, 1) := by decide +kernel
theorem dX0_addCall_9 : decode cX0_addCall 9 = .ok (.iload_n 2, 1) := by decide +kernel
theorem dX0_addCall_10 : decode cX0_addCall 10 = .ok (.invokevirtual 47, 3) := by decide +kernel
theorem dX0_addCall_13 : decode cX0_addCall 13 = .ok (.ifCond .ne 6, 3) := by decide +kernel
theorem dX0_addCall_16 : decode cX0_addCall 16 = .ok (.bipush (-6), 2) := by decide +kernel
theorem dX0_addCall_18 : decode cX0_addCall 18 = .ok (.ireturn, 1) := by decide +kernel
theorem dX0_addCall_19 : decode cX0_addCall 19 = .ok (.aload_n 0, 1) := by decide +kernel
theorem dX0_addCall_20 : decode cX0_addCall 20 = .ok (.iload_n 1, 1) := by decide +kernel
theorem dX0_addCall_21 : decode cX0_addCall 21 = .ok (.iload_n 2, 1) := by decide +kernel
theorem dX0_addCall_22 : decode cX0_addCall 22 = .ok (.invokevirtual 51, 3) := by decide +kernel
theorem dX0_addCall_25 : decode cX0_addCall 25 = .ok (.ifCond .ne 6, 3) := by decide +kernel
theorem dX0_addCall_28 : decode cX0_addCall 28 = .ok (.bipush (-10), 2) := by decide +kernel
theorem dX0_addCall_30 : decode cX0_addCall 30 = .ok (.ireturn, 1) := by decide +kernel
theorem dX0_addCall_31 : decode cX0_addCall 31 = .ok (.aload_n 0, 1) := by decide +kernel
theorem dX0_addCall_32 : decode cX0_addCall 32 = .ok (.getfield 55, 3) := by decide +kernel
theorem dX0_addCall_35 : decode cX0_addCall 35 = .ok (.ifCond .ne 6, 3) := by decide +kernel
theorem dX0_addCall_38 : decode cX0_addCall 38 = .ok (.bipush (-8), 2) := by decide +kernel
theorem dX0_addCall_40 : decode cX0_addCall 40 = .ok (.ireturn, 1) := by decide +kernel
theorem dX0_addCall_41 : decode cX0_addCall 41 = .ok (.aload_n 0, 1) := by decide +kernel
theorem dX0_addCall_42 : decode cX0_addCall 42 = .ok (.invokevirtual 58, 3) := by decide +kernel
theorem dX0_addCall_45 : decode cX0_addCall 45 = .ok (.iload_n 1, 1) := by decide +kernel
theorem dX0_addCall_46 : decode cX0_addCall 46 = .ok (.iload_n 2, 1) := by decide +kernel
theorem dX0_addCall_47 : decode cX0_addCall 47 = .ok (.invokestatic 62, 3) := by decide +kernel
theorem dX0_addCall_50 : decode cX0_addCall 50 = .ok (.iand, 1) := by decide +kernel
theorem dX0_addCall_51 : decode cX0_addCall 51 = .ok (.ifCond .eq 6, 3) := by decide +kernel
theorem dX0_addCall_54 : decode cX0_addCall 54 = .ok (.bipush (-9), 2) := by decide +kernel
theorem dX0_addCall_56 : decode cX0_addCall 56 = .ok (.ireturn, 1) := by decide +kernel
theorem dX0_addCall_57 : decode cX0_addCall 57 = .ok (.aload_n 0, 1) := by decide +kernel
theorem dX0_addCall_58 : decode cX0_addCall 58 = .ok (.iload_n 3, 1) := by decide +kernel
theorem dX0_addCall_59 : decode cX0_addCall 59 = .ok (.invokevirtual 66, 3) := by decide +kernel
theorem dX0_addCall_62 : decode cX0_addCall 62 = .ok (.ifCond .ne 6, 3) := by decide +kernel
theorem dX0_addCall_65 : decode cX0_addCall 65 = .ok (.bipush (-11), 2) := by decide +kernel
theorem dX0_addCall_67 : decode cX0_addCall 67 = .ok (.ireturn, 1) := by decide +kernel
theorem dX0_addCall_68 : decode cX0_addCall 68 = .ok (.aload_n 0, 1) := by decide +kernel
theorem dX0_addCall_69 : decode cX0_addCall 69 = .ok (.getfield 70, 3) := by decide +kernel
theorem dX0_addCall_72 : decode cX0_addCall 72 = .ok (.bipush 28, 2) := by decide +kernel
theorem dX0_addCall_74 : decode cX0_addCall 74 = .ok (.if_icmp .lt 6, 3) := by decide +kernel
theorem dX0_addCall_77 : decode cX0_addCall 77 = .ok (.bipush (-13), 2) := by decide +kernel
theorem dX0_addCall_79 : decode cX0_addCall 79 = .ok (.ireturn, 1) := by decide +kernel
theorem dX0_addCall_80 : decode cX0_addCall 80 = .ok (.aload_n 0, 1) := by decide +kernel
theorem dX0_addCall_81 : decode cX0_addCall 81 = .ok (.iload_n 1, 1) := by decide +kernel
theorem dX0_addCall_82 : decode cX0_addCall 82 = .ok (.iload_n 2, 1) := by decide +kernel
theorem dX0_addCall_83 : decode cX0_addCall 83 = .ok (.iload_n 3, 1) := by decide +kernel
theorem dX0_addCall_84 : decode cX0_addCall 84 = .ok (.invokevirtual 73, 3) := by decide +kernel
theorem dX0_addCall_87 : decode cX0_addCall 87 = .ok (.aload_n 0, 1) := by decide +kernel
theorem dX0_addCall_88 : decode cX0_addCall 88 = .ok (.getfield 70, 3) := by decide +kernel
theorem dX0_addCall_91 : decode cX0_addCall 91 = .ok (.iconst 1, 1) := by decide +kernel
theorem dX0_addCall_92 : decode cX0_addCall 92 = .ok (.isub, 1) := by decide +kernel
theorem dX0_addCall_93 : decode cX0_addCall 93 = .ok (.ireturn, 1) := by decide +kernel
theorem dX0_removeLastRound_0 : decode cX0_removeLastRound 0 = .ok (.aload_n 0, 1) := by decide +kernel
theorem dX0_removeLastRound_1 : decode cX0_removeLastRound 1 = .ok (.getfield 55, 3) := by decide +kernel
theorem dX0_removeLastRound_4 : decode cX0_removeLastRound 4 = .ok (.ifCond .ne 6, 3) := by decide +kernel
theorem dX0_removeLastRound_7 : decode cX0_removeLastRound 7 = .ok (.bipush (-8), 2) := by decide +kernel
theorem dX0_removeLastRound_9 : decode cX0_removeLastRound 9 = .ok (.ireturn, 1) := by decide +kernel
theorem dX0_removeLastRound_10 : decode cX0_removeLastRound 10 = .ok (.aload_n 0, 1) := by decide +kernel
theorem dX0_removeLastRound_11 : decode cX0_removeLastRound 11 = .ok (.dup, 1) := by decide +kernel
theorem dX0_removeLastRound_12 : decode cX0_removeLastRound 12 = .ok (.getfield 55, 3) := by decide +kernel
theorem dX0_removeLastRound_15 : decode cX0_removeLastRound 15 = .ok (.iconst 1, 1) := by decide +kernel
theorem dX0_removeLastRound_16 : decode cX0_removeLastRound 16 = .ok (.isub, 1) := by decide +kernel
theorem dX0_removeLastRound_17 : decode cX0_removeLastRound 17 = .ok (.putfield 55, 3) := by decide +kernel
theorem dX0_removeLastRound_20 : decode cX0_removeLastRound 20 = .ok (.aload_n 0, 1) := by decide +kernel
theorem dX0_removeLastRound_21 : decode cX0_removeLastRound 21 = .ok (.getfield 70, 3) := by decide +kernel
theorem dX0_removeLastRound_24 : decode cX0_removeLastRound 24 = .ok (.ifCond .le 34, 3) := by decide +kernel
theorem dX0_removeLastRound_27 : decode cX0_removeLastRound 27 = .ok (.aload_n 0, 1) := by decide +kernel
theorem dX0_removeLastRound_28 : decode cX0_removeLastRound 28 = .ok (.getfield 19, 3) := by decide +kernel
theorem dX0_removeLastRound_31 : decode cX0_removeLastRound 31 = .ok (.aload_n 0, 1) := by decide +kernel
theorem dX0_removeLastRound_32 : decode cX0_removeLastRound 32 = .ok (.getfield 70, 3) := by decide +kernel
theorem dX0_removeLastRound_35 : decode cX0_removeLastRound 35 = .ok (.iconst 1, 1) := by decide +kernel
theorem dX0_removeLastRound_36 : decode cX0_removeLastRound 36 = .ok (.isub, 1) := by decide +kernel
theorem dX0_removeLastRound_37 : decode cX0_removeLastRound 37 = .ok (.iaload, 1) := by decide +kernel
theorem dX0_removeLastRound_38 : decode cX0_removeLastRound 38 = .ok (.aload_n 0, 1) := by decide +kernel
theorem dX0_removeLastRound_39 : decode cX0_removeLastRound 39 = .ok (.getfield 55, 3) := by decide +kernel
theorem dX0_removeLastRound_42 : decode cX0_removeLastRound 42 = .ok (.if_icmp .lt 16, 3) := by decide +kernel
theorem dX0_removeLastRound_45 : decode cX0_removeLastRound 45 = .ok (.aload_n 0, 1) := by decide +kernel
theorem dX0_removeLastRound_46 : decode cX0_removeLastRound 46 = .ok (.dup, 1) := by decide +kernel
theorem dX0_removeLastRound_47 : decode cX0_removeLastRound 47 = .ok (.getfield 70, 3) := by decide +kernel
theorem dX0_removeLastRound_50 : decode cX0_removeLastRound 50 = .ok (.iconst 1, 1) := by decide +kernel
theorem dX0_removeLastRound_51 : decode cX0_removeLastRound 51 = .ok (.isub, 1) := by decide +kernel
theorem dX0_removeLastRound_52 : decode cX0_removeLastRound 52 = .ok (.putfield 70, 3) := by decide +kernel
theorem dX0_removeLastRound_55 : decode cX0_removeLastRound 55 = .ok (.goto (-35), 3) := by decide +kernel
theorem dX0_removeLastRound_58 : decode cX0_removeLastRound 58 = .ok (.aload_n 0, 1) := by decide +kernel
theorem dX0_removeLastRound_59 : decode cX0_removeLastRound 59 = .ok (.getfield 55, 3) := by decide +kernel
theorem dX0_removeLastRound_62 : decode cX0_removeLastRound 62 = .ok (.ireturn, 1) := by decide +kernel
theorem dX0_append_0 : decode cX0_append 0 = .ok (.iload_n 1, 1) := by decide +kernel
theorem dX0_append_1 : decode cX0_append 1 = .ok (.bipush 32, 2) := by decide +kernel
theorem dX0_append_3 : decode cX0_append 3 = .ok (.if_icmp .lt 9, 3) := by decide +kernel
theorem dX0_append_6 : decode cX0_append 6 = .ok (.iload_n 1, 1) := by decide +kernel
theorem dX0_append_7 : decode cX0_append 7 = .ok (.bipush 126, 2) := by decide +kernel
theorem dX0_append_9 : decode cX0_append 9 = .ok (.if_icmp .le 6, 3) := by decide +kernel
theorem dX0_append_12 : decode cX0_append 12 = .ok (.bipush (-2), 2) := by decide +kernel
theorem dX0_append_14 : decode cX0_append 14 = .ok (.ireturn, 1) := by decide +kernel
theorem dX0_append_15 : decode cX0_append 15 = .ok (.aload_n 0, 1) := by decide +kernel
theorem dX0_append_16 : decode cX0_append 16 = .ok (.getfield 77, 3) := by decide +kernel
theorem dX0_append_19 : decode cX0_append 19 = .ok (.bipush 59, 2) := by decide +kernel
theorem dX0_append_21 : decode cX0_append 21 = .ok (.if_icmp .lt 6, 3) := by decide +kernel
theorem dX0_append_24 : decode cX0_append 24 = .ok (.bipush (-3), 2) := by decide +kernel
theorem dX0_append_26 : decode cX0_append 26 = .ok (.ireturn, 1) := by decide +kernel
theorem dX0_append_27 : decode cX0_append 27 = .ok (.aload_n 0, 1) := by decide +kernel
theorem dX0_append_28 : decode cX0_append 28 = .ok (.getfield 33, 3) := by decide +kernel
theorem dX0_append_31 : decode cX0_append 31 = .ok (.aload_n 0, 1) := by decide +kernel
theorem dX0_append_32 : decode cX0_append 32 = .ok (.getfield 77, 3) := by decide +kernel
theorem dX0_append_35 : decode cX0_append 35 = .ok (.iload_n 1, 1) := by decide +kernel
theorem dX0_append_36 : decode cX0_append 36 = .ok (.iastore, 1) := by decide +kernel
theorem dX0_append_37 : decode cX0_append 37 = .ok (.aload_n 0, 1) := by decide +kernel
theorem dX0_append_38 : decode cX0_append 38 = .ok (.dup, 1) := by decide +kernel
theorem dX0_append_39 : decode cX0_append 39 = .ok (.getfield 77, 3) := by decide +kernel
theorem dX0_append_42 : decode cX0_append 42 = .ok (.iconst 1, 1) := by decide +kernel
theorem dX0_append_43 : decode cX0_append 43 = .ok (.iadd, 1) := by decide +kernel
theorem dX0_append_44 : decode cX0_append 44 = .ok (.putfield 77, 3) := by decide +kernel
theorem dX0_append_47 : decode cX0_append 47 = .ok (.aload_n 0, 1) := by decide +kernel
theorem dX0_append_48 : decode cX0_append 48 = .ok (.getfield 77, 3) := by decide +kernel
theorem dX0_append_51 : decode cX0_append 51 = .ok (.ireturn, 1) := by decide +kernel
theorem dX0_clearInput_0 : decode cX0_clearInput 0 = .ok (.aload_n 0, 1) := by decide +kernel
theorem dX0_clearInput_1 : decode cX0_clearInput 1 = .ok (.getfield 77, 3) := by decide +kernel
theorem dX0_clearInput_4 : decode cX0_clearInput 4 = .ok (.istore_n 1, 1) := by decide +kernel
theorem dX0_clearInput_5 : decode cX0_clearInput 5 = .ok (.aload_n 0, 1) := by decide +kernel
theorem dX0_clearInput_6 : decode cX0_clearInput 6 = .ok (.iconst 0, 1) := by decide +kernel
theorem dX0_clearInput_7 : decode cX0_clearInput 7 = .ok (.putfield 77, 3) := by decide +kernel
theorem dX0_clearInput_10 : decode cX0_clearInput 10 = .ok (.iload_n 1, 1) := by decide +kernel
theorem dX0_clearInput_11 : decode cX0_clearInput 11 = .ok (.ireturn, 1) := by decide +kernel
set_option maxRecDepth 20000 in
theorem ggX0_firstError_X0_characterFits : GoodIn wsX0_firstError wsX0_characterFits := goodIn_r _ [6, 7, 8, 9, 10, 5, 11, 12, 13, 14, 15, 16, 17, 18, 19, 20, 21, 22, 23, 24, 25, 26, 27, 28] (by decide +kernel) (by decide +kernel)
set_option maxRecDepth 20000 in
theorem gX0_firstError_X0_characterFits : GoodIn wsX0_firstError (wsV RX0 80 RX0 yX0_characterFits wsX0_characterFits) := goodIn_app (goodIn_of _ (by decide +kernel)) ggX0_firstError_X0_characterFits
theorem dX0_firstError_0 : decode cX0_firstError 0 = .ok (.iconst 0, 1) := by decide +kernel
theorem dX0_firstError_1 : decode cX0_firstError 1 = .ok (.istore_n 1, 1) := by decide +kernel
theorem dX0_firstError_2 : decode cX0_firstError 2 = .ok (.iload_n 1, 1) := by decide +kernel
theorem dX0_firstError_3 : decode cX0_firstError 3 = .ok (.aload_n 0, 1) := by decide +kernel
theorem dX0_firstError_4 : decode cX0_firstError 4 = .ok (.getfield 77, 3) := by decide +kernel
theorem dX0_firstError_7 : decode cX0_firstError 7 = .ok (.if_icmp .ge 19, 3) := by decide +kernel
theorem dX0_firstError_10 : decode cX0_firstError 10 = .ok (.aload_n 0, 1) := by decide +kernel
theorem dX0_firstError_11 : decode cX0_firstError 11 = .ok (.iload_n 1, 1) := by decide +kernel
theorem dX0_firstError_12 : decode cX0_firstError 12 = .ok (.invokevirtual 80, 3) := by decide +kernel
theorem dX0_firstError_15 : decode cX0_firstError 15 = .ok (.ifCond .ne 5, 3) := by decide +kernel
theorem dX0_firstError_18 : decode cX0_firstError 18 = .ok (.iload_n 1, 1) := by decide +kernel
theorem dX0_firstError_19 : decode cX0_firstError 19 = .ok (.ireturn, 1) := by decide +kernel
theorem dX0_firstError_20 : decode cX0_firstError 20 = .ok (.iinc 1 1, 3) := by decide +kernel
theorem dX0_firstError_23 : decode cX0_firstError 23 = .ok (.goto (-21), 3) := by decide +kernel
theorem dX0_firstError_26 : decode cX0_firstError 26 = .ok (.aload_n 0, 1) := by decide +kernel
theorem dX0_firstError_27 : decode cX0_firstError 27 = .ok (.getfield 77, 3) := by decide +kernel
theorem dX0_firstError_30 : decode cX0_firstError 30 = .ok (.ireturn, 1) := by decide +kernel
set_option maxRecDepth 20000 in
theorem ggX0_load_X0_inputIsWhole : GoodIn wsX0_load wsX0_inputIsWhole := goodIn_r _ [7, 1, 8, 9, 10, 6, 11, 12, 13, 14, 15, 16, 17, 18, 19, 20, 21, 22, 23, 24, 25, 75, 76, 77, 78, 79, 80, 81, 82, 83, 84, 85, 86] (by decide +kernel) (by decide +kernel)
set_option maxRecDepth 20000 in
theorem gX0_load_X0_inputIsWhole : GoodIn wsX0_load (wsV RX0 83 RX0 yX0_inputIsWhole wsX0_inputIsWhole) := goodIn_app (goodIn_of _ (by decide +kernel)) ggX0_load_X0_inputIsWhole
set_option maxRecDepth 20000 in
theorem ggX0_load_X0_firstRefusedCall : GoodIn wsX0_load wsX0_firstRefusedCall := goodIn_r _ [29, 1, 16, 30, 31, 32, 6, 33, 34, 35, 36, 37, 38, 39, 40, 41, 42, 25, 43, 44, 45, 46, 47, 48, 49, 50, 51, 52, 53, 54, 55, 56, 57, 75, 76, 77, 78, 79, 80, 81, 82, 83, 84, 85, 86] (by decide +kernel) (by decide +kernel)
set_option maxRecDepth 20000 in
theorem gX0_load_X0_firstRefusedCall : GoodIn wsX0_load (wsV RX0 86 RX0 yX0_firstRefusedCall wsX0_firstRefusedCall) := goodIn_app (goodIn_of _ (by decide +kernel)) ggX0_load_X0_firstRefusedCall
set_option maxRecDepth 20000 in
theorem ggX0_load_X0_takeCallsOfInput : GoodIn wsX0_load wsX0_takeCallsOfInput := goodIn_r _ [61, 1, 62, 16, 63, 64, 65, 6, 66, 2, 30, 31, 32, 33, 67, 68, 69, 70, 71, 72, 73, 74, 75, 76, 77, 78, 79, 80, 81, 82, 83, 84, 85, 86] (by decide +kernel) (by decide +kernel)
set_option maxRecDepth 20000 in
theorem gX0_load_X0_takeCallsOfInput : GoodIn wsX0_load (wsV RX0 89 RX0 yX0_takeCallsOfInput wsX0_takeCallsOfInput) := goodIn_app (goodIn_of _ (by decide +kernel)) ggX0_load_X0_takeCallsOfInput
theorem dX0_load_0 : decode cX0_load 0 = .ok (.aload_n 0, 1) := by decide +kernel
theorem dX0_load_1 : decode cX0_load 1 = .ok (.invokevirtual 83, 3) := by decide +kernel
theorem dX0_load_4 : decode cX0_load 4 = .ok (.ifCond .ne 6, 3) := by decide +kernel
theorem dX0_load_7 : decode cX0_load 7 = .ok (.bipush (-4), 2) := by decide +kernel
theorem dX0_load_9 : decode cX0_load 9 = .ok (.ireturn, 1) := by decide +kernel
theorem dX0_load_10 : decode cX0_load 10 = .ok (.aload_n 0, 1) := by decide +kernel
theorem dX0_load_11 : decode cX0_load 11 = .ok (.invokevirtual 86, 3) := by decide +kernel
theorem dX0_load_14 : decode cX0_load 14 = .ok (.istore_n 1, 1) := by decide +kernel
theorem dX0_load_15 : decode cX0_load 15 = .ok (.iload_n 1, 1) := by decide +kernel
theorem dX0_load_16 : decode cX0_load 16 = .ok (.ifCond .eq 5, 3) := by decide +kernel
theorem dX0_load_19 : decode cX0_load 19 = .ok (.iload_n 1, 1) := by decide +kernel
theorem dX0_load_20 : decode cX0_load 20 = .ok (.ireturn, 1) := by decide +kernel
theorem dX0_load_21 : decode cX0_load 21 = .ok (.aload_n 0, 1) := by decide +kernel
theorem dX0_load_22 : decode cX0_load 22 = .ok (.invokevirtual 89, 3) := by decide +kernel
theorem dX0_load_25 : decode cX0_load 25 = .ok (.aload_n 0, 1) := by decide +kernel
theorem dX0_load_26 : decode cX0_load 26 = .ok (.iconst 0, 1) := by decide +kernel
theorem dX0_load_27 : decode cX0_load 27 = .ok (.putfield 77, 3) := by decide +kernel
theorem dX0_load_30 : decode cX0_load 30 = .ok (.aload_n 0, 1) := by decide +kernel
theorem dX0_load_31 : decode cX0_load 31 = .ok (.getfield 70, 3) := by decide +kernel
theorem dX0_load_34 : decode cX0_load 34 = .ok (.ireturn, 1) := by decide +kernel
set_option maxRecDepth 20000 in
theorem ggX0_buildDoubling_X0_personsFillCube : GoodIn wsX0_buildDoubling wsX0_personsFillCube := goodIn_r _ [10, 3, 11, 12, 13, 14, 15, 16, 17, 34, 35, 36, 37, 38, 39, 40, 41, 42, 43, 44, 45] (by decide +kernel) (by decide +kernel)
set_option maxRecDepth 20000 in
theorem gX0_buildDoubling_X0_personsFillCube : GoodIn wsX0_buildDoubling (wsV RX0 43 RX0 yX0_personsFillCube wsX0_personsFillCube) := goodIn_app (goodIn_of _ (by decide +kernel)) ggX0_buildDoubling_X0_personsFillCube
set_option maxRecDepth 20000 in
theorem ggX0_buildDoubling_X0_dropRounds : GoodIn wsX0_buildDoubling wsX0_dropRounds := goodIn_r _ [21, 4, 5, 34, 35, 36, 37, 38, 39, 40, 41, 42, 43, 44, 45] (by decide +kernel) (by decide +kernel)
set_option maxRecDepth 20000 in
theorem gX0_buildDoubling_X0_dropRounds : GoodIn wsX0_buildDoubling (wsV RX0 40 RX0 yX0_dropRounds wsX0_dropRounds) := goodIn_app (goodIn_of _ (by decide +kernel)) ggX0_buildDoubling_X0_dropRounds
set_option maxRecDepth 20000 in
theorem ggX0_buildDoubling_X0_putCallsOverStep : GoodIn wsX0_buildDoubling wsX0_putCallsOverStep := goodIn_r _ [25, 3, 26, 27, 28, 9, 29, 5, 30, 4, 31, 32, 33, 34, 35, 36, 37, 38, 39, 40, 41, 42, 43, 44, 45] (by decide +kernel) (by decide +kernel)
set_option maxRecDepth 20000 in
theorem gX0_buildDoubling_X0_putCallsOverStep : GoodIn wsX0_buildDoubling (wsV RX0 92 RX0 yX0_putCallsOverStep wsX0_putCallsOverStep) := goodIn_app (goodIn_of _ (by decide +kernel)) ggX0_buildDoubling_X0_putCallsOverStep
theorem dX0_buildDoubling_0 : decode cX0_buildDoubling 0 = .ok (.aload_n 0, 1) := by decide +kernel
theorem dX0_buildDoubling_1 : decode cX0_buildDoubling 1 = .ok (.invokevirtual 43, 3) := by decide +kernel
theorem dX0_buildDoubling_4 : decode cX0_buildDoubling 4 = .ok (.ifCond .ne 6, 3) := by decide +kernel
theorem dX0_buildDoubling_7 : decode cX0_buildDoubling 7 = .ok (.bipush (-14), 2) := by decide +kernel
theorem dX0_buildDoubling_9 : decode cX0_buildDoubling 9 = .ok (.ireturn, 1) := by decide +kernel
theorem dX0_buildDoubling_10 : decode cX0_buildDoubling 10 = .ok (.aload_n 0, 1) := by decide +kernel
theorem dX0_buildDoubling_11 : decode cX0_buildDoubling 11 = .ok (.getfield 13, 3) := by decide +kernel
theorem dX0_buildDoubling_14 : decode cX0_buildDoubling 14 = .ok (.iconst 2, 1) := by decide +kernel
theorem dX0_buildDoubling_15 : decode cX0_buildDoubling 15 = .ok (.if_icmp .ne 6, 3) := by decide +kernel
theorem dX0_buildDoubling_18 : decode cX0_buildDoubling 18 = .ok (.bipush (-11), 2) := by decide +kernel
theorem dX0_buildDoubling_20 : decode cX0_buildDoubling 20 = .ok (.ireturn, 1) := by decide +kernel
theorem dX0_buildDoubling_21 : decode cX0_buildDoubling 21 = .ok (.aload_n 0, 1) := by decide +kernel
theorem dX0_buildDoubling_22 : decode cX0_buildDoubling 22 = .ok (.getfield 16, 3) := by decide +kernel
theorem dX0_buildDoubling_25 : decode cX0_buildDoubling 25 = .ok (.ifCond .eq 14, 3) := by decide +kernel
theorem dX0_buildDoubling_28 : decode cX0_buildDoubling 28 = .ok (.aload_n 0, 1) := by decide +kernel
theorem dX0_buildDoubling_29 : decode cX0_buildDoubling 29 = .ok (.getfield 16, 3) := by decide +kernel
theorem dX0_buildDoubling_32 : decode cX0_buildDoubling 32 = .ok (.iconst 4, 1) := by decide +kernel
theorem dX0_buildDoubling_33 : decode cX0_buildDoubling 33 = .ok (.if_icmp .eq 6, 3) := by decide +kernel
theorem dX0_buildDoubling_36 : decode cX0_buildDoubling 36 = .ok (.bipush (-10), 2) := by decide +kernel
theorem dX0_buildDoubling_38 : decode cX0_buildDoubling 38 = .ok (.ireturn, 1) := by decide +kernel
theorem dX0_buildDoubling_39 : decode cX0_buildDoubling 39 = .ok (.aload_n 0, 1) := by decide +kernel
theorem dX0_buildDoubling_40 : decode cX0_buildDoubling 40 = .ok (.invokevirtual 40, 3) := by decide +kernel
theorem dX0_buildDoubling_43 : decode cX0_buildDoubling 43 = .ok (.iconst 0, 1) := by decide +kernel
theorem dX0_buildDoubling_44 : decode cX0_buildDoubling 44 = .ok (.istore_n 1, 1) := by decide +kernel
theorem dX0_buildDoubling_45 : decode cX0_buildDoubling 45 = .ok (.iload_n 1, 1) := by decide +kernel
theorem dX0_buildDoubling_46 : decode cX0_buildDoubling 46 = .ok (.iconst 3, 1) := by decide +kernel
theorem dX0_buildDoubling_47 : decode cX0_buildDoubling 47 = .ok (.if_icmp .ge 36, 3) := by decide +kernel
theorem dX0_buildDoubling_50 : decode cX0_buildDoubling 50 = .ok (.iconst 1, 1) := by decide +kernel
theorem dX0_buildDoubling_51 : decode cX0_buildDoubling 51 = .ok (.iload_n 1, 1) := by decide +kernel
theorem dX0_buildDoubling_52 : decode cX0_buildDoubling 52 = .ok (.ishl, 1) := by decide +kernel
theorem dX0_buildDoubling_53 : decode cX0_buildDoubling 53 = .ok (.aload_n 0, 1) := by decide +kernel
theorem dX0_buildDoubling_54 : decode cX0_buildDoubling 54 = .ok (.getfield 9, 3) := by decide +kernel
theorem dX0_buildDoubling_57 : decode cX0_buildDoubling 57 = .ok (.if_icmp .ge 26, 3) := by decide +kernel
theorem dX0_buildDoubling_60 : decode cX0_buildDoubling 60 = .ok (.aload_n 0, 1) := by decide +kernel
theorem dX0_buildDoubling_61 : decode cX0_buildDoubling 61 = .ok (.dup, 1) := by decide +kernel
theorem dX0_buildDoubling_62 : decode cX0_buildDoubling 62 = .ok (.getfield 55, 3) := by decide +kernel
theorem dX0_buildDoubling_65 : decode cX0_buildDoubling 65 = .ok (.iconst 1, 1) := by decide +kernel
theorem dX0_buildDoubling_66 : decode cX0_buildDoubling 66 = .ok (.iadd, 1) := by decide +kernel
theorem dX0_buildDoubling_67 : decode cX0_buildDoubling 67 = .ok (.putfield 55, 3) := by decide +kernel
theorem dX0_buildDoubling_70 : decode cX0_buildDoubling 70 = .ok (.aload_n 0, 1) := by decide +kernel
theorem dX0_buildDoubling_71 : decode cX0_buildDoubling 71 = .ok (.iconst 1, 1) := by decide +kernel
theorem dX0_buildDoubling_72 : decode cX0_buildDoubling 72 = .ok (.iload_n 1, 1) := by decide +kernel
theorem dX0_buildDoubling_73 : decode cX0_buildDoubling 73 = .ok (.ishl, 1) := by decide +kernel
theorem dX0_buildDoubling_74 : decode cX0_buildDoubling 74 = .ok (.invokevirtual 92, 3) := by decide +kernel
theorem dX0_buildDoubling_77 : decode cX0_buildDoubling 77 = .ok (.iinc 1 1, 3) := by decide +kernel
theorem dX0_buildDoubling_80 : decode cX0_buildDoubling 80 = .ok (.goto (-35), 3) := by decide +kernel
theorem dX0_buildDoubling_83 : decode cX0_buildDoubling 83 = .ok (.aload_n 0, 1) := by decide +kernel
theorem dX0_buildDoubling_84 : decode cX0_buildDoubling 84 = .ok (.getfield 70, 3) := by decide +kernel
theorem dX0_buildDoubling_87 : decode cX0_buildDoubling 87 = .ok (.ireturn, 1) := by decide +kernel
set_option maxRecDepth 20000 in
theorem ggX0_buildFourCore_X0_dropRounds : GoodIn wsX0_buildFourCore wsX0_dropRounds := goodIn_r _ [10, 4, 5, 27, 28, 29, 30, 31, 32, 33, 34, 35, 36, 37, 38] (by decide +kernel) (by decide +kernel)
set_option maxRecDepth 20000 in
theorem gX0_buildFourCore_X0_dropRounds : GoodIn wsX0_buildFourCore (wsV RX0 40 RX0 yX0_dropRounds wsX0_dropRounds) := goodIn_app (goodIn_of _ (by decide +kernel)) ggX0_buildFourCore_X0_dropRounds
set_option maxRecDepth 20000 in
theorem ggX0_buildFourCore_X0_putGathering : GoodIn wsX0_buildFourCore wsX0_putGathering := goodIn_r _ [14, 1, 4, 15, 16, 17, 9, 18, 5, 19, 20, 21, 22, 27, 28, 29, 30, 31, 32, 33, 34, 35, 36, 37, 38] (by decide +kernel) (by decide +kernel)
set_option maxRecDepth 20000 in
theorem gX0_buildFourCore_X0_putGathering : GoodIn wsX0_buildFourCore (wsV RX0 96 RX0 yX0_putGathering wsX0_putGathering) := goodIn_app (goodIn_of _ (by decide +kernel)) ggX0_buildFourCore_X0_putGathering
set_option maxRecDepth 20000 in
theorem ggX0_buildFourCore_X0_putCall : GoodIn wsX0_buildFourCore wsX0_putCall := goodIn_r _ [18, 5, 19, 4, 20, 21, 22, 27, 28, 29, 30, 31, 32, 33, 34, 35, 36, 37, 38] (by decide +kernel) (by decide +kernel)
set_option maxRecDepth 20000 in
theorem gX0_buildFourCore_X0_putCall : GoodIn wsX0_buildFourCore (wsV RX0 73 RX0 yX0_putCall wsX0_putCall) := goodIn_app (goodIn_of _ (by decide +kernel)) ggX0_buildFourCore_X0_putCall
set_option maxRecDepth 20000 in
theorem ggX0_buildFourCore_X0_putSpreading : GoodIn wsX0_buildFourCore wsX0_putSpreading := goodIn_r _ [26, 4, 15, 16, 17, 9, 18, 5, 19, 20, 21, 22, 27, 28, 29, 30, 31, 32, 33, 34, 35, 36, 37, 38] (by decide +kernel) (by decide +kernel)
set_option maxRecDepth 20000 in
theorem gX0_buildFourCore_X0_putSpreading : GoodIn wsX0_buildFourCore (wsV RX0 100 RX0 yX0_putSpreading wsX0_putSpreading) := goodIn_app (goodIn_of _ (by decide +kernel)) ggX0_buildFourCore_X0_putSpreading
theorem dX0_buildFourCore_0 : decode cX0_buildFourCore 0 = .ok (.aload_n 0, 1) := by decide +kernel
theorem dX0_buildFourCore_1 : decode cX0_buildFourCore 1 = .ok (.getfield 9, 3) := by decide +kernel
theorem dX0_buildFourCore_4 : decode cX0_buildFourCore 4 = .ok (.iconst 4, 1) := by decide +kernel
theorem dX0_buildFourCore_5 : decode cX0_buildFourCore 5 = .ok (.if_icmp .ge 6, 3) := by decide +kernel
theorem dX0_buildFourCore_8 : decode cX0_buildFourCore 8 = .ok (.bipush (-14), 2) := by decide +kernel
theorem dX0_buildFourCore_10 : decode cX0_buildFourCore 10 = .ok (.ireturn, 1) := by decide +kernel
theorem dX0_buildFourCore_11 : decode cX0_buildFourCore 11 = .ok (.aload_n 0, 1) := by decide +kernel
theorem dX0_buildFourCore_12 : decode cX0_buildFourCore 12 = .ok (.getfield 13, 3) := by decide +kernel
theorem dX0_buildFourCore_15 : decode cX0_buildFourCore 15 = .ok (.iconst 2, 1) := by decide +kernel
theorem dX0_buildFourCore_16 : decode cX0_buildFourCore 16 = .ok (.if_icmp .ne 6, 3) := by decide +kernel
theorem dX0_buildFourCore_19 : decode cX0_buildFourCore 19 = .ok (.bipush (-11), 2) := by decide +kernel
theorem dX0_buildFourCore_21 : decode cX0_buildFourCore 21 = .ok (.ireturn, 1) := by decide +kernel
theorem dX0_buildFourCore_22 : decode cX0_buildFourCore 22 = .ok (.aload_n 0, 1) := by decide +kernel
theorem dX0_buildFourCore_23 : decode cX0_buildFourCore 23 = .ok (.getfield 16, 3) := by decide +kernel
theorem dX0_buildFourCore_26 : decode cX0_buildFourCore 26 = .ok (.ifCond .eq 6, 3) := by decide +kernel
theorem dX0_buildFourCore_29 : decode cX0_buildFourCore 29 = .ok (.bipush (-10), 2) := by decide +kernel
theorem dX0_buildFourCore_31 : decode cX0_buildFourCore 31 = .ok (.ireturn, 1) := by decide +kernel
theorem dX0_buildFourCore_32 : decode cX0_buildFourCore 32 = .ok (.aload_n 0, 1) := by decide +kernel
theorem dX0_buildFourCore_33 : decode cX0_buildFourCore 33 = .ok (.invokevirtual 40, 3) := by decide +kernel
theorem dX0_buildFourCore_36 : decode cX0_buildFourCore 36 = .ok (.aload_n 0, 1) := by decide +kernel
theorem dX0_buildFourCore_37 : decode cX0_buildFourCore 37 = .ok (.iconst 4, 1) := by decide +kernel
theorem dX0_buildFourCore_38 : decode cX0_buildFourCore 38 = .ok (.iconst 0, 1) := by decide +kernel
theorem dX0_buildFourCore_39 : decode cX0_buildFourCore 39 = .ok (.invokevirtual 96, 3) := by decide +kernel
theorem dX0_buildFourCore_42 : decode cX0_buildFourCore 42 = .ok (.aload_n 0, 1) := by decide +kernel
theorem dX0_buildFourCore_43 : decode cX0_buildFourCore 43 = .ok (.dup, 1) := by decide +kernel
theorem dX0_buildFourCore_44 : decode cX0_buildFourCore 44 = .ok (.getfield 55, 3) := by decide +kernel
theorem dX0_buildFourCore_47 : decode cX0_buildFourCore 47 = .ok (.iconst 1, 1) := by decide +kernel
theorem dX0_buildFourCore_48 : decode cX0_buildFourCore 48 = .ok (.iadd, 1) := by decide +kernel
theorem dX0_buildFourCore_49 : decode cX0_buildFourCore 49 = .ok (.putfield 55, 3) := by decide +kernel
theorem dX0_buildFourCore_52 : decode cX0_buildFourCore 52 = .ok (.aload_n 0, 1) := by decide +kernel
theorem dX0_buildFourCore_53 : decode cX0_buildFourCore 53 = .ok (.iconst 0, 1) := by decide +kernel
theorem dX0_buildFourCore_54 : decode cX0_buildFourCore 54 = .ok (.iconst 1, 1) := by decide +kernel
theorem dX0_buildFourCore_55 : decode cX0_buildFourCore 55 = .ok (.iconst 0, 1) := by decide +kernel
theorem dX0_buildFourCore_56 : decode cX0_buildFourCore 56 = .ok (.invokevirtual 73, 3) := by decide +kernel
theorem dX0_buildFourCore_59 : decode cX0_buildFourCore 59 = .ok (.aload_n 0, 1) := by decide +kernel
theorem dX0_buildFourCore_60 : decode cX0_buildFourCore 60 = .ok (.iconst 2, 1) := by decide +kernel
theorem dX0_buildFourCore_61 : decode cX0_buildFourCore 61 = .ok (.iconst 3, 1) := by decide +kernel
theorem dX0_buildFourCore_62 : decode cX0_buildFourCore 62 = .ok (.iconst 0, 1) := by decide +kernel
theorem dX0_buildFourCore_63 : decode cX0_buildFourCore 63 = .ok (.invokevirtual 73, 3) := by decide +kernel
theorem dX0_buildFourCore_66 : decode cX0_buildFourCore 66 = .ok (.aload_n 0, 1) := by decide +kernel
theorem dX0_buildFourCore_67 : decode cX0_buildFourCore 67 = .ok (.dup, 1) := by decide +kernel
theorem dX0_buildFourCore_68 : decode cX0_buildFourCore 68 = .ok (.getfield 55, 3) := by decide +kernel
theorem dX0_buildFourCore_71 : decode cX0_buildFourCore 71 = .ok (.iconst 1, 1) := by decide +kernel
theorem dX0_buildFourCore_72 : decode cX0_buildFourCore 72 = .ok (.iadd, 1) := by decide +kernel
theorem dX0_buildFourCore_73 : decode cX0_buildFourCore 73 = .ok (.putfield 55, 3) := by decide +kernel
theorem dX0_buildFourCore_76 : decode cX0_buildFourCore 76 = .ok (.aload_n 0, 1) := by decide +kernel
theorem dX0_buildFourCore_77 : decode cX0_buildFourCore 77 = .ok (.iconst 0, 1) := by decide +kernel
theorem dX0_buildFourCore_78 : decode cX0_buildFourCore 78 = .ok (.iconst 2, 1) := by decide +kernel
theorem dX0_buildFourCore_79 : decode cX0_buildFourCore 79 = .ok (.iconst 0, 1) := by decide +kernel
theorem dX0_buildFourCore_80 : decode cX0_buildFourCore 80 = .ok (.invokevirtual 73, 3) := by decide +kernel
theorem dX0_buildFourCore_83 : decode cX0_buildFourCore 83 = .ok (.aload_n 0, 1) := by decide +kernel
theorem dX0_buildFourCore_84 : decode cX0_buildFourCore 84 = .ok (.iconst 1, 1) := by decide +kernel
theorem dX0_buildFourCore_85 : decode cX0_buildFourCore 85 = .ok (.iconst 3, 1) := by decide +kernel
theorem dX0_buildFourCore_86 : decode cX0_buildFourCore 86 = .ok (.iconst 0, 1) := by decide +kernel
theorem dX0_buildFourCore_87 : decode cX0_buildFourCore 87 = .ok (.invokevirtual 73, 3) := by decide +kernel
theorem dX0_buildFourCore_90 : decode cX0_buildFourCore 90 = .ok (.aload_n 0, 1) := by decide +kernel
theorem dX0_buildFourCore_91 : decode cX0_buildFourCore 91 = .ok (.iconst 4, 1) := by decide +kernel
theorem dX0_buildFourCore_92 : decode cX0_buildFourCore 92 = .ok (.aload_n 0, 1) := by decide +kernel
theorem dX0_buildFourCore_93 : decode cX0_buildFourCore 93 = .ok (.getfield 9, 3) := by decide +kernel
theorem dX0_buildFourCore_96 : decode cX0_buildFourCore 96 = .ok (.iconst 1, 1) := by decide +kernel
theorem dX0_buildFourCore_97 : decode cX0_buildFourCore 97 = .ok (.isub, 1) := by decide +kernel
theorem dX0_buildFourCore_98 : decode cX0_buildFourCore 98 = .ok (.iconst 0, 1) := by decide +kernel
theorem dX0_buildFourCore_99 : decode cX0_buildFourCore 99 = .ok (.invokevirtual 100, 3) := by decide +kernel
theorem dX0_buildFourCore_102 : decode cX0_buildFourCore 102 = .ok (.aload_n 0, 1) := by decide +kernel
theorem dX0_buildFourCore_103 : decode cX0_buildFourCore 103 = .ok (.getfield 70, 3) := by decide +kernel
theorem dX0_buildFourCore_106 : decode cX0_buildFourCore 106 = .ok (.ireturn, 1) := by decide +kernel
set_option maxRecDepth 20000 in
theorem ggX0_buildGatherSpread_X0_graphJoins : GoodIn wsX0_buildGatherSpread wsX0_graphJoins := goodIn_r _ [8, 9, 10, 11, 12, 13, 1, 14, 15, 16, 17, 18, 19, 20, 42, 43, 44, 45, 46, 47, 48, 49, 50, 51, 52, 53] (by decide +kernel) (by decide +kernel)
set_option maxRecDepth 20000 in
theorem gX0_buildGatherSpread_X0_graphJoins : GoodIn wsX0_buildGatherSpread (wsV RX0 51 RX0 yX0_graphJoins wsX0_graphJoins) := goodIn_app (goodIn_of _ (by decide +kernel)) ggX0_buildGatherSpread_X0_graphJoins
set_option maxRecDepth 20000 in
theorem ggX0_buildGatherSpread_X0_dropRounds : GoodIn wsX0_buildGatherSpread wsX0_dropRounds := goodIn_r _ [24, 25, 3, 42, 43, 44, 45, 46, 47, 48, 49, 50, 51, 52, 53] (by decide +kernel) (by decide +kernel)
set_option maxRecDepth 20000 in
theorem gX0_buildGatherSpread_X0_dropRounds : GoodIn wsX0_buildGatherSpread (wsV RX0 40 RX0 yX0_dropRounds wsX0_dropRounds) := goodIn_app (goodIn_of _ (by decide +kernel)) ggX0_buildGatherSpread_X0_dropRounds
set_option maxRecDepth 20000 in
theorem ggX0_buildGatherSpread_X0_putGathering : GoodIn wsX0_buildGatherSpread wsX0_putGathering := goodIn_r _ [29, 1, 25, 30, 31, 32, 7, 33, 3, 34, 35, 36, 37, 42, 43, 44, 45, 46, 47, 48, 49, 50, 51, 52, 53] (by decide +kernel) (by decide +kernel)
set_option maxRecDepth 20000 in
theorem gX0_buildGatherSpread_X0_putGathering : GoodIn wsX0_buildGatherSpread (wsV RX0 96 RX0 yX0_putGathering wsX0_putGathering) := goodIn_app (goodIn_of _ (by decide +kernel)) ggX0_buildGatherSpread_X0_putGathering
set_option maxRecDepth 20000 in
theorem ggX0_buildGatherSpread_X0_putSpreading : GoodIn wsX0_buildGatherSpread wsX0_putSpreading := goodIn_r _ [41, 25, 30, 31, 32, 7, 33, 3, 34, 35, 36, 37, 42, 43, 44, 45, 46, 47, 48, 49, 50, 51, 52, 53] (by decide +kernel) (by decide +kernel)
set_option maxRecDepth 20000 in
theorem gX0_buildGatherSpread_X0_putSpreading : GoodIn wsX0_buildGatherSpread (wsV RX0 100 RX0 yX0_putSpreading wsX0_putSpreading) := goodIn_app (goodIn_of _ (by decide +kernel)) ggX0_buildGatherSpread_X0_putSpreading
theorem dX0_buildGatherSpread_0 : decode cX0_buildGatherSpread 0 = .ok (.iconst 1, 1) := by decide +kernel
theorem dX0_buildGatherSpread_1 : decode cX0_buildGatherSpread 1 = .ok (.istore_n 1, 1) := by decide +kernel
theorem dX0_buildGatherSpread_2 : decode cX0_buildGatherSpread 2 = .ok (.iload_n 1, 1) := by decide +kernel
theorem dX0_buildGatherSpread_3 : decode cX0_buildGatherSpread 3 = .ok (.aload_n 0, 1) := by decide +kernel
theorem dX0_buildGatherSpread_4 : decode cX0_buildGatherSpread 4 = .ok (.getfield 9, 3) := by decide +kernel
theorem dX0_buildGatherSpread_7 : decode cX0_buildGatherSpread 7 = .ok (.if_icmp .ge 21, 3) := by decide +kernel
theorem dX0_buildGatherSpread_10 : decode cX0_buildGatherSpread 10 = .ok (.aload_n 0, 1) := by decide +kernel
theorem dX0_buildGatherSpread_11 : decode cX0_buildGatherSpread 11 = .ok (.iconst 0, 1) := by decide +kernel
theorem dX0_buildGatherSpread_12 : decode cX0_buildGatherSpread 12 = .ok (.iload_n 1, 1) := by decide +kernel
theorem dX0_buildGatherSpread_13 : decode cX0_buildGatherSpread 13 = .ok (.invokevirtual 51, 3) := by decide +kernel
theorem dX0_buildGatherSpread_16 : decode cX0_buildGatherSpread 16 = .ok (.ifCond .ne 6, 3) := by decide +kernel
theorem dX0_buildGatherSpread_19 : decode cX0_buildGatherSpread 19 = .ok (.bipush (-10), 2) := by decide +kernel
theorem dX0_buildGatherSpread_21 : decode cX0_buildGatherSpread 21 = .ok (.ireturn, 1) := by decide +kernel
theorem dX0_buildGatherSpread_22 : decode cX0_buildGatherSpread 22 = .ok (.iinc 1 1, 3) := by decide +kernel
theorem dX0_buildGatherSpread_25 : decode cX0_buildGatherSpread 25 = .ok (.goto (-23), 3) := by decide +kernel
theorem dX0_buildGatherSpread_28 : decode cX0_buildGatherSpread 28 = .ok (.aload_n 0, 1) := by decide +kernel
theorem dX0_buildGatherSpread_29 : decode cX0_buildGatherSpread 29 = .ok (.getfield 13, 3) := by decide +kernel
theorem dX0_buildGatherSpread_32 : decode cX0_buildGatherSpread 32 = .ok (.iconst 2, 1) := by decide +kernel
theorem dX0_buildGatherSpread_33 : decode cX0_buildGatherSpread 33 = .ok (.if_icmp .ne 7, 3) := by decide +kernel
theorem dX0_buildGatherSpread_36 : decode cX0_buildGatherSpread 36 = .ok (.iconst 1, 1) := by decide +kernel
theorem dX0_buildGatherSpread_37 : decode cX0_buildGatherSpread 37 = .ok (.goto 4, 3) := by decide +kernel
theorem dX0_buildGatherSpread_40 : decode cX0_buildGatherSpread 40 = .ok (.iconst 0, 1) := by decide +kernel
theorem dX0_buildGatherSpread_41 : decode cX0_buildGatherSpread 41 = .ok (.istore_n 1, 1) := by decide +kernel
theorem dX0_buildGatherSpread_42 : decode cX0_buildGatherSpread 42 = .ok (.iload_n 1, 1) := by decide +kernel
theorem dX0_buildGatherSpread_43 : decode cX0_buildGatherSpread 43 = .ok (.ifCond .eq 12, 3) := by decide +kernel
theorem dX0_buildGatherSpread_46 : decode cX0_buildGatherSpread 46 = .ok (.aload_n 0, 1) := by decide +kernel
theorem dX0_buildGatherSpread_47 : decode cX0_buildGatherSpread 47 = .ok (.getfield 9, 3) := by decide +kernel
theorem dX0_buildGatherSpread_50 : decode cX0_buildGatherSpread 50 = .ok (.iconst 1, 1) := by decide +kernel
theorem dX0_buildGatherSpread_51 : decode cX0_buildGatherSpread 51 = .ok (.isub, 1) := by decide +kernel
theorem dX0_buildGatherSpread_52 : decode cX0_buildGatherSpread 52 = .ok (.goto 9, 3) := by decide +kernel
theorem dX0_buildGatherSpread_55 : decode cX0_buildGatherSpread 55 = .ok (.aload_n 0, 1) := by decide +kernel
theorem dX0_buildGatherSpread_56 : decode cX0_buildGatherSpread 56 = .ok (.getfield 9, 3) := by decide +kernel
theorem dX0_buildGatherSpread_59 : decode cX0_buildGatherSpread 59 = .ok (.iconst 2, 1) := by decide +kernel
theorem dX0_buildGatherSpread_60 : decode cX0_buildGatherSpread 60 = .ok (.isub, 1) := by decide +kernel
theorem dX0_buildGatherSpread_61 : decode cX0_buildGatherSpread 61 = .ok (.istore_n 2, 1) := by decide +kernel
theorem dX0_buildGatherSpread_62 : decode cX0_buildGatherSpread 62 = .ok (.aload_n 0, 1) := by decide +kernel
theorem dX0_buildGatherSpread_63 : decode cX0_buildGatherSpread 63 = .ok (.invokevirtual 40, 3) := by decide +kernel
theorem dX0_buildGatherSpread_66 : decode cX0_buildGatherSpread 66 = .ok (.aload_n 0, 1) := by decide +kernel
theorem dX0_buildGatherSpread_67 : decode cX0_buildGatherSpread 67 = .ok (.iconst 1, 1) := by decide +kernel
theorem dX0_buildGatherSpread_68 : decode cX0_buildGatherSpread 68 = .ok (.iload_n 1, 1) := by decide +kernel
theorem dX0_buildGatherSpread_69 : decode cX0_buildGatherSpread 69 = .ok (.invokevirtual 96, 3) := by decide +kernel
theorem dX0_buildGatherSpread_72 : decode cX0_buildGatherSpread 72 = .ok (.aload_n 0, 1) := by decide +kernel
theorem dX0_buildGatherSpread_73 : decode cX0_buildGatherSpread 73 = .ok (.iconst 1, 1) := by decide +kernel
theorem dX0_buildGatherSpread_74 : decode cX0_buildGatherSpread 74 = .ok (.iload_n 2, 1) := by decide +kernel
theorem dX0_buildGatherSpread_75 : decode cX0_buildGatherSpread 75 = .ok (.iload_n 1, 1) := by decide +kernel
theorem dX0_buildGatherSpread_76 : decode cX0_buildGatherSpread 76 = .ok (.invokevirtual 100, 3) := by decide +kernel
theorem dX0_buildGatherSpread_79 : decode cX0_buildGatherSpread 79 = .ok (.aload_n 0, 1) := by decide +kernel
theorem dX0_buildGatherSpread_80 : decode cX0_buildGatherSpread 80 = .ok (.getfield 70, 3) := by decide +kernel
theorem dX0_buildGatherSpread_83 : decode cX0_buildGatherSpread 83 = .ok (.ireturn, 1) := by decide +kernel
theorem dX0_personCount_0 : decode cX0_personCount 0 = .ok (.aload_n 0, 1) := by decide +kernel
theorem dX0_personCount_1 : decode cX0_personCount 1 = .ok (.getfield 9, 3) := by decide +kernel
theorem dX0_personCount_4 : decode cX0_personCount 4 = .ok (.ireturn, 1) := by decide +kernel
theorem dX0_roundCount_0 : decode cX0_roundCount 0 = .ok (.aload_n 0, 1) := by decide +kernel
theorem dX0_roundCount_1 : decode cX0_roundCount 1 = .ok (.getfield 55, 3) := by decide +kernel
theorem dX0_roundCount_4 : decode cX0_roundCount 4 = .ok (.ireturn, 1) := by decide +kernel
theorem dX0_callCount_0 : decode cX0_callCount 0 = .ok (.aload_n 0, 1) := by decide +kernel
theorem dX0_callCount_1 : decode cX0_callCount 1 = .ok (.getfield 70, 3) := by decide +kernel
theorem dX0_callCount_4 : decode cX0_callCount 4 = .ok (.ireturn, 1) := by decide +kernel
set_option maxRecDepth 20000 in
theorem ggX0_describeCall_X0_callExists : GoodIn wsX0_describeCall wsX0_callExists := goodIn_r _ [9, 10, 11, 12, 13, 14, 15, 16, 17, 18, 19, 20, 21, 22] (by decide +kernel) (by decide +kernel)
set_option maxRecDepth 20000 in
theorem gX0_describeCall_X0_callExists : GoodIn wsX0_describeCall (wsV RX0 103 RX0 yX0_callExists wsX0_callExists) := goodIn_app (goodIn_of _ (by decide +kernel)) ggX0_describeCall_X0_callExists
theorem dX0_describeCall_0 : decode cX0_describeCall 0 = .ok (.aload_n 0, 1) := by decide +kernel
theorem dX0_describeCall_1 : decode cX0_describeCall 1 = .ok (.iload_n 1, 1) := by decide +kernel
theorem dX0_describeCall_2 : decode cX0_describeCall 2 = .ok (.invokevirtual 103, 3) := by decide +kernel
theorem dX0_describeCall_5 : decode cX0_describeCall 5 = .ok (.ifCond .ne 6, 3) := by decide +kernel
theorem dX0_describeCall_8 : decode cX0_describeCall 8 = .ok (.bipush (-7), 2) := by decide +kernel
theorem dX0_describeCall_10 : decode cX0_describeCall 10 = .ok (.ireturn, 1) := by decide +kernel
theorem dX0_describeCall_11 : decode cX0_describeCall 11 = .ok (.aload_n 0, 1) := by decide +kernel
theorem dX0_describeCall_12 : decode cX0_describeCall 12 = .ok (.getfield 29, 3) := by decide +kernel
theorem dX0_describeCall_15 : decode cX0_describeCall 15 = .ok (.iload_n 1, 1) := by decide +kernel
theorem dX0_describeCall_16 : decode cX0_describeCall 16 = .ok (.baload, 1) := by decide +kernel
theorem dX0_describeCall_17 : decode cX0_describeCall 17 = .ok (.ifCond .eq 7, 3) := by decide +kernel
theorem dX0_describeCall_20 : decode cX0_describeCall 20 = .ok (.iconst 1, 1) := by decide +kernel
theorem dX0_describeCall_21 : decode cX0_describeCall 21 = .ok (.goto 4, 3) := by decide +kernel
theorem dX0_describeCall_24 : decode cX0_describeCall 24 = .ok (.iconst 0, 1) := by decide +kernel
theorem dX0_describeCall_25 : decode cX0_describeCall 25 = .ok (.istore_n 2, 1) := by decide +kernel
theorem dX0_describeCall_26 : decode cX0_describeCall 26 = .ok (.sipush 1000, 3) := by decide +kernel
theorem dX0_describeCall_29 : decode cX0_describeCall 29 = .ok (.aload_n 0, 1) := by decide +kernel
theorem dX0_describeCall_30 : decode cX0_describeCall 30 = .ok (.getfield 19, 3) := by decide +kernel
theorem dX0_describeCall_33 : decode cX0_describeCall 33 = .ok (.iload_n 1, 1) := by decide +kernel
theorem dX0_describeCall_34 : decode cX0_describeCall 34 = .ok (.iaload, 1) := by decide +kernel
theorem dX0_describeCall_35 : decode cX0_describeCall 35 = .ok (.imul, 1) := by decide +kernel
theorem dX0_describeCall_36 : decode cX0_describeCall 36 = .ok (.bipush 100, 2) := by decide +kernel
theorem dX0_describeCall_38 : decode cX0_describeCall 38 = .ok (.iload_n 2, 1) := by decide +kernel
theorem dX0_describeCall_39 : decode cX0_describeCall 39 = .ok (.imul, 1) := by decide +kernel
theorem dX0_describeCall_40 : decode cX0_describeCall 40 = .ok (.iadd, 1) := by decide +kernel
theorem dX0_describeCall_41 : decode cX0_describeCall 41 = .ok (.bipush 10, 2) := by decide +kernel
theorem dX0_describeCall_43 : decode cX0_describeCall 43 = .ok (.aload_n 0, 1) := by decide +kernel
theorem dX0_describeCall_44 : decode cX0_describeCall 44 = .ok (.getfield 23, 3) := by decide +kernel
theorem dX0_describeCall_47 : decode cX0_describeCall 47 = .ok (.iload_n 1, 1) := by decide +kernel
theorem dX0_describeCall_48 : decode cX0_describeCall 48 = .ok (.iaload, 1) := by decide +kernel
theorem dX0_describeCall_49 : decode cX0_describeCall 49 = .ok (.imul, 1) := by decide +kernel
theorem dX0_describeCall_50 : decode cX0_describeCall 50 = .ok (.iadd, 1) := by decide +kernel
theorem dX0_describeCall_51 : decode cX0_describeCall 51 = .ok (.aload_n 0, 1) := by decide +kernel
theorem dX0_describeCall_52 : decode cX0_describeCall 52 = .ok (.getfield 26, 3) := by decide +kernel
theorem dX0_describeCall_55 : decode cX0_describeCall 55 = .ok (.iload_n 1, 1) := by decide +kernel
theorem dX0_describeCall_56 : decode cX0_describeCall 56 = .ok (.iaload, 1) := by decide +kernel
theorem dX0_describeCall_57 : decode cX0_describeCall 57 = .ok (.iadd, 1) := by decide +kernel
theorem dX0_describeCall_58 : decode cX0_describeCall 58 = .ok (.ireturn, 1) := by decide +kernel
set_option maxRecDepth 20000 in
theorem ggX0_knowledge_X0_personExists : GoodIn wsX0_knowledge wsX0_personExists := goodIn_r _ [6, 7, 29, 30, 31, 32, 33, 34, 35, 36, 37, 38, 39, 40] (by decide +kernel) (by decide +kernel)
set_option maxRecDepth 20000 in
theorem gX0_knowledge_X0_personExists : GoodIn wsX0_knowledge (wsV RX0 47 RX0 yX0_personExists wsX0_personExists) := goodIn_app (goodIn_of _ (by decide +kernel)) ggX0_knowledge_X0_personExists
set_option maxRecDepth 20000 in
theorem ggX0_knowledge_X0_knownAfterRounds : GoodIn wsX0_knowledge wsX0_knownAfterRounds := goodIn_r _ [11, 12, 13, 14, 15, 16, 5, 17, 7, 18, 19, 20, 21, 22, 23, 24, 25, 29, 30, 31, 32, 33, 34, 35, 36, 37, 38, 39, 40] (by decide +kernel) (by decide +kernel)
set_option maxRecDepth 20000 in
theorem gX0_knowledge_X0_knownAfterRounds : GoodIn wsX0_knowledge (wsV RX0 106 RX0 yX0_knownAfterRounds wsX0_knownAfterRounds) := goodIn_app (goodIn_of _ (by decide +kernel)) ggX0_knowledge_X0_knownAfterRounds
set_option maxRecDepth 20000 in
theorem ggX0_knowledge_X0_itemsOf : GoodIn wsX0_knowledge wsX0_itemsOf := goodIn_r _ [28] (by decide +kernel) (by decide +kernel)
set_option maxRecDepth 20000 in
theorem gX0_knowledge_X0_itemsOf : GoodIn wsX0_knowledge (va_wsS RX0 110 yX0_itemsOf wsX0_itemsOf) := goodIn_app (goodIn_of _ (by decide +kernel)) ggX0_knowledge_X0_itemsOf
theorem dX0_knowledge_0 : decode cX0_knowledge 0 = .ok (.aload_n 0, 1) := by decide +kernel
theorem dX0_knowledge_1 : decode cX0_knowledge 1 = .ok (.iload_n 1, 1) := by decide +kernel
theorem dX0_knowledge_2 : decode cX0_knowledge 2 = .ok (.invokevirtual 47, 3) := by decide +kernel
theorem dX0_knowledge_5 : decode cX0_knowledge 5 = .ok (.ifCond .ne 6, 3) := by decide +kernel
theorem dX0_knowledge_8 : decode cX0_knowledge 8 = .ok (.bipush (-6), 2) := by decide +kernel
theorem dX0_knowledge_10 : decode cX0_knowledge 10 = .ok (.ireturn, 1) := by decide +kernel
theorem dX0_knowledge_11 : decode cX0_knowledge 11 = .ok (.iload_n 2, 1) := by decide +kernel
theorem dX0_knowledge_12 : decode cX0_knowledge 12 = .ok (.ifCond .lt 11, 3) := by decide +kernel
theorem dX0_knowledge_15 : decode cX0_knowledge 15 = .ok (.iload_n 2, 1) := by decide +kernel
theorem dX0_knowledge_16 : decode cX0_knowledge 16 = .ok (.aload_n 0, 1) := by decide +kernel
theorem dX0_knowledge_17 : decode cX0_knowledge 17 = .ok (.getfield 55, 3) := by decide +kernel
theorem dX0_knowledge_20 : decode cX0_knowledge 20 = .ok (.if_icmp .le 6, 3) := by decide +kernel
theorem dX0_knowledge_23 : decode cX0_knowledge 23 = .ok (.bipush (-5), 2) := by decide +kernel
theorem dX0_knowledge_25 : decode cX0_knowledge 25 = .ok (.ireturn, 1) := by decide +kernel
theorem dX0_knowledge_26 : decode cX0_knowledge 26 = .ok (.aload_n 0, 1) := by decide +kernel
theorem dX0_knowledge_27 : decode cX0_knowledge 27 = .ok (.iload_n 2, 1) := by decide +kernel
theorem dX0_knowledge_28 : decode cX0_knowledge 28 = .ok (.invokevirtual 106, 3) := by decide +kernel
theorem dX0_knowledge_31 : decode cX0_knowledge 31 = .ok (.iload_n 1, 1) := by decide +kernel
theorem dX0_knowledge_32 : decode cX0_knowledge 32 = .ok (.invokestatic 110, 3) := by decide +kernel
theorem dX0_knowledge_35 : decode cX0_knowledge 35 = .ok (.ireturn, 1) := by decide +kernel
set_option maxRecDepth 20000 in
theorem ggX0_completeAfter_X0_everythingKnown : GoodIn wsX0_completeAfter wsX0_everythingKnown := goodIn_r _ [7, 8, 21, 22, 23, 24, 25, 26, 27, 28, 29, 30, 31, 32] (by decide +kernel) (by decide +kernel)
set_option maxRecDepth 20000 in
theorem gX0_completeAfter_X0_everythingKnown : GoodIn wsX0_completeAfter (wsV RX0 114 RX0 yX0_everythingKnown wsX0_everythingKnown) := goodIn_app (goodIn_of _ (by decide +kernel)) ggX0_completeAfter_X0_everythingKnown
set_option maxRecDepth 20000 in
theorem ggX0_completeAfter_X0_knownAtStart : GoodIn wsX0_completeAfter wsX0_knownAtStart := goodIn_r _ [12, 8, 21, 22, 23, 24, 25, 26, 27, 28, 29, 30, 31, 32] (by decide +kernel) (by decide +kernel)
set_option maxRecDepth 20000 in
theorem gX0_completeAfter_X0_knownAtStart : GoodIn wsX0_completeAfter (wsV RX0 118 RX0 yX0_knownAtStart wsX0_knownAtStart) := goodIn_app (goodIn_of _ (by decide +kernel)) ggX0_completeAfter_X0_knownAtStart
set_option maxRecDepth 20000 in
theorem ggX0_completeAfter_X0_knownAfterCall : GoodIn wsX0_completeAfter wsX0_knownAfterCall := goodIn_r _ [16, 17, 18, 19, 20, 21, 22, 23, 24, 25, 26, 27, 28, 29, 30, 31, 32] (by decide +kernel) (by decide +kernel)
set_option maxRecDepth 20000 in
theorem gX0_completeAfter_X0_knownAfterCall : GoodIn wsX0_completeAfter (wsV RX0 121 RX0 yX0_knownAfterCall wsX0_knownAfterCall) := goodIn_app (goodIn_of _ (by decide +kernel)) ggX0_completeAfter_X0_knownAfterCall
theorem dX0_completeAfter_0 : decode cX0_completeAfter 0 = .ok (.aload_n 0, 1) := by decide +kernel
theorem dX0_completeAfter_1 : decode cX0_completeAfter 1 = .ok (.invokevirtual 114, 3) := by decide +kernel
theorem dX0_completeAfter_4 : decode cX0_completeAfter 4 = .ok (.lstore_n 1, 1) := by decide +kernel
theorem dX0_completeAfter_5 : decode cX0_completeAfter 5 = .ok (.aload_n 0, 1) := by decide +kernel
theorem dX0_completeAfter_6 : decode cX0_completeAfter 6 = .ok (.invokevirtual 118, 3) := by decide +kernel
theorem dX0_completeAfter_9 : decode cX0_completeAfter 9 = .ok (.lstore_n 3, 1) := by decide +kernel
theorem dX0_completeAfter_10 : decode cX0_completeAfter 10 = .ok (.iconst 0, 1) := by decide +kernel
theorem dX0_completeAfter_11 : decode cX0_completeAfter 11 = .ok (.istore 5, 2) := by decide +kernel
theorem dX0_completeAfter_13 : decode cX0_completeAfter 13 = .ok (.iload 5, 2) := by decide +kernel
theorem dX0_completeAfter_15 : decode cX0_completeAfter 15 = .ok (.aload_n 0, 1) := by decide +kernel
theorem dX0_completeAfter_16 : decode cX0_completeAfter 16 = .ok (.getfield 70, 3) := by decide +kernel
theorem dX0_completeAfter_19 : decode cX0_completeAfter 19 = .ok (.if_icmp .ge 33, 3) := by decide +kernel
theorem dX0_completeAfter_22 : decode cX0_completeAfter 22 = .ok (.aload_n 0, 1) := by decide +kernel
theorem dX0_completeAfter_23 : decode cX0_completeAfter 23 = .ok (.lload_n 3, 1) := by decide +kernel
theorem dX0_completeAfter_24 : decode cX0_completeAfter 24 = .ok (.iload 5, 2) := by decide +kernel
theorem dX0_completeAfter_26 : decode cX0_completeAfter 26 = .ok (.invokevirtual 121, 3) := by decide +kernel
theorem dX0_completeAfter_29 : decode cX0_completeAfter 29 = .ok (.lstore_n 3, 1) := by decide +kernel
theorem dX0_completeAfter_30 : decode cX0_completeAfter 30 = .ok (.lload_n 3, 1) := by decide +kernel
theorem dX0_completeAfter_31 : decode cX0_completeAfter 31 = .ok (.lload_n 1, 1) := by decide +kernel
theorem dX0_completeAfter_32 : decode cX0_completeAfter 32 = .ok (.lcmp, 1) := by decide +kernel
theorem dX0_completeAfter_33 : decode cX0_completeAfter 33 = .ok (.ifCond .ne 13, 3) := by decide +kernel
theorem dX0_completeAfter_36 : decode cX0_completeAfter 36 = .ok (.aload_n 0, 1) := by decide +kernel
theorem dX0_completeAfter_37 : decode cX0_completeAfter 37 = .ok (.getfield 19, 3) := by decide +kernel
theorem dX0_completeAfter_40 : decode cX0_completeAfter 40 = .ok (.iload 5, 2) := by decide +kernel
theorem dX0_completeAfter_42 : decode cX0_completeAfter 42 = .ok (.iaload, 1) := by decide +kernel
theorem dX0_completeAfter_43 : decode cX0_completeAfter 43 = .ok (.iconst 1, 1) := by decide +kernel
theorem dX0_completeAfter_44 : decode cX0_completeAfter 44 = .ok (.iadd, 1) := by decide +kernel
theorem dX0_completeAfter_45 : decode cX0_completeAfter 45 = .ok (.ireturn, 1) := by decide +kernel
theorem dX0_completeAfter_46 : decode cX0_completeAfter 46 = .ok (.iinc 5 1, 3) := by decide +kernel
theorem dX0_completeAfter_49 : decode cX0_completeAfter 49 = .ok (.goto (-36), 3) := by decide +kernel
theorem dX0_completeAfter_52 : decode cX0_completeAfter 52 = .ok (.iconst (-1), 1) := by decide +kernel
theorem dX0_completeAfter_53 : decode cX0_completeAfter 53 = .ok (.ireturn, 1) := by decide +kernel
set_option maxRecDepth 20000 in
theorem ggX0_redundantCalls_X0_knownAtStart : GoodIn wsX0_redundantCalls wsX0_knownAtStart := goodIn_r _ [6, 7, 16, 17, 18, 19, 20, 21, 22, 23, 24, 25, 26, 27] (by decide +kernel) (by decide +kernel)
set_option maxRecDepth 20000 in
theorem gX0_redundantCalls_X0_knownAtStart : GoodIn wsX0_redundantCalls (wsV RX0 118 RX0 yX0_knownAtStart wsX0_knownAtStart) := goodIn_app (goodIn_of _ (by decide +kernel)) ggX0_redundantCalls_X0_knownAtStart
set_option maxRecDepth 20000 in
theorem ggX0_redundantCalls_X0_knownAfterCall : GoodIn wsX0_redundantCalls wsX0_knownAfterCall := goodIn_r _ [11, 12, 13, 14, 15, 16, 17, 18, 19, 20, 21, 22, 23, 24, 25, 26, 27] (by decide +kernel) (by decide +kernel)
set_option maxRecDepth 20000 in
theorem gX0_redundantCalls_X0_knownAfterCall : GoodIn wsX0_redundantCalls (wsV RX0 121 RX0 yX0_knownAfterCall wsX0_knownAfterCall) := goodIn_app (goodIn_of _ (by decide +kernel)) ggX0_redundantCalls_X0_knownAfterCall
theorem dX0_redundantCalls_0 : decode cX0_redundantCalls 0 = .ok (.iconst 0, 1) := by decide +kernel
theorem dX0_redundantCalls_1 : decode cX0_redundantCalls 1 = .ok (.istore_n 1, 1) := by decide +kernel
theorem dX0_redundantCalls_2 : decode cX0_redundantCalls 2 = .ok (.aload_n 0, 1) := by decide +kernel
theorem dX0_redundantCalls_3 : decode cX0_redundantCalls 3 = .ok (.invokevirtual 118, 3) := by decide +kernel
theorem dX0_redundantCalls_6 : decode cX0_redundantCalls 6 = .ok (.lstore_n 2, 1) := by decide +kernel
theorem dX0_redundantCalls_7 : decode cX0_redundantCalls 7 = .ok (.iconst 0, 1) := by decide +kernel
theorem dX0_redundantCalls_8 : decode cX0_redundantCalls 8 = .ok (.istore 4, 2) := by decide +kernel
theorem dX0_redundantCalls_10 : decode cX0_redundantCalls 10 = .ok (.iload 4, 2) := by decide +kernel
theorem dX0_redundantCalls_12 : decode cX0_redundantCalls 12 = .ok (.aload_n 0, 1) := by decide +kernel
theorem dX0_redundantCalls_13 : decode cX0_redundantCalls 13 = .ok (.getfield 70, 3) := by decide +kernel
theorem dX0_redundantCalls_16 : decode cX0_redundantCalls 16 = .ok (.if_icmp .ge 31, 3) := by decide +kernel
theorem dX0_redundantCalls_19 : decode cX0_redundantCalls 19 = .ok (.aload_n 0, 1) := by decide +kernel
theorem dX0_redundantCalls_20 : decode cX0_redundantCalls 20 = .ok (.lload_n 2, 1) := by decide +kernel
theorem dX0_redundantCalls_21 : decode cX0_redundantCalls 21 = .ok (.iload 4, 2) := by decide +kernel
theorem dX0_redundantCalls_23 : decode cX0_redundantCalls 23 = .ok (.invokevirtual 121, 3) := by decide +kernel
theorem dX0_redundantCalls_26 : decode cX0_redundantCalls 26 = .ok (.lstore 5, 2) := by decide +kernel
theorem dX0_redundantCalls_28 : decode cX0_redundantCalls 28 = .ok (.lload 5, 2) := by decide +kernel
theorem dX0_redundantCalls_30 : decode cX0_redundantCalls 30 = .ok (.lload_n 2, 1) := by decide +kernel
theorem dX0_redundantCalls_31 : decode cX0_redundantCalls 31 = .ok (.lcmp, 1) := by decide +kernel
theorem dX0_redundantCalls_32 : decode cX0_redundantCalls 32 = .ok (.ifCond .ne 6, 3) := by decide +kernel
