theorem dX0_characterFits_95 : decode cX0_characterFits 95 = .ok (.if_icmp .ne 7, 3) := by decide +kernel
theorem dX0_characterFits_98 : decode cX0_characterFits 98 = .ok (.iconst 1, 1) := by decide +kernel
theorem dX0_characterFits_99 : decode cX0_characterFits 99 = .ok (.goto 4, 3) := by decide +kernel
theorem dX0_characterFits_102 : decode cX0_characterFits 102 = .ok (.iconst 0, 1) := by decide +kernel
theorem dX0_characterFits_103 : decode cX0_characterFits 103 = .ok (.ireturn, 1) := by decide +kernel
set_option maxRecDepth 20000 in
theorem ggX0_isPersonDigit_X0_personExists : GoodIn wsX0_isPersonDigit wsX0_personExists := goodIn_r _ [5, 6, 7, 8, 9, 10, 11, 12, 13, 14, 15, 16, 17, 18] (by decide +kernel) (by decide +kernel)
set_option maxRecDepth 20000 in
theorem gX0_isPersonDigit_X0_personExists : GoodIn wsX0_isPersonDigit (wsV RX0 47 RX0 yX0_personExists wsX0_personExists) := goodIn_app (goodIn_of _ (by decide +kernel)) ggX0_isPersonDigit_X0_personExists
theorem dX0_isPersonDigit_0 : decode cX0_isPersonDigit 0 = .ok (.aload_n 0, 1) := by decide +kernel
theorem dX0_isPersonDigit_1 : decode cX0_isPersonDigit 1 = .ok (.iload_n 1, 1) := by decide +kernel
theorem dX0_isPersonDigit_2 : decode cX0_isPersonDigit 2 = .ok (.bipush 48, 2) := by decide +kernel
theorem dX0_isPersonDigit_4 : decode cX0_isPersonDigit 4 = .ok (.isub, 1) := by decide +kernel
theorem dX0_isPersonDigit_5 : decode cX0_isPersonDigit 5 = .ok (.invokevirtual 47, 3) := by decide +kernel
theorem dX0_isPersonDigit_8 : decode cX0_isPersonDigit 8 = .ok (.ireturn, 1) := by decide +kernel
set_option maxRecDepth 20000 in
theorem ggX0_inputIsWhole_X0_firstError : GoodIn wsX0_inputIsWhole wsX0_firstError := goodIn_r _ [6, 1, 7, 8, 9, 5, 10, 11, 12, 13, 14, 15, 16, 17, 18, 19, 20, 21, 22, 23, 24, 25, 26, 27, 28, 29, 30, 31, 32] (by decide +kernel) (by decide +kernel)
set_option maxRecDepth 20000 in
theorem gX0_inputIsWhole_X0_firstError : GoodIn wsX0_inputIsWhole (wsV RX0 201 RX0 yX0_firstError wsX0_firstError) := goodIn_app (goodIn_of _ (by decide +kernel)) ggX0_inputIsWhole_X0_firstError
theorem dX0_inputIsWhole_0 : decode cX0_inputIsWhole 0 = .ok (.aload_n 0, 1) := by decide +kernel
theorem dX0_inputIsWhole_1 : decode cX0_inputIsWhole 1 = .ok (.getfield 77, 3) := by decide +kernel
theorem dX0_inputIsWhole_4 : decode cX0_inputIsWhole 4 = .ok (.iconst 4, 1) := by decide +kernel
theorem dX0_inputIsWhole_5 : decode cX0_inputIsWhole 5 = .ok (.irem, 1) := by decide +kernel
theorem dX0_inputIsWhole_6 : decode cX0_inputIsWhole 6 = .ok (.iconst 3, 1) := by decide +kernel
theorem dX0_inputIsWhole_7 : decode cX0_inputIsWhole 7 = .ok (.if_icmp .ne 18, 3) := by decide +kernel
theorem dX0_inputIsWhole_10 : decode cX0_inputIsWhole 10 = .ok (.aload_n 0, 1) := by decide +kernel
theorem dX0_inputIsWhole_11 : decode cX0_inputIsWhole 11 = .ok (.invokevirtual 201, 3) := by decide +kernel
theorem dX0_inputIsWhole_14 : decode cX0_inputIsWhole 14 = .ok (.aload_n 0, 1) := by decide +kernel
theorem dX0_inputIsWhole_15 : decode cX0_inputIsWhole 15 = .ok (.getfield 77, 3) := by decide +kernel
theorem dX0_inputIsWhole_18 : decode cX0_inputIsWhole 18 = .ok (.if_icmp .ne 7, 3) := by decide +kernel
theorem dX0_inputIsWhole_21 : decode cX0_inputIsWhole 21 = .ok (.iconst 1, 1) := by decide +kernel
theorem dX0_inputIsWhole_22 : decode cX0_inputIsWhole 22 = .ok (.goto 4, 3) := by decide +kernel
theorem dX0_inputIsWhole_25 : decode cX0_inputIsWhole 25 = .ok (.iconst 0, 1) := by decide +kernel
theorem dX0_inputIsWhole_26 : decode cX0_inputIsWhole 26 = .ok (.ireturn, 1) := by decide +kernel
theorem dX0_beginsRound_0 : decode cX0_beginsRound 0 = .ok (.iload_n 1, 1) := by decide +kernel
theorem dX0_beginsRound_1 : decode cX0_beginsRound 1 = .ok (.ifCond .eq 16, 3) := by decide +kernel
theorem dX0_beginsRound_4 : decode cX0_beginsRound 4 = .ok (.aload_n 0, 1) := by decide +kernel
theorem dX0_beginsRound_5 : decode cX0_beginsRound 5 = .ok (.getfield 33, 3) := by decide +kernel
theorem dX0_beginsRound_8 : decode cX0_beginsRound 8 = .ok (.iload_n 1, 1) := by decide +kernel
theorem dX0_beginsRound_9 : decode cX0_beginsRound 9 = .ok (.iconst 1, 1) := by decide +kernel
theorem dX0_beginsRound_10 : decode cX0_beginsRound 10 = .ok (.isub, 1) := by decide +kernel
theorem dX0_beginsRound_11 : decode cX0_beginsRound 11 = .ok (.iaload, 1) := by decide +kernel
theorem dX0_beginsRound_12 : decode cX0_beginsRound 12 = .ok (.bipush 59, 2) := by decide +kernel
theorem dX0_beginsRound_14 : decode cX0_beginsRound 14 = .ok (.if_icmp .ne 7, 3) := by decide +kernel
theorem dX0_beginsRound_17 : decode cX0_beginsRound 17 = .ok (.iconst 1, 1) := by decide +kernel
theorem dX0_beginsRound_18 : decode cX0_beginsRound 18 = .ok (.goto 4, 3) := by decide +kernel
theorem dX0_beginsRound_21 : decode cX0_beginsRound 21 = .ok (.iconst 0, 1) := by decide +kernel
theorem dX0_beginsRound_22 : decode cX0_beginsRound 22 = .ok (.ireturn, 1) := by decide +kernel
set_option maxRecDepth 20000 in
theorem ggX0_firstRefusedCall_X0_beginsRound : GoodIn wsX0_firstRefusedCall wsX0_beginsRound := goodIn_r _ [7, 2, 33, 34, 35, 36, 37, 38, 39, 40, 41, 42, 43, 44] (by decide +kernel) (by decide +kernel)
set_option maxRecDepth 20000 in
theorem gX0_firstRefusedCall_X0_beginsRound : GoodIn wsX0_firstRefusedCall (wsV RX0 204 RX0 yX0_beginsRound wsX0_beginsRound) := goodIn_app (goodIn_of _ (by decide +kernel)) ggX0_firstRefusedCall_X0_beginsRound
set_option maxRecDepth 20000 in
theorem ggX0_firstRefusedCall_X0_graphJoins : GoodIn wsX0_firstRefusedCall wsX0_graphJoins := goodIn_r _ [11, 12, 13, 14, 15, 16, 17, 18, 19, 20, 21, 22, 23, 24, 33, 34, 35, 36, 37, 38, 39, 40, 41, 42, 43, 44] (by decide +kernel) (by decide +kernel)
set_option maxRecDepth 20000 in
theorem gX0_firstRefusedCall_X0_graphJoins : GoodIn wsX0_firstRefusedCall (wsV RX0 51 RX0 yX0_graphJoins wsX0_graphJoins) := goodIn_app (goodIn_of _ (by decide +kernel)) ggX0_firstRefusedCall_X0_graphJoins
set_option maxRecDepth 20000 in
theorem ggX0_firstRefusedCall_X0_pairOf : GoodIn wsX0_firstRefusedCall wsX0_pairOf := goodIn_r _ [27] (by decide +kernel) (by decide +kernel)
set_option maxRecDepth 20000 in
theorem gX0_firstRefusedCall_X0_pairOf : GoodIn wsX0_firstRefusedCall (va_wsS RX0 62 yX0_pairOf wsX0_pairOf) := goodIn_app (goodIn_of _ (by decide +kernel)) ggX0_firstRefusedCall_X0_pairOf
set_option maxRecDepth 20000 in
theorem ggX0_firstRefusedCall_X0_modeAccepts : GoodIn wsX0_firstRefusedCall wsX0_modeAccepts := goodIn_r _ [31, 32, 33, 34, 35, 36, 37, 38, 39, 40, 41, 42, 43, 44] (by decide +kernel) (by decide +kernel)
set_option maxRecDepth 20000 in
theorem gX0_firstRefusedCall_X0_modeAccepts : GoodIn wsX0_firstRefusedCall (wsV RX0 66 RX0 yX0_modeAccepts wsX0_modeAccepts) := goodIn_app (goodIn_of _ (by decide +kernel)) ggX0_firstRefusedCall_X0_modeAccepts
theorem dX0_firstRefusedCall_0 : decode cX0_firstRefusedCall 0 = .ok (.iconst 0, 1) := by decide +kernel
theorem dX0_firstRefusedCall_1 : decode cX0_firstRefusedCall 1 = .ok (.istore_n 1, 1) := by decide +kernel
theorem dX0_firstRefusedCall_2 : decode cX0_firstRefusedCall 2 = .ok (.iconst 0, 1) := by decide +kernel
theorem dX0_firstRefusedCall_3 : decode cX0_firstRefusedCall 3 = .ok (.istore_n 2, 1) := by decide +kernel
theorem dX0_firstRefusedCall_4 : decode cX0_firstRefusedCall 4 = .ok (.iload_n 2, 1) := by decide +kernel
theorem dX0_firstRefusedCall_5 : decode cX0_firstRefusedCall 5 = .ok (.iconst 2, 1) := by decide +kernel
theorem dX0_firstRefusedCall_6 : decode cX0_firstRefusedCall 6 = .ok (.iadd, 1) := by decide +kernel
theorem dX0_firstRefusedCall_7 : decode cX0_firstRefusedCall 7 = .ok (.aload_n 0, 1) := by decide +kernel
theorem dX0_firstRefusedCall_8 : decode cX0_firstRefusedCall 8 = .ok (.getfield 77, 3) := by decide +kernel
theorem dX0_firstRefusedCall_11 : decode cX0_firstRefusedCall 11 = .ok (.if_icmp .ge 106, 3) := by decide +kernel
theorem dX0_firstRefusedCall_14 : decode cX0_firstRefusedCall 14 = .ok (.aload_n 0, 1) := by decide +kernel
theorem dX0_firstRefusedCall_15 : decode cX0_firstRefusedCall 15 = .ok (.iload_n 2, 1) := by decide +kernel
theorem dX0_firstRefusedCall_16 : decode cX0_firstRefusedCall 16 = .ok (.invokevirtual 204, 3) := by decide +kernel
theorem dX0_firstRefusedCall_19 : decode cX0_firstRefusedCall 19 = .ok (.ifCond .eq 5, 3) := by decide +kernel
theorem dX0_firstRefusedCall_22 : decode cX0_firstRefusedCall 22 = .ok (.iconst 0, 1) := by decide +kernel
theorem dX0_firstRefusedCall_23 : decode cX0_firstRefusedCall 23 = .ok (.istore_n 1, 1) := by decide +kernel
theorem dX0_firstRefusedCall_24 : decode cX0_firstRefusedCall 24 = .ok (.aload_n 0, 1) := by decide +kernel
theorem dX0_firstRefusedCall_25 : decode cX0_firstRefusedCall 25 = .ok (.getfield 33, 3) := by decide +kernel
theorem dX0_firstRefusedCall_28 : decode cX0_firstRefusedCall 28 = .ok (.iload_n 2, 1) := by decide +kernel
theorem dX0_firstRefusedCall_29 : decode cX0_firstRefusedCall 29 = .ok (.iaload, 1) := by decide +kernel
theorem dX0_firstRefusedCall_30 : decode cX0_firstRefusedCall 30 = .ok (.bipush 48, 2) := by decide +kernel
theorem dX0_firstRefusedCall_32 : decode cX0_firstRefusedCall 32 = .ok (.isub, 1) := by decide +kernel
theorem dX0_firstRefusedCall_33 : decode cX0_firstRefusedCall 33 = .ok (.istore_n 3, 1) := by decide +kernel
theorem dX0_firstRefusedCall_34 : decode cX0_firstRefusedCall 34 = .ok (.aload_n 0, 1) := by decide +kernel
theorem dX0_firstRefusedCall_35 : decode cX0_firstRefusedCall 35 = .ok (.getfield 33, 3) := by decide +kernel
theorem dX0_firstRefusedCall_38 : decode cX0_firstRefusedCall 38 = .ok (.iload_n 2, 1) := by decide +kernel
theorem dX0_firstRefusedCall_39 : decode cX0_firstRefusedCall 39 = .ok (.iconst 2, 1) := by decide +kernel
theorem dX0_firstRefusedCall_40 : decode cX0_firstRefusedCall 40 = .ok (.iadd, 1) := by decide +kernel
theorem dX0_firstRefusedCall_41 : decode cX0_firstRefusedCall 41 = .ok (.iaload, 1) := by decide +kernel
theorem dX0_firstRefusedCall_42 : decode cX0_firstRefusedCall 42 = .ok (.bipush 48, 2) := by decide +kernel
theorem dX0_firstRefusedCall_44 : decode cX0_firstRefusedCall 44 = .ok (.isub, 1) := by decide +kernel
theorem dX0_firstRefusedCall_45 : decode cX0_firstRefusedCall 45 = .ok (.istore 4, 2) := by decide +kernel
theorem dX0_firstRefusedCall_47 : decode cX0_firstRefusedCall 47 = .ok (.aload_n 0, 1) := by decide +kernel
theorem dX0_firstRefusedCall_48 : decode cX0_firstRefusedCall 48 = .ok (.iload_n 3, 1) := by decide +kernel
theorem dX0_firstRefusedCall_49 : decode cX0_firstRefusedCall 49 = .ok (.iload 4, 2) := by decide +kernel
theorem dX0_firstRefusedCall_51 : decode cX0_firstRefusedCall 51 = .ok (.invokevirtual 51, 3) := by decide +kernel
theorem dX0_firstRefusedCall_54 : decode cX0_firstRefusedCall 54 = .ok (.ifCond .ne 6, 3) := by decide +kernel
theorem dX0_firstRefusedCall_57 : decode cX0_firstRefusedCall 57 = .ok (.bipush (-10), 2) := by decide +kernel
theorem dX0_firstRefusedCall_59 : decode cX0_firstRefusedCall 59 = .ok (.ireturn, 1) := by decide +kernel
theorem dX0_firstRefusedCall_60 : decode cX0_firstRefusedCall 60 = .ok (.iload_n 1, 1) := by decide +kernel
theorem dX0_firstRefusedCall_61 : decode cX0_firstRefusedCall 61 = .ok (.iload_n 3, 1) := by decide +kernel
theorem dX0_firstRefusedCall_62 : decode cX0_firstRefusedCall 62 = .ok (.iload 4, 2) := by decide +kernel
theorem dX0_firstRefusedCall_64 : decode cX0_firstRefusedCall 64 = .ok (.invokestatic 62, 3) := by decide +kernel
theorem dX0_firstRefusedCall_67 : decode cX0_firstRefusedCall 67 = .ok (.iand, 1) := by decide +kernel
theorem dX0_firstRefusedCall_68 : decode cX0_firstRefusedCall 68 = .ok (.ifCond .eq 6, 3) := by decide +kernel
theorem dX0_firstRefusedCall_71 : decode cX0_firstRefusedCall 71 = .ok (.bipush (-9), 2) := by decide +kernel
theorem dX0_firstRefusedCall_73 : decode cX0_firstRefusedCall 73 = .ok (.ireturn, 1) := by decide +kernel
theorem dX0_firstRefusedCall_74 : decode cX0_firstRefusedCall 74 = .ok (.aload_n 0, 1) := by decide +kernel
theorem dX0_firstRefusedCall_75 : decode cX0_firstRefusedCall 75 = .ok (.aload_n 0, 1) := by decide +kernel
theorem dX0_firstRefusedCall_76 : decode cX0_firstRefusedCall 76 = .ok (.getfield 33, 3) := by decide +kernel
theorem dX0_firstRefusedCall_79 : decode cX0_firstRefusedCall 79 = .ok (.iload_n 2, 1) := by decide +kernel
theorem dX0_firstRefusedCall_80 : decode cX0_firstRefusedCall 80 = .ok (.iconst 1, 1) := by decide +kernel
theorem dX0_firstRefusedCall_81 : decode cX0_firstRefusedCall 81 = .ok (.iadd, 1) := by decide +kernel
theorem dX0_firstRefusedCall_82 : decode cX0_firstRefusedCall 82 = .ok (.iaload, 1) := by decide +kernel
theorem dX0_firstRefusedCall_83 : decode cX0_firstRefusedCall 83 = .ok (.bipush 62, 2) := by decide +kernel
theorem dX0_firstRefusedCall_85 : decode cX0_firstRefusedCall 85 = .ok (.if_icmp .ne 7, 3) := by decide +kernel
theorem dX0_firstRefusedCall_88 : decode cX0_firstRefusedCall 88 = .ok (.iconst 1, 1) := by decide +kernel
theorem dX0_firstRefusedCall_89 : decode cX0_firstRefusedCall 89 = .ok (.goto 4, 3) := by decide +kernel
theorem dX0_firstRefusedCall_92 : decode cX0_firstRefusedCall 92 = .ok (.iconst 0, 1) := by decide +kernel
theorem dX0_firstRefusedCall_93 : decode cX0_firstRefusedCall 93 = .ok (.invokevirtual 66, 3) := by decide +kernel
theorem dX0_firstRefusedCall_96 : decode cX0_firstRefusedCall 96 = .ok (.ifCond .ne 6, 3) := by decide +kernel
theorem dX0_firstRefusedCall_99 : decode cX0_firstRefusedCall 99 = .ok (.bipush (-11), 2) := by decide +kernel
theorem dX0_firstRefusedCall_101 : decode cX0_firstRefusedCall 101 = .ok (.ireturn, 1) := by decide +kernel
theorem dX0_firstRefusedCall_102 : decode cX0_firstRefusedCall 102 = .ok (.iload_n 1, 1) := by decide +kernel
theorem dX0_firstRefusedCall_103 : decode cX0_firstRefusedCall 103 = .ok (.iload_n 3, 1) := by decide +kernel
theorem dX0_firstRefusedCall_104 : decode cX0_firstRefusedCall 104 = .ok (.iload 4, 2) := by decide +kernel
theorem dX0_firstRefusedCall_106 : decode cX0_firstRefusedCall 106 = .ok (.invokestatic 62, 3) := by decide +kernel
theorem dX0_firstRefusedCall_109 : decode cX0_firstRefusedCall 109 = .ok (.ior, 1) := by decide +kernel
theorem dX0_firstRefusedCall_110 : decode cX0_firstRefusedCall 110 = .ok (.istore_n 1, 1) := by decide +kernel
theorem dX0_firstRefusedCall_111 : decode cX0_firstRefusedCall 111 = .ok (.iinc 2 4, 3) := by decide +kernel
theorem dX0_firstRefusedCall_114 : decode cX0_firstRefusedCall 114 = .ok (.goto (-110), 3) := by decide +kernel
theorem dX0_firstRefusedCall_117 : decode cX0_firstRefusedCall 117 = .ok (.iconst 0, 1) := by decide +kernel
theorem dX0_firstRefusedCall_118 : decode cX0_firstRefusedCall 118 = .ok (.ireturn, 1) := by decide +kernel
set_option maxRecDepth 20000 in
theorem ggX0_takeCallsOfInput_X0_dropRounds : GoodIn wsX0_takeCallsOfInput wsX0_dropRounds := goodIn_r _ [8, 2, 9, 22, 23, 24, 25, 26, 27, 28, 29, 30, 31, 32, 33] (by decide +kernel) (by decide +kernel)
set_option maxRecDepth 20000 in
theorem gX0_takeCallsOfInput_X0_dropRounds : GoodIn wsX0_takeCallsOfInput (wsV RX0 40 RX0 yX0_dropRounds wsX0_dropRounds) := goodIn_app (goodIn_of _ (by decide +kernel)) ggX0_takeCallsOfInput_X0_dropRounds
set_option maxRecDepth 20000 in
theorem ggX0_takeCallsOfInput_X0_beginsRound : GoodIn wsX0_takeCallsOfInput wsX0_beginsRound := goodIn_r _ [13, 3, 22, 23, 24, 25, 26, 27, 28, 29, 30, 31, 32, 33] (by decide +kernel) (by decide +kernel)
set_option maxRecDepth 20000 in
theorem gX0_takeCallsOfInput_X0_beginsRound : GoodIn wsX0_takeCallsOfInput (wsV RX0 204 RX0 yX0_beginsRound wsX0_beginsRound) := goodIn_app (goodIn_of _ (by decide +kernel)) ggX0_takeCallsOfInput_X0_beginsRound
set_option maxRecDepth 20000 in
theorem ggX0_takeCallsOfInput_X0_putCall : GoodIn wsX0_takeCallsOfInput wsX0_putCall := goodIn_r _ [17, 9, 18, 2, 19, 20, 21, 22, 23, 24, 25, 26, 27, 28, 29, 30, 31, 32, 33] (by decide +kernel) (by decide +kernel)
set_option maxRecDepth 20000 in
theorem gX0_takeCallsOfInput_X0_putCall : GoodIn wsX0_takeCallsOfInput (wsV RX0 73 RX0 yX0_putCall wsX0_putCall) := goodIn_app (goodIn_of _ (by decide +kernel)) ggX0_takeCallsOfInput_X0_putCall
theorem dX0_takeCallsOfInput_0 : decode cX0_takeCallsOfInput 0 = .ok (.aload_n 0, 1) := by decide +kernel
theorem dX0_takeCallsOfInput_1 : decode cX0_takeCallsOfInput 1 = .ok (.invokevirtual 40, 3) := by decide +kernel
theorem dX0_takeCallsOfInput_4 : decode cX0_takeCallsOfInput 4 = .ok (.iconst 0, 1) := by decide +kernel
theorem dX0_takeCallsOfInput_5 : decode cX0_takeCallsOfInput 5 = .ok (.istore_n 1, 1) := by decide +kernel
theorem dX0_takeCallsOfInput_6 : decode cX0_takeCallsOfInput 6 = .ok (.iload_n 1, 1) := by decide +kernel
theorem dX0_takeCallsOfInput_7 : decode cX0_takeCallsOfInput 7 = .ok (.iconst 2, 1) := by decide +kernel
theorem dX0_takeCallsOfInput_8 : decode cX0_takeCallsOfInput 8 = .ok (.iadd, 1) := by decide +kernel
theorem dX0_takeCallsOfInput_9 : decode cX0_takeCallsOfInput 9 = .ok (.aload_n 0, 1) := by decide +kernel
theorem dX0_takeCallsOfInput_10 : decode cX0_takeCallsOfInput 10 = .ok (.getfield 77, 3) := by decide +kernel
theorem dX0_takeCallsOfInput_13 : decode cX0_takeCallsOfInput 13 = .ok (.if_icmp .ge 69, 3) := by decide +kernel
theorem dX0_takeCallsOfInput_16 : decode cX0_takeCallsOfInput 16 = .ok (.aload_n 0, 1) := by decide +kernel
theorem dX0_takeCallsOfInput_17 : decode cX0_takeCallsOfInput 17 = .ok (.iload_n 1, 1) := by decide +kernel
theorem dX0_takeCallsOfInput_18 : decode cX0_takeCallsOfInput 18 = .ok (.invokevirtual 204, 3) := by decide +kernel
theorem dX0_takeCallsOfInput_21 : decode cX0_takeCallsOfInput 21 = .ok (.ifCond .eq 13, 3) := by decide +kernel
theorem dX0_takeCallsOfInput_24 : decode cX0_takeCallsOfInput 24 = .ok (.aload_n 0, 1) := by decide +kernel
theorem dX0_takeCallsOfInput_25 : decode cX0_takeCallsOfInput 25 = .ok (.dup, 1) := by decide +kernel
theorem dX0_takeCallsOfInput_26 : decode cX0_takeCallsOfInput 26 = .ok (.getfield 55, 3) := by decide +kernel
theorem dX0_takeCallsOfInput_29 : decode cX0_takeCallsOfInput 29 = .ok (.iconst 1, 1) := by decide +kernel
theorem dX0_takeCallsOfInput_30 : decode cX0_takeCallsOfInput 30 = .ok (.iadd, 1) := by decide +kernel
theorem dX0_takeCallsOfInput_31 : decode cX0_takeCallsOfInput 31 = .ok (.putfield 55, 3) := by decide +kernel
theorem dX0_takeCallsOfInput_34 : decode cX0_takeCallsOfInput 34 = .ok (.aload_n 0, 1) := by decide +kernel
theorem dX0_takeCallsOfInput_35 : decode cX0_takeCallsOfInput 35 = .ok (.aload_n 0, 1) := by decide +kernel
theorem dX0_takeCallsOfInput_36 : decode cX0_takeCallsOfInput 36 = .ok (.getfield 33, 3) := by decide +kernel
theorem dX0_takeCallsOfInput_39 : decode cX0_takeCallsOfInput 39 = .ok (.iload_n 1, 1) := by decide +kernel
theorem dX0_takeCallsOfInput_40 : decode cX0_takeCallsOfInput 40 = .ok (.iaload, 1) := by decide +kernel
theorem dX0_takeCallsOfInput_41 : decode cX0_takeCallsOfInput 41 = .ok (.bipush 48, 2) := by decide +kernel
theorem dX0_takeCallsOfInput_43 : decode cX0_takeCallsOfInput 43 = .ok (.isub, 1) := by decide +kernel
theorem dX0_takeCallsOfInput_44 : decode cX0_takeCallsOfInput 44 = .ok (.aload_n 0, 1) := by decide +kernel
theorem dX0_takeCallsOfInput_45 : decode cX0_takeCallsOfInput 45 = .ok (.getfield 33, 3) := by decide +kernel
theorem dX0_takeCallsOfInput_48 : decode cX0_takeCallsOfInput 48 = .ok (.iload_n 1, 1) := by decide +kernel
theorem dX0_takeCallsOfInput_49 : decode cX0_takeCallsOfInput 49 = .ok (.iconst 2, 1) := by decide +kernel
theorem dX0_takeCallsOfInput_50 : decode cX0_takeCallsOfInput 50 = .ok (.iadd, 1) := by decide +kernel
theorem dX0_takeCallsOfInput_51 : decode cX0_takeCallsOfInput 51 = .ok (.iaload, 1) := by decide +kernel
theorem dX0_takeCallsOfInput_52 : decode cX0_takeCallsOfInput 52 = .ok (.bipush 48, 2) := by decide +kernel
theorem dX0_takeCallsOfInput_54 : decode cX0_takeCallsOfInput 54 = .ok (.isub, 1) := by decide +kernel
theorem dX0_takeCallsOfInput_55 : decode cX0_takeCallsOfInput 55 = .ok (.aload_n 0, 1) := by decide +kernel
theorem dX0_takeCallsOfInput_56 : decode cX0_takeCallsOfInput 56 = .ok (.getfield 33, 3) := by decide +kernel
theorem dX0_takeCallsOfInput_59 : decode cX0_takeCallsOfInput 59 = .ok (.iload_n 1, 1) := by decide +kernel
theorem dX0_takeCallsOfInput_60 : decode cX0_takeCallsOfInput 60 = .ok (.iconst 1, 1) := by decide +kernel
theorem dX0_takeCallsOfInput_61 : decode cX0_takeCallsOfInput 61 = .ok (.iadd, 1) := by decide +kernel
theorem dX0_takeCallsOfInput_62 : decode cX0_takeCallsOfInput 62 = .ok (.iaload, 1) := by decide +kernel
theorem dX0_takeCallsOfInput_63 : decode cX0_takeCallsOfInput 63 = .ok (.bipush 62, 2) := by decide +kernel
theorem dX0_takeCallsOfInput_65 : decode cX0_takeCallsOfInput 65 = .ok (.if_icmp .ne 7, 3) := by decide +kernel
theorem dX0_takeCallsOfInput_68 : decode cX0_takeCallsOfInput 68 = .ok (.iconst 1, 1) := by decide +kernel
theorem dX0_takeCallsOfInput_69 : decode cX0_takeCallsOfInput 69 = .ok (.goto 4, 3) := by decide +kernel
theorem dX0_takeCallsOfInput_72 : decode cX0_takeCallsOfInput 72 = .ok (.iconst 0, 1) := by decide +kernel
theorem dX0_takeCallsOfInput_73 : decode cX0_takeCallsOfInput 73 = .ok (.invokevirtual 73, 3) := by decide +kernel
theorem dX0_takeCallsOfInput_76 : decode cX0_takeCallsOfInput 76 = .ok (.iinc 1 4, 3) := by decide +kernel
theorem dX0_takeCallsOfInput_79 : decode cX0_takeCallsOfInput 79 = .ok (.goto (-73), 3) := by decide +kernel
theorem dX0_takeCallsOfInput_82 : decode cX0_takeCallsOfInput 82 = .ok (.return_, 1) := by decide +kernel
theorem dX0_itemsOf_0 : decode cX0_itemsOf 0 = .ok (.lload_n 0, 1) := by decide +kernel
theorem dX0_itemsOf_1 : decode cX0_itemsOf 1 = .ok (.bipush 8, 2) := by decide +kernel
theorem dX0_itemsOf_3 : decode cX0_itemsOf 3 = .ok (.iload_n 2, 1) := by decide +kernel
theorem dX0_itemsOf_4 : decode cX0_itemsOf 4 = .ok (.imul, 1) := by decide +kernel
theorem dX0_itemsOf_5 : decode cX0_itemsOf 5 = .ok (.lushr, 1) := by decide +kernel
theorem dX0_itemsOf_6 : decode cX0_itemsOf 6 = .ok (.l2i, 1) := by decide +kernel
theorem dX0_itemsOf_7 : decode cX0_itemsOf 7 = .ok (.sipush 255, 3) := by decide +kernel
theorem dX0_itemsOf_10 : decode cX0_itemsOf 10 = .ok (.iand, 1) := by decide +kernel
theorem dX0_itemsOf_11 : decode cX0_itemsOf 11 = .ok (.ireturn, 1) := by decide +kernel
theorem dX0_knownAtStart_0 : decode cX0_knownAtStart 0 = .ok (.lconst 0, 1) := by decide +kernel
theorem dX0_knownAtStart_1 : decode cX0_knownAtStart 1 = .ok (.lstore_n 1, 1) := by decide +kernel
theorem dX0_knownAtStart_2 : decode cX0_knownAtStart 2 = .ok (.iconst 0, 1) := by decide +kernel
theorem dX0_knownAtStart_3 : decode cX0_knownAtStart 3 = .ok (.istore_n 3, 1) := by decide +kernel
theorem dX0_knownAtStart_4 : decode cX0_knownAtStart 4 = .ok (.iload_n 3, 1) := by decide +kernel
theorem dX0_knownAtStart_5 : decode cX0_knownAtStart 5 = .ok (.aload_n 0, 1) := by decide +kernel
theorem dX0_knownAtStart_6 : decode cX0_knownAtStart 6 = .ok (.getfield 9, 3) := by decide +kernel
theorem dX0_knownAtStart_9 : decode cX0_knownAtStart 9 = .ok (.if_icmp .ge 20, 3) := by decide +kernel
theorem dX0_knownAtStart_12 : decode cX0_knownAtStart 12 = .ok (.lload_n 1, 1) := by decide +kernel
theorem dX0_knownAtStart_13 : decode cX0_knownAtStart 13 = .ok (.lconst 1, 1) := by decide +kernel
theorem dX0_knownAtStart_14 : decode cX0_knownAtStart 14 = .ok (.bipush 8, 2) := by decide +kernel
theorem dX0_knownAtStart_16 : decode cX0_knownAtStart 16 = .ok (.iload_n 3, 1) := by decide +kernel
theorem dX0_knownAtStart_17 : decode cX0_knownAtStart 17 = .ok (.imul, 1) := by decide +kernel
theorem dX0_knownAtStart_18 : decode cX0_knownAtStart 18 = .ok (.iload_n 3, 1) := by decide +kernel
theorem dX0_knownAtStart_19 : decode cX0_knownAtStart 19 = .ok (.iadd, 1) := by decide +kernel
theorem dX0_knownAtStart_20 : decode cX0_knownAtStart 20 = .ok (.lshl, 1) := by decide +kernel
theorem dX0_knownAtStart_21 : decode cX0_knownAtStart 21 = .ok (.lor, 1) := by decide +kernel
theorem dX0_knownAtStart_22 : decode cX0_knownAtStart 22 = .ok (.lstore_n 1, 1) := by decide +kernel
theorem dX0_knownAtStart_23 : decode cX0_knownAtStart 23 = .ok (.iinc 3 1, 3) := by decide +kernel
theorem dX0_knownAtStart_26 : decode cX0_knownAtStart 26 = .ok (.goto (-22), 3) := by decide +kernel
theorem dX0_knownAtStart_29 : decode cX0_knownAtStart 29 = .ok (.lload_n 1, 1) := by decide +kernel
theorem dX0_knownAtStart_30 : decode cX0_knownAtStart 30 = .ok (.lreturn, 1) := by decide +kernel
theorem dX0_everythingKnown_0 : decode cX0_everythingKnown 0 = .ok (.lconst 1, 1) := by decide +kernel
theorem dX0_everythingKnown_1 : decode cX0_everythingKnown 1 = .ok (.aload_n 0, 1) := by decide +kernel
theorem dX0_everythingKnown_2 : decode cX0_everythingKnown 2 = .ok (.getfield 9, 3) := by decide +kernel
theorem dX0_everythingKnown_5 : decode cX0_everythingKnown 5 = .ok (.lshl, 1) := by decide +kernel
theorem dX0_everythingKnown_6 : decode cX0_everythingKnown 6 = .ok (.lconst 1, 1) := by decide +kernel
theorem dX0_everythingKnown_7 : decode cX0_everythingKnown 7 = .ok (.lsub, 1) := by decide +kernel
theorem dX0_everythingKnown_8 : decode cX0_everythingKnown 8 = .ok (.lstore_n 1, 1) := by decide +kernel
theorem dX0_everythingKnown_9 : decode cX0_everythingKnown 9 = .ok (.lconst 0, 1) := by decide +kernel
theorem dX0_everythingKnown_10 : decode cX0_everythingKnown 10 = .ok (.lstore_n 3, 1) := by decide +kernel
theorem dX0_everythingKnown_11 : decode cX0_everythingKnown 11 = .ok (.iconst 0, 1) := by decide +kernel
theorem dX0_everythingKnown_12 : decode cX0_everythingKnown 12 = .ok (.istore 5, 2) := by decide +kernel
theorem dX0_everythingKnown_14 : decode cX0_everythingKnown 14 = .ok (.iload 5, 2) := by decide +kernel
theorem dX0_everythingKnown_16 : decode cX0_everythingKnown 16 = .ok (.aload_n 0, 1) := by decide +kernel
theorem dX0_everythingKnown_17 : decode cX0_everythingKnown 17 = .ok (.getfield 9, 3) := by decide +kernel
theorem dX0_everythingKnown_20 : decode cX0_everythingKnown 20 = .ok (.if_icmp .ge 19, 3) := by decide +kernel
theorem dX0_everythingKnown_23 : decode cX0_everythingKnown 23 = .ok (.lload_n 3, 1) := by decide +kernel
theorem dX0_everythingKnown_24 : decode cX0_everythingKnown 24 = .ok (.lload_n 1, 1) := by decide +kernel
theorem dX0_everythingKnown_25 : decode cX0_everythingKnown 25 = .ok (.bipush 8, 2) := by decide +kernel
theorem dX0_everythingKnown_27 : decode cX0_everythingKnown 27 = .ok (.iload 5, 2) := by decide +kernel
theorem dX0_everythingKnown_29 : decode cX0_everythingKnown 29 = .ok (.imul, 1) := by decide +kernel
theorem dX0_everythingKnown_30 : decode cX0_everythingKnown 30 = .ok (.lshl, 1) := by decide +kernel
theorem dX0_everythingKnown_31 : decode cX0_everythingKnown 31 = .ok (.lor, 1) := by decide +kernel
theorem dX0_everythingKnown_32 : decode cX0_everythingKnown 32 = .ok (.lstore_n 3, 1) := by decide +kernel
theorem dX0_everythingKnown_33 : decode cX0_everythingKnown 33 = .ok (.iinc 5 1, 3) := by decide +kernel
theorem dX0_everythingKnown_36 : decode cX0_everythingKnown 36 = .ok (.goto (-22), 3) := by decide +kernel
theorem dX0_everythingKnown_39 : decode cX0_everythingKnown 39 = .ok (.lload_n 3, 1) := by decide +kernel
theorem dX0_everythingKnown_40 : decode cX0_everythingKnown 40 = .ok (.lreturn, 1) := by decide +kernel
theorem dX0_knownAfterCall_0 : decode cX0_knownAfterCall 0 = .ok (.bipush 8, 2) := by decide +kernel
theorem dX0_knownAfterCall_2 : decode cX0_knownAfterCall 2 = .ok (.aload_n 0, 1) := by decide +kernel
theorem dX0_knownAfterCall_3 : decode cX0_knownAfterCall 3 = .ok (.getfield 23, 3) := by decide +kernel
theorem dX0_knownAfterCall_6 : decode cX0_knownAfterCall 6 = .ok (.iload_n 3, 1) := by decide +kernel
theorem dX0_knownAfterCall_7 : decode cX0_knownAfterCall 7 = .ok (.iaload, 1) := by decide +kernel
theorem dX0_knownAfterCall_8 : decode cX0_knownAfterCall 8 = .ok (.imul, 1) := by decide +kernel
theorem dX0_knownAfterCall_9 : decode cX0_knownAfterCall 9 = .ok (.istore 4, 2) := by decide +kernel
theorem dX0_knownAfterCall_11 : decode cX0_knownAfterCall 11 = .ok (.bipush 8, 2) := by decide +kernel
theorem dX0_knownAfterCall_13 : decode cX0_knownAfterCall 13 = .ok (.aload_n 0, 1) := by decide +kernel
theorem dX0_knownAfterCall_14 : decode cX0_knownAfterCall 14 = .ok (.getfield 26, 3) := by decide +kernel
theorem dX0_knownAfterCall_17 : decode cX0_knownAfterCall 17 = .ok (.iload_n 3, 1) := by decide +kernel
theorem dX0_knownAfterCall_18 : decode cX0_knownAfterCall 18 = .ok (.iaload, 1) := by decide +kernel
theorem dX0_knownAfterCall_19 : decode cX0_knownAfterCall 19 = .ok (.imul, 1) := by decide +kernel
theorem dX0_knownAfterCall_20 : decode cX0_knownAfterCall 20 = .ok (.istore 5, 2) := by decide +kernel
theorem dX0_knownAfterCall_22 : decode cX0_knownAfterCall 22 = .ok (.lload_n 1, 1) := by decide +kernel
theorem dX0_knownAfterCall_23 : decode cX0_knownAfterCall 23 = .ok (.iload 4, 2) := by decide +kernel
theorem dX0_knownAfterCall_25 : decode cX0_knownAfterCall 25 = .ok (.lushr, 1) := by decide +kernel
theorem dX0_knownAfterCall_26 : decode cX0_knownAfterCall 26 = .ok (.lload_n 1, 1) := by decide +kernel
theorem dX0_knownAfterCall_27 : decode cX0_knownAfterCall 27 = .ok (.iload 5, 2) := by decide +kernel
theorem dX0_knownAfterCall_29 : decode cX0_knownAfterCall 29 = .ok (.lushr, 1) := by decide +kernel
theorem dX0_knownAfterCall_30 : decode cX0_knownAfterCall 30 = .ok (.lor, 1) := by decide +kernel
theorem dX0_knownAfterCall_31 : decode cX0_knownAfterCall 31 = .ok (.ldc2_w 207, 3) := by decide +kernel
theorem dX0_knownAfterCall_34 : decode cX0_knownAfterCall 34 = .ok (.land, 1) := by decide +kernel
theorem dX0_knownAfterCall_35 : decode cX0_knownAfterCall 35 = .ok (.lstore 6, 2) := by decide +kernel
theorem dX0_knownAfterCall_37 : decode cX0_knownAfterCall 37 = .ok (.lload_n 1, 1) := by decide +kernel
theorem dX0_knownAfterCall_38 : decode cX0_knownAfterCall 38 = .ok (.lload 6, 2) := by decide +kernel
theorem dX0_knownAfterCall_40 : decode cX0_knownAfterCall 40 = .ok (.iload 5, 2) := by decide +kernel
theorem dX0_knownAfterCall_42 : decode cX0_knownAfterCall 42 = .ok (.lshl, 1) := by decide +kernel
theorem dX0_knownAfterCall_43 : decode cX0_knownAfterCall 43 = .ok (.lor, 1) := by decide +kernel
theorem dX0_knownAfterCall_44 : decode cX0_knownAfterCall 44 = .ok (.lstore 8, 2) := by decide +kernel
theorem dX0_knownAfterCall_46 : decode cX0_knownAfterCall 46 = .ok (.aload_n 0, 1) := by decide +kernel
theorem dX0_knownAfterCall_47 : decode cX0_knownAfterCall 47 = .ok (.getfield 29, 3) := by decide +kernel
theorem dX0_knownAfterCall_50 : decode cX0_knownAfterCall 50 = .ok (.iload_n 3, 1) := by decide +kernel
theorem dX0_knownAfterCall_51 : decode cX0_knownAfterCall 51 = .ok (.baload, 1) := by decide +kernel
theorem dX0_knownAfterCall_52 : decode cX0_knownAfterCall 52 = .ok (.ifCond .eq 8, 3) := by decide +kernel
theorem dX0_knownAfterCall_55 : decode cX0_knownAfterCall 55 = .ok (.lload 8, 2) := by decide +kernel
theorem dX0_knownAfterCall_57 : decode cX0_knownAfterCall 57 = .ok (.goto 11, 3) := by decide +kernel
theorem dX0_knownAfterCall_60 : decode cX0_knownAfterCall 60 = .ok (.lload 8, 2) := by decide +kernel
theorem dX0_knownAfterCall_62 : decode cX0_knownAfterCall 62 = .ok (.lload 6, 2) := by decide +kernel
theorem dX0_knownAfterCall_64 : decode cX0_knownAfterCall 64 = .ok (.iload 4, 2) := by decide +kernel
theorem dX0_knownAfterCall_66 : decode cX0_knownAfterCall 66 = .ok (.lshl, 1) := by decide +kernel
theorem dX0_knownAfterCall_67 : decode cX0_knownAfterCall 67 = .ok (.lor, 1) := by decide +kernel
theorem dX0_knownAfterCall_68 : decode cX0_knownAfterCall 68 = .ok (.lreturn, 1) := by decide +kernel
set_option maxRecDepth 20000 in
theorem ggX0_knownAfterRounds_X0_knownAtStart : GoodIn wsX0_knownAfterRounds wsX0_knownAtStart := goodIn_r _ [7, 8, 17, 18, 19, 20, 21, 22, 23, 24, 25, 26, 27, 28] (by decide +kernel) (by decide +kernel)
set_option maxRecDepth 20000 in
theorem gX0_knownAfterRounds_X0_knownAtStart : GoodIn wsX0_knownAfterRounds (wsV RX0 118 RX0 yX0_knownAtStart wsX0_knownAtStart) := goodIn_app (goodIn_of _ (by decide +kernel)) ggX0_knownAfterRounds_X0_knownAtStart
set_option maxRecDepth 20000 in
theorem ggX0_knownAfterRounds_X0_knownAfterCall : GoodIn wsX0_knownAfterRounds wsX0_knownAfterCall := goodIn_r _ [12, 13, 14, 15, 16, 17, 18, 19, 20, 21, 22, 23, 24, 25, 26, 27, 28] (by decide +kernel) (by decide +kernel)
set_option maxRecDepth 20000 in
theorem gX0_knownAfterRounds_X0_knownAfterCall : GoodIn wsX0_knownAfterRounds (wsV RX0 121 RX0 yX0_knownAfterCall wsX0_knownAfterCall) := goodIn_app (goodIn_of _ (by decide +kernel)) ggX0_knownAfterRounds_X0_knownAfterCall
theorem dX0_knownAfterRounds_0 : decode cX0_knownAfterRounds 0 = .ok (.aload_n 0, 1) := by decide +kernel
theorem dX0_knownAfterRounds_1 : decode cX0_knownAfterRounds 1 = .ok (.invokevirtual 118, 3) := by decide +kernel
theorem dX0_knownAfterRounds_4 : decode cX0_knownAfterRounds 4 = .ok (.lstore_n 2, 1) := by decide +kernel
theorem dX0_knownAfterRounds_5 : decode cX0_knownAfterRounds 5 = .ok (.iconst 0, 1) := by decide +kernel
theorem dX0_knownAfterRounds_6 : decode cX0_knownAfterRounds 6 = .ok (.istore 4, 2) := by decide +kernel
theorem dX0_knownAfterRounds_8 : decode cX0_knownAfterRounds 8 = .ok (.iload 4, 2) := by decide +kernel
theorem dX0_knownAfterRounds_10 : decode cX0_knownAfterRounds 10 = .ok (.aload_n 0, 1) := by decide +kernel
theorem dX0_knownAfterRounds_11 : decode cX0_knownAfterRounds 11 = .ok (.getfield 70, 3) := by decide +kernel
theorem dX0_knownAfterRounds_14 : decode cX0_knownAfterRounds 14 = .ok (.if_icmp .ge 28, 3) := by decide +kernel
theorem dX0_knownAfterRounds_17 : decode cX0_knownAfterRounds 17 = .ok (.aload_n 0, 1) := by decide +kernel
theorem dX0_knownAfterRounds_18 : decode cX0_knownAfterRounds 18 = .ok (.getfield 19, 3) := by decide +kernel
theorem dX0_knownAfterRounds_21 : decode cX0_knownAfterRounds 21 = .ok (.iload 4, 2) := by decide +kernel
theorem dX0_knownAfterRounds_23 : decode cX0_knownAfterRounds 23 = .ok (.iaload, 1) := by decide +kernel
theorem dX0_knownAfterRounds_24 : decode cX0_knownAfterRounds 24 = .ok (.iload_n 1, 1) := by decide +kernel
theorem dX0_knownAfterRounds_25 : decode cX0_knownAfterRounds 25 = .ok (.if_icmp .ge 17, 3) := by decide +kernel
theorem dX0_knownAfterRounds_28 : decode cX0_knownAfterRounds 28 = .ok (.aload_n 0, 1) := by decide +kernel
theorem dX0_knownAfterRounds_29 : decode cX0_knownAfterRounds 29 = .ok (.lload_n 2, 1) := by decide +kernel
theorem dX0_knownAfterRounds_30 : decode cX0_knownAfterRounds 30 = .ok (.iload 4, 2) := by decide +kernel
theorem dX0_knownAfterRounds_32 : decode cX0_knownAfterRounds 32 = .ok (.invokevirtual 121, 3) := by decide +kernel
theorem dX0_knownAfterRounds_35 : decode cX0_knownAfterRounds 35 = .ok (.lstore_n 2, 1) := by decide +kernel
theorem dX0_knownAfterRounds_36 : decode cX0_knownAfterRounds 36 = .ok (.iinc 4 1, 3) := by decide +kernel
theorem dX0_knownAfterRounds_39 : decode cX0_knownAfterRounds 39 = .ok (.goto (-31), 3) := by decide +kernel
theorem dX0_knownAfterRounds_42 : decode cX0_knownAfterRounds 42 = .ok (.lload_n 2, 1) := by decide +kernel
theorem dX0_knownAfterRounds_43 : decode cX0_knownAfterRounds 43 = .ok (.lreturn, 1) := by decide +kernel
set_option maxRecDepth 20000 in
theorem ggX0_scheduleIsComplete_X0_knownAfterRounds : GoodIn wsX0_scheduleIsComplete wsX0_knownAfterRounds := goodIn_r _ [6, 7, 8, 9, 10, 11, 5, 12, 13, 14, 15, 16, 17, 18, 19, 20, 21, 26, 27, 28, 29, 30, 31, 32, 33, 34, 35, 36, 37] (by decide +kernel) (by decide +kernel)
set_option maxRecDepth 20000 in
theorem gX0_scheduleIsComplete_X0_knownAfterRounds : GoodIn wsX0_scheduleIsComplete (wsV RX0 106 RX0 yX0_knownAfterRounds wsX0_knownAfterRounds) := goodIn_app (goodIn_of _ (by decide +kernel)) ggX0_scheduleIsComplete_X0_knownAfterRounds
set_option maxRecDepth 20000 in
theorem ggX0_scheduleIsComplete_X0_everythingKnown : GoodIn wsX0_scheduleIsComplete wsX0_everythingKnown := goodIn_r _ [25, 13, 26, 27, 28, 29, 30, 31, 32, 33, 34, 35, 36, 37] (by decide +kernel) (by decide +kernel)
set_option maxRecDepth 20000 in
theorem gX0_scheduleIsComplete_X0_everythingKnown : GoodIn wsX0_scheduleIsComplete (wsV RX0 114 RX0 yX0_everythingKnown wsX0_everythingKnown) := goodIn_app (goodIn_of _ (by decide +kernel)) ggX0_scheduleIsComplete_X0_everythingKnown
theorem dX0_scheduleIsComplete_0 : decode cX0_scheduleIsComplete 0 = .ok (.aload_n 0, 1) := by decide +kernel
theorem dX0_scheduleIsComplete_1 : decode cX0_scheduleIsComplete 1 = .ok (.aload_n 0, 1) := by decide +kernel
theorem dX0_scheduleIsComplete_2 : decode cX0_scheduleIsComplete 2 = .ok (.getfield 55, 3) := by decide +kernel
theorem dX0_scheduleIsComplete_5 : decode cX0_scheduleIsComplete 5 = .ok (.invokevirtual 106, 3) := by decide +kernel
theorem dX0_scheduleIsComplete_8 : decode cX0_scheduleIsComplete 8 = .ok (.aload_n 0, 1) := by decide +kernel
theorem dX0_scheduleIsComplete_9 : decode cX0_scheduleIsComplete 9 = .ok (.invokevirtual 114, 3) := by decide +kernel
theorem dX0_scheduleIsComplete_12 : decode cX0_scheduleIsComplete 12 = .ok (.lcmp, 1) := by decide +kernel
theorem dX0_scheduleIsComplete_13 : decode cX0_scheduleIsComplete 13 = .ok (.ifCond .ne 7, 3) := by decide +kernel
theorem dX0_scheduleIsComplete_16 : decode cX0_scheduleIsComplete 16 = .ok (.iconst 1, 1) := by decide +kernel
theorem dX0_scheduleIsComplete_17 : decode cX0_scheduleIsComplete 17 = .ok (.goto 4, 3) := by decide +kernel
theorem dX0_scheduleIsComplete_20 : decode cX0_scheduleIsComplete 20 = .ok (.iconst 0, 1) := by decide +kernel
theorem dX0_scheduleIsComplete_21 : decode cX0_scheduleIsComplete 21 = .ok (.ireturn, 1) := by decide +kernel
set_option maxRecDepth 20000 in
theorem ggX0_isCompleteWithout_X0_knownAtStart : GoodIn wsX0_isCompleteWithout wsX0_knownAtStart := goodIn_r _ [6, 7, 20, 21, 22, 23, 24, 25, 26, 27, 28, 29, 30, 31] (by decide +kernel) (by decide +kernel)
set_option maxRecDepth 20000 in
theorem gX0_isCompleteWithout_X0_knownAtStart : GoodIn wsX0_isCompleteWithout (wsV RX0 118 RX0 yX0_knownAtStart wsX0_knownAtStart) := goodIn_app (goodIn_of _ (by decide +kernel)) ggX0_isCompleteWithout_X0_knownAtStart
set_option maxRecDepth 20000 in
theorem ggX0_isCompleteWithout_X0_knownAfterCall : GoodIn wsX0_isCompleteWithout wsX0_knownAfterCall := goodIn_r _ [11, 12, 13, 14, 15, 20, 21, 22, 23, 24, 25, 26, 27, 28, 29, 30, 31] (by decide +kernel) (by decide +kernel)
set_option maxRecDepth 20000 in
theorem gX0_isCompleteWithout_X0_knownAfterCall : GoodIn wsX0_isCompleteWithout (wsV RX0 121 RX0 yX0_knownAfterCall wsX0_knownAfterCall) := goodIn_app (goodIn_of _ (by decide +kernel)) ggX0_isCompleteWithout_X0_knownAfterCall
set_option maxRecDepth 20000 in
theorem ggX0_isCompleteWithout_X0_everythingKnown : GoodIn wsX0_isCompleteWithout wsX0_everythingKnown := goodIn_r _ [19, 7, 20, 21, 22, 23, 24, 25, 26, 27, 28, 29, 30, 31] (by decide +kernel) (by decide +kernel)
set_option maxRecDepth 20000 in
theorem gX0_isCompleteWithout_X0_everythingKnown : GoodIn wsX0_isCompleteWithout (wsV RX0 114 RX0 yX0_everythingKnown wsX0_everythingKnown) := goodIn_app (goodIn_of _ (by decide +kernel)) ggX0_isCompleteWithout_X0_everythingKnown
theorem dX0_isCompleteWithout_0 : decode cX0_isCompleteWithout 0 = .ok (.aload_n 0, 1) := by decide +kernel
theorem dX0_isCompleteWithout_1 : decode cX0_isCompleteWithout 1 = .ok (.invokevirtual 118, 3) := by decide +kernel
theorem dX0_isCompleteWithout_4 : decode cX0_isCompleteWithout 4 = .ok (.lstore_n 2, 1) := by decide +kernel
theorem dX0_isCompleteWithout_5 : decode cX0_isCompleteWithout 5 = .ok (.iconst 0, 1) := by decide +kernel
theorem dX0_isCompleteWithout_6 : decode cX0_isCompleteWithout 6 = .ok (.istore 4, 2) := by decide +kernel
theorem dX0_isCompleteWithout_8 : decode cX0_isCompleteWithout 8 = .ok (.iload 4, 2) := by decide +kernel
theorem dX0_isCompleteWithout_10 : decode cX0_isCompleteWithout 10 = .ok (.aload_n 0, 1) := by decide +kernel
theorem dX0_isCompleteWithout_11 : decode cX0_isCompleteWithout 11 = .ok (.getfield 70, 3) := by decide +kernel
theorem dX0_isCompleteWithout_14 : decode cX0_isCompleteWithout 14 = .ok (.if_icmp .ge 23, 3) := by decide +kernel
theorem dX0_isCompleteWithout_17 : decode cX0_isCompleteWithout 17 = .ok (.iload 4, 2) := by decide +kernel
theorem dX0_isCompleteWithout_19 : decode cX0_isCompleteWithout 19 = .ok (.iload_n 1, 1) := by decide +kernel
theorem dX0_isCompleteWithout_20 : decode cX0_isCompleteWithout 20 = .ok (.if_icmp .eq 11, 3) := by decide +kernel
theorem dX0_isCompleteWithout_23 : decode cX0_isCompleteWithout 23 = .ok (.aload_n 0, 1) := by decide +kernel
theorem dX0_isCompleteWithout_24 : decode cX0_isCompleteWithout 24 = .ok (.lload_n 2, 1) := by decide +kernel
theorem dX0_isCompleteWithout_25 : decode cX0_isCompleteWithout 25 = .ok (.iload 4, 2) := by decide +kernel
theorem dX0_isCompleteWithout_27 : decode cX0_isCompleteWithout 27 = .ok (.invokevirtual 121, 3) := by decide +kernel
theorem dX0_isCompleteWithout_30 : decode cX0_isCompleteWithout 30 = .ok (.lstore_n 2, 1) := by decide +kernel
theorem dX0_isCompleteWithout_31 : decode cX0_isCompleteWithout 31 = .ok (.iinc 4 1, 3) := by decide +kernel
theorem dX0_isCompleteWithout_34 : decode cX0_isCompleteWithout 34 = .ok (.goto (-26), 3) := by decide +kernel
theorem dX0_isCompleteWithout_37 : decode cX0_isCompleteWithout 37 = .ok (.lload_n 2, 1) := by decide +kernel
theorem dX0_isCompleteWithout_38 : decode cX0_isCompleteWithout 38 = .ok (.aload_n 0, 1) := by decide +kernel
theorem dX0_isCompleteWithout_39 : decode cX0_isCompleteWithout 39 = .ok (.invokevirtual 114, 3) := by decide +kernel
theorem dX0_isCompleteWithout_42 : decode cX0_isCompleteWithout 42 = .ok (.lcmp, 1) := by decide +kernel
theorem dX0_isCompleteWithout_43 : decode cX0_isCompleteWithout 43 = .ok (.ifCond .ne 7, 3) := by decide +kernel
theorem dX0_isCompleteWithout_46 : decode cX0_isCompleteWithout 46 = .ok (.iconst 1, 1) := by decide +kernel
theorem dX0_isCompleteWithout_47 : decode cX0_isCompleteWithout 47 = .ok (.goto 4, 3) := by decide +kernel
theorem dX0_isCompleteWithout_50 : decode cX0_isCompleteWithout 50 = .ok (.iconst 0, 1) := by decide +kernel
theorem dX0_isCompleteWithout_51 : decode cX0_isCompleteWithout 51 = .ok (.ireturn, 1) := by decide +kernel
set_option maxRecDepth 20000 in
theorem ggX0_fillKnownAfterMasks_X0_knownAtStart : GoodIn wsX0_fillKnownAfterMasks wsX0_knownAtStart := goodIn_r _ [7, 8, 17, 18, 19, 20, 21, 22, 23, 24, 25, 26, 27, 28] (by decide +kernel) (by decide +kernel)
set_option maxRecDepth 20000 in
theorem gX0_fillKnownAfterMasks_X0_knownAtStart : GoodIn wsX0_fillKnownAfterMasks (wsV RX0 118 RX0 yX0_knownAtStart wsX0_knownAtStart) := goodIn_app (goodIn_of _ (by decide +kernel)) ggX0_fillKnownAfterMasks_X0_knownAtStart
set_option maxRecDepth 20000 in
theorem ggX0_fillKnownAfterMasks_X0_knownAfterCall : GoodIn wsX0_fillKnownAfterMasks wsX0_knownAfterCall := goodIn_r _ [12, 13, 14, 15, 16, 17, 18, 19, 20, 21, 22, 23, 24, 25, 26, 27, 28] (by decide +kernel) (by decide +kernel)
set_option maxRecDepth 20000 in
theorem gX0_fillKnownAfterMasks_X0_knownAfterCall : GoodIn wsX0_fillKnownAfterMasks (wsV RX0 121 RX0 yX0_knownAfterCall wsX0_knownAfterCall) := goodIn_app (goodIn_of _ (by decide +kernel)) ggX0_fillKnownAfterMasks_X0_knownAfterCall
theorem dX0_fillKnownAfterMasks_0 : decode cX0_fillKnownAfterMasks 0 = .ok (.aload_n 0, 1) := by decide +kernel
theorem dX0_fillKnownAfterMasks_1 : decode cX0_fillKnownAfterMasks 1 = .ok (.getfield 36, 3) := by decide +kernel
theorem dX0_fillKnownAfterMasks_4 : decode cX0_fillKnownAfterMasks 4 = .ok (.iconst 0, 1) := by decide +kernel
theorem dX0_fillKnownAfterMasks_5 : decode cX0_fillKnownAfterMasks 5 = .ok (.aload_n 0, 1) := by decide +kernel
theorem dX0_fillKnownAfterMasks_6 : decode cX0_fillKnownAfterMasks 6 = .ok (.invokevirtual 118, 3) := by decide +kernel
theorem dX0_fillKnownAfterMasks_9 : decode cX0_fillKnownAfterMasks 9 = .ok (.lastore, 1) := by decide +kernel
theorem dX0_fillKnownAfterMasks_10 : decode cX0_fillKnownAfterMasks 10 = .ok (.iconst 0, 1) := by decide +kernel
theorem dX0_fillKnownAfterMasks_11 : decode cX0_fillKnownAfterMasks 11 = .ok (.istore_n 1, 1) := by decide +kernel
theorem dX0_fillKnownAfterMasks_12 : decode cX0_fillKnownAfterMasks 12 = .ok (.iload_n 1, 1) := by decide +kernel
theorem dX0_fillKnownAfterMasks_13 : decode cX0_fillKnownAfterMasks 13 = .ok (.aload_n 0, 1) := by decide +kernel
theorem dX0_fillKnownAfterMasks_14 : decode cX0_fillKnownAfterMasks 14 = .ok (.getfield 70, 3) := by decide +kernel
theorem dX0_fillKnownAfterMasks_17 : decode cX0_fillKnownAfterMasks 17 = .ok (.if_icmp .ge 51, 3) := by decide +kernel
theorem dX0_fillKnownAfterMasks_20 : decode cX0_fillKnownAfterMasks 20 = .ok (.iload_n 1, 1) := by decide +kernel
theorem dX0_fillKnownAfterMasks_21 : decode cX0_fillKnownAfterMasks 21 = .ok (.bipush 12, 2) := by decide +kernel
theorem dX0_fillKnownAfterMasks_23 : decode cX0_fillKnownAfterMasks 23 = .ok (.if_icmp .ge 45, 3) := by decide +kernel
theorem dX0_fillKnownAfterMasks_26 : decode cX0_fillKnownAfterMasks 26 = .ok (.iconst 1, 1) := by decide +kernel
theorem dX0_fillKnownAfterMasks_27 : decode cX0_fillKnownAfterMasks 27 = .ok (.iload_n 1, 1) := by decide +kernel
theorem dX0_fillKnownAfterMasks_28 : decode cX0_fillKnownAfterMasks 28 = .ok (.ishl, 1) := by decide +kernel
theorem dX0_fillKnownAfterMasks_29 : decode cX0_fillKnownAfterMasks 29 = .ok (.istore_n 2, 1) := by decide +kernel
theorem dX0_fillKnownAfterMasks_30 : decode cX0_fillKnownAfterMasks 30 = .ok (.iconst 0, 1) := by decide +kernel
theorem dX0_fillKnownAfterMasks_31 : decode cX0_fillKnownAfterMasks 31 = .ok (.istore_n 3, 1) := by decide +kernel
theorem dX0_fillKnownAfterMasks_32 : decode cX0_fillKnownAfterMasks 32 = .ok (.iload_n 3, 1) := by decide +kernel
theorem dX0_fillKnownAfterMasks_33 : decode cX0_fillKnownAfterMasks 33 = .ok (.iload_n 2, 1) := by decide +kernel
theorem dX0_fillKnownAfterMasks_34 : decode cX0_fillKnownAfterMasks 34 = .ok (.if_icmp .ge 28, 3) := by decide +kernel
theorem dX0_fillKnownAfterMasks_37 : decode cX0_fillKnownAfterMasks 37 = .ok (.aload_n 0, 1) := by decide +kernel
theorem dX0_fillKnownAfterMasks_38 : decode cX0_fillKnownAfterMasks 38 = .ok (.getfield 36, 3) := by decide +kernel
theorem dX0_fillKnownAfterMasks_41 : decode cX0_fillKnownAfterMasks 41 = .ok (.iload_n 2, 1) := by decide +kernel
theorem dX0_fillKnownAfterMasks_42 : decode cX0_fillKnownAfterMasks 42 = .ok (.iload_n 3, 1) := by decide +kernel
theorem dX0_fillKnownAfterMasks_43 : decode cX0_fillKnownAfterMasks 43 = .ok (.iadd, 1) := by decide +kernel
theorem dX0_fillKnownAfterMasks_44 : decode cX0_fillKnownAfterMasks 44 = .ok (.aload_n 0, 1) := by decide +kernel
theorem dX0_fillKnownAfterMasks_45 : decode cX0_fillKnownAfterMasks 45 = .ok (.aload_n 0, 1) := by decide +kernel
theorem dX0_fillKnownAfterMasks_46 : decode cX0_fillKnownAfterMasks 46 = .ok (.getfield 36, 3) := by decide +kernel
theorem dX0_fillKnownAfterMasks_49 : decode cX0_fillKnownAfterMasks 49 = .ok (.iload_n 3, 1) := by decide +kernel
theorem dX0_fillKnownAfterMasks_50 : decode cX0_fillKnownAfterMasks 50 = .ok (.laload, 1) := by decide +kernel
theorem dX0_fillKnownAfterMasks_51 : decode cX0_fillKnownAfterMasks 51 = .ok (.iload_n 1, 1) := by decide +kernel
theorem dX0_fillKnownAfterMasks_52 : decode cX0_fillKnownAfterMasks 52 = .ok (.invokevirtual 121, 3) := by decide +kernel
theorem dX0_fillKnownAfterMasks_55 : decode cX0_fillKnownAfterMasks 55 = .ok (.lastore, 1) := by decide +kernel
theorem dX0_fillKnownAfterMasks_56 : decode cX0_fillKnownAfterMasks 56 = .ok (.iinc 3 1, 3) := by decide +kernel
theorem dX0_fillKnownAfterMasks_59 : decode cX0_fillKnownAfterMasks 59 = .ok (.goto (-27), 3) := by decide +kernel
theorem dX0_fillKnownAfterMasks_62 : decode cX0_fillKnownAfterMasks 62 = .ok (.iinc 1 1, 3) := by decide +kernel
theorem dX0_fillKnownAfterMasks_65 : decode cX0_fillKnownAfterMasks 65 = .ok (.goto (-53), 3) := by decide +kernel
theorem dX0_fillKnownAfterMasks_68 : decode cX0_fillKnownAfterMasks 68 = .ok (.return_, 1) := by decide +kernel
theorem dX0_chanceOfMask_0 : decode cX0_chanceOfMask 0 = .ok (.dconst 1, 1) := by decide +kernel
theorem dX0_chanceOfMask_1 : decode cX0_chanceOfMask 1 = .ok (.dload_n 2, 1) := by decide +kernel
theorem dX0_chanceOfMask_2 : decode cX0_chanceOfMask 2 = .ok (.dsub, 1) := by decide +kernel
theorem dX0_chanceOfMask_3 : decode cX0_chanceOfMask 3 = .ok (.dstore 4, 2) := by decide +kernel
theorem dX0_chanceOfMask_5 : decode cX0_chanceOfMask 5 = .ok (.dconst 1, 1) := by decide +kernel
theorem dX0_chanceOfMask_6 : decode cX0_chanceOfMask 6 = .ok (.dstore 6, 2) := by decide +kernel
theorem dX0_chanceOfMask_8 : decode cX0_chanceOfMask 8 = .ok (.iconst 0, 1) := by decide +kernel
theorem dX0_chanceOfMask_9 : decode cX0_chanceOfMask 9 = .ok (.istore 8, 2) := by decide +kernel
theorem dX0_chanceOfMask_11 : decode cX0_chanceOfMask 11 = .ok (.iload 8, 2) := by decide +kernel
theorem dX0_chanceOfMask_13 : decode cX0_chanceOfMask 13 = .ok (.aload_n 0, 1) := by decide +kernel
theorem dX0_chanceOfMask_14 : decode cX0_chanceOfMask 14 = .ok (.getfield 70, 3) := by decide +kernel
theorem dX0_chanceOfMask_17 : decode cX0_chanceOfMask 17 = .ok (.if_icmp .ge 30, 3) := by decide +kernel
theorem dX0_chanceOfMask_20 : decode cX0_chanceOfMask 20 = .ok (.dload 6, 2) := by decide +kernel
theorem dX0_chanceOfMask_22 : decode cX0_chanceOfMask 22 = .ok (.iload_n 1, 1) := by decide +kernel
theorem dX0_chanceOfMask_23 : decode cX0_chanceOfMask 23 = .ok (.iload 8, 2) := by decide +kernel
theorem dX0_chanceOfMask_25 : decode cX0_chanceOfMask 25 = .ok (.ishr, 1) := by decide +kernel
theorem dX0_chanceOfMask_26 : decode cX0_chanceOfMask 26 = .ok (.iconst 1, 1) := by decide +kernel
theorem dX0_chanceOfMask_27 : decode cX0_chanceOfMask 27 = .ok (.iand, 1) := by decide +kernel
theorem dX0_chanceOfMask_28 : decode cX0_chanceOfMask 28 = .ok (.iconst 1, 1) := by decide +kernel
theorem dX0_chanceOfMask_29 : decode cX0_chanceOfMask 29 = .ok (.if_icmp .ne 7, 3) := by decide +kernel
theorem dX0_chanceOfMask_32 : decode cX0_chanceOfMask 32 = .ok (.dload_n 2, 1) := by decide +kernel
theorem dX0_chanceOfMask_33 : decode cX0_chanceOfMask 33 = .ok (.goto 5, 3) := by decide +kernel
theorem dX0_chanceOfMask_36 : decode cX0_chanceOfMask 36 = .ok (.dload 4, 2) := by decide +kernel
theorem dX0_chanceOfMask_38 : decode cX0_chanceOfMask 38 = .ok (.dmul, 1) := by decide +kernel
theorem dX0_chanceOfMask_39 : decode cX0_chanceOfMask 39 = .ok (.dstore 6, 2) := by decide +kernel
theorem dX0_chanceOfMask_41 : decode cX0_chanceOfMask 41 = .ok (.iinc 8 1, 3) := by decide +kernel
theorem dX0_chanceOfMask_44 : decode cX0_chanceOfMask 44 = .ok (.goto (-33), 3) := by decide +kernel
theorem dX0_chanceOfMask_47 : decode cX0_chanceOfMask 47 = .ok (.dload 6, 2) := by decide +kernel
theorem dX0_chanceOfMask_49 : decode cX0_chanceOfMask 49 = .ok (.dreturn, 1) := by decide +kernel
set_option maxRecDepth 20000 in
theorem ggX0_averageBits_J13_bitCount_95d88 : GoodIn wsX0_averageBits wsJ13_bitCount_95d88 := goodIn_r _ [5, 6, 7, 8] (by decide +kernel) (by decide +kernel)
set_option maxRecDepth 20000 in
theorem gX0_averageBits_J13_bitCount_95d88 : GoodIn wsX0_averageBits (va_wsS RX0 209 yJ13_bitCount_95d88 wsJ13_bitCount_95d88) := goodIn_app (goodIn_of _ (by decide +kernel)) ggX0_averageBits_J13_bitCount_95d88
set_option maxRecDepth 20000 in
theorem ggX0_averageBits_X0_bitsOfFloat : GoodIn wsX0_averageBits wsX0_bitsOfFloat := goodIn_r _ [12, 13] (by decide +kernel) (by decide +kernel)
set_option maxRecDepth 20000 in
theorem gX0_averageBits_X0_bitsOfFloat : GoodIn wsX0_averageBits (va_wsS RX0 213 yX0_bitsOfFloat wsX0_bitsOfFloat) := goodIn_app (goodIn_of _ (by decide +kernel)) ggX0_averageBits_X0_bitsOfFloat
theorem dX0_averageBits_0 : decode cX0_averageBits 0 = .ok (.lload_n 1, 1) := by decide +kernel
theorem dX0_averageBits_1 : decode cX0_averageBits 1 = .ok (.invokestatic 209, 3) := by decide +kernel
theorem dX0_averageBits_4 : decode cX0_averageBits 4 = .ok (.i2f, 1) := by decide +kernel
theorem dX0_averageBits_5 : decode cX0_averageBits 5 = .ok (.aload_n 0, 1) := by decide +kernel
theorem dX0_averageBits_6 : decode cX0_averageBits 6 = .ok (.getfield 9, 3) := by decide +kernel
theorem dX0_averageBits_9 : decode cX0_averageBits 9 = .ok (.i2f, 1) := by decide +kernel
theorem dX0_averageBits_10 : decode cX0_averageBits 10 = .ok (.fdiv, 1) := by decide +kernel
theorem dX0_averageBits_11 : decode cX0_averageBits 11 = .ok (.invokestatic 213, 3) := by decide +kernel
theorem dX0_averageBits_14 : decode cX0_averageBits 14 = .ok (.ireturn, 1) := by decide +kernel
theorem dX0_bitsOfFloat_0 : decode cX0_bitsOfFloat 0 = .ok (.fload_n 0, 1) := by decide +kernel
theorem dX0_bitsOfFloat_1 : decode cX0_bitsOfFloat 1 = .ok (.fstore_n 1, 1) := by decide +kernel
theorem dX0_bitsOfFloat_2 : decode cX0_bitsOfFloat 2 = .ok (.bipush 127, 2) := by decide +kernel
theorem dX0_bitsOfFloat_4 : decode cX0_bitsOfFloat 4 = .ok (.istore_n 2, 1) := by decide +kernel
theorem dX0_bitsOfFloat_5 : decode cX0_bitsOfFloat 5 = .ok (.fload_n 1, 1) := by decide +kernel
theorem dX0_bitsOfFloat_6 : decode cX0_bitsOfFloat 6 = .ok (.fconst 2, 1) := by decide +kernel
theorem dX0_bitsOfFloat_7 : decode cX0_bitsOfFloat 7 = .ok (.fcmp .l, 1) := by decide +kernel
theorem dX0_bitsOfFloat_8 : decode cX0_bitsOfFloat 8 = .ok (.ifCond .lt 20, 3) := by decide +kernel
theorem dX0_bitsOfFloat_11 : decode cX0_bitsOfFloat 11 = .ok (.iload_n 2, 1) := by decide +kernel
theorem dX0_bitsOfFloat_12 : decode cX0_bitsOfFloat 12 = .ok (.sipush 254, 3) := by decide +kernel
theorem dX0_bitsOfFloat_15 : decode cX0_bitsOfFloat 15 = .ok (.if_icmp .ge 13, 3) := by decide +kernel
theorem dX0_bitsOfFloat_18 : decode cX0_bitsOfFloat 18 = .ok (.fload_n 1, 1) := by decide +kernel
theorem dX0_bitsOfFloat_19 : decode cX0_bitsOfFloat 19 = .ok (.fconst 2, 1) := by decide +kernel
theorem dX0_bitsOfFloat_20 : decode cX0_bitsOfFloat 20 = .ok (.fdiv, 1) := by decide +kernel
theorem dX0_bitsOfFloat_21 : decode cX0_bitsOfFloat 21 = .ok (.fstore_n 1, 1) := by decide +kernel
theorem dX0_bitsOfFloat_22 : decode cX0_bitsOfFloat 22 = .ok (.iinc 2 1, 3) := by decide +kernel
theorem dX0_bitsOfFloat_25 : decode cX0_bitsOfFloat 25 = .ok (.goto (-20), 3) := by decide +kernel
theorem dX0_bitsOfFloat_28 : decode cX0_bitsOfFloat 28 = .ok (.iload_n 2, 1) := by decide +kernel
theorem dX0_bitsOfFloat_29 : decode cX0_bitsOfFloat 29 = .ok (.bipush 23, 2) := by decide +kernel
theorem dX0_bitsOfFloat_31 : decode cX0_bitsOfFloat 31 = .ok (.ishl, 1) := by decide +kernel
theorem dX0_bitsOfFloat_32 : decode cX0_bitsOfFloat 32 = .ok (.fload_n 1, 1) := by decide +kernel
theorem dX0_bitsOfFloat_33 : decode cX0_bitsOfFloat 33 = .ok (.fconst 1, 1) := by decide +kernel
theorem dX0_bitsOfFloat_34 : decode cX0_bitsOfFloat 34 = .ok (.fsub, 1) := by decide +kernel
theorem dX0_bitsOfFloat_35 : decode cX0_bitsOfFloat 35 = .ok (.ldc 217, 2) := by decide +kernel
theorem dX0_bitsOfFloat_37 : decode cX0_bitsOfFloat 37 = .ok (.fmul, 1) := by decide +kernel
theorem dX0_bitsOfFloat_38 : decode cX0_bitsOfFloat 38 = .ok (.f2i, 1) := by decide +kernel
theorem dX0_bitsOfFloat_39 : decode cX0_bitsOfFloat 39 = .ok (.ior, 1) := by decide +kernel
theorem dX0_bitsOfFloat_40 : decode cX0_bitsOfFloat 40 = .ok (.ireturn, 1) := by decide +kernel
theorem dX0_bitsOfDouble_0 : decode cX0_bitsOfDouble 0 = .ok (.dload_n 0, 1) := by decide +kernel
theorem dX0_bitsOfDouble_1 : decode cX0_bitsOfDouble 1 = .ok (.dconst 0, 1) := by decide +kernel
theorem dX0_bitsOfDouble_2 : decode cX0_bitsOfDouble 2 = .ok (.dcmp .g, 1) := by decide +kernel
theorem dX0_bitsOfDouble_3 : decode cX0_bitsOfDouble 3 = .ok (.ifCond .gt 5, 3) := by decide +kernel
theorem dX0_bitsOfDouble_6 : decode cX0_bitsOfDouble 6 = .ok (.lconst 0, 1) := by decide +kernel
theorem dX0_bitsOfDouble_7 : decode cX0_bitsOfDouble 7 = .ok (.lreturn, 1) := by decide +kernel
theorem dX0_bitsOfDouble_8 : decode cX0_bitsOfDouble 8 = .ok (.dload_n 0, 1) := by decide +kernel
theorem dX0_bitsOfDouble_9 : decode cX0_bitsOfDouble 9 = .ok (.dstore_n 2, 1) := by decide +kernel
theorem dX0_bitsOfDouble_10 : decode cX0_bitsOfDouble 10 = .ok (.ldc2_w 218, 3) := by decide +kernel
theorem dX0_bitsOfDouble_13 : decode cX0_bitsOfDouble 13 = .ok (.lstore 4, 2) := by decide +kernel
theorem dX0_bitsOfDouble_15 : decode cX0_bitsOfDouble 15 = .ok (.dload_n 2, 1) := by decide +kernel
theorem dX0_bitsOfDouble_16 : decode cX0_bitsOfDouble 16 = .ok (.dconst 1, 1) := by decide +kernel
theorem dX0_bitsOfDouble_17 : decode cX0_bitsOfDouble 17 = .ok (.dcmp .g, 1) := by decide +kernel
theorem dX0_bitsOfDouble_18 : decode cX0_bitsOfDouble 18 = .ok (.ifCond .ge 25, 3) := by decide +kernel
theorem dX0_bitsOfDouble_21 : decode cX0_bitsOfDouble 21 = .ok (.lload 4, 2) := by decide +kernel
theorem dX0_bitsOfDouble_23 : decode cX0_bitsOfDouble 23 = .ok (.lconst 1, 1) := by decide +kernel
theorem dX0_bitsOfDouble_24 : decode cX0_bitsOfDouble 24 = .ok (.lcmp, 1) := by decide +kernel
theorem dX0_bitsOfDouble_25 : decode cX0_bitsOfDouble 25 = .ok (.ifCond .le 18, 3) := by decide +kernel
theorem dX0_bitsOfDouble_28 : decode cX0_bitsOfDouble 28 = .ok (.dload_n 2, 1) := by decide +kernel
theorem dX0_bitsOfDouble_29 : decode cX0_bitsOfDouble 29 = .ok (.ldc2_w 220, 3) := by decide +kernel
theorem dX0_bitsOfDouble_32 : decode cX0_bitsOfDouble 32 = .ok (.dmul, 1) := by decide +kernel
theorem dX0_bitsOfDouble_33 : decode cX0_bitsOfDouble 33 = .ok (.dstore_n 2, 1) := by decide +kernel
theorem dX0_bitsOfDouble_34 : decode cX0_bitsOfDouble 34 = .ok (.lload 4, 2) := by decide +kernel
theorem dX0_bitsOfDouble_36 : decode cX0_bitsOfDouble 36 = .ok (.lconst 1, 1) := by decide +kernel
theorem dX0_bitsOfDouble_37 : decode cX0_bitsOfDouble 37 = .ok (.lsub, 1) := by decide +kernel
theorem dX0_bitsOfDouble_38 : decode cX0_bitsOfDouble 38 = .ok (.lstore 4, 2) := by decide +kernel
theorem dX0_bitsOfDouble_40 : decode cX0_bitsOfDouble 40 = .ok (.goto (-25), 3) := by decide +kernel
theorem dX0_bitsOfDouble_43 : decode cX0_bitsOfDouble 43 = .ok (.lload 4, 2) := by decide +kernel
theorem dX0_bitsOfDouble_45 : decode cX0_bitsOfDouble 45 = .ok (.bipush 52, 2) := by decide +kernel
theorem dX0_bitsOfDouble_47 : decode cX0_bitsOfDouble 47 = .ok (.lshl, 1) := by decide +kernel
theorem dX0_bitsOfDouble_48 : decode cX0_bitsOfDouble 48 = .ok (.dload_n 2, 1) := by decide +kernel
theorem dX0_bitsOfDouble_49 : decode cX0_bitsOfDouble 49 = .ok (.dconst 1, 1) := by decide +kernel
theorem dX0_bitsOfDouble_50 : decode cX0_bitsOfDouble 50 = .ok (.dsub, 1) := by decide +kernel
theorem dX0_bitsOfDouble_51 : decode cX0_bitsOfDouble 51 = .ok (.ldc2_w 222, 3) := by decide +kernel
theorem dX0_bitsOfDouble_54 : decode cX0_bitsOfDouble 54 = .ok (.dmul, 1) := by decide +kernel
theorem dX0_bitsOfDouble_55 : decode cX0_bitsOfDouble 55 = .ok (.d2l, 1) := by decide +kernel
theorem dX0_bitsOfDouble_56 : decode cX0_bitsOfDouble 56 = .ok (.lor, 1) := by decide +kernel
theorem dX0_bitsOfDouble_57 : decode cX0_bitsOfDouble 57 = .ok (.lreturn, 1) := by decide +kernel
theorem dX0_mix_0 : decode cX0_mix 0 = .ok (.ldc2_w 224, 3) := by decide +kernel
theorem dX0_mix_3 : decode cX0_mix 3 = .ok (.lload_n 0, 1) := by decide +kernel
theorem dX0_mix_4 : decode cX0_mix 4 = .ok (.lmul, 1) := by decide +kernel
theorem dX0_mix_5 : decode cX0_mix 5 = .ok (.lload_n 2, 1) := by decide +kernel
theorem dX0_mix_6 : decode cX0_mix 6 = .ok (.ladd, 1) := by decide +kernel
theorem dX0_mix_7 : decode cX0_mix 7 = .ok (.lreturn, 1) := by decide +kernel
set_option maxRecDepth 20000 in
theorem ggX0_mixCalls_X0_describeCall : GoodIn wsX0_mixCalls wsX0_describeCall := goodIn_r _ [6, 7, 8, 9, 10, 11, 12, 13, 5, 14, 1, 50, 51, 52, 53, 54, 55, 56, 57, 58, 59, 60, 61] (by decide +kernel) (by decide +kernel)
set_option maxRecDepth 20000 in
theorem gX0_mixCalls_X0_describeCall : GoodIn wsX0_mixCalls (wsV RX0 226 RX0 yX0_describeCall wsX0_describeCall) := goodIn_app (goodIn_of _ (by decide +kernel)) ggX0_mixCalls_X0_describeCall
set_option maxRecDepth 20000 in
theorem ggX0_mixCalls_X0_mix : GoodIn wsX0_mixCalls wsX0_mix := goodIn_r _ [17, 18] (by decide +kernel) (by decide +kernel)
set_option maxRecDepth 20000 in
theorem gX0_mixCalls_X0_mix : GoodIn wsX0_mixCalls (va_wsS RX0 163 yX0_mix wsX0_mix) := goodIn_app (goodIn_of _ (by decide +kernel)) ggX0_mixCalls_X0_mix
set_option maxRecDepth 20000 in
theorem ggX0_mixCalls_X0_isCritical : GoodIn wsX0_mixCalls wsX0_isCritical := goodIn_r _ [22, 11, 12, 13, 5, 14, 1, 23, 24, 25, 26, 27, 28, 29, 30, 31, 8, 32, 33, 34, 35, 36, 37, 38, 39, 40, 9, 10, 41, 7, 42, 43, 44, 45, 46, 47, 48, 49, 50, 51, 52, 53, 54, 55, 56, 57, 58, 59, 60, 61] (by decide +kernel) (by decide +kernel)
set_option maxRecDepth 20000 in
theorem gX0_mixCalls_X0_isCritical : GoodIn wsX0_mixCalls (wsV RX0 229 RX0 yX0_isCritical wsX0_isCritical) := goodIn_app (goodIn_of _ (by decide +kernel)) ggX0_mixCalls_X0_isCritical
theorem dX0_mixCalls_0 : decode cX0_mixCalls 0 = .ok (.lload_n 1, 1) := by decide +kernel
theorem dX0_mixCalls_1 : decode cX0_mixCalls 1 = .ok (.lstore_n 3, 1) := by decide +kernel
theorem dX0_mixCalls_2 : decode cX0_mixCalls 2 = .ok (.iconst 0, 1) := by decide +kernel
theorem dX0_mixCalls_3 : decode cX0_mixCalls 3 = .ok (.istore 5, 2) := by decide +kernel
theorem dX0_mixCalls_5 : decode cX0_mixCalls 5 = .ok (.iload 5, 2) := by decide +kernel
theorem dX0_mixCalls_7 : decode cX0_mixCalls 7 = .ok (.aload_n 0, 1) := by decide +kernel
theorem dX0_mixCalls_8 : decode cX0_mixCalls 8 = .ok (.getfield 70, 3) := by decide +kernel
theorem dX0_mixCalls_11 : decode cX0_mixCalls 11 = .ok (.if_icmp .ge 33, 3) := by decide +kernel
theorem dX0_mixCalls_14 : decode cX0_mixCalls 14 = .ok (.lload_n 3, 1) := by decide +kernel
theorem dX0_mixCalls_15 : decode cX0_mixCalls 15 = .ok (.aload_n 0, 1) := by decide +kernel
theorem dX0_mixCalls_16 : decode cX0_mixCalls 16 = .ok (.iload 5, 2) := by decide +kernel
theorem dX0_mixCalls_18 : decode cX0_mixCalls 18 = .ok (.invokevirtual 226, 3) := by decide +kernel
theorem dX0_mixCalls_21 : decode cX0_mixCalls 21 = .ok (.i2l, 1) := by decide +kernel
theorem dX0_mixCalls_22 : decode cX0_mixCalls 22 = .ok (.invokestatic 163, 3) := by decide +kernel
theorem dX0_mixCalls_25 : decode cX0_mixCalls 25 = .ok (.lstore_n 3, 1) := by decide +kernel
theorem dX0_mixCalls_26 : decode cX0_mixCalls 26 = .ok (.lload_n 3, 1) := by decide +kernel
theorem dX0_mixCalls_27 : decode cX0_mixCalls 27 = .ok (.aload_n 0, 1) := by decide +kernel
theorem dX0_mixCalls_28 : decode cX0_mixCalls 28 = .ok (.iload 5, 2) := by decide +kernel
theorem dX0_mixCalls_30 : decode cX0_mixCalls 30 = .ok (.invokevirtual 229, 3) := by decide +kernel
theorem dX0_mixCalls_33 : decode cX0_mixCalls 33 = .ok (.i2l, 1) := by decide +kernel
theorem dX0_mixCalls_34 : decode cX0_mixCalls 34 = .ok (.invokestatic 163, 3) := by decide +kernel
theorem dX0_mixCalls_37 : decode cX0_mixCalls 37 = .ok (.lstore_n 3, 1) := by decide +kernel
theorem dX0_mixCalls_38 : decode cX0_mixCalls 38 = .ok (.iinc 5 1, 3) := by decide +kernel
theorem dX0_mixCalls_41 : decode cX0_mixCalls 41 = .ok (.goto (-36), 3) := by decide +kernel
theorem dX0_mixCalls_44 : decode cX0_mixCalls 44 = .ok (.lload_n 3, 1) := by decide +kernel
theorem dX0_mixCalls_45 : decode cX0_mixCalls 45 = .ok (.lreturn, 1) := by decide +kernel
set_option maxRecDepth 20000 in
theorem ggX0_mixKnowledge_X0_knownAfterRounds : GoodIn wsX0_mixKnowledge wsX0_knownAfterRounds := goodIn_r _ [7, 8, 9, 10, 11, 12, 6, 13, 2, 14, 15, 16, 17, 18, 19, 20, 21, 44, 45, 46, 47, 48, 49, 50, 51, 52, 53, 54, 55] (by decide +kernel) (by decide +kernel)
set_option maxRecDepth 20000 in
theorem gX0_mixKnowledge_X0_knownAfterRounds : GoodIn wsX0_mixKnowledge (wsV RX0 106 RX0 yX0_knownAfterRounds wsX0_knownAfterRounds) := goodIn_app (goodIn_of _ (by decide +kernel)) ggX0_mixKnowledge_X0_knownAfterRounds
set_option maxRecDepth 20000 in
theorem ggX0_mixKnowledge_X0_itemsOf : GoodIn wsX0_mixKnowledge wsX0_itemsOf := goodIn_r _ [24] (by decide +kernel) (by decide +kernel)
set_option maxRecDepth 20000 in
theorem gX0_mixKnowledge_X0_itemsOf : GoodIn wsX0_mixKnowledge (va_wsS RX0 110 yX0_itemsOf wsX0_itemsOf) := goodIn_app (goodIn_of _ (by decide +kernel)) ggX0_mixKnowledge_X0_itemsOf
set_option maxRecDepth 20000 in
theorem ggX0_mixKnowledge_X0_mix : GoodIn wsX0_mixKnowledge wsX0_mix := goodIn_r _ [27, 28] (by decide +kernel) (by decide +kernel)
set_option maxRecDepth 20000 in
theorem gX0_mixKnowledge_X0_mix : GoodIn wsX0_mixKnowledge (va_wsS RX0 163 yX0_mix wsX0_mix) := goodIn_app (goodIn_of _ (by decide +kernel)) ggX0_mixKnowledge_X0_mix
set_option maxRecDepth 20000 in
theorem ggX0_mixKnowledge_X0_averageBits : GoodIn wsX0_mixKnowledge wsX0_averageBits := goodIn_r _ [32, 2, 33, 34, 35, 36, 37, 38, 39, 40, 41, 6, 42, 43, 44, 45, 46, 47, 48, 49, 50, 51, 52, 53, 54, 55] (by decide +kernel) (by decide +kernel)
set_option maxRecDepth 20000 in
theorem gX0_mixKnowledge_X0_averageBits : GoodIn wsX0_mixKnowledge (wsV RX0 125 RX0 yX0_averageBits wsX0_averageBits) := goodIn_app (goodIn_of _ (by decide +kernel)) ggX0_mixKnowledge_X0_averageBits
theorem dX0_mixKnowledge_0 : decode cX0_mixKnowledge 0 = .ok (.lload_n 1, 1) := by decide +kernel
theorem dX0_mixKnowledge_1 : decode cX0_mixKnowledge 1 = .ok (.lstore_n 3, 1) := by decide +kernel
theorem dX0_mixKnowledge_2 : decode cX0_mixKnowledge 2 = .ok (.iconst 0, 1) := by decide +kernel
theorem dX0_mixKnowledge_3 : decode cX0_mixKnowledge 3 = .ok (.istore 5, 2) := by decide +kernel
theorem dX0_mixKnowledge_5 : decode cX0_mixKnowledge 5 = .ok (.iload 5, 2) := by decide +kernel
theorem dX0_mixKnowledge_7 : decode cX0_mixKnowledge 7 = .ok (.aload_n 0, 1) := by decide +kernel
theorem dX0_mixKnowledge_8 : decode cX0_mixKnowledge 8 = .ok (.getfield 55, 3) := by decide +kernel
theorem dX0_mixKnowledge_11 : decode cX0_mixKnowledge 11 = .ok (.if_icmp .gt 60, 3) := by decide +kernel
theorem dX0_mixKnowledge_14 : decode cX0_mixKnowledge 14 = .ok (.aload_n 0, 1) := by decide +kernel
theorem dX0_mixKnowledge_15 : decode cX0_mixKnowledge 15 = .ok (.iload 5, 2) := by decide +kernel
theorem dX0_mixKnowledge_17 : decode cX0_mixKnowledge 17 = .ok (.invokevirtual 106, 3) := by decide +kernel
theorem dX0_mixKnowledge_20 : decode cX0_mixKnowledge 20 = .ok (.lstore 6, 2) := by decide +kernel
theorem dX0_mixKnowledge_22 : decode cX0_mixKnowledge 22 = .ok (.iconst 0, 1) := by decide +kernel
theorem dX0_mixKnowledge_23 : decode cX0_mixKnowledge 23 = .ok (.istore 8, 2) := by decide +kernel
theorem dX0_mixKnowledge_25 : decode cX0_mixKnowledge 25 = .ok (.iload 8, 2) := by decide +kernel
theorem dX0_mixKnowledge_27 : decode cX0_mixKnowledge 27 = .ok (.aload_n 0, 1) := by decide +kernel
theorem dX0_mixKnowledge_28 : decode cX0_mixKnowledge 28 = .ok (.getfield 9, 3) := by decide +kernel
theorem dX0_mixKnowledge_31 : decode cX0_mixKnowledge 31 = .ok (.if_icmp .ge 22, 3) := by decide +kernel
theorem dX0_mixKnowledge_34 : decode cX0_mixKnowledge 34 = .ok (.lload_n 3, 1) := by decide +kernel
theorem dX0_mixKnowledge_35 : decode cX0_mixKnowledge 35 = .ok (.lload 6, 2) := by decide +kernel
theorem dX0_mixKnowledge_37 : decode cX0_mixKnowledge 37 = .ok (.iload 8, 2) := by decide +kernel
theorem dX0_mixKnowledge_39 : decode cX0_mixKnowledge 39 = .ok (.invokestatic 110, 3) := by decide +kernel
theorem dX0_mixKnowledge_42 : decode cX0_mixKnowledge 42 = .ok (.i2l, 1) := by decide +kernel
theorem dX0_mixKnowledge_43 : decode cX0_mixKnowledge 43 = .ok (.invokestatic 163, 3) := by decide +kernel
theorem dX0_mixKnowledge_46 : decode cX0_mixKnowledge 46 = .ok (.lstore_n 3, 1) := by decide +kernel
theorem dX0_mixKnowledge_47 : decode cX0_mixKnowledge 47 = .ok (.iinc 8 1, 3) := by decide +kernel
theorem dX0_mixKnowledge_50 : decode cX0_mixKnowledge 50 = .ok (.goto (-25), 3) := by decide +kernel
theorem dX0_mixKnowledge_53 : decode cX0_mixKnowledge 53 = .ok (.lload_n 3, 1) := by decide +kernel
theorem dX0_mixKnowledge_54 : decode cX0_mixKnowledge 54 = .ok (.aload_n 0, 1) := by decide +kernel
theorem dX0_mixKnowledge_55 : decode cX0_mixKnowledge 55 = .ok (.lload 6, 2) := by decide +kernel
theorem dX0_mixKnowledge_57 : decode cX0_mixKnowledge 57 = .ok (.invokevirtual 125, 3) := by decide +kernel
theorem dX0_mixKnowledge_60 : decode cX0_mixKnowledge 60 = .ok (.i2l, 1) := by decide +kernel
theorem dX0_mixKnowledge_61 : decode cX0_mixKnowledge 61 = .ok (.invokestatic 163, 3) := by decide +kernel
theorem dX0_mixKnowledge_64 : decode cX0_mixKnowledge 64 = .ok (.lstore_n 3, 1) := by decide +kernel
theorem dX0_mixKnowledge_65 : decode cX0_mixKnowledge 65 = .ok (.iinc 5 1, 3) := by decide +kernel
theorem dX0_mixKnowledge_68 : decode cX0_mixKnowledge 68 = .ok (.goto (-63), 3) := by decide +kernel
theorem dX0_mixKnowledge_71 : decode cX0_mixKnowledge 71 = .ok (.lload_n 3, 1) := by decide +kernel
theorem dX0_mixKnowledge_72 : decode cX0_mixKnowledge 72 = .ok (.lreturn, 1) := by decide +kernel
set_option maxRecDepth 20000 in
theorem ggX0_mixInput_X0_mix : GoodIn wsX0_mixInput wsX0_mix := goodIn_r _ [6, 7] (by decide +kernel) (by decide +kernel)
set_option maxRecDepth 20000 in
theorem gX0_mixInput_X0_mix : GoodIn wsX0_mixInput (va_wsS RX0 163 yX0_mix wsX0_mix) := goodIn_app (goodIn_of _ (by decide +kernel)) ggX0_mixInput_X0_mix
theorem dX0_mixInput_0 : decode cX0_mixInput 0 = .ok (.lload_n 1, 1) := by decide +kernel
theorem dX0_mixInput_1 : decode cX0_mixInput 1 = .ok (.aload_n 0, 1) := by decide +kernel
theorem dX0_mixInput_2 : decode cX0_mixInput 2 = .ok (.getfield 77, 3) := by decide +kernel
theorem dX0_mixInput_5 : decode cX0_mixInput 5 = .ok (.i2l, 1) := by decide +kernel
theorem dX0_mixInput_6 : decode cX0_mixInput 6 = .ok (.invokestatic 163, 3) := by decide +kernel
theorem dX0_mixInput_9 : decode cX0_mixInput 9 = .ok (.lstore_n 3, 1) := by decide +kernel
theorem dX0_mixInput_10 : decode cX0_mixInput 10 = .ok (.iconst 0, 1) := by decide +kernel
theorem dX0_mixInput_11 : decode cX0_mixInput 11 = .ok (.istore 5, 2) := by decide +kernel
theorem dX0_mixInput_13 : decode cX0_mixInput 13 = .ok (.iload 5, 2) := by decide +kernel
theorem dX0_mixInput_15 : decode cX0_mixInput 15 = .ok (.aload_n 0, 1) := by decide +kernel
theorem dX0_mixInput_16 : decode cX0_mixInput 16 = .ok (.getfield 77, 3) := by decide +kernel
theorem dX0_mixInput_19 : decode cX0_mixInput 19 = .ok (.if_icmp .ge 22, 3) := by decide +kernel
theorem dX0_mixInput_22 : decode cX0_mixInput 22 = .ok (.lload_n 3, 1) := by decide +kernel
theorem dX0_mixInput_23 : decode cX0_mixInput 23 = .ok (.aload_n 0, 1) := by decide +kernel
theorem dX0_mixInput_24 : decode cX0_mixInput 24 = .ok (.getfield 33, 3) := by decide +kernel
theorem dX0_mixInput_27 : decode cX0_mixInput 27 = .ok (.iload 5, 2) := by decide +kernel
theorem dX0_mixInput_29 : decode cX0_mixInput 29 = .ok (.iaload, 1) := by decide +kernel
theorem dX0_mixInput_30 : decode cX0_mixInput 30 = .ok (.i2l, 1) := by decide +kernel
theorem dX0_mixInput_31 : decode cX0_mixInput 31 = .ok (.invokestatic 163, 3) := by decide +kernel
theorem dX0_mixInput_34 : decode cX0_mixInput 34 = .ok (.lstore_n 3, 1) := by decide +kernel
theorem dX0_mixInput_35 : decode cX0_mixInput 35 = .ok (.iinc 5 1, 3) := by decide +kernel
theorem dX0_mixInput_38 : decode cX0_mixInput 38 = .ok (.goto (-25), 3) := by decide +kernel
theorem dX0_mixInput_41 : decode cX0_mixInput 41 = .ok (.lload_n 3, 1) := by decide +kernel
theorem dX0_mixInput_42 : decode cX0_mixInput 42 = .ok (.lreturn, 1) := by decide +kernel
theorem dX1_init_0 : decode cX1_init 0 = .ok (.aload_n 0, 1) := by decide +kernel
theorem dX1_init_1 : decode cX1_init 1 = .ok (.invokespecial 1, 3) := by decide +kernel
theorem dX1_init_4 : decode cX1_init 4 = .ok (.aload_n 0, 1) := by decide +kernel
theorem dX1_init_5 : decode cX1_init 5 = .ok (.iconst 2, 1) := by decide +kernel
theorem dX1_init_6 : decode cX1_init 6 = .ok (.putfield 7, 3) := by decide +kernel
theorem dX1_init_9 : decode cX1_init 9 = .ok (.aload_n 0, 1) := by decide +kernel
theorem dX1_init_10 : decode cX1_init 10 = .ok (.bipush 28, 2) := by decide +kernel
theorem dX1_init_12 : decode cX1_init 12 = .ok (.newarray .int, 2) := by decide +kernel
theorem dX1_init_14 : decode cX1_init 14 = .ok (.putfield 13, 3) := by decide +kernel
theorem dX1_init_17 : decode cX1_init 17 = .ok (.aload_n 0, 1) := by decide +kernel
theorem dX1_init_18 : decode cX1_init 18 = .ok (.bipush 28, 2) := by decide +kernel
