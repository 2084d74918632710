theorem dX5_readStatement_120 : decode cX5_readStatement 120 = .ok (.ifCond .eq 7, 3) := by decide +kernel
theorem dX5_readStatement_123 : decode cX5_readStatement 123 = .ok (.iconst 1, 1) := by decide +kernel
theorem dX5_readStatement_124 : decode cX5_readStatement 124 = .ok (.goto 4, 3) := by decide +kernel
theorem dX5_readStatement_127 : decode cX5_readStatement 127 = .ok (.iconst 0, 1) := by decide +kernel
theorem dX5_readStatement_128 : decode cX5_readStatement 128 = .ok (.ireturn, 1) := by decide +kernel
theorem dX5_readStatement_129 : decode cX5_readStatement 129 = .ok (.aload_n 0, 1) := by decide +kernel
theorem dX5_readStatement_130 : decode cX5_readStatement 130 = .ok (.bipush (-2), 2) := by decide +kernel
theorem dX5_readStatement_132 : decode cX5_readStatement 132 = .ok (.aload_n 0, 1) := by decide +kernel
theorem dX5_readStatement_133 : decode cX5_readStatement 133 = .ok (.getfield 85, 3) := by decide +kernel
theorem dX5_readStatement_136 : decode cX5_readStatement 136 = .ok (.invokevirtual 78, 3) := by decide +kernel
theorem dX5_readStatement_139 : decode cX5_readStatement 139 = .ok (.ireturn, 1) := by decide +kernel
set_option maxRecDepth 20000 in
theorem ggX5_tellOnce_X5_fail : GoodIn wsX5_tellOnce wsX5_fail := goodIn_r _ [7, 8, 9, 10, 11, 12, 13, 14, 15, 16, 17, 18, 19, 20] (by decide +kernel) (by decide +kernel)
set_option maxRecDepth 20000 in
theorem gX5_tellOnce_X5_fail : GoodIn wsX5_tellOnce (wsV RX5 78 RX5 yX5_fail wsX5_fail) := goodIn_app (goodIn_of _ (by decide +kernel)) ggX5_tellOnce_X5_fail
theorem dX5_tellOnce_0 : decode cX5_tellOnce 0 = .ok (.aload_n 0, 1) := by decide +kernel
theorem dX5_tellOnce_1 : decode cX5_tellOnce 1 = .ok (.getfield 47, 3) := by decide +kernel
theorem dX5_tellOnce_4 : decode cX5_tellOnce 4 = .ok (.iload_n 1, 1) := by decide +kernel
theorem dX5_tellOnce_5 : decode cX5_tellOnce 5 = .ok (.iand, 1) := by decide +kernel
theorem dX5_tellOnce_6 : decode cX5_tellOnce 6 = .ok (.ifCond .eq 14, 3) := by decide +kernel
theorem dX5_tellOnce_9 : decode cX5_tellOnce 9 = .ok (.aload_n 0, 1) := by decide +kernel
theorem dX5_tellOnce_10 : decode cX5_tellOnce 10 = .ok (.bipush (-2), 2) := by decide +kernel
theorem dX5_tellOnce_12 : decode cX5_tellOnce 12 = .ok (.aload_n 0, 1) := by decide +kernel
theorem dX5_tellOnce_13 : decode cX5_tellOnce 13 = .ok (.getfield 85, 3) := by decide +kernel
theorem dX5_tellOnce_16 : decode cX5_tellOnce 16 = .ok (.invokevirtual 78, 3) := by decide +kernel
theorem dX5_tellOnce_19 : decode cX5_tellOnce 19 = .ok (.ireturn, 1) := by decide +kernel
theorem dX5_tellOnce_20 : decode cX5_tellOnce 20 = .ok (.aload_n 0, 1) := by decide +kernel
theorem dX5_tellOnce_21 : decode cX5_tellOnce 21 = .ok (.dup, 1) := by decide +kernel
theorem dX5_tellOnce_22 : decode cX5_tellOnce 22 = .ok (.getfield 47, 3) := by decide +kernel
theorem dX5_tellOnce_25 : decode cX5_tellOnce 25 = .ok (.iload_n 1, 1) := by decide +kernel
theorem dX5_tellOnce_26 : decode cX5_tellOnce 26 = .ok (.ior, 1) := by decide +kernel
theorem dX5_tellOnce_27 : decode cX5_tellOnce 27 = .ok (.putfield 47, 3) := by decide +kernel
theorem dX5_tellOnce_30 : decode cX5_tellOnce 30 = .ok (.iconst 1, 1) := by decide +kernel
theorem dX5_tellOnce_31 : decode cX5_tellOnce 31 = .ok (.ireturn, 1) := by decide +kernel
set_option maxRecDepth 20000 in
theorem ggX5_readPlayers_X5_fail : GoodIn wsX5_readPlayers wsX5_fail := goodIn_r _ [11, 12, 13, 38, 39, 40, 41, 42, 43, 44, 45, 46, 47, 48] (by decide +kernel) (by decide +kernel)
set_option maxRecDepth 20000 in
theorem gX5_readPlayers_X5_fail : GoodIn wsX5_readPlayers (wsV RX5 78 RX5 yX5_fail wsX5_fail) := goodIn_app (goodIn_of _ (by decide +kernel)) ggX5_readPlayers_X5_fail
set_option maxRecDepth 20000 in
theorem ggX5_readPlayers_X5_tellOnce : GoodIn wsX5_readPlayers wsX5_tellOnce := goodIn_r _ [17, 18, 2, 7, 8, 9, 10, 11, 12, 13, 38, 39, 40, 41, 42, 43, 44, 45, 46, 47, 48] (by decide +kernel) (by decide +kernel)
set_option maxRecDepth 20000 in
theorem gX5_readPlayers_X5_tellOnce : GoodIn wsX5_readPlayers (wsV RX5 170 RX5 yX5_tellOnce wsX5_tellOnce) := goodIn_app (goodIn_of _ (by decide +kernel)) ggX5_readPlayers_X5_tellOnce
set_option maxRecDepth 20000 in
theorem ggX5_readPlayers_X5_readNumber : GoodIn wsX5_readPlayers wsX5_readNumber := goodIn_r _ [22, 23, 2, 5, 24, 25, 26, 27, 28, 29, 30, 31, 32, 33, 10, 34, 35, 36, 37, 7, 8, 9, 11, 12, 13, 38, 39, 40, 41, 42, 43, 44, 45, 46, 47, 48] (by decide +kernel) (by decide +kernel)
set_option maxRecDepth 20000 in
theorem gX5_readPlayers_X5_readNumber : GoodIn wsX5_readPlayers (wsV RX5 124 RX5 yX5_readNumber wsX5_readNumber) := goodIn_app (goodIn_of _ (by decide +kernel)) ggX5_readPlayers_X5_readNumber
theorem dX5_readPlayers_0 : decode cX5_readPlayers 0 = .ok (.aload_n 0, 1) := by decide +kernel
theorem dX5_readPlayers_1 : decode cX5_readPlayers 1 = .ok (.getfield 50, 3) := by decide +kernel
theorem dX5_readPlayers_4 : decode cX5_readPlayers 4 = .ok (.ifCond .eq 14, 3) := by decide +kernel
theorem dX5_readPlayers_7 : decode cX5_readPlayers 7 = .ok (.aload_n 0, 1) := by decide +kernel
theorem dX5_readPlayers_8 : decode cX5_readPlayers 8 = .ok (.bipush (-2), 2) := by decide +kernel
theorem dX5_readPlayers_10 : decode cX5_readPlayers 10 = .ok (.aload_n 0, 1) := by decide +kernel
theorem dX5_readPlayers_11 : decode cX5_readPlayers 11 = .ok (.getfield 85, 3) := by decide +kernel
theorem dX5_readPlayers_14 : decode cX5_readPlayers 14 = .ok (.invokevirtual 78, 3) := by decide +kernel
theorem dX5_readPlayers_17 : decode cX5_readPlayers 17 = .ok (.ireturn, 1) := by decide +kernel
theorem dX5_readPlayers_18 : decode cX5_readPlayers 18 = .ok (.aload_n 0, 1) := by decide +kernel
theorem dX5_readPlayers_19 : decode cX5_readPlayers 19 = .ok (.iconst 1, 1) := by decide +kernel
theorem dX5_readPlayers_20 : decode cX5_readPlayers 20 = .ok (.invokevirtual 170, 3) := by decide +kernel
theorem dX5_readPlayers_23 : decode cX5_readPlayers 23 = .ok (.ifCond .eq 12, 3) := by decide +kernel
theorem dX5_readPlayers_26 : decode cX5_readPlayers 26 = .ok (.aload_n 0, 1) := by decide +kernel
theorem dX5_readPlayers_27 : decode cX5_readPlayers 27 = .ok (.iconst 2, 1) := by decide +kernel
theorem dX5_readPlayers_28 : decode cX5_readPlayers 28 = .ok (.iconst 4, 1) := by decide +kernel
theorem dX5_readPlayers_29 : decode cX5_readPlayers 29 = .ok (.invokevirtual 124, 3) := by decide +kernel
theorem dX5_readPlayers_32 : decode cX5_readPlayers 32 = .ok (.ifCond .ne 5, 3) := by decide +kernel
theorem dX5_readPlayers_35 : decode cX5_readPlayers 35 = .ok (.iconst 0, 1) := by decide +kernel
theorem dX5_readPlayers_36 : decode cX5_readPlayers 36 = .ok (.ireturn, 1) := by decide +kernel
theorem dX5_readPlayers_37 : decode cX5_readPlayers 37 = .ok (.aload_n 0, 1) := by decide +kernel
theorem dX5_readPlayers_38 : decode cX5_readPlayers 38 = .ok (.getfield 12, 3) := by decide +kernel
theorem dX5_readPlayers_41 : decode cX5_readPlayers 41 = .ok (.getfield 115, 3) := by decide +kernel
theorem dX5_readPlayers_44 : decode cX5_readPlayers 44 = .ok (.aload_n 0, 1) := by decide +kernel
theorem dX5_readPlayers_45 : decode cX5_readPlayers 45 = .ok (.getfield 88, 3) := by decide +kernel
theorem dX5_readPlayers_48 : decode cX5_readPlayers 48 = .ok (.putfield 176, 3) := by decide +kernel
theorem dX5_readPlayers_51 : decode cX5_readPlayers 51 = .ok (.iconst 1, 1) := by decide +kernel
theorem dX5_readPlayers_52 : decode cX5_readPlayers 52 = .ok (.ireturn, 1) := by decide +kernel
set_option maxRecDepth 20000 in
theorem ggX5_readNeed_X5_tellOnce : GoodIn wsX5_readNeed wsX5_tellOnce := goodIn_r _ [9, 10, 11, 12, 13, 14, 8, 15, 16, 17, 37, 38, 39, 40, 41, 42, 43, 44, 45, 46, 47] (by decide +kernel) (by decide +kernel)
set_option maxRecDepth 20000 in
theorem gX5_readNeed_X5_tellOnce : GoodIn wsX5_readNeed (wsV RX5 170 RX5 yX5_tellOnce wsX5_tellOnce) := goodIn_app (goodIn_of _ (by decide +kernel)) ggX5_readNeed_X5_tellOnce
set_option maxRecDepth 20000 in
theorem ggX5_readNeed_X5_readNumber : GoodIn wsX5_readNeed wsX5_readNumber := goodIn_r _ [21, 22, 11, 3, 23, 24, 25, 26, 27, 28, 29, 30, 31, 32, 8, 33, 34, 35, 36, 12, 13, 14, 15, 16, 17, 37, 38, 39, 40, 41, 42, 43, 44, 45, 46, 47] (by decide +kernel) (by decide +kernel)
set_option maxRecDepth 20000 in
theorem gX5_readNeed_X5_readNumber : GoodIn wsX5_readNeed (wsV RX5 124 RX5 yX5_readNumber wsX5_readNumber) := goodIn_app (goodIn_of _ (by decide +kernel)) ggX5_readNeed_X5_readNumber
theorem dX5_readNeed_0 : decode cX5_readNeed 0 = .ok (.aload_n 0, 1) := by decide +kernel
theorem dX5_readNeed_1 : decode cX5_readNeed 1 = .ok (.iconst 2, 1) := by decide +kernel
theorem dX5_readNeed_2 : decode cX5_readNeed 2 = .ok (.invokevirtual 170, 3) := by decide +kernel
theorem dX5_readNeed_5 : decode cX5_readNeed 5 = .ok (.ifCond .eq 12, 3) := by decide +kernel
theorem dX5_readNeed_8 : decode cX5_readNeed 8 = .ok (.aload_n 0, 1) := by decide +kernel
theorem dX5_readNeed_9 : decode cX5_readNeed 9 = .ok (.iconst 1, 1) := by decide +kernel
theorem dX5_readNeed_10 : decode cX5_readNeed 10 = .ok (.iconst 4, 1) := by decide +kernel
theorem dX5_readNeed_11 : decode cX5_readNeed 11 = .ok (.invokevirtual 124, 3) := by decide +kernel
theorem dX5_readNeed_14 : decode cX5_readNeed 14 = .ok (.ifCond .ne 5, 3) := by decide +kernel
theorem dX5_readNeed_17 : decode cX5_readNeed 17 = .ok (.iconst 0, 1) := by decide +kernel
theorem dX5_readNeed_18 : decode cX5_readNeed 18 = .ok (.ireturn, 1) := by decide +kernel
theorem dX5_readNeed_19 : decode cX5_readNeed 19 = .ok (.aload_n 0, 1) := by decide +kernel
theorem dX5_readNeed_20 : decode cX5_readNeed 20 = .ok (.getfield 12, 3) := by decide +kernel
theorem dX5_readNeed_23 : decode cX5_readNeed 23 = .ok (.getfield 115, 3) := by decide +kernel
theorem dX5_readNeed_26 : decode cX5_readNeed 26 = .ok (.aload_n 0, 1) := by decide +kernel
theorem dX5_readNeed_27 : decode cX5_readNeed 27 = .ok (.getfield 88, 3) := by decide +kernel
theorem dX5_readNeed_30 : decode cX5_readNeed 30 = .ok (.putfield 178, 3) := by decide +kernel
theorem dX5_readNeed_33 : decode cX5_readNeed 33 = .ok (.iconst 1, 1) := by decide +kernel
theorem dX5_readNeed_34 : decode cX5_readNeed 34 = .ok (.ireturn, 1) := by decide +kernel
set_option maxRecDepth 20000 in
theorem ggX5_readBonus_X5_tellOnce : GoodIn wsX5_readBonus wsX5_tellOnce := goodIn_r _ [9, 10, 11, 12, 13, 14, 8, 15, 16, 17, 37, 38, 39, 40, 41, 42, 43, 44, 45, 46, 47] (by decide +kernel) (by decide +kernel)
set_option maxRecDepth 20000 in
theorem gX5_readBonus_X5_tellOnce : GoodIn wsX5_readBonus (wsV RX5 170 RX5 yX5_tellOnce wsX5_tellOnce) := goodIn_app (goodIn_of _ (by decide +kernel)) ggX5_readBonus_X5_tellOnce
set_option maxRecDepth 20000 in
theorem ggX5_readBonus_X5_readNumber : GoodIn wsX5_readBonus wsX5_readNumber := goodIn_r _ [21, 22, 11, 3, 23, 24, 25, 26, 27, 28, 29, 30, 31, 32, 8, 33, 34, 35, 36, 12, 13, 14, 15, 16, 17, 37, 38, 39, 40, 41, 42, 43, 44, 45, 46, 47] (by decide +kernel) (by decide +kernel)
set_option maxRecDepth 20000 in
theorem gX5_readBonus_X5_readNumber : GoodIn wsX5_readBonus (wsV RX5 124 RX5 yX5_readNumber wsX5_readNumber) := goodIn_app (goodIn_of _ (by decide +kernel)) ggX5_readBonus_X5_readNumber
theorem dX5_readBonus_0 : decode cX5_readBonus 0 = .ok (.aload_n 0, 1) := by decide +kernel
theorem dX5_readBonus_1 : decode cX5_readBonus 1 = .ok (.iconst 4, 1) := by decide +kernel
theorem dX5_readBonus_2 : decode cX5_readBonus 2 = .ok (.invokevirtual 170, 3) := by decide +kernel
theorem dX5_readBonus_5 : decode cX5_readBonus 5 = .ok (.ifCond .eq 13, 3) := by decide +kernel
theorem dX5_readBonus_8 : decode cX5_readBonus 8 = .ok (.aload_n 0, 1) := by decide +kernel
theorem dX5_readBonus_9 : decode cX5_readBonus 9 = .ok (.iconst 0, 1) := by decide +kernel
theorem dX5_readBonus_10 : decode cX5_readBonus 10 = .ok (.bipush 9, 2) := by decide +kernel
theorem dX5_readBonus_12 : decode cX5_readBonus 12 = .ok (.invokevirtual 124, 3) := by decide +kernel
theorem dX5_readBonus_15 : decode cX5_readBonus 15 = .ok (.ifCond .ne 5, 3) := by decide +kernel
theorem dX5_readBonus_18 : decode cX5_readBonus 18 = .ok (.iconst 0, 1) := by decide +kernel
theorem dX5_readBonus_19 : decode cX5_readBonus 19 = .ok (.ireturn, 1) := by decide +kernel
theorem dX5_readBonus_20 : decode cX5_readBonus 20 = .ok (.aload_n 0, 1) := by decide +kernel
theorem dX5_readBonus_21 : decode cX5_readBonus 21 = .ok (.getfield 12, 3) := by decide +kernel
theorem dX5_readBonus_24 : decode cX5_readBonus 24 = .ok (.getfield 115, 3) := by decide +kernel
theorem dX5_readBonus_27 : decode cX5_readBonus 27 = .ok (.aload_n 0, 1) := by decide +kernel
theorem dX5_readBonus_28 : decode cX5_readBonus 28 = .ok (.getfield 88, 3) := by decide +kernel
theorem dX5_readBonus_31 : decode cX5_readBonus 31 = .ok (.putfield 180, 3) := by decide +kernel
theorem dX5_readBonus_34 : decode cX5_readBonus 34 = .ok (.iconst 1, 1) := by decide +kernel
theorem dX5_readBonus_35 : decode cX5_readBonus 35 = .ok (.ireturn, 1) := by decide +kernel
set_option maxRecDepth 20000 in
theorem ggX5_readCrown_X5_tellOnce : GoodIn wsX5_readCrown wsX5_tellOnce := goodIn_r _ [9, 10, 11, 12, 13, 14, 8, 15, 16, 17, 37, 38, 39, 40, 41, 42, 43, 44, 45, 46, 47] (by decide +kernel) (by decide +kernel)
set_option maxRecDepth 20000 in
theorem gX5_readCrown_X5_tellOnce : GoodIn wsX5_readCrown (wsV RX5 170 RX5 yX5_tellOnce wsX5_tellOnce) := goodIn_app (goodIn_of _ (by decide +kernel)) ggX5_readCrown_X5_tellOnce
set_option maxRecDepth 20000 in
theorem ggX5_readCrown_X5_readNumber : GoodIn wsX5_readCrown wsX5_readNumber := goodIn_r _ [21, 22, 11, 3, 23, 24, 25, 26, 27, 28, 29, 30, 31, 32, 8, 33, 34, 35, 36, 12, 13, 14, 15, 16, 17, 37, 38, 39, 40, 41, 42, 43, 44, 45, 46, 47] (by decide +kernel) (by decide +kernel)
set_option maxRecDepth 20000 in
theorem gX5_readCrown_X5_readNumber : GoodIn wsX5_readCrown (wsV RX5 124 RX5 yX5_readNumber wsX5_readNumber) := goodIn_app (goodIn_of _ (by decide +kernel)) ggX5_readCrown_X5_readNumber
theorem dX5_readCrown_0 : decode cX5_readCrown 0 = .ok (.aload_n 0, 1) := by decide +kernel
theorem dX5_readCrown_1 : decode cX5_readCrown 1 = .ok (.bipush 8, 2) := by decide +kernel
theorem dX5_readCrown_3 : decode cX5_readCrown 3 = .ok (.invokevirtual 170, 3) := by decide +kernel
theorem dX5_readCrown_6 : decode cX5_readCrown 6 = .ok (.ifCond .eq 13, 3) := by decide +kernel
theorem dX5_readCrown_9 : decode cX5_readCrown 9 = .ok (.aload_n 0, 1) := by decide +kernel
theorem dX5_readCrown_10 : decode cX5_readCrown 10 = .ok (.iconst 0, 1) := by decide +kernel
theorem dX5_readCrown_11 : decode cX5_readCrown 11 = .ok (.bipush 99, 2) := by decide +kernel
theorem dX5_readCrown_13 : decode cX5_readCrown 13 = .ok (.invokevirtual 124, 3) := by decide +kernel
theorem dX5_readCrown_16 : decode cX5_readCrown 16 = .ok (.ifCond .ne 5, 3) := by decide +kernel
theorem dX5_readCrown_19 : decode cX5_readCrown 19 = .ok (.iconst 0, 1) := by decide +kernel
theorem dX5_readCrown_20 : decode cX5_readCrown 20 = .ok (.ireturn, 1) := by decide +kernel
theorem dX5_readCrown_21 : decode cX5_readCrown 21 = .ok (.aload_n 0, 1) := by decide +kernel
theorem dX5_readCrown_22 : decode cX5_readCrown 22 = .ok (.getfield 12, 3) := by decide +kernel
theorem dX5_readCrown_25 : decode cX5_readCrown 25 = .ok (.getfield 115, 3) := by decide +kernel
theorem dX5_readCrown_28 : decode cX5_readCrown 28 = .ok (.aload_n 0, 1) := by decide +kernel
theorem dX5_readCrown_29 : decode cX5_readCrown 29 = .ok (.getfield 88, 3) := by decide +kernel
theorem dX5_readCrown_32 : decode cX5_readCrown 32 = .ok (.putfield 182, 3) := by decide +kernel
theorem dX5_readCrown_35 : decode cX5_readCrown 35 = .ok (.iconst 1, 1) := by decide +kernel
theorem dX5_readCrown_36 : decode cX5_readCrown 36 = .ok (.ireturn, 1) := by decide +kernel
set_option maxRecDepth 20000 in
theorem ggX5_readAlike_X5_readRun : GoodIn wsX5_readAlike wsX5_readRun := goodIn_r _ [12, 3, 2, 13, 1, 14, 15, 16, 11, 17, 18, 19, 20, 21, 22, 23, 24, 25, 26, 27, 28, 29, 30, 31, 32, 33, 34, 35, 36, 37, 38] (by decide +kernel) (by decide +kernel)
set_option maxRecDepth 20000 in
theorem gX5_readAlike_X5_readRun : GoodIn wsX5_readAlike (wsV RX5 68 RX5 yX5_readRun wsX5_readRun) := goodIn_app (goodIn_of _ (by decide +kernel)) ggX5_readAlike_X5_readRun
set_option maxRecDepth 20000 in
theorem ggX5_readAlike_X5_fail : GoodIn wsX5_readAlike wsX5_fail := goodIn_r _ [25, 26, 27, 28, 29, 30, 31, 32, 33, 34, 35, 36, 37, 38] (by decide +kernel) (by decide +kernel)
set_option maxRecDepth 20000 in
theorem gX5_readAlike_X5_fail : GoodIn wsX5_readAlike (wsV RX5 78 RX5 yX5_fail wsX5_fail) := goodIn_app (goodIn_of _ (by decide +kernel)) ggX5_readAlike_X5_fail
theorem dX5_readAlike_0 : decode cX5_readAlike 0 = .ok (.aload_n 0, 1) := by decide +kernel
theorem dX5_readAlike_1 : decode cX5_readAlike 1 = .ok (.invokevirtual 68, 3) := by decide +kernel
theorem dX5_readAlike_4 : decode cX5_readAlike 4 = .ok (.ifCond .ne 5, 3) := by decide +kernel
theorem dX5_readAlike_7 : decode cX5_readAlike 7 = .ok (.iconst 0, 1) := by decide +kernel
theorem dX5_readAlike_8 : decode cX5_readAlike 8 = .ok (.ireturn, 1) := by decide +kernel
theorem dX5_readAlike_9 : decode cX5_readAlike 9 = .ok (.aload_n 0, 1) := by decide +kernel
theorem dX5_readAlike_10 : decode cX5_readAlike 10 = .ok (.getfield 22, 3) := by decide +kernel
theorem dX5_readAlike_13 : decode cX5_readAlike 13 = .ok (.aload_n 0, 1) := by decide +kernel
theorem dX5_readAlike_14 : decode cX5_readAlike 14 = .ok (.getfield 85, 3) := by decide +kernel
theorem dX5_readAlike_17 : decode cX5_readAlike 17 = .ok (.iaload, 1) := by decide +kernel
theorem dX5_readAlike_18 : decode cX5_readAlike 18 = .ok (.bipush 97, 2) := by decide +kernel
theorem dX5_readAlike_20 : decode cX5_readAlike 20 = .ok (.isub, 1) := by decide +kernel
theorem dX5_readAlike_21 : decode cX5_readAlike 21 = .ok (.iconst 1, 1) := by decide +kernel
theorem dX5_readAlike_22 : decode cX5_readAlike 22 = .ok (.iadd, 1) := by decide +kernel
theorem dX5_readAlike_23 : decode cX5_readAlike 23 = .ok (.istore_n 1, 1) := by decide +kernel
theorem dX5_readAlike_24 : decode cX5_readAlike 24 = .ok (.aload_n 0, 1) := by decide +kernel
theorem dX5_readAlike_25 : decode cX5_readAlike 25 = .ok (.getfield 85, 3) := by decide +kernel
theorem dX5_readAlike_28 : decode cX5_readAlike 28 = .ok (.istore_n 2, 1) := by decide +kernel
theorem dX5_readAlike_29 : decode cX5_readAlike 29 = .ok (.iload_n 2, 1) := by decide +kernel
theorem dX5_readAlike_30 : decode cX5_readAlike 30 = .ok (.aload_n 0, 1) := by decide +kernel
theorem dX5_readAlike_31 : decode cX5_readAlike 31 = .ok (.getfield 41, 3) := by decide +kernel
theorem dX5_readAlike_34 : decode cX5_readAlike 34 = .ok (.if_icmp .ge 65, 3) := by decide +kernel
theorem dX5_readAlike_37 : decode cX5_readAlike 37 = .ok (.aload_n 0, 1) := by decide +kernel
theorem dX5_readAlike_38 : decode cX5_readAlike 38 = .ok (.getfield 22, 3) := by decide +kernel
theorem dX5_readAlike_41 : decode cX5_readAlike 41 = .ok (.iload_n 2, 1) := by decide +kernel
theorem dX5_readAlike_42 : decode cX5_readAlike 42 = .ok (.iaload, 1) := by decide +kernel
theorem dX5_readAlike_43 : decode cX5_readAlike 43 = .ok (.bipush 97, 2) := by decide +kernel
theorem dX5_readAlike_45 : decode cX5_readAlike 45 = .ok (.isub, 1) := by decide +kernel
theorem dX5_readAlike_46 : decode cX5_readAlike 46 = .ok (.iconst 1, 1) := by decide +kernel
theorem dX5_readAlike_47 : decode cX5_readAlike 47 = .ok (.iadd, 1) := by decide +kernel
theorem dX5_readAlike_48 : decode cX5_readAlike 48 = .ok (.istore_n 3, 1) := by decide +kernel
theorem dX5_readAlike_49 : decode cX5_readAlike 49 = .ok (.aload_n 0, 1) := by decide +kernel
theorem dX5_readAlike_50 : decode cX5_readAlike 50 = .ok (.getfield 54, 3) := by decide +kernel
theorem dX5_readAlike_53 : decode cX5_readAlike 53 = .ok (.iconst 1, 1) := by decide +kernel
theorem dX5_readAlike_54 : decode cX5_readAlike 54 = .ok (.iload_n 3, 1) := by decide +kernel
theorem dX5_readAlike_55 : decode cX5_readAlike 55 = .ok (.ishl, 1) := by decide +kernel
theorem dX5_readAlike_56 : decode cX5_readAlike 56 = .ok (.iand, 1) := by decide +kernel
theorem dX5_readAlike_57 : decode cX5_readAlike 57 = .ok (.ifCond .eq 11, 3) := by decide +kernel
theorem dX5_readAlike_60 : decode cX5_readAlike 60 = .ok (.aload_n 0, 1) := by decide +kernel
theorem dX5_readAlike_61 : decode cX5_readAlike 61 = .ok (.bipush (-4), 2) := by decide +kernel
theorem dX5_readAlike_63 : decode cX5_readAlike 63 = .ok (.iload_n 2, 1) := by decide +kernel
theorem dX5_readAlike_64 : decode cX5_readAlike 64 = .ok (.invokevirtual 78, 3) := by decide +kernel
theorem dX5_readAlike_67 : decode cX5_readAlike 67 = .ok (.ireturn, 1) := by decide +kernel
theorem dX5_readAlike_68 : decode cX5_readAlike 68 = .ok (.aload_n 0, 1) := by decide +kernel
theorem dX5_readAlike_69 : decode cX5_readAlike 69 = .ok (.dup, 1) := by decide +kernel
theorem dX5_readAlike_70 : decode cX5_readAlike 70 = .ok (.getfield 54, 3) := by decide +kernel
theorem dX5_readAlike_73 : decode cX5_readAlike 73 = .ok (.iconst 1, 1) := by decide +kernel
theorem dX5_readAlike_74 : decode cX5_readAlike 74 = .ok (.iload_n 3, 1) := by decide +kernel
theorem dX5_readAlike_75 : decode cX5_readAlike 75 = .ok (.ishl, 1) := by decide +kernel
theorem dX5_readAlike_76 : decode cX5_readAlike 76 = .ok (.ior, 1) := by decide +kernel
theorem dX5_readAlike_77 : decode cX5_readAlike 77 = .ok (.putfield 54, 3) := by decide +kernel
theorem dX5_readAlike_80 : decode cX5_readAlike 80 = .ok (.aload_n 0, 1) := by decide +kernel
theorem dX5_readAlike_81 : decode cX5_readAlike 81 = .ok (.getfield 12, 3) := by decide +kernel
theorem dX5_readAlike_84 : decode cX5_readAlike 84 = .ok (.getfield 115, 3) := by decide +kernel
theorem dX5_readAlike_87 : decode cX5_readAlike 87 = .ok (.getfield 184, 3) := by decide +kernel
theorem dX5_readAlike_90 : decode cX5_readAlike 90 = .ok (.iload_n 3, 1) := by decide +kernel
theorem dX5_readAlike_91 : decode cX5_readAlike 91 = .ok (.iload_n 1, 1) := by decide +kernel
theorem dX5_readAlike_92 : decode cX5_readAlike 92 = .ok (.iastore, 1) := by decide +kernel
theorem dX5_readAlike_93 : decode cX5_readAlike 93 = .ok (.iinc 2 1, 3) := by decide +kernel
theorem dX5_readAlike_96 : decode cX5_readAlike 96 = .ok (.goto (-67), 3) := by decide +kernel
theorem dX5_readAlike_99 : decode cX5_readAlike 99 = .ok (.iconst 1, 1) := by decide +kernel
theorem dX5_readAlike_100 : decode cX5_readAlike 100 = .ok (.ireturn, 1) := by decide +kernel
set_option maxRecDepth 20000 in
theorem ggX5_readHand_X5_readNumber : GoodIn wsX5_readHand wsX5_readNumber := goodIn_r _ [14, 6, 7, 4, 15, 9, 16, 17, 18, 19, 20, 21, 22, 23, 13, 24, 25, 26, 27, 28, 29, 30, 31, 32, 33, 52, 53, 54, 55, 56, 57, 58, 59, 60, 61, 62] (by decide +kernel) (by decide +kernel)
set_option maxRecDepth 20000 in
theorem gX5_readHand_X5_readNumber : GoodIn wsX5_readHand (wsV RX5 124 RX5 yX5_readNumber wsX5_readNumber) := goodIn_app (goodIn_of _ (by decide +kernel)) ggX5_readHand_X5_readNumber
set_option maxRecDepth 20000 in
theorem ggX5_readHand_X5_peek : GoodIn wsX5_readHand wsX5_peek := goodIn_r _ [24, 6, 15, 9, 52, 53, 54, 55, 56, 57, 58, 59, 60, 61, 62] (by decide +kernel) (by decide +kernel)
set_option maxRecDepth 20000 in
theorem gX5_readHand_X5_peek : GoodIn wsX5_readHand (wsV RX5 64 RX5 yX5_peek wsX5_peek) := goodIn_app (goodIn_of _ (by decide +kernel)) ggX5_readHand_X5_peek
set_option maxRecDepth 20000 in
theorem ggX5_readHand_X6_isLetter : GoodIn wsX5_readHand wsX6_isLetter := goodIn_r _ [37] (by decide +kernel) (by decide +kernel)
set_option maxRecDepth 20000 in
theorem gX5_readHand_X6_isLetter : GoodIn wsX5_readHand (va_wsS RX5 92 yX6_isLetter wsX6_isLetter) := goodIn_app (goodIn_of _ (by decide +kernel)) ggX5_readHand_X6_isLetter
set_option maxRecDepth 20000 in
theorem ggX5_readHand_X5_readRun : GoodIn wsX5_readHand wsX5_readRun := goodIn_r _ [41, 6, 7, 15, 9, 21, 22, 23, 13, 24, 34, 35, 36, 37, 28, 29, 30, 31, 32, 33, 52, 53, 54, 55, 56, 57, 58, 59, 60, 61, 62] (by decide +kernel) (by decide +kernel)
set_option maxRecDepth 20000 in
theorem gX5_readHand_X5_readRun : GoodIn wsX5_readHand (wsV RX5 68 RX5 yX5_readRun wsX5_readRun) := goodIn_app (goodIn_of _ (by decide +kernel)) ggX5_readHand_X5_readRun
set_option maxRecDepth 20000 in
theorem ggX5_readHand_X5_fail : GoodIn wsX5_readHand wsX5_fail := goodIn_r _ [31, 32, 33, 52, 53, 54, 55, 56, 57, 58, 59, 60, 61, 62] (by decide +kernel) (by decide +kernel)
set_option maxRecDepth 20000 in
theorem gX5_readHand_X5_fail : GoodIn wsX5_readHand (wsV RX5 78 RX5 yX5_fail wsX5_fail) := goodIn_app (goodIn_of _ (by decide +kernel)) ggX5_readHand_X5_fail
set_option maxRecDepth 20000 in
theorem ggX5_readHand_X6_ofBytes : GoodIn wsX5_readHand wsX6_ofBytes := goodIn_r _ [44] (by decide +kernel) (by decide +kernel)
set_option maxRecDepth 20000 in
theorem gX5_readHand_X6_ofBytes : GoodIn wsX5_readHand (va_wsS RX5 190 yX6_ofBytes wsX6_ofBytes) := goodIn_app (goodIn_of _ (by decide +kernel)) ggX5_readHand_X6_ofBytes
set_option maxRecDepth 20000 in
theorem ggX5_readHand_X1_addWord : GoodIn wsX5_readHand wsX1_addWord := goodIn_r _ [49, 50, 51, 63, 64, 65, 66, 67, 68, 69, 70, 71, 72, 73, 74, 75] (by decide +kernel) (by decide +kernel)
set_option maxRecDepth 20000 in
theorem gX5_readHand_X1_addWord : GoodIn wsX5_readHand (wsV RX5 194 RX1 yX1_addWord wsX1_addWord) := goodIn_app (goodIn_of _ (by decide +kernel)) ggX5_readHand_X1_addWord
theorem dX5_readHand_0 : decode cX5_readHand 0 = .ok (.aload_n 0, 1) := by decide +kernel
theorem dX5_readHand_1 : decode cX5_readHand 1 = .ok (.iconst 0, 1) := by decide +kernel
theorem dX5_readHand_2 : decode cX5_readHand 2 = .ok (.aload_n 0, 1) := by decide +kernel
theorem dX5_readHand_3 : decode cX5_readHand 3 = .ok (.getfield 12, 3) := by decide +kernel
theorem dX5_readHand_6 : decode cX5_readHand 6 = .ok (.getfield 115, 3) := by decide +kernel
theorem dX5_readHand_9 : decode cX5_readHand 9 = .ok (.getfield 176, 3) := by decide +kernel
theorem dX5_readHand_12 : decode cX5_readHand 12 = .ok (.iconst 1, 1) := by decide +kernel
theorem dX5_readHand_13 : decode cX5_readHand 13 = .ok (.isub, 1) := by decide +kernel
theorem dX5_readHand_14 : decode cX5_readHand 14 = .ok (.invokevirtual 124, 3) := by decide +kernel
theorem dX5_readHand_17 : decode cX5_readHand 17 = .ok (.ifCond .ne 5, 3) := by decide +kernel
theorem dX5_readHand_20 : decode cX5_readHand 20 = .ok (.iconst 0, 1) := by decide +kernel
theorem dX5_readHand_21 : decode cX5_readHand 21 = .ok (.ireturn, 1) := by decide +kernel
theorem dX5_readHand_22 : decode cX5_readHand 22 = .ok (.aload_n 0, 1) := by decide +kernel
theorem dX5_readHand_23 : decode cX5_readHand 23 = .ok (.getfield 88, 3) := by decide +kernel
theorem dX5_readHand_26 : decode cX5_readHand 26 = .ok (.istore_n 1, 1) := by decide +kernel
theorem dX5_readHand_27 : decode cX5_readHand 27 = .ok (.aload_n 0, 1) := by decide +kernel
theorem dX5_readHand_28 : decode cX5_readHand 28 = .ok (.iconst 1, 1) := by decide +kernel
theorem dX5_readHand_29 : decode cX5_readHand 29 = .ok (.putfield 50, 3) := by decide +kernel
theorem dX5_readHand_32 : decode cX5_readHand 32 = .ok (.iconst 0, 1) := by decide +kernel
theorem dX5_readHand_33 : decode cX5_readHand 33 = .ok (.istore_n 2, 1) := by decide +kernel
theorem dX5_readHand_34 : decode cX5_readHand 34 = .ok (.iload_n 2, 1) := by decide +kernel
theorem dX5_readHand_35 : decode cX5_readHand 35 = .ok (.bipush 8, 2) := by decide +kernel
theorem dX5_readHand_37 : decode cX5_readHand 37 = .ok (.if_icmp .gt 105, 3) := by decide +kernel
theorem dX5_readHand_40 : decode cX5_readHand 40 = .ok (.iload_n 2, 1) := by decide +kernel
theorem dX5_readHand_41 : decode cX5_readHand 41 = .ok (.ifCond .eq 13, 3) := by decide +kernel
theorem dX5_readHand_44 : decode cX5_readHand 44 = .ok (.aload_n 0, 1) := by decide +kernel
theorem dX5_readHand_45 : decode cX5_readHand 45 = .ok (.invokevirtual 64, 3) := by decide +kernel
theorem dX5_readHand_48 : decode cX5_readHand 48 = .ok (.invokestatic 92, 3) := by decide +kernel
theorem dX5_readHand_51 : decode cX5_readHand 51 = .ok (.ifCond .eq 91, 3) := by decide +kernel
theorem dX5_readHand_54 : decode cX5_readHand 54 = .ok (.aload_n 0, 1) := by decide +kernel
theorem dX5_readHand_55 : decode cX5_readHand 55 = .ok (.invokevirtual 68, 3) := by decide +kernel
theorem dX5_readHand_58 : decode cX5_readHand 58 = .ok (.ifCond .ne 5, 3) := by decide +kernel
theorem dX5_readHand_61 : decode cX5_readHand 61 = .ok (.iconst 0, 1) := by decide +kernel
theorem dX5_readHand_62 : decode cX5_readHand 62 = .ok (.ireturn, 1) := by decide +kernel
theorem dX5_readHand_63 : decode cX5_readHand 63 = .ok (.aload_n 0, 1) := by decide +kernel
theorem dX5_readHand_64 : decode cX5_readHand 64 = .ok (.getfield 41, 3) := by decide +kernel
theorem dX5_readHand_67 : decode cX5_readHand 67 = .ok (.aload_n 0, 1) := by decide +kernel
theorem dX5_readHand_68 : decode cX5_readHand 68 = .ok (.getfield 85, 3) := by decide +kernel
theorem dX5_readHand_71 : decode cX5_readHand 71 = .ok (.isub, 1) := by decide +kernel
theorem dX5_readHand_72 : decode cX5_readHand 72 = .ok (.bipush 8, 2) := by decide +kernel
theorem dX5_readHand_74 : decode cX5_readHand 74 = .ok (.if_icmp .le 14, 3) := by decide +kernel
theorem dX5_readHand_77 : decode cX5_readHand 77 = .ok (.aload_n 0, 1) := by decide +kernel
theorem dX5_readHand_78 : decode cX5_readHand 78 = .ok (.bipush (-3), 2) := by decide +kernel
theorem dX5_readHand_80 : decode cX5_readHand 80 = .ok (.aload_n 0, 1) := by decide +kernel
theorem dX5_readHand_81 : decode cX5_readHand 81 = .ok (.getfield 85, 3) := by decide +kernel
theorem dX5_readHand_84 : decode cX5_readHand 84 = .ok (.invokevirtual 78, 3) := by decide +kernel
theorem dX5_readHand_87 : decode cX5_readHand 87 = .ok (.ireturn, 1) := by decide +kernel
theorem dX5_readHand_88 : decode cX5_readHand 88 = .ok (.aload_n 0, 1) := by decide +kernel
theorem dX5_readHand_89 : decode cX5_readHand 89 = .ok (.getfield 12, 3) := by decide +kernel
theorem dX5_readHand_92 : decode cX5_readHand 92 = .ok (.getfield 187, 3) := by decide +kernel
theorem dX5_readHand_95 : decode cX5_readHand 95 = .ok (.iload_n 1, 1) := by decide +kernel
theorem dX5_readHand_96 : decode cX5_readHand 96 = .ok (.iaload, 1) := by decide +kernel
theorem dX5_readHand_97 : decode cX5_readHand 97 = .ok (.bipush 8, 2) := by decide +kernel
theorem dX5_readHand_99 : decode cX5_readHand 99 = .ok (.if_icmp .lt 14, 3) := by decide +kernel
theorem dX5_readHand_102 : decode cX5_readHand 102 = .ok (.aload_n 0, 1) := by decide +kernel
theorem dX5_readHand_103 : decode cX5_readHand 103 = .ok (.bipush (-5), 2) := by decide +kernel
theorem dX5_readHand_105 : decode cX5_readHand 105 = .ok (.aload_n 0, 1) := by decide +kernel
theorem dX5_readHand_106 : decode cX5_readHand 106 = .ok (.getfield 85, 3) := by decide +kernel
theorem dX5_readHand_109 : decode cX5_readHand 109 = .ok (.invokevirtual 78, 3) := by decide +kernel
theorem dX5_readHand_112 : decode cX5_readHand 112 = .ok (.ireturn, 1) := by decide +kernel
theorem dX5_readHand_113 : decode cX5_readHand 113 = .ok (.aload_n 0, 1) := by decide +kernel
theorem dX5_readHand_114 : decode cX5_readHand 114 = .ok (.getfield 12, 3) := by decide +kernel
theorem dX5_readHand_117 : decode cX5_readHand 117 = .ok (.iload_n 1, 1) := by decide +kernel
theorem dX5_readHand_118 : decode cX5_readHand 118 = .ok (.aload_n 0, 1) := by decide +kernel
theorem dX5_readHand_119 : decode cX5_readHand 119 = .ok (.getfield 22, 3) := by decide +kernel
theorem dX5_readHand_122 : decode cX5_readHand 122 = .ok (.aload_n 0, 1) := by decide +kernel
theorem dX5_readHand_123 : decode cX5_readHand 123 = .ok (.getfield 85, 3) := by decide +kernel
theorem dX5_readHand_126 : decode cX5_readHand 126 = .ok (.aload_n 0, 1) := by decide +kernel
theorem dX5_readHand_127 : decode cX5_readHand 127 = .ok (.getfield 41, 3) := by decide +kernel
theorem dX5_readHand_130 : decode cX5_readHand 130 = .ok (.invokestatic 190, 3) := by decide +kernel
theorem dX5_readHand_133 : decode cX5_readHand 133 = .ok (.invokevirtual 194, 3) := by decide +kernel
theorem dX5_readHand_136 : decode cX5_readHand 136 = .ok (.iinc 2 1, 3) := by decide +kernel
theorem dX5_readHand_139 : decode cX5_readHand 139 = .ok (.goto (-105), 3) := by decide +kernel
theorem dX5_readHand_142 : decode cX5_readHand 142 = .ok (.iconst 1, 1) := by decide +kernel
theorem dX5_readHand_143 : decode cX5_readHand 143 = .ok (.ireturn, 1) := by decide +kernel
set_option maxRecDepth 20000 in
theorem ggX5_readSum_X5_readFactor : GoodIn wsX5_readSum wsX5_readFactor := goodIn_r _ [26, 19, 1, 2, 3, 27, 28, 20, 21, 22, 7, 23, 24, 25, 29, 30, 31, 32, 33, 34, 35, 36, 37, 38, 39, 40, 41, 42, 43, 44, 45, 46, 47, 48, 49, 50, 51, 52, 53, 8, 9, 10, 11, 12, 13, 14, 54, 55, 56, 57, 58, 59, 60, 61, 62, 63, 64, 65, 66, 67, 68, 69, 70, 71, 72, 73, 74, 75, 76, 77, 78, 79, 80, 81, 82, 83, 84, 85, 86, 87, 88, 89, 90, 91, 92, 93, 94, 95, 96, 97, 98, 99, 100, 101, 102, 103, 104, 105, 106, 107, 108, 109, 110, 111, 112, 113, 114, 115, 116, 117, 118, 0, 4, 5, 6, 15, 16, 17, 18, 119, 120, 121, 122, 123, 124, 125, 126, 127, 128, 129, 130, 131, 132, 133, 134, 135, 136, 137, 138, 139, 140, 141, 142, 143, 144, 145, 146, 147, 148, 149, 150, 151, 152, 153] (by decide +kernel) (by decide +kernel)
set_option maxRecDepth 20000 in
theorem gX5_readSum_X5_readFactor : GoodIn wsX5_readSum (wsV RX5 198 RX5 yX5_readFactor wsX5_readFactor) := goodIn_app (goodIn_of _ (by decide +kernel)) ggX5_readSum_X5_readFactor
set_option maxRecDepth 20000 in
theorem ggX5_readSum_X3_add : GoodIn wsX5_readSum wsX3_add := goodIn_r _ [12, 13, 14, 151, 152, 153] (by decide +kernel) (by decide +kernel)
set_option maxRecDepth 20000 in
theorem gX5_readSum_X3_add : GoodIn wsX5_readSum (wsV RX5 201 RX3 yX3_add wsX3_add) := goodIn_app (goodIn_of _ (by decide +kernel)) ggX5_readSum_X3_add
set_option maxRecDepth 20000 in
theorem ggX5_readSum_X5_takeOperator : GoodIn wsX5_readSum wsX5_takeOperator := goodIn_r _ [18, 19, 20, 21, 22, 7, 23, 24, 25, 119, 120, 121, 122, 123, 124, 125, 126, 127, 128, 129] (by decide +kernel) (by decide +kernel)
set_option maxRecDepth 20000 in
theorem gX5_readSum_X5_takeOperator : GoodIn wsX5_readSum (wsV RX5 205 RX5 yX5_takeOperator wsX5_takeOperator) := goodIn_app (goodIn_of _ (by decide +kernel)) ggX5_readSum_X5_takeOperator
theorem dX5_readSum_0 : decode cX5_readSum 0 = .ok (.aload_n 0, 1) := by decide +kernel
theorem dX5_readSum_1 : decode cX5_readSum 1 = .ok (.getfield 12, 3) := by decide +kernel
theorem dX5_readSum_4 : decode cX5_readSum 4 = .ok (.getfield 115, 3) := by decide +kernel
theorem dX5_readSum_7 : decode cX5_readSum 7 = .ok (.getfield 162, 3) := by decide +kernel
theorem dX5_readSum_10 : decode cX5_readSum 10 = .ok (.astore_n 2, 1) := by decide +kernel
theorem dX5_readSum_11 : decode cX5_readSum 11 = .ok (.iconst 0, 1) := by decide +kernel
theorem dX5_readSum_12 : decode cX5_readSum 12 = .ok (.istore_n 3, 1) := by decide +kernel
theorem dX5_readSum_13 : decode cX5_readSum 13 = .ok (.iconst 0, 1) := by decide +kernel
theorem dX5_readSum_14 : decode cX5_readSum 14 = .ok (.istore 4, 2) := by decide +kernel
theorem dX5_readSum_16 : decode cX5_readSum 16 = .ok (.iconst 0, 1) := by decide +kernel
theorem dX5_readSum_17 : decode cX5_readSum 17 = .ok (.istore 5, 2) := by decide +kernel
theorem dX5_readSum_19 : decode cX5_readSum 19 = .ok (.iload 5, 2) := by decide +kernel
theorem dX5_readSum_21 : decode cX5_readSum 21 = .ok (.sipush 600, 3) := by decide +kernel
theorem dX5_readSum_24 : decode cX5_readSum 24 = .ok (.if_icmp .ge 104, 3) := by decide +kernel
theorem dX5_readSum_27 : decode cX5_readSum 27 = .ok (.aload_n 0, 1) := by decide +kernel
theorem dX5_readSum_28 : decode cX5_readSum 28 = .ok (.iload_n 1, 1) := by decide +kernel
theorem dX5_readSum_29 : decode cX5_readSum 29 = .ok (.invokevirtual 198, 3) := by decide +kernel
theorem dX5_readSum_32 : decode cX5_readSum 32 = .ok (.ifCond .ne 5, 3) := by decide +kernel
theorem dX5_readSum_35 : decode cX5_readSum 35 = .ok (.iconst 0, 1) := by decide +kernel
theorem dX5_readSum_36 : decode cX5_readSum 36 = .ok (.ireturn, 1) := by decide +kernel
theorem dX5_readSum_37 : decode cX5_readSum 37 = .ok (.iload_n 3, 1) := by decide +kernel
theorem dX5_readSum_38 : decode cX5_readSum 38 = .ok (.ifCond .eq 8, 3) := by decide +kernel
theorem dX5_readSum_41 : decode cX5_readSum 41 = .ok (.aload_n 2, 1) := by decide +kernel
theorem dX5_readSum_42 : decode cX5_readSum 42 = .ok (.iload_n 3, 1) := by decide +kernel
theorem dX5_readSum_43 : decode cX5_readSum 43 = .ok (.invokevirtual 201, 3) := by decide +kernel
theorem dX5_readSum_46 : decode cX5_readSum 46 = .ok (.aload_n 0, 1) := by decide +kernel
theorem dX5_readSum_47 : decode cX5_readSum 47 = .ok (.invokevirtual 205, 3) := by decide +kernel
theorem dX5_readSum_50 : decode cX5_readSum 50 = .ok (.istore 6, 2) := by decide +kernel
theorem dX5_readSum_52 : decode cX5_readSum 52 = .ok (.iload 6, 2) := by decide +kernel
theorem dX5_readSum_54 : decode cX5_readSum 54 = .ok (.bipush (-9), 2) := by decide +kernel
theorem dX5_readSum_56 : decode cX5_readSum 56 = .ok (.if_icmp .eq 10, 3) := by decide +kernel
theorem dX5_readSum_59 : decode cX5_readSum 59 = .ok (.iload 6, 2) := by decide +kernel
theorem dX5_readSum_61 : decode cX5_readSum 61 = .ok (.bipush (-10), 2) := by decide +kernel
theorem dX5_readSum_63 : decode cX5_readSum 63 = .ok (.if_icmp .ne 7, 3) := by decide +kernel
theorem dX5_readSum_66 : decode cX5_readSum 66 = .ok (.iconst 1, 1) := by decide +kernel
theorem dX5_readSum_67 : decode cX5_readSum 67 = .ok (.goto 4, 3) := by decide +kernel
theorem dX5_readSum_70 : decode cX5_readSum 70 = .ok (.iconst 0, 1) := by decide +kernel
theorem dX5_readSum_71 : decode cX5_readSum 71 = .ok (.istore 7, 2) := by decide +kernel
theorem dX5_readSum_73 : decode cX5_readSum 73 = .ok (.iload 7, 2) := by decide +kernel
theorem dX5_readSum_75 : decode cX5_readSum 75 = .ok (.ifCond .eq 8, 3) := by decide +kernel
theorem dX5_readSum_78 : decode cX5_readSum 78 = .ok (.iload 6, 2) := by decide +kernel
theorem dX5_readSum_80 : decode cX5_readSum 80 = .ok (.goto 4, 3) := by decide +kernel
theorem dX5_readSum_83 : decode cX5_readSum 83 = .ok (.iconst 0, 1) := by decide +kernel
theorem dX5_readSum_84 : decode cX5_readSum 84 = .ok (.istore_n 3, 1) := by decide +kernel
theorem dX5_readSum_85 : decode cX5_readSum 85 = .ok (.iload 7, 2) := by decide +kernel
theorem dX5_readSum_87 : decode cX5_readSum 87 = .ok (.ifCond .ne 14, 3) := by decide +kernel
theorem dX5_readSum_90 : decode cX5_readSum 90 = .ok (.iload 4, 2) := by decide +kernel
theorem dX5_readSum_92 : decode cX5_readSum 92 = .ok (.ifCond .eq 9, 3) := by decide +kernel
theorem dX5_readSum_95 : decode cX5_readSum 95 = .ok (.aload_n 2, 1) := by decide +kernel
theorem dX5_readSum_96 : decode cX5_readSum 96 = .ok (.iload 4, 2) := by decide +kernel
theorem dX5_readSum_98 : decode cX5_readSum 98 = .ok (.invokevirtual 201, 3) := by decide +kernel
theorem dX5_readSum_101 : decode cX5_readSum 101 = .ok (.iload 6, 2) := by decide +kernel
theorem dX5_readSum_103 : decode cX5_readSum 103 = .ok (.ifCond .ne 5, 3) := by decide +kernel
theorem dX5_readSum_106 : decode cX5_readSum 106 = .ok (.iconst 1, 1) := by decide +kernel
theorem dX5_readSum_107 : decode cX5_readSum 107 = .ok (.ireturn, 1) := by decide +kernel
theorem dX5_readSum_108 : decode cX5_readSum 108 = .ok (.iload 7, 2) := by decide +kernel
theorem dX5_readSum_110 : decode cX5_readSum 110 = .ok (.ifCond .eq 8, 3) := by decide +kernel
theorem dX5_readSum_113 : decode cX5_readSum 113 = .ok (.iload 4, 2) := by decide +kernel
theorem dX5_readSum_115 : decode cX5_readSum 115 = .ok (.goto 5, 3) := by decide +kernel
theorem dX5_readSum_118 : decode cX5_readSum 118 = .ok (.iload 6, 2) := by decide +kernel
theorem dX5_readSum_120 : decode cX5_readSum 120 = .ok (.istore 4, 2) := by decide +kernel
theorem dX5_readSum_122 : decode cX5_readSum 122 = .ok (.iinc 5 1, 3) := by decide +kernel
theorem dX5_readSum_125 : decode cX5_readSum 125 = .ok (.goto (-106), 3) := by decide +kernel
theorem dX5_readSum_128 : decode cX5_readSum 128 = .ok (.iconst 1, 1) := by decide +kernel
theorem dX5_readSum_129 : decode cX5_readSum 129 = .ok (.ireturn, 1) := by decide +kernel
set_option maxRecDepth 20000 in
theorem ggX5_takeOperator_X5_peek : GoodIn wsX5_takeOperator wsX5_peek := goodIn_r _ [6, 1, 7, 8, 9, 10, 11, 12, 13, 14, 15, 16, 17, 18, 19] (by decide +kernel) (by decide +kernel)
set_option maxRecDepth 20000 in
theorem gX5_takeOperator_X5_peek : GoodIn wsX5_takeOperator (wsV RX5 64 RX5 yX5_peek wsX5_peek) := goodIn_app (goodIn_of _ (by decide +kernel)) ggX5_takeOperator_X5_peek
theorem dX5_takeOperator_0 : decode cX5_takeOperator 0 = .ok (.aload_n 0, 1) := by decide +kernel
theorem dX5_takeOperator_1 : decode cX5_takeOperator 1 = .ok (.invokevirtual 64, 3) := by decide +kernel
theorem dX5_takeOperator_4 : decode cX5_takeOperator 4 = .ok (.tableswitch 64 42 47 #[52, 40, 64, 46, 64, 58], 40) := by decide +kernel
theorem dX5_takeOperator_44 : decode cX5_takeOperator 44 = .ok (.bipush (-7), 2) := by decide +kernel
theorem dX5_takeOperator_46 : decode cX5_takeOperator 46 = .ok (.istore_n 1, 1) := by decide +kernel
theorem dX5_takeOperator_47 : decode cX5_takeOperator 47 = .ok (.goto 23, 3) := by decide +kernel
theorem dX5_takeOperator_50 : decode cX5_takeOperator 50 = .ok (.bipush (-8), 2) := by decide +kernel
theorem dX5_takeOperator_52 : decode cX5_takeOperator 52 = .ok (.istore_n 1, 1) := by decide +kernel
theorem dX5_takeOperator_53 : decode cX5_takeOperator 53 = .ok (.goto 17, 3) := by decide +kernel
theorem dX5_takeOperator_56 : decode cX5_takeOperator 56 = .ok (.bipush (-9), 2) := by decide +kernel
theorem dX5_takeOperator_58 : decode cX5_takeOperator 58 = .ok (.istore_n 1, 1) := by decide +kernel
theorem dX5_takeOperator_59 : decode cX5_takeOperator 59 = .ok (.goto 11, 3) := by decide +kernel
theorem dX5_takeOperator_62 : decode cX5_takeOperator 62 = .ok (.bipush (-10), 2) := by decide +kernel
theorem dX5_takeOperator_64 : decode cX5_takeOperator 64 = .ok (.istore_n 1, 1) := by decide +kernel
theorem dX5_takeOperator_65 : decode cX5_takeOperator 65 = .ok (.goto 5, 3) := by decide +kernel
theorem dX5_takeOperator_68 : decode cX5_takeOperator 68 = .ok (.iconst 0, 1) := by decide +kernel
theorem dX5_takeOperator_69 : decode cX5_takeOperator 69 = .ok (.ireturn, 1) := by decide +kernel
theorem dX5_takeOperator_70 : decode cX5_takeOperator 70 = .ok (.aload_n 0, 1) := by decide +kernel
theorem dX5_takeOperator_71 : decode cX5_takeOperator 71 = .ok (.dup, 1) := by decide +kernel
theorem dX5_takeOperator_72 : decode cX5_takeOperator 72 = .ok (.getfield 41, 3) := by decide +kernel
theorem dX5_takeOperator_75 : decode cX5_takeOperator 75 = .ok (.iconst 1, 1) := by decide +kernel
theorem dX5_takeOperator_76 : decode cX5_takeOperator 76 = .ok (.iadd, 1) := by decide +kernel
theorem dX5_takeOperator_77 : decode cX5_takeOperator 77 = .ok (.putfield 41, 3) := by decide +kernel
theorem dX5_takeOperator_80 : decode cX5_takeOperator 80 = .ok (.iload_n 1, 1) := by decide +kernel
theorem dX5_takeOperator_81 : decode cX5_takeOperator 81 = .ok (.ireturn, 1) := by decide +kernel
set_option maxRecDepth 20000 in
theorem ggX5_readFactor_X5_peek : GoodIn wsX5_readFactor wsX5_peek := goodIn_r _ [11, 1, 12, 13, 119, 120, 121, 122, 123, 124, 125, 126, 127, 128, 129] (by decide +kernel) (by decide +kernel)
set_option maxRecDepth 20000 in
theorem gX5_readFactor_X5_peek : GoodIn wsX5_readFactor (wsV RX5 64 RX5 yX5_peek wsX5_peek) := goodIn_app (goodIn_of _ (by decide +kernel)) ggX5_readFactor_X5_peek
set_option maxRecDepth 20000 in
theorem ggX5_readFactor_X5_fail : GoodIn wsX5_readFactor wsX5_fail := goodIn_r _ [17, 18, 19, 119, 120, 121, 122, 123, 124, 125, 126, 127, 128, 129] (by decide +kernel) (by decide +kernel)
set_option maxRecDepth 20000 in
theorem gX5_readFactor_X5_fail : GoodIn wsX5_readFactor (wsV RX5 78 RX5 yX5_fail wsX5_fail) := goodIn_app (goodIn_of _ (by decide +kernel)) ggX5_readFactor_X5_fail
set_option maxRecDepth 20000 in
theorem ggX5_readFactor_X5_readSum : GoodIn wsX5_readFactor wsX5_readSum := goodIn_r _ [111, 2, 3, 4, 112, 113, 114, 10, 39, 40, 41, 42, 43, 44, 45, 115, 116, 117, 118, 1, 7, 8, 9, 11, 12, 13, 0, 5, 6, 14, 15, 16, 17, 18, 19, 20, 21, 22, 23, 24, 25, 26, 27, 28, 29, 30, 31, 32, 33, 34, 35, 36, 37, 38, 46, 47, 48, 49, 50, 51, 52, 53, 54, 55, 56, 57, 58, 59, 60, 61, 62, 63, 64, 65, 66, 67, 68, 69, 70, 71, 72, 73, 74, 75, 76, 77, 78, 79, 80, 81, 82, 83, 84, 85, 86, 87, 88, 89, 90, 91, 92, 93, 94, 95, 96, 97, 98, 99, 100, 101, 102, 103, 104, 105, 106, 107, 108, 109, 110, 119, 120, 121, 122, 123, 124, 125, 126, 127, 128, 129, 130, 131, 132, 133, 134, 135, 136, 137, 138, 139, 140, 141, 142, 143, 144, 145, 146, 147, 148, 149, 150, 151, 152, 153] (by decide +kernel) (by decide +kernel)
set_option maxRecDepth 20000 in
theorem gX5_readFactor_X5_readSum : GoodIn wsX5_readFactor (wsV RX5 173 RX5 yX5_readSum wsX5_readSum) := goodIn_app (goodIn_of _ (by decide +kernel)) ggX5_readFactor_X5_readSum
set_option maxRecDepth 20000 in
theorem ggX5_readFactor_X5_readSign : GoodIn wsX5_readFactor wsX5_readSign := goodIn_r _ [26, 1, 7, 8, 9, 10, 11, 12, 13, 14, 15, 16, 17, 18, 19, 119, 120, 121, 122, 123, 124, 125, 126, 127, 128, 129] (by decide +kernel) (by decide +kernel)
set_option maxRecDepth 20000 in
theorem gX5_readFactor_X5_readSign : GoodIn wsX5_readFactor (wsV RX5 74 RX5 yX5_readSign wsX5_readSign) := goodIn_app (goodIn_of _ (by decide +kernel)) ggX5_readFactor_X5_readSign
set_option maxRecDepth 20000 in
theorem ggX5_readFactor_X5_isDigit : GoodIn wsX5_readFactor wsX5_isDigit := goodIn_r _ [29] (by decide +kernel) (by decide +kernel)
set_option maxRecDepth 20000 in
theorem gX5_readFactor_X5_isDigit : GoodIn wsX5_readFactor (va_wsS RX5 82 yX5_isDigit wsX5_isDigit) := goodIn_app (goodIn_of _ (by decide +kernel)) ggX5_readFactor_X5_isDigit
set_option maxRecDepth 20000 in
theorem ggX5_readFactor_X5_readNumber : GoodIn wsX5_readFactor wsX5_readNumber := goodIn_r _ [33, 1, 6, 5, 12, 13, 34, 35, 36, 37, 38, 7, 8, 9, 10, 11, 27, 28, 29, 14, 15, 16, 17, 18, 19, 119, 120, 121, 122, 123, 124, 125, 126, 127, 128, 129] (by decide +kernel) (by decide +kernel)
set_option maxRecDepth 20000 in
theorem gX5_readFactor_X5_readNumber : GoodIn wsX5_readFactor (wsV RX5 124 RX5 yX5_readNumber wsX5_readNumber) := goodIn_app (goodIn_of _ (by decide +kernel)) ggX5_readFactor_X5_readNumber
set_option maxRecDepth 20000 in
theorem ggX5_readFactor_X3_add : GoodIn wsX5_readFactor wsX3_add := goodIn_r _ [43, 44, 45, 151, 152, 153] (by decide +kernel) (by decide +kernel)
set_option maxRecDepth 20000 in
theorem gX5_readFactor_X3_add : GoodIn wsX5_readFactor (wsV RX5 201 RX3 yX3_add wsX3_add) := goodIn_app (goodIn_of _ (by decide +kernel)) ggX5_readFactor_X3_add
set_option maxRecDepth 20000 in
theorem ggX5_readFactor_X5_readRun : GoodIn wsX5_readFactor wsX5_readRun := goodIn_r _ [49, 1, 6, 12, 13, 7, 8, 9, 10, 11, 50, 51, 52, 53, 14, 15, 16, 17, 18, 19, 119, 120, 121, 122, 123, 124, 125, 126, 127, 128, 129] (by decide +kernel) (by decide +kernel)
set_option maxRecDepth 20000 in
theorem gX5_readFactor_X5_readRun : GoodIn wsX5_readFactor (wsV RX5 68 RX5 yX5_readRun wsX5_readRun) := goodIn_app (goodIn_of _ (by decide +kernel)) ggX5_readFactor_X5_readRun
set_option maxRecDepth 20000 in
theorem ggX5_readFactor_X5_factOfRun : GoodIn wsX5_readFactor wsX5_factOfRun := goodIn_r _ [57, 58, 59, 60, 10, 61, 1, 6, 13, 62, 63, 64, 65, 66, 67, 68, 69, 70, 71, 72, 73, 74, 75, 76, 77, 78, 79, 80, 81, 82, 83, 84, 85, 86, 87, 88, 89, 90, 91, 92, 93, 94, 95, 96, 97, 98, 99, 100, 101, 102, 103, 104, 105, 106, 107, 108, 109, 110, 119, 120, 121, 122, 123, 124, 125, 126, 127, 128, 129] (by decide +kernel) (by decide +kernel)
set_option maxRecDepth 20000 in
theorem gX5_readFactor_X5_factOfRun : GoodIn wsX5_readFactor (wsV RX5 208 RX5 yX5_factOfRun wsX5_factOfRun) := goodIn_app (goodIn_of _ (by decide +kernel)) ggX5_readFactor_X5_factOfRun
theorem dX5_readFactor_0 : decode cX5_readFactor 0 = .ok (.aload_n 0, 1) := by decide +kernel
theorem dX5_readFactor_1 : decode cX5_readFactor 1 = .ok (.invokevirtual 64, 3) := by decide +kernel
theorem dX5_readFactor_4 : decode cX5_readFactor 4 = .ok (.istore_n 2, 1) := by decide +kernel
theorem dX5_readFactor_5 : decode cX5_readFactor 5 = .ok (.iload_n 2, 1) := by decide +kernel
theorem dX5_readFactor_6 : decode cX5_readFactor 6 = .ok (.bipush 40, 2) := by decide +kernel
theorem dX5_readFactor_8 : decode cX5_readFactor 8 = .ok (.if_icmp .ne 54, 3) := by decide +kernel
theorem dX5_readFactor_11 : decode cX5_readFactor 11 = .ok (.iload_n 1, 1) := by decide +kernel
theorem dX5_readFactor_12 : decode cX5_readFactor 12 = .ok (.iconst 4, 1) := by decide +kernel
theorem dX5_readFactor_13 : decode cX5_readFactor 13 = .ok (.if_icmp .lt 14, 3) := by decide +kernel
theorem dX5_readFactor_16 : decode cX5_readFactor 16 = .ok (.aload_n 0, 1) := by decide +kernel
theorem dX5_readFactor_17 : decode cX5_readFactor 17 = .ok (.bipush (-6), 2) := by decide +kernel
theorem dX5_readFactor_19 : decode cX5_readFactor 19 = .ok (.aload_n 0, 1) := by decide +kernel
theorem dX5_readFactor_20 : decode cX5_readFactor 20 = .ok (.getfield 41, 3) := by decide +kernel
theorem dX5_readFactor_23 : decode cX5_readFactor 23 = .ok (.invokevirtual 78, 3) := by decide +kernel
theorem dX5_readFactor_26 : decode cX5_readFactor 26 = .ok (.ireturn, 1) := by decide +kernel
theorem dX5_readFactor_27 : decode cX5_readFactor 27 = .ok (.aload_n 0, 1) := by decide +kernel
theorem dX5_readFactor_28 : decode cX5_readFactor 28 = .ok (.dup, 1) := by decide +kernel
theorem dX5_readFactor_29 : decode cX5_readFactor 29 = .ok (.getfield 41, 3) := by decide +kernel
theorem dX5_readFactor_32 : decode cX5_readFactor 32 = .ok (.iconst 1, 1) := by decide +kernel
theorem dX5_readFactor_33 : decode cX5_readFactor 33 = .ok (.iadd, 1) := by decide +kernel
theorem dX5_readFactor_34 : decode cX5_readFactor 34 = .ok (.putfield 41, 3) := by decide +kernel
theorem dX5_readFactor_37 : decode cX5_readFactor 37 = .ok (.aload_n 0, 1) := by decide +kernel
theorem dX5_readFactor_38 : decode cX5_readFactor 38 = .ok (.iload_n 1, 1) := by decide +kernel
theorem dX5_readFactor_39 : decode cX5_readFactor 39 = .ok (.iconst 1, 1) := by decide +kernel
theorem dX5_readFactor_40 : decode cX5_readFactor 40 = .ok (.iadd, 1) := by decide +kernel
theorem dX5_readFactor_41 : decode cX5_readFactor 41 = .ok (.invokevirtual 173, 3) := by decide +kernel
theorem dX5_readFactor_44 : decode cX5_readFactor 44 = .ok (.ifCond .eq 16, 3) := by decide +kernel
theorem dX5_readFactor_47 : decode cX5_readFactor 47 = .ok (.aload_n 0, 1) := by decide +kernel
theorem dX5_readFactor_48 : decode cX5_readFactor 48 = .ok (.bipush 41, 2) := by decide +kernel
theorem dX5_readFactor_50 : decode cX5_readFactor 50 = .ok (.invokevirtual 74, 3) := by decide +kernel
theorem dX5_readFactor_53 : decode cX5_readFactor 53 = .ok (.ifCond .eq 7, 3) := by decide +kernel
theorem dX5_readFactor_56 : decode cX5_readFactor 56 = .ok (.iconst 1, 1) := by decide +kernel
theorem dX5_readFactor_57 : decode cX5_readFactor 57 = .ok (.goto 4, 3) := by decide +kernel
theorem dX5_readFactor_60 : decode cX5_readFactor 60 = .ok (.iconst 0, 1) := by decide +kernel
theorem dX5_readFactor_61 : decode cX5_readFactor 61 = .ok (.ireturn, 1) := by decide +kernel
theorem dX5_readFactor_62 : decode cX5_readFactor 62 = .ok (.iload_n 2, 1) := by decide +kernel
theorem dX5_readFactor_63 : decode cX5_readFactor 63 = .ok (.invokestatic 82, 3) := by decide +kernel
theorem dX5_readFactor_66 : decode cX5_readFactor 66 = .ok (.ifCond .eq 35, 3) := by decide +kernel
theorem dX5_readFactor_69 : decode cX5_readFactor 69 = .ok (.aload_n 0, 1) := by decide +kernel
theorem dX5_readFactor_70 : decode cX5_readFactor 70 = .ok (.iconst 0, 1) := by decide +kernel
theorem dX5_readFactor_71 : decode cX5_readFactor 71 = .ok (.sipush 9999, 3) := by decide +kernel
theorem dX5_readFactor_74 : decode cX5_readFactor 74 = .ok (.invokevirtual 124, 3) := by decide +kernel
theorem dX5_readFactor_77 : decode cX5_readFactor 77 = .ok (.ifCond .ne 5, 3) := by decide +kernel
theorem dX5_readFactor_80 : decode cX5_readFactor 80 = .ok (.iconst 0, 1) := by decide +kernel
theorem dX5_readFactor_81 : decode cX5_readFactor 81 = .ok (.ireturn, 1) := by decide +kernel
theorem dX5_readFactor_82 : decode cX5_readFactor 82 = .ok (.aload_n 0, 1) := by decide +kernel
theorem dX5_readFactor_83 : decode cX5_readFactor 83 = .ok (.getfield 12, 3) := by decide +kernel
theorem dX5_readFactor_86 : decode cX5_readFactor 86 = .ok (.getfield 115, 3) := by decide +kernel
theorem dX5_readFactor_89 : decode cX5_readFactor 89 = .ok (.getfield 162, 3) := by decide +kernel
theorem dX5_readFactor_92 : decode cX5_readFactor 92 = .ok (.aload_n 0, 1) := by decide +kernel
theorem dX5_readFactor_93 : decode cX5_readFactor 93 = .ok (.getfield 88, 3) := by decide +kernel
theorem dX5_readFactor_96 : decode cX5_readFactor 96 = .ok (.invokevirtual 201, 3) := by decide +kernel
theorem dX5_readFactor_99 : decode cX5_readFactor 99 = .ok (.iconst 1, 1) := by decide +kernel
theorem dX5_readFactor_100 : decode cX5_readFactor 100 = .ok (.ireturn, 1) := by decide +kernel
theorem dX5_readFactor_101 : decode cX5_readFactor 101 = .ok (.aload_n 0, 1) := by decide +kernel
theorem dX5_readFactor_102 : decode cX5_readFactor 102 = .ok (.invokevirtual 68, 3) := by decide +kernel
theorem dX5_readFactor_105 : decode cX5_readFactor 105 = .ok (.ifCond .ne 5, 3) := by decide +kernel
theorem dX5_readFactor_108 : decode cX5_readFactor 108 = .ok (.iconst 0, 1) := by decide +kernel
theorem dX5_readFactor_109 : decode cX5_readFactor 109 = .ok (.ireturn, 1) := by decide +kernel
theorem dX5_readFactor_110 : decode cX5_readFactor 110 = .ok (.aload_n 0, 1) := by decide +kernel
theorem dX5_readFactor_111 : decode cX5_readFactor 111 = .ok (.invokevirtual 208, 3) := by decide +kernel
theorem dX5_readFactor_114 : decode cX5_readFactor 114 = .ok (.istore_n 3, 1) := by decide +kernel
theorem dX5_readFactor_115 : decode cX5_readFactor 115 = .ok (.iload_n 3, 1) := by decide +kernel
theorem dX5_readFactor_116 : decode cX5_readFactor 116 = .ok (.ifCond .ne 14, 3) := by decide +kernel
theorem dX5_readFactor_119 : decode cX5_readFactor 119 = .ok (.aload_n 0, 1) := by decide +kernel
theorem dX5_readFactor_120 : decode cX5_readFactor 120 = .ok (.bipush (-2), 2) := by decide +kernel
theorem dX5_readFactor_122 : decode cX5_readFactor 122 = .ok (.aload_n 0, 1) := by decide +kernel
theorem dX5_readFactor_123 : decode cX5_readFactor 123 = .ok (.getfield 85, 3) := by decide +kernel
theorem dX5_readFactor_126 : decode cX5_readFactor 126 = .ok (.invokevirtual 78, 3) := by decide +kernel
theorem dX5_readFactor_129 : decode cX5_readFactor 129 = .ok (.ireturn, 1) := by decide +kernel
theorem dX5_readFactor_130 : decode cX5_readFactor 130 = .ok (.aload_n 0, 1) := by decide +kernel
theorem dX5_readFactor_131 : decode cX5_readFactor 131 = .ok (.getfield 12, 3) := by decide +kernel
theorem dX5_readFactor_134 : decode cX5_readFactor 134 = .ok (.getfield 115, 3) := by decide +kernel
theorem dX5_readFactor_137 : decode cX5_readFactor 137 = .ok (.getfield 162, 3) := by decide +kernel
theorem dX5_readFactor_140 : decode cX5_readFactor 140 = .ok (.iload_n 3, 1) := by decide +kernel
theorem dX5_readFactor_141 : decode cX5_readFactor 141 = .ok (.invokevirtual 201, 3) := by decide +kernel
theorem dX5_readFactor_144 : decode cX5_readFactor 144 = .ok (.iconst 1, 1) := by decide +kernel
theorem dX5_readFactor_145 : decode cX5_readFactor 145 = .ok (.ireturn, 1) := by decide +kernel
set_option maxRecDepth 20000 in
theorem ggX5_factOfRun_X5_runIs : GoodIn wsX5_factOfRun wsX5_runIs := goodIn_r _ [5, 6, 7, 8, 9, 10, 11, 12, 13, 14, 15, 16, 17, 18, 19, 20, 21, 22, 23, 24, 25, 26, 27, 28, 29, 30, 31, 32, 33, 34, 35, 36, 37, 38, 39, 40, 41, 42, 43, 44, 45, 46, 47, 48, 49, 50, 51, 52, 53, 54, 55, 56, 57, 58, 59, 60, 61, 62, 63, 64, 65, 66, 67, 68] (by decide +kernel) (by decide +kernel)
set_option maxRecDepth 20000 in
theorem gX5_factOfRun_X5_runIs : GoodIn wsX5_factOfRun (wsV RX5 108 RX5 yX5_runIs wsX5_runIs) := goodIn_app (goodIn_of _ (by decide +kernel)) ggX5_factOfRun_X5_runIs
theorem dX5_factOfRun_0 : decode cX5_factOfRun 0 = .ok (.aload_n 0, 1) := by decide +kernel
theorem dX5_factOfRun_1 : decode cX5_factOfRun 1 = .ok (.ldc 211, 2) := by decide +kernel
theorem dX5_factOfRun_3 : decode cX5_factOfRun 3 = .ok (.invokevirtual 108, 3) := by decide +kernel
theorem dX5_factOfRun_6 : decode cX5_factOfRun 6 = .ok (.ifCond .eq 5, 3) := by decide +kernel
theorem dX5_factOfRun_9 : decode cX5_factOfRun 9 = .ok (.iconst (-1), 1) := by decide +kernel
theorem dX5_factOfRun_10 : decode cX5_factOfRun 10 = .ok (.ireturn, 1) := by decide +kernel
theorem dX5_factOfRun_11 : decode cX5_factOfRun 11 = .ok (.aload_n 0, 1) := by decide +kernel
theorem dX5_factOfRun_12 : decode cX5_factOfRun 12 = .ok (.ldc 213, 2) := by decide +kernel
theorem dX5_factOfRun_14 : decode cX5_factOfRun 14 = .ok (.invokevirtual 108, 3) := by decide +kernel
theorem dX5_factOfRun_17 : decode cX5_factOfRun 17 = .ok (.ifCond .eq 6, 3) := by decide +kernel
theorem dX5_factOfRun_20 : decode cX5_factOfRun 20 = .ok (.bipush (-2), 2) := by decide +kernel
theorem dX5_factOfRun_22 : decode cX5_factOfRun 22 = .ok (.ireturn, 1) := by decide +kernel
theorem dX5_factOfRun_23 : decode cX5_factOfRun 23 = .ok (.aload_n 0, 1) := by decide +kernel
theorem dX5_factOfRun_24 : decode cX5_factOfRun 24 = .ok (.ldc 215, 2) := by decide +kernel
theorem dX5_factOfRun_26 : decode cX5_factOfRun 26 = .ok (.invokevirtual 108, 3) := by decide +kernel
theorem dX5_factOfRun_29 : decode cX5_factOfRun 29 = .ok (.ifCond .eq 6, 3) := by decide +kernel
theorem dX5_factOfRun_32 : decode cX5_factOfRun 32 = .ok (.bipush (-3), 2) := by decide +kernel
theorem dX5_factOfRun_34 : decode cX5_factOfRun 34 = .ok (.ireturn, 1) := by decide +kernel
theorem dX5_factOfRun_35 : decode cX5_factOfRun 35 = .ok (.aload_n 0, 1) := by decide +kernel
theorem dX5_factOfRun_36 : decode cX5_factOfRun 36 = .ok (.ldc 217, 2) := by decide +kernel
theorem dX5_factOfRun_38 : decode cX5_factOfRun 38 = .ok (.invokevirtual 108, 3) := by decide +kernel
theorem dX5_factOfRun_41 : decode cX5_factOfRun 41 = .ok (.ifCond .eq 6, 3) := by decide +kernel
theorem dX5_factOfRun_44 : decode cX5_factOfRun 44 = .ok (.bipush (-4), 2) := by decide +kernel
theorem dX5_factOfRun_46 : decode cX5_factOfRun 46 = .ok (.ireturn, 1) := by decide +kernel
theorem dX5_factOfRun_47 : decode cX5_factOfRun 47 = .ok (.aload_n 0, 1) := by decide +kernel
theorem dX5_factOfRun_48 : decode cX5_factOfRun 48 = .ok (.ldc 219, 2) := by decide +kernel
theorem dX5_factOfRun_50 : decode cX5_factOfRun 50 = .ok (.invokevirtual 108, 3) := by decide +kernel
theorem dX5_factOfRun_53 : decode cX5_factOfRun 53 = .ok (.ifCond .eq 6, 3) := by decide +kernel
theorem dX5_factOfRun_56 : decode cX5_factOfRun 56 = .ok (.bipush (-5), 2) := by decide +kernel
theorem dX5_factOfRun_58 : decode cX5_factOfRun 58 = .ok (.ireturn, 1) := by decide +kernel
theorem dX5_factOfRun_59 : decode cX5_factOfRun 59 = .ok (.aload_n 0, 1) := by decide +kernel
theorem dX5_factOfRun_60 : decode cX5_factOfRun 60 = .ok (.ldc 155, 2) := by decide +kernel
theorem dX5_factOfRun_62 : decode cX5_factOfRun 62 = .ok (.invokevirtual 108, 3) := by decide +kernel
theorem dX5_factOfRun_65 : decode cX5_factOfRun 65 = .ok (.ifCond .eq 8, 3) := by decide +kernel
theorem dX5_factOfRun_68 : decode cX5_factOfRun 68 = .ok (.bipush (-6), 2) := by decide +kernel
theorem dX5_factOfRun_70 : decode cX5_factOfRun 70 = .ok (.goto 4, 3) := by decide +kernel
theorem dX5_factOfRun_73 : decode cX5_factOfRun 73 = .ok (.iconst 0, 1) := by decide +kernel
theorem dX5_factOfRun_74 : decode cX5_factOfRun 74 = .ok (.ireturn, 1) := by decide +kernel
theorem dX6_isLetter_0 : decode cX6_isLetter 0 = .ok (.iload_n 0, 1) := by decide +kernel
theorem dX6_isLetter_1 : decode cX6_isLetter 1 = .ok (.bipush 97, 2) := by decide +kernel
theorem dX6_isLetter_3 : decode cX6_isLetter 3 = .ok (.if_icmp .lt 13, 3) := by decide +kernel
theorem dX6_isLetter_6 : decode cX6_isLetter 6 = .ok (.iload_n 0, 1) := by decide +kernel
theorem dX6_isLetter_7 : decode cX6_isLetter 7 = .ok (.bipush 122, 2) := by decide +kernel
theorem dX6_isLetter_9 : decode cX6_isLetter 9 = .ok (.if_icmp .gt 7, 3) := by decide +kernel
theorem dX6_isLetter_12 : decode cX6_isLetter 12 = .ok (.iconst 1, 1) := by decide +kernel
theorem dX6_isLetter_13 : decode cX6_isLetter 13 = .ok (.goto 4, 3) := by decide +kernel
theorem dX6_isLetter_16 : decode cX6_isLetter 16 = .ok (.iconst 0, 1) := by decide +kernel
theorem dX6_isLetter_17 : decode cX6_isLetter 17 = .ok (.ireturn, 1) := by decide +kernel
theorem dX6_ofBytes_0 : decode cX6_ofBytes 0 = .ok (.lconst 0, 1) := by decide +kernel
theorem dX6_ofBytes_1 : decode cX6_ofBytes 1 = .ok (.lstore_n 3, 1) := by decide +kernel
theorem dX6_ofBytes_2 : decode cX6_ofBytes 2 = .ok (.iload_n 1, 1) := by decide +kernel
theorem dX6_ofBytes_3 : decode cX6_ofBytes 3 = .ok (.istore 5, 2) := by decide +kernel
theorem dX6_ofBytes_5 : decode cX6_ofBytes 5 = .ok (.iload 5, 2) := by decide +kernel
theorem dX6_ofBytes_7 : decode cX6_ofBytes 7 = .ok (.iload_n 2, 1) := by decide +kernel
theorem dX6_ofBytes_8 : decode cX6_ofBytes 8 = .ok (.if_icmp .ge 31, 3) := by decide +kernel
theorem dX6_ofBytes_11 : decode cX6_ofBytes 11 = .ok (.iload 5, 2) := by decide +kernel
theorem dX6_ofBytes_13 : decode cX6_ofBytes 13 = .ok (.aload_n 0, 1) := by decide +kernel
theorem dX6_ofBytes_14 : decode cX6_ofBytes 14 = .ok (.arraylength, 1) := by decide +kernel
theorem dX6_ofBytes_15 : decode cX6_ofBytes 15 = .ok (.if_icmp .ge 24, 3) := by decide +kernel
theorem dX6_ofBytes_18 : decode cX6_ofBytes 18 = .ok (.lload_n 3, 1) := by decide +kernel
theorem dX6_ofBytes_19 : decode cX6_ofBytes 19 = .ok (.iconst 5, 1) := by decide +kernel
theorem dX6_ofBytes_20 : decode cX6_ofBytes 20 = .ok (.lshl, 1) := by decide +kernel
theorem dX6_ofBytes_21 : decode cX6_ofBytes 21 = .ok (.aload_n 0, 1) := by decide +kernel
theorem dX6_ofBytes_22 : decode cX6_ofBytes 22 = .ok (.iload 5, 2) := by decide +kernel
theorem dX6_ofBytes_24 : decode cX6_ofBytes 24 = .ok (.iaload, 1) := by decide +kernel
theorem dX6_ofBytes_25 : decode cX6_ofBytes 25 = .ok (.bipush 97, 2) := by decide +kernel
theorem dX6_ofBytes_27 : decode cX6_ofBytes 27 = .ok (.isub, 1) := by decide +kernel
theorem dX6_ofBytes_28 : decode cX6_ofBytes 28 = .ok (.iconst 1, 1) := by decide +kernel
theorem dX6_ofBytes_29 : decode cX6_ofBytes 29 = .ok (.iadd, 1) := by decide +kernel
theorem dX6_ofBytes_30 : decode cX6_ofBytes 30 = .ok (.i2l, 1) := by decide +kernel
theorem dX6_ofBytes_31 : decode cX6_ofBytes 31 = .ok (.lor, 1) := by decide +kernel
theorem dX6_ofBytes_32 : decode cX6_ofBytes 32 = .ok (.lstore_n 3, 1) := by decide +kernel
theorem dX6_ofBytes_33 : decode cX6_ofBytes 33 = .ok (.iinc 5 1, 3) := by decide +kernel
theorem dX6_ofBytes_36 : decode cX6_ofBytes 36 = .ok (.goto (-31), 3) := by decide +kernel
theorem dX6_ofBytes_39 : decode cX6_ofBytes 39 = .ok (.lload_n 3, 1) := by decide +kernel
theorem dX6_ofBytes_40 : decode cX6_ofBytes 40 = .ok (.lreturn, 1) := by decide +kernel
theorem dX6_length_0 : decode cX6_length 0 = .ok (.iconst 0, 1) := by decide +kernel
theorem dX6_length_1 : decode cX6_length 1 = .ok (.istore_n 2, 1) := by decide +kernel
theorem dX6_length_2 : decode cX6_length 2 = .ok (.lload_n 0, 1) := by decide +kernel
theorem dX6_length_3 : decode cX6_length 3 = .ok (.lstore_n 3, 1) := by decide +kernel
theorem dX6_length_4 : decode cX6_length 4 = .ok (.lload_n 3, 1) := by decide +kernel
theorem dX6_length_5 : decode cX6_length 5 = .ok (.lconst 0, 1) := by decide +kernel
theorem dX6_length_6 : decode cX6_length 6 = .ok (.lcmp, 1) := by decide +kernel
theorem dX6_length_7 : decode cX6_length 7 = .ok (.ifCond .eq 19, 3) := by decide +kernel
theorem dX6_length_10 : decode cX6_length 10 = .ok (.iload_n 2, 1) := by decide +kernel
theorem dX6_length_11 : decode cX6_length 11 = .ok (.bipush 8, 2) := by decide +kernel
theorem dX6_length_13 : decode cX6_length 13 = .ok (.if_icmp .ge 13, 3) := by decide +kernel
theorem dX6_length_16 : decode cX6_length 16 = .ok (.iinc 2 1, 3) := by decide +kernel
theorem dX6_length_19 : decode cX6_length 19 = .ok (.lload_n 3, 1) := by decide +kernel
theorem dX6_length_20 : decode cX6_length 20 = .ok (.iconst 5, 1) := by decide +kernel
theorem dX6_length_21 : decode cX6_length 21 = .ok (.lushr, 1) := by decide +kernel
theorem dX6_length_22 : decode cX6_length 22 = .ok (.lstore_n 3, 1) := by decide +kernel
theorem dX6_length_23 : decode cX6_length 23 = .ok (.goto (-19), 3) := by decide +kernel
theorem dX6_length_26 : decode cX6_length 26 = .ok (.iload_n 2, 1) := by decide +kernel
theorem dX6_length_27 : decode cX6_length 27 = .ok (.ireturn, 1) := by decide +kernel
set_option maxRecDepth 20000 in
theorem ggX6_letterAt_X6_length : GoodIn wsX6_letterAt wsX6_length := goodIn_r _ [5] (by decide +kernel) (by decide +kernel)
set_option maxRecDepth 20000 in
theorem gX6_letterAt_X6_length : GoodIn wsX6_letterAt (va_wsS RX6 11 yX6_length wsX6_length) := goodIn_app (goodIn_of _ (by decide +kernel)) ggX6_letterAt_X6_length
theorem dX6_letterAt_0 : decode cX6_letterAt 0 = .ok (.lload_n 0, 1) := by decide +kernel
theorem dX6_letterAt_1 : decode cX6_letterAt 1 = .ok (.invokestatic 11, 3) := by decide +kernel
theorem dX6_letterAt_4 : decode cX6_letterAt 4 = .ok (.iconst 1, 1) := by decide +kernel
theorem dX6_letterAt_5 : decode cX6_letterAt 5 = .ok (.isub, 1) := by decide +kernel
theorem dX6_letterAt_6 : decode cX6_letterAt 6 = .ok (.iload_n 2, 1) := by decide +kernel
theorem dX6_letterAt_7 : decode cX6_letterAt 7 = .ok (.isub, 1) := by decide +kernel
theorem dX6_letterAt_8 : decode cX6_letterAt 8 = .ok (.istore_n 3, 1) := by decide +kernel
theorem dX6_letterAt_9 : decode cX6_letterAt 9 = .ok (.lload_n 0, 1) := by decide +kernel
theorem dX6_letterAt_10 : decode cX6_letterAt 10 = .ok (.iconst 5, 1) := by decide +kernel
theorem dX6_letterAt_11 : decode cX6_letterAt 11 = .ok (.iload_n 3, 1) := by decide +kernel
theorem dX6_letterAt_12 : decode cX6_letterAt 12 = .ok (.imul, 1) := by decide +kernel
theorem dX6_letterAt_13 : decode cX6_letterAt 13 = .ok (.lushr, 1) := by decide +kernel
theorem dX6_letterAt_14 : decode cX6_letterAt 14 = .ok (.ldc2_w 15, 3) := by decide +kernel
theorem dX6_letterAt_17 : decode cX6_letterAt 17 = .ok (.land, 1) := by decide +kernel
theorem dX6_letterAt_18 : decode cX6_letterAt 18 = .ok (.l2i, 1) := by decide +kernel
theorem dX6_letterAt_19 : decode cX6_letterAt 19 = .ok (.iconst 1, 1) := by decide +kernel
theorem dX6_letterAt_20 : decode cX6_letterAt 20 = .ok (.isub, 1) := by decide +kernel
theorem dX6_letterAt_21 : decode cX6_letterAt 21 = .ok (.ireturn, 1) := by decide +kernel
set_option maxRecDepth 20000 in
theorem ggX7_init_X1_init : GoodIn wsX7_init wsX1_init := goodIn_r _ [27, 28, 2, 3, 29, 30, 31, 32, 4, 33, 34, 35, 36, 37, 38, 39, 40, 41, 42, 43, 44, 45, 46, 47, 48, 49, 50, 51, 52, 53, 54, 55, 56, 57, 58, 59, 10, 60, 61, 62, 63, 64, 65, 66, 67, 68, 69, 70, 71, 72, 73, 74, 75, 76, 77, 78, 79, 80, 81, 82, 83, 84, 85, 86, 87, 88, 89, 161, 162, 163, 164, 165, 166, 167, 168, 122, 123, 124, 125, 126, 127, 128, 129, 130, 131, 132, 133, 134, 169, 170, 171] (by decide +kernel) (by decide +kernel)
set_option maxRecDepth 20000 in
theorem gX7_init_X1_init : GoodIn wsX7_init (wsX1_init) := ggX7_init_X1_init
set_option maxRecDepth 20000 in
theorem ggX7_init_X2_init : GoodIn wsX7_init wsX2_init := goodIn_r _ [92, 93, 2, 3, 94, 95, 96, 97, 9, 10, 98, 26, 27, 28, 29, 30, 31, 32, 4, 33, 34, 35, 36, 37, 38, 39, 40, 41, 42, 43, 44, 45, 46, 47, 48, 49, 50, 51, 52, 53, 54, 55, 56, 57, 58, 59, 60, 61, 62, 63, 64, 65, 66, 67, 68, 69, 70, 71, 72, 73, 74, 75, 76, 77, 78, 79, 80, 81, 82, 83, 84, 85, 86, 87, 88, 89, 135, 136, 137, 122, 123, 124, 125, 126, 127, 128, 129, 130, 131, 132, 133, 134, 161, 162, 163, 164, 165, 166, 167, 168, 169, 170, 171] (by decide +kernel) (by decide +kernel)
set_option maxRecDepth 20000 in
theorem gX7_init_X2_init : GoodIn wsX7_init (wsX2_init) := ggX7_init_X2_init
set_option maxRecDepth 20000 in
theorem ggX7_init_X5_init : GoodIn wsX7_init wsX5_init := goodIn_r _ [100, 101, 2, 3, 102, 9, 10, 103, 104, 4, 105, 106, 26, 27, 28, 29, 30, 31, 32, 33, 34, 35, 36, 37, 38, 39, 40, 41, 42, 43, 44, 45, 46, 47, 48, 49, 50, 51, 52, 53, 54, 55, 56, 57, 58, 59, 60, 61, 62, 63, 64, 65, 66, 67, 68, 69, 70, 71, 72, 73, 74, 75, 76, 77, 78, 79, 80, 81, 82, 83, 84, 85, 86, 87, 88, 89, 122, 123, 124, 125, 126, 127, 128, 129, 130, 131, 132, 133, 134, 138, 139, 140, 141, 142, 143, 144, 145, 146, 147, 148, 161, 162, 163, 164, 165, 166, 167, 168, 169, 170, 171] (by decide +kernel) (by decide +kernel)
set_option maxRecDepth 20000 in
theorem gX7_init_X5_init_n39 : GoodIn wsX7_init (wsX5_init) := ggX7_init_X5_init
set_option maxRecDepth 20000 in
theorem ggX7_init_X0_init : GoodIn wsX7_init wsX0_init := goodIn_r _ [108, 109, 2, 3, 4, 110, 111, 112, 113, 149, 150, 151, 152, 153, 154, 155, 156, 157, 158, 159, 160] (by decide +kernel) (by decide +kernel)
set_option maxRecDepth 20000 in
theorem gX7_init_X0_init_n46 : GoodIn wsX7_init (wsX0_init) := ggX7_init_X0_init
theorem dX7_init_0 : decode cX7_init 0 = .ok (.aload_n 0, 1) := by decide +kernel
theorem dX7_init_1 : decode cX7_init 1 = .ok (.invokespecial 1, 3) := by decide +kernel
theorem dX7_init_4 : decode cX7_init 4 = .ok (.aload_n 0, 1) := by decide +kernel
theorem dX7_init_5 : decode cX7_init 5 = .ok (.sipush 600, 3) := by decide +kernel
theorem dX7_init_8 : decode cX7_init 8 = .ok (.newarray .int, 2) := by decide +kernel
theorem dX7_init_10 : decode cX7_init 10 = .ok (.putfield 9, 3) := by decide +kernel
theorem dX7_init_13 : decode cX7_init 13 = .ok (.aload_n 0, 1) := by decide +kernel
theorem dX7_init_14 : decode cX7_init 14 = .ok (.iconst 0, 1) := by decide +kernel
theorem dX7_init_15 : decode cX7_init 15 = .ok (.putfield 13, 3) := by decide +kernel
theorem dX7_init_18 : decode cX7_init 18 = .ok (.aload_n 0, 1) := by decide +kernel
theorem dX7_init_19 : decode cX7_init 19 = .ok (.iconst (-1), 1) := by decide +kernel
theorem dX7_init_20 : decode cX7_init 20 = .ok (.putfield 17, 3) := by decide +kernel
theorem dX7_init_23 : decode cX7_init 23 = .ok (.aload_n 0, 1) := by decide +kernel
theorem dX7_init_24 : decode cX7_init 24 = .ok (.new 20, 3) := by decide +kernel
theorem dX7_init_27 : decode cX7_init 27 = .ok (.dup, 1) := by decide +kernel
theorem dX7_init_28 : decode cX7_init 28 = .ok (.invokespecial 22, 3) := by decide +kernel
theorem dX7_init_31 : decode cX7_init 31 = .ok (.putfield 23, 3) := by decide +kernel
theorem dX7_init_34 : decode cX7_init 34 = .ok (.aload_n 0, 1) := by decide +kernel
theorem dX7_init_35 : decode cX7_init 35 = .ok (.new 20, 3) := by decide +kernel
theorem dX7_init_38 : decode cX7_init 38 = .ok (.dup, 1) := by decide +kernel
theorem dX7_init_39 : decode cX7_init 39 = .ok (.invokespecial 22, 3) := by decide +kernel
theorem dX7_init_42 : decode cX7_init 42 = .ok (.putfield 27, 3) := by decide +kernel
theorem dX7_init_45 : decode cX7_init 45 = .ok (.aload_n 0, 1) := by decide +kernel
theorem dX7_init_46 : decode cX7_init 46 = .ok (.new 30, 3) := by decide +kernel
theorem dX7_init_49 : decode cX7_init 49 = .ok (.dup, 1) := by decide +kernel
theorem dX7_init_50 : decode cX7_init 50 = .ok (.invokespecial 32, 3) := by decide +kernel
theorem dX7_init_53 : decode cX7_init 53 = .ok (.putfield 33, 3) := by decide +kernel
theorem dX7_init_56 : decode cX7_init 56 = .ok (.aload_n 0, 1) := by decide +kernel
theorem dX7_init_57 : decode cX7_init 57 = .ok (.new 37, 3) := by decide +kernel
theorem dX7_init_60 : decode cX7_init 60 = .ok (.dup, 1) := by decide +kernel
theorem dX7_init_61 : decode cX7_init 61 = .ok (.invokespecial 39, 3) := by decide +kernel
theorem dX7_init_64 : decode cX7_init 64 = .ok (.putfield 40, 3) := by decide +kernel
theorem dX7_init_67 : decode cX7_init 67 = .ok (.aload_n 0, 1) := by decide +kernel
theorem dX7_init_68 : decode cX7_init 68 = .ok (.new 44, 3) := by decide +kernel
theorem dX7_init_71 : decode cX7_init 71 = .ok (.dup, 1) := by decide +kernel
theorem dX7_init_72 : decode cX7_init 72 = .ok (.invokespecial 46, 3) := by decide +kernel
theorem dX7_init_75 : decode cX7_init 75 = .ok (.putfield 47, 3) := by decide +kernel
theorem dX7_init_78 : decode cX7_init 78 = .ok (.return_, 1) := by decide +kernel
set_option maxRecDepth 20000 in
theorem ggX7_append_X7_appendBytes : GoodIn wsX7_append wsX7_appendBytes := goodIn_r _ [6, 1, 7, 8, 9, 10, 11, 12, 13, 14, 15] (by decide +kernel) (by decide +kernel)
set_option maxRecDepth 20000 in
theorem gX7_append_X7_appendBytes : GoodIn wsX7_append (wsV RX7 51 RX7 yX7_appendBytes wsX7_appendBytes) := goodIn_app (goodIn_of _ (by decide +kernel)) ggX7_append_X7_appendBytes
theorem dX7_append_0 : decode cX7_append 0 = .ok (.aload_n 0, 1) := by decide +kernel
theorem dX7_append_1 : decode cX7_append 1 = .ok (.getfield 13, 3) := by decide +kernel
theorem dX7_append_4 : decode cX7_append 4 = .ok (.bipush 20, 2) := by decide +kernel
theorem dX7_append_6 : decode cX7_append 6 = .ok (.iadd, 1) := by decide +kernel
theorem dX7_append_7 : decode cX7_append 7 = .ok (.sipush 600, 3) := by decide +kernel
theorem dX7_append_10 : decode cX7_append 10 = .ok (.if_icmp .le 5, 3) := by decide +kernel
theorem dX7_append_13 : decode cX7_append 13 = .ok (.iconst (-1), 1) := by decide +kernel
theorem dX7_append_14 : decode cX7_append 14 = .ok (.ireturn, 1) := by decide +kernel
theorem dX7_append_15 : decode cX7_append 15 = .ok (.aload_n 0, 1) := by decide +kernel
theorem dX7_append_16 : decode cX7_append 16 = .ok (.iload_n 1, 1) := by decide +kernel
theorem dX7_append_17 : decode cX7_append 17 = .ok (.invokevirtual 51, 3) := by decide +kernel
theorem dX7_append_20 : decode cX7_append 20 = .ok (.aload_n 0, 1) := by decide +kernel
theorem dX7_append_21 : decode cX7_append 21 = .ok (.iload_n 2, 1) := by decide +kernel
theorem dX7_append_22 : decode cX7_append 22 = .ok (.invokevirtual 51, 3) := by decide +kernel
theorem dX7_append_25 : decode cX7_append 25 = .ok (.aload_n 0, 1) := by decide +kernel
theorem dX7_append_26 : decode cX7_append 26 = .ok (.iload_n 3, 1) := by decide +kernel
theorem dX7_append_27 : decode cX7_append 27 = .ok (.invokevirtual 51, 3) := by decide +kernel
theorem dX7_append_30 : decode cX7_append 30 = .ok (.aload_n 0, 1) := by decide +kernel
theorem dX7_append_31 : decode cX7_append 31 = .ok (.iload 4, 2) := by decide +kernel
theorem dX7_append_33 : decode cX7_append 33 = .ok (.invokevirtual 51, 3) := by decide +kernel
theorem dX7_append_36 : decode cX7_append 36 = .ok (.aload_n 0, 1) := by decide +kernel
theorem dX7_append_37 : decode cX7_append 37 = .ok (.iload 5, 2) := by decide +kernel
theorem dX7_append_39 : decode cX7_append 39 = .ok (.invokevirtual 51, 3) := by decide +kernel
theorem dX7_append_42 : decode cX7_append 42 = .ok (.aload_n 0, 1) := by decide +kernel
theorem dX7_append_43 : decode cX7_append 43 = .ok (.getfield 13, 3) := by decide +kernel
theorem dX7_append_46 : decode cX7_append 46 = .ok (.ireturn, 1) := by decide +kernel
set_option maxRecDepth 20000 in
theorem ggX7_load_X5_read : GoodIn wsX7_load wsX5_read := goodIn_r _ [15, 16, 17, 18, 19, 20, 21, 22, 23, 24, 25, 26, 27, 28, 29, 30, 31, 32, 33, 34, 35, 36, 37, 38, 39, 40, 41, 42, 43, 44, 45, 46, 47, 48, 49, 50, 51, 52, 53, 54, 55, 56, 57, 58, 59, 60, 61, 62, 63, 64, 65, 66, 67, 68, 69, 70, 71, 72, 73, 74, 75, 76, 77, 78, 79, 80, 81, 82, 83, 84, 14, 85, 86, 87, 88, 89, 90, 91, 92, 93, 94, 95, 96, 97, 98, 99, 100, 101, 102, 103, 104, 105, 106, 107, 108, 109, 110, 111, 112, 113, 114, 115, 116, 117, 118, 119, 120, 121, 122, 123, 124, 125, 126, 127, 128, 129, 130, 131, 132, 133, 134, 135, 136, 137, 138, 139, 140, 141, 142, 143, 144, 145, 146, 147, 148, 149, 150, 151, 152, 153, 154, 155, 156, 157, 158, 159, 160, 161, 162, 163, 164, 165, 166, 167, 168, 169, 170, 171, 172, 173, 174, 175, 176, 177, 178, 179, 180, 181, 182, 183, 184, 185, 186, 187, 188, 189, 190, 191, 192, 193, 194, 195, 196, 197, 198, 199, 200, 201, 202, 203, 204, 205, 206, 207, 208, 209, 210, 211, 212, 213, 214, 215, 216, 217, 218, 219, 220, 221, 222, 223, 224, 225, 226, 227, 228, 229, 230, 231, 232, 233, 234, 235, 236, 237, 238, 239, 240, 241, 242, 280, 281, 282, 283, 284, 285, 286, 287, 288, 289, 290, 291, 292, 293, 294, 295, 296, 297, 298, 299, 300, 301, 302, 303, 304, 305, 306, 307, 308, 309, 310, 311, 312, 313, 314] (by decide +kernel) (by decide +kernel)
set_option maxRecDepth 20000 in
theorem gX7_load_X5_read : GoodIn wsX7_load (wsV RX7 62 RX5 yX5_read wsX5_read) := goodIn_app (goodIn_of _ (by decide +kernel)) ggX7_load_X5_read
set_option maxRecDepth 20000 in
theorem ggX7_load_X2_keep : GoodIn wsX7_load wsX2_keep := goodIn_r _ [247, 248, 249, 250, 251, 252, 253, 36, 254, 38, 39, 255, 23, 24, 25, 40, 41, 42, 43, 44, 45, 46, 47, 48, 49, 256, 257, 258, 53, 259, 55, 260, 56, 57, 58, 59, 60, 61, 62, 261, 262, 263, 70, 264, 77, 72, 265, 315, 316, 317, 291, 292, 293, 294, 295, 296, 297, 298, 299, 300, 301, 302, 303, 304, 305, 306, 307, 308, 309, 310, 311, 312, 313, 314] (by decide +kernel) (by decide +kernel)
set_option maxRecDepth 20000 in
theorem gX7_load_X2_keep : GoodIn wsX7_load (wsV RX7 69 RX2 yX2_keep wsX2_keep) := goodIn_app (goodIn_of _ (by decide +kernel)) ggX7_load_X2_keep
set_option maxRecDepth 20000 in
theorem ggX7_load_X1_copyFrom : GoodIn wsX7_load wsX1_copyFrom := goodIn_r _ [254, 38, 39, 255, 23, 24, 25, 40, 41, 42, 43, 44, 45, 46, 47, 48, 49, 256, 257, 258, 53, 259, 55, 260, 56, 57, 58, 59, 60, 61, 62, 261, 262, 263, 70, 264, 77, 72, 265, 291, 292, 293, 294, 295, 296, 297, 298, 299, 300, 301, 302, 303, 304, 305, 306, 307, 308, 309, 310, 311, 312, 313, 314] (by decide +kernel) (by decide +kernel)
set_option maxRecDepth 20000 in
theorem gX7_load_X1_copyFrom : GoodIn wsX7_load (wsV RX7 74 RX1 yX1_copyFrom wsX1_copyFrom) := goodIn_app (goodIn_of _ (by decide +kernel)) ggX7_load_X1_copyFrom
set_option maxRecDepth 20000 in
theorem ggX7_load_X1_wordsOfHands : GoodIn wsX7_load wsX1_wordsOfHands := goodIn_r _ [270, 38, 271, 45, 291, 292, 293, 294, 295, 296, 297, 298, 299, 300, 301, 302, 303, 304, 305, 306, 307, 308, 309, 310, 311] (by decide +kernel) (by decide +kernel)
set_option maxRecDepth 20000 in
theorem gX7_load_X1_wordsOfHands : GoodIn wsX7_load (wsV RX7 77 RX1 yX1_wordsOfHands wsX1_wordsOfHands) := goodIn_app (goodIn_of _ (by decide +kernel)) ggX7_load_X1_wordsOfHands
theorem dX7_load_0 : decode cX7_load 0 = .ok (.iload_n 1, 1) := by decide +kernel
theorem dX7_load_1 : decode cX7_load 1 = .ok (.ifCond .lt 11, 3) := by decide +kernel
theorem dX7_load_4 : decode cX7_load 4 = .ok (.iload_n 1, 1) := by decide +kernel
theorem dX7_load_5 : decode cX7_load 5 = .ok (.aload_n 0, 1) := by decide +kernel
theorem dX7_load_6 : decode cX7_load 6 = .ok (.getfield 13, 3) := by decide +kernel
theorem dX7_load_9 : decode cX7_load 9 = .ok (.if_icmp .le 13, 3) := by decide +kernel
theorem dX7_load_12 : decode cX7_load 12 = .ok (.new 55, 3) := by decide +kernel
theorem dX7_load_15 : decode cX7_load 15 = .ok (.dup, 1) := by decide +kernel
theorem dX7_load_16 : decode cX7_load 16 = .ok (.ldc 57, 2) := by decide +kernel
theorem dX7_load_18 : decode cX7_load 18 = .ok (.invokespecial 59, 3) := by decide +kernel
theorem dX7_load_21 : decode cX7_load 21 = .ok (.athrow, 1) := by decide +kernel
theorem dX7_load_22 : decode cX7_load 22 = .ok (.aload_n 0, 1) := by decide +kernel
theorem dX7_load_23 : decode cX7_load 23 = .ok (.getfield 40, 3) := by decide +kernel
theorem dX7_load_26 : decode cX7_load 26 = .ok (.aload_n 0, 1) := by decide +kernel
theorem dX7_load_27 : decode cX7_load 27 = .ok (.getfield 9, 3) := by decide +kernel
theorem dX7_load_30 : decode cX7_load 30 = .ok (.iload_n 1, 1) := by decide +kernel
theorem dX7_load_31 : decode cX7_load 31 = .ok (.invokevirtual 62, 3) := by decide +kernel
theorem dX7_load_34 : decode cX7_load 34 = .ok (.istore_n 2, 1) := by decide +kernel
theorem dX7_load_35 : decode cX7_load 35 = .ok (.aload_n 0, 1) := by decide +kernel
theorem dX7_load_36 : decode cX7_load 36 = .ok (.iconst 0, 1) := by decide +kernel
theorem dX7_load_37 : decode cX7_load 37 = .ok (.putfield 13, 3) := by decide +kernel
theorem dX7_load_40 : decode cX7_load 40 = .ok (.aload_n 0, 1) := by decide +kernel
theorem dX7_load_41 : decode cX7_load 41 = .ok (.aload_n 0, 1) := by decide +kernel
theorem dX7_load_42 : decode cX7_load 42 = .ok (.getfield 40, 3) := by decide +kernel
theorem dX7_load_45 : decode cX7_load 45 = .ok (.getfield 66, 3) := by decide +kernel
theorem dX7_load_48 : decode cX7_load 48 = .ok (.putfield 17, 3) := by decide +kernel
theorem dX7_load_51 : decode cX7_load 51 = .ok (.iload_n 2, 1) := by decide +kernel
theorem dX7_load_52 : decode cX7_load 52 = .ok (.ifCond .eq 5, 3) := by decide +kernel
theorem dX7_load_55 : decode cX7_load 55 = .ok (.iload_n 2, 1) := by decide +kernel
theorem dX7_load_56 : decode cX7_load 56 = .ok (.ireturn, 1) := by decide +kernel
theorem dX7_load_57 : decode cX7_load 57 = .ok (.aload_n 0, 1) := by decide +kernel
theorem dX7_load_58 : decode cX7_load 58 = .ok (.getfield 33, 3) := by decide +kernel
theorem dX7_load_61 : decode cX7_load 61 = .ok (.aload_n 0, 1) := by decide +kernel
theorem dX7_load_62 : decode cX7_load 62 = .ok (.getfield 23, 3) := by decide +kernel
theorem dX7_load_65 : decode cX7_load 65 = .ok (.invokevirtual 69, 3) := by decide +kernel
theorem dX7_load_68 : decode cX7_load 68 = .ok (.aload_n 0, 1) := by decide +kernel
theorem dX7_load_69 : decode cX7_load 69 = .ok (.getfield 23, 3) := by decide +kernel
theorem dX7_load_72 : decode cX7_load 72 = .ok (.aload_n 0, 1) := by decide +kernel
theorem dX7_load_73 : decode cX7_load 73 = .ok (.getfield 40, 3) := by decide +kernel
theorem dX7_load_76 : decode cX7_load 76 = .ok (.getfield 73, 3) := by decide +kernel
theorem dX7_load_79 : decode cX7_load 79 = .ok (.invokevirtual 74, 3) := by decide +kernel
theorem dX7_load_82 : decode cX7_load 82 = .ok (.aload_n 0, 1) := by decide +kernel
theorem dX7_load_83 : decode cX7_load 83 = .ok (.getfield 23, 3) := by decide +kernel
theorem dX7_load_86 : decode cX7_load 86 = .ok (.invokevirtual 77, 3) := by decide +kernel
theorem dX7_load_89 : decode cX7_load 89 = .ok (.ireturn, 1) := by decide +kernel
theorem dX7_errorOffset_0 : decode cX7_errorOffset 0 = .ok (.aload_n 0, 1) := by decide +kernel
theorem dX7_errorOffset_1 : decode cX7_errorOffset 1 = .ok (.getfield 17, 3) := by decide +kernel
theorem dX7_errorOffset_4 : decode cX7_errorOffset 4 = .ok (.ireturn, 1) := by decide +kernel
set_option maxRecDepth 20000 in
theorem ggX7_state_X1_stateNumber : GoodIn wsX7_state wsX1_stateNumber := goodIn_r _ [8, 9, 10, 11, 12, 13, 14, 15, 16, 17, 18, 19, 20, 7, 21, 22, 23, 24, 25, 26, 27, 28, 29, 30, 31, 32, 33, 34, 35, 36, 37, 38, 39, 40, 41, 42, 43, 44, 45, 46, 47, 48, 49, 50, 51, 52, 53, 54, 55, 56, 57, 58, 59, 60, 61, 62, 63, 64, 65, 66, 75, 76, 77, 78, 79, 80, 81, 82, 83, 84, 85, 86, 87, 88, 89, 90, 91, 92, 93, 94, 95] (by decide +kernel) (by decide +kernel)
set_option maxRecDepth 20000 in
theorem gX7_state_X1_stateNumber : GoodIn wsX7_state (wsV RX7 83 RX1 yX1_stateNumber wsX1_stateNumber) := goodIn_app (goodIn_of _ (by decide +kernel)) ggX7_state_X1_stateNumber
theorem dX7_state_0 : decode cX7_state 0 = .ok (.iload_n 1, 1) := by decide +kernel
theorem dX7_state_1 : decode cX7_state 1 = .ok (.ifCond .lt 9, 3) := by decide +kernel
theorem dX7_state_4 : decode cX7_state 4 = .ok (.iload_n 1, 1) := by decide +kernel
theorem dX7_state_5 : decode cX7_state 5 = .ok (.bipush 12, 2) := by decide +kernel
theorem dX7_state_7 : decode cX7_state 7 = .ok (.if_icmp .lt 13, 3) := by decide +kernel
theorem dX7_state_10 : decode cX7_state 10 = .ok (.new 55, 3) := by decide +kernel
theorem dX7_state_13 : decode cX7_state 13 = .ok (.dup, 1) := by decide +kernel
theorem dX7_state_14 : decode cX7_state 14 = .ok (.ldc 81, 2) := by decide +kernel
theorem dX7_state_16 : decode cX7_state 16 = .ok (.invokespecial 59, 3) := by decide +kernel
theorem dX7_state_19 : decode cX7_state 19 = .ok (.athrow, 1) := by decide +kernel
theorem dX7_state_20 : decode cX7_state 20 = .ok (.aload_n 0, 1) := by decide +kernel
theorem dX7_state_21 : decode cX7_state 21 = .ok (.getfield 23, 3) := by decide +kernel
theorem dX7_state_24 : decode cX7_state 24 = .ok (.iload_n 1, 1) := by decide +kernel
theorem dX7_state_25 : decode cX7_state 25 = .ok (.invokevirtual 83, 3) := by decide +kernel
theorem dX7_state_28 : decode cX7_state 28 = .ok (.ireturn, 1) := by decide +kernel
set_option maxRecDepth 20000 in
theorem ggX7_row_X7_checkRow : GoodIn wsX7_row wsX7_checkRow := goodIn_ca (goodIn_r _ [8, 9, 10, 3, 11, 12, 27, 28, 29, 30, 31, 32, 33, 34, 35, 36, 37, 38, 39, 40, 41, 42, 43, 44, 45, 46, 47, 48, 49, 50, 51, 52, 53, 54, 55] (by decide +kernel) (by decide +kernel)) (goodIn_sub (fun _ h => List.mem_cons_of_mem _ (List.mem_append_right _ h)) (by decide +kernel))
set_option maxRecDepth 20000 in
theorem gX7_row_X7_checkRow : GoodIn wsX7_row (wsV RX7 87 RX7 yX7_checkRow wsX7_checkRow) := goodIn_app (goodIn_of _ (by decide +kernel)) ggX7_row_X7_checkRow
set_option maxRecDepth 20000 in
theorem ggX7_row_X1_rowNumber : GoodIn wsX7_row wsX1_rowNumber := goodIn_r _ [17, 18, 19, 20, 21, 22, 23, 24, 16, 25, 26, 35, 36, 37, 38, 39, 40, 41, 42, 43, 44, 45, 46, 47, 48, 49, 50, 51, 52, 53, 54, 55] (by decide +kernel) (by decide +kernel)
set_option maxRecDepth 20000 in
theorem gX7_row_X1_rowNumber : GoodIn wsX7_row (wsV RX7 92 RX1 yX1_rowNumber wsX1_rowNumber) := goodIn_app (goodIn_of _ (by decide +kernel)) ggX7_row_X1_rowNumber
theorem dX7_row_0 : decode cX7_row 0 = .ok (.aload_n 0, 1) := by decide +kernel
theorem dX7_row_1 : decode cX7_row 1 = .ok (.iload_n 1, 1) := by decide +kernel
theorem dX7_row_2 : decode cX7_row 2 = .ok (.invokevirtual 87, 3) := by decide +kernel
theorem dX7_row_5 : decode cX7_row 5 = .ok (.iload_n 2, 1) := by decide +kernel
theorem dX7_row_6 : decode cX7_row 6 = .ok (.ifCond .lt 8, 3) := by decide +kernel
theorem dX7_row_9 : decode cX7_row 9 = .ok (.iload_n 2, 1) := by decide +kernel
theorem dX7_row_10 : decode cX7_row 10 = .ok (.iconst 4, 1) := by decide +kernel
theorem dX7_row_11 : decode cX7_row 11 = .ok (.if_icmp .lt 13, 3) := by decide +kernel
theorem dX7_row_14 : decode cX7_row 14 = .ok (.new 55, 3) := by decide +kernel
theorem dX7_row_17 : decode cX7_row 17 = .ok (.dup, 1) := by decide +kernel
theorem dX7_row_18 : decode cX7_row 18 = .ok (.ldc 90, 2) := by decide +kernel
theorem dX7_row_20 : decode cX7_row 20 = .ok (.invokespecial 59, 3) := by decide +kernel
theorem dX7_row_23 : decode cX7_row 23 = .ok (.athrow, 1) := by decide +kernel
theorem dX7_row_24 : decode cX7_row 24 = .ok (.aload_n 0, 1) := by decide +kernel
theorem dX7_row_25 : decode cX7_row 25 = .ok (.getfield 23, 3) := by decide +kernel
theorem dX7_row_28 : decode cX7_row 28 = .ok (.iload_n 1, 1) := by decide +kernel
theorem dX7_row_29 : decode cX7_row 29 = .ok (.iload_n 2, 1) := by decide +kernel
theorem dX7_row_30 : decode cX7_row 30 = .ok (.invokevirtual 92, 3) := by decide +kernel
theorem dX7_row_33 : decode cX7_row 33 = .ok (.ireturn, 1) := by decide +kernel
set_option maxRecDepth 20000 in
theorem ggX7_tile_X7_checkRow : GoodIn wsX7_tile wsX7_checkRow := goodIn_ca (goodIn_r _ [10, 11, 12, 3, 4, 13, 21, 22, 23, 24, 25, 26, 27, 28, 29, 30, 31, 32, 33, 34, 35, 36, 37, 38, 39, 40, 41, 42, 43, 44, 45, 46, 47, 48, 49] (by decide +kernel) (by decide +kernel)) (goodIn_sub (fun _ h => List.mem_cons_of_mem _ (List.mem_append_right _ h)) (by decide +kernel))
set_option maxRecDepth 20000 in
theorem gX7_tile_X7_checkRow : GoodIn wsX7_tile (wsV RX7 87 RX7 yX7_checkRow wsX7_checkRow) := goodIn_app (goodIn_of _ (by decide +kernel)) ggX7_tile_X7_checkRow
set_option maxRecDepth 20000 in
theorem ggX7_tile_X1_letterOnTile : GoodIn wsX7_tile wsX1_letterOnTile := goodIn_r _ [18, 19, 20, 29, 30, 31, 32, 33, 34, 35, 36, 37, 38, 39, 40, 41] (by decide +kernel) (by decide +kernel)
set_option maxRecDepth 20000 in
theorem gX7_tile_X1_letterOnTile : GoodIn wsX7_tile (wsV RX7 110 RX1 yX1_letterOnTile wsX1_letterOnTile) := goodIn_app (goodIn_of _ (by decide +kernel)) ggX7_tile_X1_letterOnTile
theorem dX7_tile_0 : decode cX7_tile 0 = .ok (.aload_n 0, 1) := by decide +kernel
theorem dX7_tile_1 : decode cX7_tile 1 = .ok (.iload_n 1, 1) := by decide +kernel
theorem dX7_tile_2 : decode cX7_tile 2 = .ok (.invokevirtual 87, 3) := by decide +kernel
theorem dX7_tile_5 : decode cX7_tile 5 = .ok (.iload_n 2, 1) := by decide +kernel
theorem dX7_tile_6 : decode cX7_tile 6 = .ok (.ifCond .lt 19, 3) := by decide +kernel
theorem dX7_tile_9 : decode cX7_tile 9 = .ok (.iload_n 2, 1) := by decide +kernel
theorem dX7_tile_10 : decode cX7_tile 10 = .ok (.aload_n 0, 1) := by decide +kernel
theorem dX7_tile_11 : decode cX7_tile 11 = .ok (.getfield 23, 3) := by decide +kernel
theorem dX7_tile_14 : decode cX7_tile 14 = .ok (.getfield 96, 3) := by decide +kernel
theorem dX7_tile_17 : decode cX7_tile 17 = .ok (.getfield 100, 3) := by decide +kernel
theorem dX7_tile_20 : decode cX7_tile 20 = .ok (.iload_n 1, 1) := by decide +kernel
theorem dX7_tile_21 : decode cX7_tile 21 = .ok (.iaload, 1) := by decide +kernel
theorem dX7_tile_22 : decode cX7_tile 22 = .ok (.if_icmp .lt 13, 3) := by decide +kernel
theorem dX7_tile_25 : decode cX7_tile 25 = .ok (.new 105, 3) := by decide +kernel
theorem dX7_tile_28 : decode cX7_tile 28 = .ok (.dup, 1) := by decide +kernel
theorem dX7_tile_29 : decode cX7_tile 29 = .ok (.ldc 107, 2) := by decide +kernel
theorem dX7_tile_31 : decode cX7_tile 31 = .ok (.invokespecial 109, 3) := by decide +kernel
theorem dX7_tile_34 : decode cX7_tile 34 = .ok (.athrow, 1) := by decide +kernel
theorem dX7_tile_35 : decode cX7_tile 35 = .ok (.aload_n 0, 1) := by decide +kernel
theorem dX7_tile_36 : decode cX7_tile 36 = .ok (.getfield 23, 3) := by decide +kernel
theorem dX7_tile_39 : decode cX7_tile 39 = .ok (.iload_n 1, 1) := by decide +kernel
theorem dX7_tile_40 : decode cX7_tile 40 = .ok (.iload_n 2, 1) := by decide +kernel
theorem dX7_tile_41 : decode cX7_tile 41 = .ok (.invokevirtual 110, 3) := by decide +kernel
theorem dX7_tile_44 : decode cX7_tile 44 = .ok (.ireturn, 1) := by decide +kernel
set_option maxRecDepth 20000 in
theorem ggX7_player_X7_checkPlayer : GoodIn wsX7_player wsX7_checkPlayer := goodIn_ca (goodIn_r _ [8, 9, 10, 3, 11, 12, 40, 41, 42, 43, 44, 45, 46, 47, 48, 49, 50, 51, 52, 53, 54, 55, 56, 57, 58, 59, 60, 61, 62, 63, 64, 65, 66, 67, 68] (by decide +kernel) (by decide +kernel)) (goodIn_sub (fun _ h => List.mem_cons_of_mem _ (List.mem_append_right _ h)) (by decide +kernel))
set_option maxRecDepth 20000 in
theorem gX7_player_X7_checkPlayer : GoodIn wsX7_player (wsV RX7 113 RX7 yX7_checkPlayer wsX7_checkPlayer) := goodIn_app (goodIn_of _ (by decide +kernel)) ggX7_player_X7_checkPlayer
set_option maxRecDepth 20000 in
theorem ggX7_player_X1_playerNumber : GoodIn wsX7_player wsX1_playerNumber := goodIn_r _ [17, 18, 19, 20, 21, 22, 16, 23, 24, 25, 26, 27, 28, 29, 30, 31, 32, 33, 34, 35, 36, 37, 38, 39, 48, 49, 50, 51, 52, 53, 54, 55, 56, 57, 58, 59, 60, 61, 62, 63, 64, 65, 66, 67, 68] (by decide +kernel) (by decide +kernel)
set_option maxRecDepth 20000 in
theorem gX7_player_X1_playerNumber : GoodIn wsX7_player (wsV RX7 118 RX1 yX1_playerNumber wsX1_playerNumber) := goodIn_app (goodIn_of _ (by decide +kernel)) ggX7_player_X1_playerNumber
theorem dX7_player_0 : decode cX7_player 0 = .ok (.aload_n 0, 1) := by decide +kernel
theorem dX7_player_1 : decode cX7_player 1 = .ok (.iload_n 1, 1) := by decide +kernel
theorem dX7_player_2 : decode cX7_player 2 = .ok (.invokevirtual 113, 3) := by decide +kernel
theorem dX7_player_5 : decode cX7_player 5 = .ok (.iload_n 2, 1) := by decide +kernel
theorem dX7_player_6 : decode cX7_player 6 = .ok (.ifCond .lt 8, 3) := by decide +kernel
theorem dX7_player_9 : decode cX7_player 9 = .ok (.iload_n 2, 1) := by decide +kernel
theorem dX7_player_10 : decode cX7_player 10 = .ok (.iconst 4, 1) := by decide +kernel
theorem dX7_player_11 : decode cX7_player 11 = .ok (.if_icmp .lt 13, 3) := by decide +kernel
theorem dX7_player_14 : decode cX7_player 14 = .ok (.new 55, 3) := by decide +kernel
theorem dX7_player_17 : decode cX7_player 17 = .ok (.dup, 1) := by decide +kernel
theorem dX7_player_18 : decode cX7_player 18 = .ok (.ldc 116, 2) := by decide +kernel
theorem dX7_player_20 : decode cX7_player 20 = .ok (.invokespecial 59, 3) := by decide +kernel
theorem dX7_player_23 : decode cX7_player 23 = .ok (.athrow, 1) := by decide +kernel
theorem dX7_player_24 : decode cX7_player 24 = .ok (.aload_n 0, 1) := by decide +kernel
theorem dX7_player_25 : decode cX7_player 25 = .ok (.getfield 23, 3) := by decide +kernel
theorem dX7_player_28 : decode cX7_player 28 = .ok (.iload_n 1, 1) := by decide +kernel
theorem dX7_player_29 : decode cX7_player 29 = .ok (.iload_n 2, 1) := by decide +kernel
theorem dX7_player_30 : decode cX7_player 30 = .ok (.invokevirtual 118, 3) := by decide +kernel
theorem dX7_player_33 : decode cX7_player 33 = .ok (.ireturn, 1) := by decide +kernel
set_option maxRecDepth 20000 in
theorem ggX7_letter_X7_checkPlayer : GoodIn wsX7_letter wsX7_checkPlayer := goodIn_ca (goodIn_r _ [8, 9, 10, 3, 11, 12, 33, 34, 35, 36, 37, 38, 39, 40, 41, 42, 43, 44, 45, 46, 47, 48, 49, 50, 51, 52, 53, 54, 55, 56, 57, 58, 59, 60, 61] (by decide +kernel) (by decide +kernel)) (goodIn_sub (fun _ h => List.mem_cons_of_mem _ (List.mem_append_right _ h)) (by decide +kernel))
set_option maxRecDepth 20000 in
theorem gX7_letter_X7_checkPlayer : GoodIn wsX7_letter (wsV RX7 113 RX7 yX7_checkPlayer wsX7_checkPlayer) := goodIn_app (goodIn_of _ (by decide +kernel)) ggX7_letter_X7_checkPlayer
set_option maxRecDepth 20000 in
theorem ggX7_letter_X7_checkPlace : GoodIn wsX7_letter wsX7_checkPlace := goodIn_ca (goodIn_r _ [16, 9, 10, 3, 17, 33, 34, 35, 36, 37, 38, 39, 40, 41, 42, 43, 44, 45, 46, 47, 48, 49, 50, 51, 52, 53] (by decide +kernel) (by decide +kernel)) (goodIn_sub (fun _ h => List.mem_cons_of_mem _ (List.mem_append_right _ h)) (by decide +kernel))
set_option maxRecDepth 20000 in
theorem gX7_letter_X7_checkPlace : GoodIn wsX7_letter (wsV RX7 121 RX7 yX7_checkPlace wsX7_checkPlace) := goodIn_app (goodIn_of _ (by decide +kernel)) ggX7_letter_X7_checkPlace
set_option maxRecDepth 20000 in
theorem ggX7_letter_X1_wordOf : GoodIn wsX7_letter wsX1_wordOf := goodIn_r _ [22, 23, 41, 42, 43, 44, 45, 46, 47, 48, 49, 50, 51, 52, 53] (by decide +kernel) (by decide +kernel)
set_option maxRecDepth 20000 in
theorem gX7_letter_X1_wordOf : GoodIn wsX7_letter (wsV RX7 125 RX1 yX1_wordOf wsX1_wordOf) := goodIn_app (goodIn_of _ (by decide +kernel)) ggX7_letter_X1_wordOf
set_option maxRecDepth 20000 in
theorem ggX7_letter_X6_length : GoodIn wsX7_letter wsX6_length := goodIn_r _ [27] (by decide +kernel) (by decide +kernel)
set_option maxRecDepth 20000 in
theorem gX7_letter_X6_length : GoodIn wsX7_letter (va_wsS RX7 129 yX6_length wsX6_length) := goodIn_app (goodIn_of _ (by decide +kernel)) ggX7_letter_X6_length
set_option maxRecDepth 20000 in
theorem ggX7_letter_X6_letterAt : GoodIn wsX7_letter wsX6_letterAt := goodIn_r _ [30, 31, 32, 25, 26, 27] (by decide +kernel) (by decide +kernel)
set_option maxRecDepth 20000 in
theorem gX7_letter_X6_letterAt : GoodIn wsX7_letter (va_wsS RX7 137 yX6_letterAt wsX6_letterAt) := goodIn_app (goodIn_of _ (by decide +kernel)) ggX7_letter_X6_letterAt
theorem dX7_letter_0 : decode cX7_letter 0 = .ok (.aload_n 0, 1) := by decide +kernel
theorem dX7_letter_1 : decode cX7_letter 1 = .ok (.iload_n 1, 1) := by decide +kernel
theorem dX7_letter_2 : decode cX7_letter 2 = .ok (.invokevirtual 113, 3) := by decide +kernel
theorem dX7_letter_5 : decode cX7_letter 5 = .ok (.aload_n 0, 1) := by decide +kernel
theorem dX7_letter_6 : decode cX7_letter 6 = .ok (.iload_n 1, 1) := by decide +kernel
theorem dX7_letter_7 : decode cX7_letter 7 = .ok (.iload_n 2, 1) := by decide +kernel
theorem dX7_letter_8 : decode cX7_letter 8 = .ok (.invokevirtual 121, 3) := by decide +kernel
theorem dX7_letter_11 : decode cX7_letter 11 = .ok (.aload_n 0, 1) := by decide +kernel
theorem dX7_letter_12 : decode cX7_letter 12 = .ok (.getfield 23, 3) := by decide +kernel
theorem dX7_letter_15 : decode cX7_letter 15 = .ok (.iload_n 1, 1) := by decide +kernel
theorem dX7_letter_16 : decode cX7_letter 16 = .ok (.iload_n 2, 1) := by decide +kernel
theorem dX7_letter_17 : decode cX7_letter 17 = .ok (.invokevirtual 125, 3) := by decide +kernel
theorem dX7_letter_20 : decode cX7_letter 20 = .ok (.lstore 4, 2) := by decide +kernel
theorem dX7_letter_22 : decode cX7_letter 22 = .ok (.iload_n 3, 1) := by decide +kernel
theorem dX7_letter_23 : decode cX7_letter 23 = .ok (.ifCond .lt 12, 3) := by decide +kernel
theorem dX7_letter_26 : decode cX7_letter 26 = .ok (.iload_n 3, 1) := by decide +kernel
theorem dX7_letter_27 : decode cX7_letter 27 = .ok (.lload 4, 2) := by decide +kernel
theorem dX7_letter_29 : decode cX7_letter 29 = .ok (.invokestatic 129, 3) := by decide +kernel
theorem dX7_letter_32 : decode cX7_letter 32 = .ok (.if_icmp .lt 13, 3) := by decide +kernel
theorem dX7_letter_35 : decode cX7_letter 35 = .ok (.new 105, 3) := by decide +kernel
theorem dX7_letter_38 : decode cX7_letter 38 = .ok (.dup, 1) := by decide +kernel
theorem dX7_letter_39 : decode cX7_letter 39 = .ok (.ldc 135, 2) := by decide +kernel
theorem dX7_letter_41 : decode cX7_letter 41 = .ok (.invokespecial 109, 3) := by decide +kernel
theorem dX7_letter_44 : decode cX7_letter 44 = .ok (.athrow, 1) := by decide +kernel
theorem dX7_letter_45 : decode cX7_letter 45 = .ok (.lload 4, 2) := by decide +kernel
theorem dX7_letter_47 : decode cX7_letter 47 = .ok (.iload_n 3, 1) := by decide +kernel
theorem dX7_letter_48 : decode cX7_letter 48 = .ok (.invokestatic 137, 3) := by decide +kernel
theorem dX7_letter_51 : decode cX7_letter 51 = .ok (.ireturn, 1) := by decide +kernel
theorem dX7_alike_0 : decode cX7_alike 0 = .ok (.iload_n 1, 1) := by decide +kernel
theorem dX7_alike_1 : decode cX7_alike 1 = .ok (.ifCond .lt 19, 3) := by decide +kernel
theorem dX7_alike_4 : decode cX7_alike 4 = .ok (.iload_n 1, 1) := by decide +kernel
theorem dX7_alike_5 : decode cX7_alike 5 = .ok (.bipush 26, 2) := by decide +kernel
theorem dX7_alike_7 : decode cX7_alike 7 = .ok (.if_icmp .ge 13, 3) := by decide +kernel
theorem dX7_alike_10 : decode cX7_alike 10 = .ok (.iload_n 2, 1) := by decide +kernel
theorem dX7_alike_11 : decode cX7_alike 11 = .ok (.ifCond .lt 9, 3) := by decide +kernel
theorem dX7_alike_14 : decode cX7_alike 14 = .ok (.iload_n 2, 1) := by decide +kernel
theorem dX7_alike_15 : decode cX7_alike 15 = .ok (.bipush 26, 2) := by decide +kernel
theorem dX7_alike_17 : decode cX7_alike 17 = .ok (.if_icmp .lt 13, 3) := by decide +kernel
theorem dX7_alike_20 : decode cX7_alike 20 = .ok (.new 55, 3) := by decide +kernel
theorem dX7_alike_23 : decode cX7_alike 23 = .ok (.dup, 1) := by decide +kernel
theorem dX7_alike_24 : decode cX7_alike 24 = .ok (.ldc 141, 2) := by decide +kernel
theorem dX7_alike_26 : decode cX7_alike 26 = .ok (.invokespecial 59, 3) := by decide +kernel
theorem dX7_alike_29 : decode cX7_alike 29 = .ok (.athrow, 1) := by decide +kernel
theorem dX7_alike_30 : decode cX7_alike 30 = .ok (.aload_n 0, 1) := by decide +kernel
theorem dX7_alike_31 : decode cX7_alike 31 = .ok (.getfield 23, 3) := by decide +kernel
theorem dX7_alike_34 : decode cX7_alike 34 = .ok (.getfield 96, 3) := by decide +kernel
theorem dX7_alike_37 : decode cX7_alike 37 = .ok (.getfield 143, 3) := by decide +kernel
theorem dX7_alike_40 : decode cX7_alike 40 = .ok (.iload_n 1, 1) := by decide +kernel
theorem dX7_alike_41 : decode cX7_alike 41 = .ok (.iconst 1, 1) := by decide +kernel
theorem dX7_alike_42 : decode cX7_alike 42 = .ok (.iadd, 1) := by decide +kernel
theorem dX7_alike_43 : decode cX7_alike 43 = .ok (.iaload, 1) := by decide +kernel
theorem dX7_alike_44 : decode cX7_alike 44 = .ok (.aload_n 0, 1) := by decide +kernel
theorem dX7_alike_45 : decode cX7_alike 45 = .ok (.getfield 23, 3) := by decide +kernel
theorem dX7_alike_48 : decode cX7_alike 48 = .ok (.getfield 96, 3) := by decide +kernel
theorem dX7_alike_51 : decode cX7_alike 51 = .ok (.getfield 143, 3) := by decide +kernel
theorem dX7_alike_54 : decode cX7_alike 54 = .ok (.iload_n 2, 1) := by decide +kernel
theorem dX7_alike_55 : decode cX7_alike 55 = .ok (.iconst 1, 1) := by decide +kernel
theorem dX7_alike_56 : decode cX7_alike 56 = .ok (.iadd, 1) := by decide +kernel
theorem dX7_alike_57 : decode cX7_alike 57 = .ok (.iaload, 1) := by decide +kernel
theorem dX7_alike_58 : decode cX7_alike 58 = .ok (.if_icmp .ne 7, 3) := by decide +kernel
theorem dX7_alike_61 : decode cX7_alike 61 = .ok (.iconst 1, 1) := by decide +kernel
theorem dX7_alike_62 : decode cX7_alike 62 = .ok (.goto 4, 3) := by decide +kernel
theorem dX7_alike_65 : decode cX7_alike 65 = .ok (.iconst 0, 1) := by decide +kernel
theorem dX7_alike_66 : decode cX7_alike 66 = .ok (.ireturn, 1) := by decide +kernel
set_option maxRecDepth 20000 in
theorem ggX7_rhyme_X7_checkPlayer : GoodIn wsX7_rhyme wsX7_checkPlayer := goodIn_ca (goodIn_r _ [9, 10, 11, 1, 3, 12, 36, 37, 38, 39, 40, 41, 42, 43, 44, 45, 46, 47, 48, 49, 50, 51, 52, 53, 54, 55, 56, 57, 58, 59, 60, 61, 62, 63, 64] (by decide +kernel) (by decide +kernel)) (goodIn_sub (fun _ h => List.mem_cons_of_mem _ (List.mem_append_right _ h)) (by decide +kernel))
set_option maxRecDepth 20000 in
theorem gX7_rhyme_X7_checkPlayer : GoodIn wsX7_rhyme (wsV RX7 113 RX7 yX7_checkPlayer wsX7_checkPlayer) := goodIn_app (goodIn_of _ (by decide +kernel)) ggX7_rhyme_X7_checkPlayer
set_option maxRecDepth 20000 in
theorem ggX7_rhyme_X7_checkPlace : GoodIn wsX7_rhyme wsX7_checkPlace := goodIn_ca (goodIn_r _ [16, 10, 11, 1, 17, 36, 37, 38, 39, 40, 41, 42, 43, 44, 45, 46, 47, 48, 49, 50, 51, 52, 53, 54, 55, 56] (by decide +kernel) (by decide +kernel)) (goodIn_sub (fun _ h => List.mem_cons_of_mem _ (List.mem_append_right _ h)) (by decide +kernel))
set_option maxRecDepth 20000 in
theorem gX7_rhyme_X7_checkPlace : GoodIn wsX7_rhyme (wsV RX7 121 RX7 yX7_checkPlace wsX7_checkPlace) := goodIn_app (goodIn_of _ (by decide +kernel)) ggX7_rhyme_X7_checkPlace
set_option maxRecDepth 20000 in
theorem ggX7_rhyme_X7_checkRow : GoodIn wsX7_rhyme wsX7_checkRow := goodIn_ca (goodIn_r _ [21, 10, 11, 1, 3, 22, 36, 37, 38, 39, 40, 41, 42, 43, 44, 45, 46, 47, 48, 49, 50, 51, 52, 53, 54, 55, 56, 57, 58, 59, 60, 61, 62, 63, 64] (by decide +kernel) (by decide +kernel)) (goodIn_sub (fun _ h => List.mem_cons_of_mem _ (List.mem_append_right _ h)) (by decide +kernel))
set_option maxRecDepth 20000 in
theorem gX7_rhyme_X7_checkRow : GoodIn wsX7_rhyme (wsV RX7 87 RX7 yX7_checkRow wsX7_checkRow) := goodIn_app (goodIn_of _ (by decide +kernel)) ggX7_rhyme_X7_checkRow
set_option maxRecDepth 20000 in
theorem ggX7_rhyme_X1_wordOf : GoodIn wsX7_rhyme wsX1_wordOf := goodIn_r _ [27, 28, 44, 45, 46, 47, 48, 49, 50, 51, 52, 53, 54, 55, 56] (by decide +kernel) (by decide +kernel)
set_option maxRecDepth 20000 in
theorem gX7_rhyme_X1_wordOf : GoodIn wsX7_rhyme (wsV RX7 125 RX1 yX1_wordOf wsX1_wordOf) := goodIn_app (goodIn_of _ (by decide +kernel)) ggX7_rhyme_X1_wordOf
set_option maxRecDepth 20000 in
theorem ggX7_rhyme_X4_rhymeOf : GoodIn wsX7_rhyme wsX4_rhymeOf := goodIn_r _ [33, 34, 35, 57, 58, 59, 60, 61, 62, 63, 64] (by decide +kernel) (by decide +kernel)
set_option maxRecDepth 20000 in
theorem gX7_rhyme_X4_rhymeOf : GoodIn wsX7_rhyme (wsV RX7 153 RX4 yX4_rhymeOf wsX4_rhymeOf) := goodIn_app (goodIn_of _ (by decide +kernel)) ggX7_rhyme_X4_rhymeOf
theorem dX7_rhyme_0 : decode cX7_rhyme 0 = .ok (.aload_n 0, 1) := by decide +kernel
theorem dX7_rhyme_1 : decode cX7_rhyme 1 = .ok (.iload_n 1, 1) := by decide +kernel
theorem dX7_rhyme_2 : decode cX7_rhyme 2 = .ok (.invokevirtual 113, 3) := by decide +kernel
theorem dX7_rhyme_5 : decode cX7_rhyme 5 = .ok (.aload_n 0, 1) := by decide +kernel
theorem dX7_rhyme_6 : decode cX7_rhyme 6 = .ok (.iload_n 1, 1) := by decide +kernel
theorem dX7_rhyme_7 : decode cX7_rhyme 7 = .ok (.iload_n 2, 1) := by decide +kernel
theorem dX7_rhyme_8 : decode cX7_rhyme 8 = .ok (.invokevirtual 121, 3) := by decide +kernel
theorem dX7_rhyme_11 : decode cX7_rhyme 11 = .ok (.aload_n 0, 1) := by decide +kernel
theorem dX7_rhyme_12 : decode cX7_rhyme 12 = .ok (.iload_n 3, 1) := by decide +kernel
theorem dX7_rhyme_13 : decode cX7_rhyme 13 = .ok (.invokevirtual 87, 3) := by decide +kernel
theorem dX7_rhyme_16 : decode cX7_rhyme 16 = .ok (.aload_n 0, 1) := by decide +kernel
theorem dX7_rhyme_17 : decode cX7_rhyme 17 = .ok (.getfield 23, 3) := by decide +kernel
theorem dX7_rhyme_20 : decode cX7_rhyme 20 = .ok (.getfield 146, 3) := by decide +kernel
theorem dX7_rhyme_23 : decode cX7_rhyme 23 = .ok (.iload_n 3, 1) := by decide +kernel
theorem dX7_rhyme_24 : decode cX7_rhyme 24 = .ok (.iaload, 1) := by decide +kernel
theorem dX7_rhyme_25 : decode cX7_rhyme 25 = .ok (.ifCond .ne 5, 3) := by decide +kernel
theorem dX7_rhyme_28 : decode cX7_rhyme 28 = .ok (.iconst (-1), 1) := by decide +kernel
theorem dX7_rhyme_29 : decode cX7_rhyme 29 = .ok (.ireturn, 1) := by decide +kernel
theorem dX7_rhyme_30 : decode cX7_rhyme 30 = .ok (.aload_n 0, 1) := by decide +kernel
theorem dX7_rhyme_31 : decode cX7_rhyme 31 = .ok (.getfield 23, 3) := by decide +kernel
theorem dX7_rhyme_34 : decode cX7_rhyme 34 = .ok (.getfield 96, 3) := by decide +kernel
theorem dX7_rhyme_37 : decode cX7_rhyme 37 = .ok (.aload_n 0, 1) := by decide +kernel
theorem dX7_rhyme_38 : decode cX7_rhyme 38 = .ok (.getfield 23, 3) := by decide +kernel
theorem dX7_rhyme_41 : decode cX7_rhyme 41 = .ok (.iload_n 1, 1) := by decide +kernel
theorem dX7_rhyme_42 : decode cX7_rhyme 42 = .ok (.iload_n 2, 1) := by decide +kernel
theorem dX7_rhyme_43 : decode cX7_rhyme 43 = .ok (.invokevirtual 125, 3) := by decide +kernel
theorem dX7_rhyme_46 : decode cX7_rhyme 46 = .ok (.aload_n 0, 1) := by decide +kernel
theorem dX7_rhyme_47 : decode cX7_rhyme 47 = .ok (.getfield 23, 3) := by decide +kernel
theorem dX7_rhyme_50 : decode cX7_rhyme 50 = .ok (.getfield 149, 3) := by decide +kernel
theorem dX7_rhyme_53 : decode cX7_rhyme 53 = .ok (.iload_n 3, 1) := by decide +kernel
theorem dX7_rhyme_54 : decode cX7_rhyme 54 = .ok (.laload, 1) := by decide +kernel
theorem dX7_rhyme_55 : decode cX7_rhyme 55 = .ok (.invokevirtual 153, 3) := by decide +kernel
theorem dX7_rhyme_58 : decode cX7_rhyme 58 = .ok (.ireturn, 1) := by decide +kernel
set_option maxRecDepth 20000 in
theorem ggX7_why_X7_checkPlace : GoodIn wsX7_why wsX7_checkPlace := goodIn_ca (goodIn_r _ [7, 8, 9, 1, 10, 54, 55, 56, 57, 58, 59, 60, 61, 62, 63, 64, 65, 66, 67, 68, 69, 70, 71, 72, 73, 74] (by decide +kernel) (by decide +kernel)) (goodIn_sub (fun _ h => List.mem_cons_of_mem _ (List.mem_append_right _ h)) (by decide +kernel))
set_option maxRecDepth 20000 in
theorem gX7_why_X7_checkPlace : GoodIn wsX7_why (wsV RX7 121 RX7 yX7_checkPlace wsX7_checkPlace) := goodIn_app (goodIn_of _ (by decide +kernel)) ggX7_why_X7_checkPlace
set_option maxRecDepth 20000 in
theorem ggX7_why_X7_checkRow : GoodIn wsX7_why wsX7_checkRow := goodIn_ca (goodIn_r _ [14, 8, 9, 1, 15, 16, 54, 55, 56, 57, 58, 59, 60, 61, 62, 63, 64, 65, 66, 67, 68, 69, 70, 71, 72, 73, 74, 75, 76, 77, 78, 79, 80, 81, 82] (by decide +kernel) (by decide +kernel)) (goodIn_sub (fun _ h => List.mem_cons_of_mem _ (List.mem_append_right _ h)) (by decide +kernel))
set_option maxRecDepth 20000 in
theorem gX7_why_X7_checkRow : GoodIn wsX7_why (wsV RX7 87 RX7 yX7_checkRow wsX7_checkRow) := goodIn_app (goodIn_of _ (by decide +kernel)) ggX7_why_X7_checkRow
set_option maxRecDepth 20000 in
theorem ggX7_why_X1_obstacleNow : GoodIn wsX7_why wsX1_obstacleNow := goodIn_r _ [21, 22, 23, 24, 25, 26, 20, 27, 28, 29, 30, 31, 32, 33, 34, 35, 36, 37, 38, 39, 40, 41, 42, 43, 44, 45, 46, 47, 48, 49, 50, 51, 52, 53, 62, 63, 64, 65, 66, 67, 68, 69, 70, 71, 72, 73, 74, 75, 76, 77, 78, 79, 80, 81, 82] (by decide +kernel) (by decide +kernel)
set_option maxRecDepth 20000 in
theorem gX7_why_X1_obstacleNow : GoodIn wsX7_why (wsV RX7 160 RX1 yX1_obstacleNow wsX1_obstacleNow) := goodIn_app (goodIn_of _ (by decide +kernel)) ggX7_why_X1_obstacleNow
theorem dX7_why_0 : decode cX7_why 0 = .ok (.aload_n 0, 1) := by decide +kernel
theorem dX7_why_1 : decode cX7_why 1 = .ok (.aload_n 0, 1) := by decide +kernel
theorem dX7_why_2 : decode cX7_why 2 = .ok (.getfield 23, 3) := by decide +kernel
theorem dX7_why_5 : decode cX7_why 5 = .ok (.getfield 157, 3) := by decide +kernel
theorem dX7_why_8 : decode cX7_why 8 = .ok (.iload_n 1, 1) := by decide +kernel
theorem dX7_why_9 : decode cX7_why 9 = .ok (.invokevirtual 121, 3) := by decide +kernel
theorem dX7_why_12 : decode cX7_why 12 = .ok (.aload_n 0, 1) := by decide +kernel
theorem dX7_why_13 : decode cX7_why 13 = .ok (.iload_n 2, 1) := by decide +kernel
theorem dX7_why_14 : decode cX7_why 14 = .ok (.invokevirtual 87, 3) := by decide +kernel
theorem dX7_why_17 : decode cX7_why 17 = .ok (.aload_n 0, 1) := by decide +kernel
theorem dX7_why_18 : decode cX7_why 18 = .ok (.getfield 23, 3) := by decide +kernel
theorem dX7_why_21 : decode cX7_why 21 = .ok (.iload_n 1, 1) := by decide +kernel
theorem dX7_why_22 : decode cX7_why 22 = .ok (.iload_n 2, 1) := by decide +kernel
theorem dX7_why_23 : decode cX7_why 23 = .ok (.invokevirtual 160, 3) := by decide +kernel
theorem dX7_why_26 : decode cX7_why 26 = .ok (.ireturn, 1) := by decide +kernel
set_option maxRecDepth 20000 in
theorem ggX7_play_X7_checkPlace : GoodIn wsX7_play wsX7_checkPlace := goodIn_ca (goodIn_r _ [11, 12, 13, 5, 14, 90, 91, 92, 93, 94, 95, 96, 97, 98, 99, 100, 101, 102, 103, 104, 105, 106, 107, 108, 109, 110] (by decide +kernel) (by decide +kernel)) (goodIn_sub (fun _ h => List.mem_cons_of_mem _ (List.mem_append_right _ h)) (by decide +kernel))
set_option maxRecDepth 20000 in
theorem gX7_play_X7_checkPlace : GoodIn wsX7_play (wsV RX7 121 RX7 yX7_checkPlace wsX7_checkPlace) := goodIn_app (goodIn_of _ (by decide +kernel)) ggX7_play_X7_checkPlace
set_option maxRecDepth 20000 in
theorem ggX7_play_X7_checkRow : GoodIn wsX7_play wsX7_checkRow := goodIn_ca (goodIn_r _ [18, 12, 13, 5, 19, 20, 90, 91, 92, 93, 94, 95, 96, 97, 98, 99, 100, 101, 102, 103, 104, 105, 106, 107, 108, 109, 110, 111, 112, 113, 114, 115, 116, 117, 118] (by decide +kernel) (by decide +kernel)) (goodIn_sub (fun _ h => List.mem_cons_of_mem _ (List.mem_append_right _ h)) (by decide +kernel))
set_option maxRecDepth 20000 in
theorem gX7_play_X7_checkRow : GoodIn wsX7_play (wsV RX7 87 RX7 yX7_checkRow wsX7_checkRow) := goodIn_app (goodIn_of _ (by decide +kernel)) ggX7_play_X7_checkRow
set_option maxRecDepth 20000 in
theorem ggX7_play_X1_obstacleNow : GoodIn wsX7_play wsX1_obstacleNow := goodIn_r _ [25, 26, 27, 28, 29, 30, 24, 31, 32, 33, 34, 35, 36, 37, 38, 39, 40, 41, 42, 43, 44, 45, 46, 47, 48, 49, 50, 51, 52, 53, 54, 55, 56, 57, 98, 99, 100, 101, 102, 103, 104, 105, 106, 107, 108, 109, 110, 111, 112, 113, 114, 115, 116, 117, 118] (by decide +kernel) (by decide +kernel)
set_option maxRecDepth 20000 in
theorem gX7_play_X1_obstacleNow : GoodIn wsX7_play (wsV RX7 160 RX1 yX1_obstacleNow wsX1_obstacleNow) := goodIn_app (goodIn_of _ (by decide +kernel)) ggX7_play_X1_obstacleNow
set_option maxRecDepth 20000 in
theorem ggX7_play_X1_wordOf : GoodIn wsX7_play wsX1_wordOf := goodIn_r _ [31, 32, 98, 99, 100, 101, 102, 103, 104, 105, 106, 107, 108, 109, 110] (by decide +kernel) (by decide +kernel)
set_option maxRecDepth 20000 in
theorem gX7_play_X1_wordOf : GoodIn wsX7_play (wsV RX7 125 RX1 yX1_wordOf wsX1_wordOf) := goodIn_app (goodIn_of _ (by decide +kernel)) ggX7_play_X1_wordOf
set_option maxRecDepth 20000 in
theorem ggX7_play_X1_pointsFor : GoodIn wsX7_play wsX1_pointsFor := goodIn_r _ [62, 39, 63, 38, 64, 37, 41, 42, 43, 44, 51, 52, 53, 54, 55, 56, 57, 45, 46, 47, 24, 48, 49, 50, 98, 99, 100, 101, 102, 103, 104, 105, 106, 107, 108, 109, 110, 111, 112, 113, 114, 115, 116, 117, 118] (by decide +kernel) (by decide +kernel)
set_option maxRecDepth 20000 in
theorem gX7_play_X1_pointsFor : GoodIn wsX7_play (wsV RX7 167 RX1 yX1_pointsFor wsX1_pointsFor) := goodIn_app (goodIn_of _ (by decide +kernel)) ggX7_play_X1_pointsFor
set_option maxRecDepth 20000 in
theorem ggX7_play_X1_rankOf : GoodIn wsX7_play wsX1_rankOf := goodIn_r _ [68, 27, 69, 39, 38, 70, 71, 28, 29, 30, 24, 31, 32, 41, 42, 43, 44, 45, 46, 47, 48, 49, 50, 72, 73, 74, 75, 76, 60, 61, 62, 63, 64, 37, 51, 52, 53, 54, 55, 56, 57, 77, 78, 79, 80, 81, 82, 83, 84, 85, 86, 87, 88, 89, 98, 99, 100, 101, 102, 103, 104, 105, 106, 107, 108, 109, 110, 111, 112, 113, 114, 115, 116, 117, 118, 119, 120, 121] (by decide +kernel) (by decide +kernel)
set_option maxRecDepth 20000 in
theorem gX7_play_X1_rankOf : GoodIn wsX7_play (wsV RX7 170 RX1 yX1_rankOf wsX1_rankOf) := goodIn_app (goodIn_of _ (by decide +kernel)) ggX7_play_X1_rankOf
theorem dX7_play_0 : decode cX7_play 0 = .ok (.aload_n 0, 1) := by decide +kernel
theorem dX7_play_1 : decode cX7_play 1 = .ok (.aload_n 0, 1) := by decide +kernel
theorem dX7_play_2 : decode cX7_play 2 = .ok (.getfield 23, 3) := by decide +kernel
theorem dX7_play_5 : decode cX7_play 5 = .ok (.getfield 157, 3) := by decide +kernel
theorem dX7_play_8 : decode cX7_play 8 = .ok (.iload_n 1, 1) := by decide +kernel
theorem dX7_play_9 : decode cX7_play 9 = .ok (.invokevirtual 121, 3) := by decide +kernel
theorem dX7_play_12 : decode cX7_play 12 = .ok (.aload_n 0, 1) := by decide +kernel
theorem dX7_play_13 : decode cX7_play 13 = .ok (.iload_n 2, 1) := by decide +kernel
theorem dX7_play_14 : decode cX7_play 14 = .ok (.invokevirtual 87, 3) := by decide +kernel
theorem dX7_play_17 : decode cX7_play 17 = .ok (.iload_n 3, 1) := by decide +kernel
theorem dX7_play_18 : decode cX7_play 18 = .ok (.ifCond .lt 8, 3) := by decide +kernel
theorem dX7_play_21 : decode cX7_play 21 = .ok (.iload_n 3, 1) := by decide +kernel
theorem dX7_play_22 : decode cX7_play 22 = .ok (.iconst 1, 1) := by decide +kernel
theorem dX7_play_23 : decode cX7_play 23 = .ok (.if_icmp .le 13, 3) := by decide +kernel
theorem dX7_play_26 : decode cX7_play 26 = .ok (.new 55, 3) := by decide +kernel
theorem dX7_play_29 : decode cX7_play 29 = .ok (.dup, 1) := by decide +kernel
theorem dX7_play_30 : decode cX7_play 30 = .ok (.ldc 163, 2) := by decide +kernel
theorem dX7_play_32 : decode cX7_play 32 = .ok (.invokespecial 59, 3) := by decide +kernel
theorem dX7_play_35 : decode cX7_play 35 = .ok (.athrow, 1) := by decide +kernel
theorem dX7_play_36 : decode cX7_play 36 = .ok (.aload_n 0, 1) := by decide +kernel
theorem dX7_play_37 : decode cX7_play 37 = .ok (.getfield 23, 3) := by decide +kernel
theorem dX7_play_40 : decode cX7_play 40 = .ok (.iload_n 1, 1) := by decide +kernel
theorem dX7_play_41 : decode cX7_play 41 = .ok (.iload_n 2, 1) := by decide +kernel
theorem dX7_play_42 : decode cX7_play 42 = .ok (.invokevirtual 160, 3) := by decide +kernel
theorem dX7_play_45 : decode cX7_play 45 = .ok (.ifCond .eq 13, 3) := by decide +kernel
theorem dX7_play_48 : decode cX7_play 48 = .ok (.new 105, 3) := by decide +kernel
theorem dX7_play_51 : decode cX7_play 51 = .ok (.dup, 1) := by decide +kernel
theorem dX7_play_52 : decode cX7_play 52 = .ok (.ldc 165, 2) := by decide +kernel
theorem dX7_play_54 : decode cX7_play 54 = .ok (.invokespecial 109, 3) := by decide +kernel
theorem dX7_play_57 : decode cX7_play 57 = .ok (.athrow, 1) := by decide +kernel
theorem dX7_play_58 : decode cX7_play 58 = .ok (.iload_n 3, 1) := by decide +kernel
theorem dX7_play_59 : decode cX7_play 59 = .ok (.ifCond .ne 29, 3) := by decide +kernel
theorem dX7_play_62 : decode cX7_play 62 = .ok (.aload_n 0, 1) := by decide +kernel
theorem dX7_play_63 : decode cX7_play 63 = .ok (.getfield 23, 3) := by decide +kernel
theorem dX7_play_66 : decode cX7_play 66 = .ok (.aload_n 0, 1) := by decide +kernel
theorem dX7_play_67 : decode cX7_play 67 = .ok (.getfield 23, 3) := by decide +kernel
theorem dX7_play_70 : decode cX7_play 70 = .ok (.aload_n 0, 1) := by decide +kernel
theorem dX7_play_71 : decode cX7_play 71 = .ok (.getfield 23, 3) := by decide +kernel
theorem dX7_play_74 : decode cX7_play 74 = .ok (.getfield 157, 3) := by decide +kernel
theorem dX7_play_77 : decode cX7_play 77 = .ok (.iload_n 1, 1) := by decide +kernel
theorem dX7_play_78 : decode cX7_play 78 = .ok (.invokevirtual 125, 3) := by decide +kernel
theorem dX7_play_81 : decode cX7_play 81 = .ok (.iload_n 2, 1) := by decide +kernel
theorem dX7_play_82 : decode cX7_play 82 = .ok (.invokevirtual 167, 3) := by decide +kernel
theorem dX7_play_85 : decode cX7_play 85 = .ok (.goto 12, 3) := by decide +kernel
theorem dX7_play_88 : decode cX7_play 88 = .ok (.aload_n 0, 1) := by decide +kernel
theorem dX7_play_89 : decode cX7_play 89 = .ok (.getfield 23, 3) := by decide +kernel
theorem dX7_play_92 : decode cX7_play 92 = .ok (.iload_n 1, 1) := by decide +kernel
theorem dX7_play_93 : decode cX7_play 93 = .ok (.iload_n 2, 1) := by decide +kernel
theorem dX7_play_94 : decode cX7_play 94 = .ok (.invokevirtual 170, 3) := by decide +kernel
theorem dX7_play_97 : decode cX7_play 97 = .ok (.ireturn, 1) := by decide +kernel
set_option maxRecDepth 20000 in
theorem ggX7_best_X1_bestPlay : GoodIn wsX7_best wsX1_bestPlay := goodIn_r _ [6, 7, 8, 9, 10, 11, 12, 13, 5, 14, 15, 16, 17, 18, 19, 20, 21, 22, 23, 24, 25, 26, 27, 28, 29, 30, 31, 32, 33, 34, 35, 36, 37, 38, 39, 40, 41, 42, 43, 44, 45, 46, 47, 48, 49, 50, 51, 52, 53, 54, 55, 56, 57, 58, 59, 60, 61, 62, 63, 64, 65, 66, 67, 68, 69, 70, 71, 72, 73, 82, 83, 84, 85, 86, 87, 88, 89, 90, 91, 92, 93, 94, 95, 96, 97, 98, 99, 100, 101, 102, 103, 104, 105] (by decide +kernel) (by decide +kernel)
set_option maxRecDepth 20000 in
theorem gX7_best_X1_bestPlay : GoodIn wsX7_best (wsV RX7 173 RX1 yX1_bestPlay wsX1_bestPlay) := goodIn_app (goodIn_of _ (by decide +kernel)) ggX7_best_X1_bestPlay
theorem dX7_best_0 : decode cX7_best 0 = .ok (.aload_n 0, 1) := by decide +kernel
theorem dX7_best_1 : decode cX7_best 1 = .ok (.getfield 23, 3) := by decide +kernel
theorem dX7_best_4 : decode cX7_best 4 = .ok (.invokevirtual 173, 3) := by decide +kernel
theorem dX7_best_7 : decode cX7_best 7 = .ok (.ireturn, 1) := by decide +kernel
set_option maxRecDepth 20000 in
theorem ggX7_chain_X7_checkPlayer : GoodIn wsX7_chain wsX7_checkPlayer := goodIn_ca (goodIn_r _ [8, 9, 10, 2, 11, 12, 112, 113, 114, 115, 116, 117, 118, 119, 132, 133, 134, 135, 136, 137, 138, 139, 140, 141, 142, 143, 144, 145, 146, 147, 148, 149, 150, 151, 152] (by decide +kernel) (by decide +kernel)) (goodIn_sub (fun _ h => List.mem_cons_of_mem _ (List.mem_append_right _ h)) (by decide +kernel))
set_option maxRecDepth 20000 in
theorem gX7_chain_X7_checkPlayer : GoodIn wsX7_chain (wsV RX7 113 RX7 yX7_checkPlayer wsX7_checkPlayer) := goodIn_app (goodIn_of _ (by decide +kernel)) ggX7_chain_X7_checkPlayer
set_option maxRecDepth 20000 in
theorem ggX7_chain_X7_checkRow : GoodIn wsX7_chain wsX7_checkRow := goodIn_ca (goodIn_r _ [16, 9, 10, 2, 11, 17, 112, 113, 114, 115, 116, 117, 118, 119, 132, 133, 134, 135, 136, 137, 138, 139, 140, 141, 142, 143, 144, 145, 146, 147, 148, 149, 150, 151, 152] (by decide +kernel) (by decide +kernel)) (goodIn_sub (fun _ h => List.mem_cons_of_mem _ (List.mem_append_right _ h)) (by decide +kernel))
set_option maxRecDepth 20000 in
theorem gX7_chain_X7_checkRow : GoodIn wsX7_chain (wsV RX7 87 RX7 yX7_checkRow wsX7_checkRow) := goodIn_app (goodIn_of _ (by decide +kernel)) ggX7_chain_X7_checkRow
set_option maxRecDepth 20000 in
theorem ggX7_chain_X0_search : GoodIn wsX7_chain wsX0_search := goodIn_r _ [22, 23, 24, 25, 26, 27, 28, 29, 30, 31, 32, 33, 34, 35, 21, 36, 37, 38, 39, 40, 41, 42, 43, 44, 45, 46, 47, 48, 49, 50, 51, 52, 53, 54, 55, 56, 57, 58, 59, 60, 61, 62, 63, 64, 65, 66, 67, 68, 69, 70, 71, 72, 73, 74, 75, 76, 77, 78, 79, 80, 81, 82, 83, 84, 85, 86, 87, 88, 89, 90, 91, 92, 93, 94, 95, 96, 97, 98, 99, 100, 101, 102, 103, 104, 105, 106, 107, 108, 109, 110, 111, 120, 121, 122, 123, 124, 125, 126, 127, 128, 129, 130, 131, 132, 133, 134, 135, 136, 137, 138, 139, 140, 141, 142, 143, 144, 145, 146, 147, 148, 149, 150, 151, 152] (by decide +kernel) (by decide +kernel)
set_option maxRecDepth 20000 in
theorem gX7_chain_X0_search : GoodIn wsX7_chain (wsV RX7 176 RX0 yX0_search wsX0_search) := goodIn_app (goodIn_of _ (by decide +kernel)) ggX7_chain_X0_search
theorem dX7_chain_0 : decode cX7_chain 0 = .ok (.aload_n 0, 1) := by decide +kernel
theorem dX7_chain_1 : decode cX7_chain 1 = .ok (.iload_n 1, 1) := by decide +kernel
theorem dX7_chain_2 : decode cX7_chain 2 = .ok (.invokevirtual 113, 3) := by decide +kernel
theorem dX7_chain_5 : decode cX7_chain 5 = .ok (.aload_n 0, 1) := by decide +kernel
theorem dX7_chain_6 : decode cX7_chain 6 = .ok (.iload_n 2, 1) := by decide +kernel
theorem dX7_chain_7 : decode cX7_chain 7 = .ok (.invokevirtual 87, 3) := by decide +kernel
theorem dX7_chain_10 : decode cX7_chain 10 = .ok (.aload_n 0, 1) := by decide +kernel
theorem dX7_chain_11 : decode cX7_chain 11 = .ok (.getfield 47, 3) := by decide +kernel
theorem dX7_chain_14 : decode cX7_chain 14 = .ok (.aload_n 0, 1) := by decide +kernel
theorem dX7_chain_15 : decode cX7_chain 15 = .ok (.getfield 23, 3) := by decide +kernel
theorem dX7_chain_18 : decode cX7_chain 18 = .ok (.iload_n 1, 1) := by decide +kernel
theorem dX7_chain_19 : decode cX7_chain 19 = .ok (.iload_n 2, 1) := by decide +kernel
theorem dX7_chain_20 : decode cX7_chain 20 = .ok (.invokevirtual 176, 3) := by decide +kernel
theorem dX7_chain_23 : decode cX7_chain 23 = .ok (.aload_n 0, 1) := by decide +kernel
theorem dX7_chain_24 : decode cX7_chain 24 = .ok (.getfield 47, 3) := by decide +kernel
theorem dX7_chain_27 : decode cX7_chain 27 = .ok (.getfield 180, 3) := by decide +kernel
theorem dX7_chain_30 : decode cX7_chain 30 = .ok (.ireturn, 1) := by decide +kernel
set_option maxRecDepth 20000 in
theorem ggX7_worth_X7_checkPlayer : GoodIn wsX7_worth wsX7_checkPlayer := goodIn_ca (goodIn_r _ [8, 9, 10, 2, 11, 12, 112, 113, 114, 115, 116, 117, 118, 119, 132, 133, 134, 135, 136, 137, 138, 139, 140, 141, 142, 143, 144, 145, 146, 147, 148, 149, 150, 151, 152] (by decide +kernel) (by decide +kernel)) (goodIn_sub (fun _ h => List.mem_cons_of_mem _ (List.mem_append_right _ h)) (by decide +kernel))
set_option maxRecDepth 20000 in
theorem gX7_worth_X7_checkPlayer : GoodIn wsX7_worth (wsV RX7 113 RX7 yX7_checkPlayer wsX7_checkPlayer) := goodIn_app (goodIn_of _ (by decide +kernel)) ggX7_worth_X7_checkPlayer
set_option maxRecDepth 20000 in
theorem ggX7_worth_X7_checkRow : GoodIn wsX7_worth wsX7_checkRow := goodIn_ca (goodIn_r _ [16, 9, 10, 2, 11, 17, 112, 113, 114, 115, 116, 117, 118, 119, 132, 133, 134, 135, 136, 137, 138, 139, 140, 141, 142, 143, 144, 145, 146, 147, 148, 149, 150, 151, 152] (by decide +kernel) (by decide +kernel)) (goodIn_sub (fun _ h => List.mem_cons_of_mem _ (List.mem_append_right _ h)) (by decide +kernel))
set_option maxRecDepth 20000 in
theorem gX7_worth_X7_checkRow : GoodIn wsX7_worth (wsV RX7 87 RX7 yX7_checkRow wsX7_checkRow) := goodIn_app (goodIn_of _ (by decide +kernel)) ggX7_worth_X7_checkRow
set_option maxRecDepth 20000 in
theorem ggX7_worth_X0_search : GoodIn wsX7_worth wsX0_search := goodIn_r _ [22, 23, 24, 25, 26, 27, 28, 29, 30, 31, 32, 33, 34, 35, 21, 36, 37, 38, 39, 40, 41, 42, 43, 44, 45, 46, 47, 48, 49, 50, 51, 52, 53, 54, 55, 56, 57, 58, 59, 60, 61, 62, 63, 64, 65, 66, 67, 68, 69, 70, 71, 72, 73, 74, 75, 76, 77, 78, 79, 80, 81, 82, 83, 84, 85, 86, 87, 88, 89, 90, 91, 92, 93, 94, 95, 96, 97, 98, 99, 100, 101, 102, 103, 104, 105, 106, 107, 108, 109, 110, 111, 120, 121, 122, 123, 124, 125, 126, 127, 128, 129, 130, 131, 132, 133, 134, 135, 136, 137, 138, 139, 140, 141, 142, 143, 144, 145, 146, 147, 148, 149, 150, 151, 152] (by decide +kernel) (by decide +kernel)
set_option maxRecDepth 20000 in
theorem gX7_worth_X0_search : GoodIn wsX7_worth (wsV RX7 176 RX0 yX0_search wsX0_search) := goodIn_app (goodIn_of _ (by decide +kernel)) ggX7_worth_X0_search
theorem dX7_worth_0 : decode cX7_worth 0 = .ok (.aload_n 0, 1) := by decide +kernel
theorem dX7_worth_1 : decode cX7_worth 1 = .ok (.iload_n 1, 1) := by decide +kernel
theorem dX7_worth_2 : decode cX7_worth 2 = .ok (.invokevirtual 113, 3) := by decide +kernel
theorem dX7_worth_5 : decode cX7_worth 5 = .ok (.aload_n 0, 1) := by decide +kernel
theorem dX7_worth_6 : decode cX7_worth 6 = .ok (.iload_n 2, 1) := by decide +kernel
theorem dX7_worth_7 : decode cX7_worth 7 = .ok (.invokevirtual 87, 3) := by decide +kernel
theorem dX7_worth_10 : decode cX7_worth 10 = .ok (.aload_n 0, 1) := by decide +kernel
theorem dX7_worth_11 : decode cX7_worth 11 = .ok (.getfield 47, 3) := by decide +kernel
theorem dX7_worth_14 : decode cX7_worth 14 = .ok (.aload_n 0, 1) := by decide +kernel
theorem dX7_worth_15 : decode cX7_worth 15 = .ok (.getfield 23, 3) := by decide +kernel
theorem dX7_worth_18 : decode cX7_worth 18 = .ok (.iload_n 1, 1) := by decide +kernel
theorem dX7_worth_19 : decode cX7_worth 19 = .ok (.iload_n 2, 1) := by decide +kernel
theorem dX7_worth_20 : decode cX7_worth 20 = .ok (.invokevirtual 176, 3) := by decide +kernel
theorem dX7_worth_23 : decode cX7_worth 23 = .ok (.aload_n 0, 1) := by decide +kernel
theorem dX7_worth_24 : decode cX7_worth 24 = .ok (.getfield 47, 3) := by decide +kernel
theorem dX7_worth_27 : decode cX7_worth 27 = .ok (.getfield 183, 3) := by decide +kernel
theorem dX7_worth_30 : decode cX7_worth 30 = .ok (.ireturn, 1) := by decide +kernel
set_option maxRecDepth 20000 in
theorem ggX7_fillings_X7_checkPlayer : GoodIn wsX7_fillings wsX7_checkPlayer := goodIn_ca (goodIn_r _ [8, 9, 10, 1, 11, 12, 113, 114, 115, 116, 117, 118, 119, 120, 133, 134, 135, 136, 137, 138, 139, 140, 141, 142, 143, 144, 145, 146, 147, 148, 149, 150, 151, 152, 153] (by decide +kernel) (by decide +kernel)) (goodIn_sub (fun _ h => List.mem_cons_of_mem _ (List.mem_append_right _ h)) (by decide +kernel))
set_option maxRecDepth 20000 in
theorem gX7_fillings_X7_checkPlayer : GoodIn wsX7_fillings (wsV RX7 113 RX7 yX7_checkPlayer wsX7_checkPlayer) := goodIn_app (goodIn_of _ (by decide +kernel)) ggX7_fillings_X7_checkPlayer
set_option maxRecDepth 20000 in
theorem ggX7_fillings_X7_checkRow : GoodIn wsX7_fillings wsX7_checkRow := goodIn_ca (goodIn_r _ [16, 9, 10, 1, 11, 17, 113, 114, 115, 116, 117, 118, 119, 120, 133, 134, 135, 136, 137, 138, 139, 140, 141, 142, 143, 144, 145, 146, 147, 148, 149, 150, 151, 152, 153] (by decide +kernel) (by decide +kernel)) (goodIn_sub (fun _ h => List.mem_cons_of_mem _ (List.mem_append_right _ h)) (by decide +kernel))
set_option maxRecDepth 20000 in
theorem gX7_fillings_X7_checkRow : GoodIn wsX7_fillings (wsV RX7 87 RX7 yX7_checkRow wsX7_checkRow) := goodIn_app (goodIn_of _ (by decide +kernel)) ggX7_fillings_X7_checkRow
set_option maxRecDepth 20000 in
theorem ggX7_fillings_X1_freeTiles : GoodIn wsX7_fillings wsX1_freeTiles := goodIn_r _ [22, 23, 24, 25, 133, 134, 135, 136, 137, 138, 139, 140, 141, 142, 143, 144, 145, 146, 147, 148, 149, 150, 151, 152, 153] (by decide +kernel) (by decide +kernel)
set_option maxRecDepth 20000 in
theorem gX7_fillings_X1_freeTiles : GoodIn wsX7_fillings (wsV RX7 186 RX1 yX1_freeTiles wsX1_freeTiles) := goodIn_app (goodIn_of _ (by decide +kernel)) ggX7_fillings_X1_freeTiles
set_option maxRecDepth 20000 in
theorem ggX7_fillings_X0_search : GoodIn wsX7_fillings wsX0_search := goodIn_r _ [30, 31, 32, 33, 34, 35, 36, 37, 38, 39, 40, 41, 42, 43, 29, 44, 45, 46, 47, 48, 49, 50, 51, 52, 53, 54, 55, 56, 57, 19, 20, 21, 22, 23, 24, 25, 58, 59, 60, 61, 62, 63, 64, 65, 66, 67, 68, 69, 70, 71, 72, 73, 74, 75, 76, 77, 78, 79, 80, 81, 82, 83, 84, 85, 86, 87, 88, 89, 90, 91, 92, 93, 94, 95, 96, 97, 98, 99, 100, 101, 102, 103, 104, 105, 106, 107, 108, 109, 110, 111, 112, 121, 122, 123, 124, 125, 126, 127, 128, 129, 130, 131, 132, 133, 134, 135, 136, 137, 138, 139, 140, 141, 142, 143, 144, 145, 146, 147, 148, 149, 150, 151, 152, 153] (by decide +kernel) (by decide +kernel)
set_option maxRecDepth 20000 in
theorem gX7_fillings_X0_search : GoodIn wsX7_fillings (wsV RX7 176 RX0 yX0_search wsX0_search) := goodIn_app (goodIn_of _ (by decide +kernel)) ggX7_fillings_X0_search
theorem dX7_fillings_0 : decode cX7_fillings 0 = .ok (.aload_n 0, 1) := by decide +kernel
theorem dX7_fillings_1 : decode cX7_fillings 1 = .ok (.iload_n 1, 1) := by decide +kernel
theorem dX7_fillings_2 : decode cX7_fillings 2 = .ok (.invokevirtual 113, 3) := by decide +kernel
theorem dX7_fillings_5 : decode cX7_fillings 5 = .ok (.aload_n 0, 1) := by decide +kernel
theorem dX7_fillings_6 : decode cX7_fillings 6 = .ok (.iload_n 2, 1) := by decide +kernel
theorem dX7_fillings_7 : decode cX7_fillings 7 = .ok (.invokevirtual 87, 3) := by decide +kernel
theorem dX7_fillings_10 : decode cX7_fillings 10 = .ok (.aload_n 0, 1) := by decide +kernel
theorem dX7_fillings_11 : decode cX7_fillings 11 = .ok (.getfield 23, 3) := by decide +kernel
theorem dX7_fillings_14 : decode cX7_fillings 14 = .ok (.iload_n 2, 1) := by decide +kernel
theorem dX7_fillings_15 : decode cX7_fillings 15 = .ok (.invokevirtual 186, 3) := by decide +kernel
theorem dX7_fillings_18 : decode cX7_fillings 18 = .ok (.ifCond .ne 5, 3) := by decide +kernel
theorem dX7_fillings_21 : decode cX7_fillings 21 = .ok (.iconst 1, 1) := by decide +kernel
theorem dX7_fillings_22 : decode cX7_fillings 22 = .ok (.ireturn, 1) := by decide +kernel
theorem dX7_fillings_23 : decode cX7_fillings 23 = .ok (.aload_n 0, 1) := by decide +kernel
theorem dX7_fillings_24 : decode cX7_fillings 24 = .ok (.getfield 47, 3) := by decide +kernel
theorem dX7_fillings_27 : decode cX7_fillings 27 = .ok (.aload_n 0, 1) := by decide +kernel
theorem dX7_fillings_28 : decode cX7_fillings 28 = .ok (.getfield 23, 3) := by decide +kernel
theorem dX7_fillings_31 : decode cX7_fillings 31 = .ok (.iload_n 1, 1) := by decide +kernel
theorem dX7_fillings_32 : decode cX7_fillings 32 = .ok (.iload_n 2, 1) := by decide +kernel
theorem dX7_fillings_33 : decode cX7_fillings 33 = .ok (.invokevirtual 176, 3) := by decide +kernel
theorem dX7_fillings_36 : decode cX7_fillings 36 = .ok (.aload_n 0, 1) := by decide +kernel
theorem dX7_fillings_37 : decode cX7_fillings 37 = .ok (.getfield 47, 3) := by decide +kernel
theorem dX7_fillings_40 : decode cX7_fillings 40 = .ok (.getfield 189, 3) := by decide +kernel
theorem dX7_fillings_43 : decode cX7_fillings 43 = .ok (.ireturn, 1) := by decide +kernel
set_option maxRecDepth 20000 in
theorem ggX7_threats_X7_checkRow : GoodIn wsX7_threats wsX7_checkRow := goodIn_ca (goodIn_r _ [8, 9, 10, 1, 2, 11, 48, 49, 50, 51, 52, 53, 54, 55, 56, 57, 58, 59, 60, 61, 62, 63, 64, 65, 66, 67, 68, 69, 70, 71, 72, 73, 74, 75, 76] (by decide +kernel) (by decide +kernel)) (goodIn_sub (fun _ h => List.mem_cons_of_mem _ (List.mem_append_right _ h)) (by decide +kernel))
set_option maxRecDepth 20000 in
theorem gX7_threats_X7_checkRow : GoodIn wsX7_threats (wsV RX7 87 RX7 yX7_checkRow wsX7_checkRow) := goodIn_app (goodIn_of _ (by decide +kernel)) ggX7_threats_X7_checkRow
set_option maxRecDepth 20000 in
theorem ggX7_threats_X1_canFill : GoodIn wsX7_threats wsX1_canFill := goodIn_r _ [16, 17, 18, 19, 20, 15, 21, 22, 23, 24, 25, 26, 27, 28, 29, 30, 31, 32, 33, 34, 35, 36, 37, 38, 39, 40, 41, 42, 43, 44, 45, 46, 47, 56, 57, 58, 59, 60, 61, 62, 63, 64, 65, 66, 67, 68, 69, 70, 71, 72, 73, 74, 75, 76] (by decide +kernel) (by decide +kernel)
set_option maxRecDepth 20000 in
theorem gX7_threats_X1_canFill : GoodIn wsX7_threats (wsV RX7 195 RX1 yX1_canFill wsX1_canFill) := goodIn_app (goodIn_of _ (by decide +kernel)) ggX7_threats_X1_canFill
theorem dX7_threats_0 : decode cX7_threats 0 = .ok (.aload_n 0, 1) := by decide +kernel
theorem dX7_threats_1 : decode cX7_threats 1 = .ok (.iload_n 1, 1) := by decide +kernel
theorem dX7_threats_2 : decode cX7_threats 2 = .ok (.invokevirtual 87, 3) := by decide +kernel
theorem dX7_threats_5 : decode cX7_threats 5 = .ok (.iconst 0, 1) := by decide +kernel
theorem dX7_threats_6 : decode cX7_threats 6 = .ok (.istore_n 2, 1) := by decide +kernel
theorem dX7_threats_7 : decode cX7_threats 7 = .ok (.iconst 0, 1) := by decide +kernel
theorem dX7_threats_8 : decode cX7_threats 8 = .ok (.istore_n 3, 1) := by decide +kernel
theorem dX7_threats_9 : decode cX7_threats 9 = .ok (.iload_n 3, 1) := by decide +kernel
theorem dX7_threats_10 : decode cX7_threats 10 = .ok (.aload_n 0, 1) := by decide +kernel
theorem dX7_threats_11 : decode cX7_threats 11 = .ok (.getfield 23, 3) := by decide +kernel
theorem dX7_threats_14 : decode cX7_threats 14 = .ok (.getfield 96, 3) := by decide +kernel
theorem dX7_threats_17 : decode cX7_threats 17 = .ok (.getfield 192, 3) := by decide +kernel
theorem dX7_threats_20 : decode cX7_threats 20 = .ok (.if_icmp .ge 27, 3) := by decide +kernel
theorem dX7_threats_23 : decode cX7_threats 23 = .ok (.aload_n 0, 1) := by decide +kernel
theorem dX7_threats_24 : decode cX7_threats 24 = .ok (.getfield 23, 3) := by decide +kernel
theorem dX7_threats_27 : decode cX7_threats 27 = .ok (.iload_n 3, 1) := by decide +kernel
theorem dX7_threats_28 : decode cX7_threats 28 = .ok (.iload_n 1, 1) := by decide +kernel
theorem dX7_threats_29 : decode cX7_threats 29 = .ok (.invokevirtual 195, 3) := by decide +kernel
theorem dX7_threats_32 : decode cX7_threats 32 = .ok (.ifCond .eq 9, 3) := by decide +kernel
theorem dX7_threats_35 : decode cX7_threats 35 = .ok (.iload_n 2, 1) := by decide +kernel
theorem dX7_threats_36 : decode cX7_threats 36 = .ok (.iconst 1, 1) := by decide +kernel
theorem dX7_threats_37 : decode cX7_threats 37 = .ok (.iload_n 3, 1) := by decide +kernel
theorem dX7_threats_38 : decode cX7_threats 38 = .ok (.ishl, 1) := by decide +kernel
theorem dX7_threats_39 : decode cX7_threats 39 = .ok (.ior, 1) := by decide +kernel
theorem dX7_threats_40 : decode cX7_threats 40 = .ok (.istore_n 2, 1) := by decide +kernel
theorem dX7_threats_41 : decode cX7_threats 41 = .ok (.iinc 3 1, 3) := by decide +kernel
theorem dX7_threats_44 : decode cX7_threats 44 = .ok (.goto (-35), 3) := by decide +kernel
theorem dX7_threats_47 : decode cX7_threats 47 = .ok (.iload_n 2, 1) := by decide +kernel
theorem dX7_threats_48 : decode cX7_threats 48 = .ok (.ireturn, 1) := by decide +kernel
set_option maxRecDepth 20000 in
theorem ggX7_winner_X1_copyFrom : GoodIn wsX7_winner wsX1_copyFrom := goodIn_r _ [8, 9, 10, 11, 12, 13, 14, 15, 16, 17, 18, 19, 20, 21, 22, 23, 24, 25, 26, 27, 28, 29, 30, 31, 32, 33, 34, 35, 36, 37, 38, 39, 40, 41, 42, 43, 44, 45, 46, 159, 160, 161, 162, 163, 164, 165, 166, 167, 168, 169, 170, 171, 172, 173, 174, 175, 176, 177, 178, 179, 180, 181, 182] (by decide +kernel) (by decide +kernel)
set_option maxRecDepth 20000 in
theorem gX7_winner_X1_copyFrom : GoodIn wsX7_winner (wsV RX7 74 RX1 yX1_copyFrom wsX1_copyFrom) := goodIn_app (goodIn_of _ (by decide +kernel)) ggX7_winner_X1_copyFrom
set_option maxRecDepth 20000 in
theorem ggX7_winner_X1_playOn : GoodIn wsX7_winner wsX1_playOn := goodIn_r _ [50, 24, 51, 52, 53, 7, 54, 55, 56, 57, 58, 20, 22, 9, 59, 60, 61, 62, 63, 64, 65, 66, 67, 19, 68, 69, 70, 71, 16, 17, 72, 73, 74, 75, 76, 77, 78, 79, 80, 81, 15, 82, 83, 84, 28, 85, 86, 32, 87, 88, 89, 90, 91, 92, 93, 94, 42, 95, 96, 97, 98, 99, 100, 101, 102, 103, 104, 105, 45, 44, 106, 107, 108, 109, 110, 111, 112, 113, 114, 115, 116, 23, 117, 118, 119, 120, 121, 122, 123, 124, 125, 18, 21, 126, 127, 128, 129, 130, 131, 132, 133, 10, 134, 135, 136, 137, 138, 139, 140, 141, 142, 143, 144, 145, 146, 159, 160, 161, 162, 163, 164, 165, 166, 167, 168, 169, 170, 171, 172, 173, 174, 175, 176, 177, 178, 179, 180, 181, 182] (by decide +kernel) (by decide +kernel)
set_option maxRecDepth 20000 in
theorem gX7_winner_X1_playOn : GoodIn wsX7_winner (wsV RX7 200 RX1 yX1_playOn wsX1_playOn) := goodIn_app (goodIn_of _ (by decide +kernel)) ggX7_winner_X1_playOn
set_option maxRecDepth 20000 in
theorem ggX7_winner_X1_leader : GoodIn wsX7_winner wsX1_leader := goodIn_r _ [150, 9, 117, 21, 159, 160, 161, 162, 163, 164, 165, 166, 167, 168, 169, 170, 171, 172, 173, 174, 175, 176, 177, 178, 179] (by decide +kernel) (by decide +kernel)
set_option maxRecDepth 20000 in
theorem gX7_winner_X1_leader : GoodIn wsX7_winner (wsV RX7 203 RX1 yX1_leader wsX1_leader) := goodIn_app (goodIn_of _ (by decide +kernel)) ggX7_winner_X1_leader
theorem dX7_winner_0 : decode cX7_winner 0 = .ok (.aload_n 0, 1) := by decide +kernel
theorem dX7_winner_1 : decode cX7_winner 1 = .ok (.getfield 27, 3) := by decide +kernel
theorem dX7_winner_4 : decode cX7_winner 4 = .ok (.aload_n 0, 1) := by decide +kernel
theorem dX7_winner_5 : decode cX7_winner 5 = .ok (.getfield 23, 3) := by decide +kernel
theorem dX7_winner_8 : decode cX7_winner 8 = .ok (.invokevirtual 74, 3) := by decide +kernel
theorem dX7_winner_11 : decode cX7_winner 11 = .ok (.aload_n 0, 1) := by decide +kernel
theorem dX7_winner_12 : decode cX7_winner 12 = .ok (.getfield 27, 3) := by decide +kernel
theorem dX7_winner_15 : decode cX7_winner 15 = .ok (.ldc 199, 2) := by decide +kernel
theorem dX7_winner_17 : decode cX7_winner 17 = .ok (.invokevirtual 200, 3) := by decide +kernel
theorem dX7_winner_20 : decode cX7_winner 20 = .ok (.pop, 1) := by decide +kernel
theorem dX7_winner_21 : decode cX7_winner 21 = .ok (.aload_n 0, 1) := by decide +kernel
theorem dX7_winner_22 : decode cX7_winner 22 = .ok (.getfield 27, 3) := by decide +kernel
theorem dX7_winner_25 : decode cX7_winner 25 = .ok (.invokevirtual 203, 3) := by decide +kernel
theorem dX7_winner_28 : decode cX7_winner 28 = .ok (.ireturn, 1) := by decide +kernel
set_option maxRecDepth 20000 in
theorem ggX7_stepsToEnd_X1_copyFrom : GoodIn wsX7_stepsToEnd wsX1_copyFrom := goodIn_r _ [8, 9, 10, 11, 12, 13, 14, 15, 16, 17, 18, 19, 20, 21, 22, 23, 24, 25, 26, 27, 28, 29, 30, 31, 32, 33, 34, 35, 36, 37, 38, 39, 40, 41, 42, 43, 44, 45, 46, 155, 156, 157, 158, 159, 160, 161, 162, 163, 164, 165, 166, 167, 168, 169, 170, 171, 172, 173, 174, 175, 176, 177, 178] (by decide +kernel) (by decide +kernel)
set_option maxRecDepth 20000 in
theorem gX7_stepsToEnd_X1_copyFrom : GoodIn wsX7_stepsToEnd (wsV RX7 74 RX1 yX1_copyFrom wsX1_copyFrom) := goodIn_app (goodIn_of _ (by decide +kernel)) ggX7_stepsToEnd_X1_copyFrom
set_option maxRecDepth 20000 in
theorem ggX7_stepsToEnd_X1_playOn : GoodIn wsX7_stepsToEnd wsX1_playOn := goodIn_r _ [50, 24, 51, 52, 53, 7, 54, 55, 56, 57, 58, 20, 22, 9, 59, 60, 61, 62, 63, 64, 65, 66, 67, 19, 68, 69, 70, 71, 16, 17, 72, 73, 74, 75, 76, 77, 78, 79, 80, 81, 15, 82, 83, 84, 28, 85, 86, 32, 87, 88, 89, 90, 91, 92, 93, 94, 42, 95, 96, 97, 98, 99, 100, 101, 102, 103, 104, 105, 45, 44, 106, 107, 108, 109, 110, 111, 112, 113, 114, 115, 116, 23, 117, 118, 119, 120, 121, 122, 123, 124, 125, 18, 21, 126, 127, 128, 129, 130, 131, 132, 133, 10, 134, 135, 136, 137, 138, 139, 140, 141, 142, 143, 144, 145, 146, 155, 156, 157, 158, 159, 160, 161, 162, 163, 164, 165, 166, 167, 168, 169, 170, 171, 172, 173, 174, 175, 176, 177, 178] (by decide +kernel) (by decide +kernel)
set_option maxRecDepth 20000 in
theorem gX7_stepsToEnd_X1_playOn : GoodIn wsX7_stepsToEnd (wsV RX7 200 RX1 yX1_playOn wsX1_playOn) := goodIn_app (goodIn_of _ (by decide +kernel)) ggX7_stepsToEnd_X1_playOn
theorem dX7_stepsToEnd_0 : decode cX7_stepsToEnd 0 = .ok (.aload_n 0, 1) := by decide +kernel
theorem dX7_stepsToEnd_1 : decode cX7_stepsToEnd 1 = .ok (.getfield 27, 3) := by decide +kernel
theorem dX7_stepsToEnd_4 : decode cX7_stepsToEnd 4 = .ok (.aload_n 0, 1) := by decide +kernel
theorem dX7_stepsToEnd_5 : decode cX7_stepsToEnd 5 = .ok (.getfield 23, 3) := by decide +kernel
theorem dX7_stepsToEnd_8 : decode cX7_stepsToEnd 8 = .ok (.invokevirtual 74, 3) := by decide +kernel
theorem dX7_stepsToEnd_11 : decode cX7_stepsToEnd 11 = .ok (.aload_n 0, 1) := by decide +kernel
theorem dX7_stepsToEnd_12 : decode cX7_stepsToEnd 12 = .ok (.getfield 27, 3) := by decide +kernel
theorem dX7_stepsToEnd_15 : decode cX7_stepsToEnd 15 = .ok (.ldc 199, 2) := by decide +kernel
theorem dX7_stepsToEnd_17 : decode cX7_stepsToEnd 17 = .ok (.invokevirtual 200, 3) := by decide +kernel
theorem dX7_stepsToEnd_20 : decode cX7_stepsToEnd 20 = .ok (.ireturn, 1) := by decide +kernel
theorem dX7_covered_0 : decode cX7_covered 0 = .ok (.iconst 0, 1) := by decide +kernel
theorem dX7_covered_1 : decode cX7_covered 1 = .ok (.istore_n 1, 1) := by decide +kernel
theorem dX7_covered_2 : decode cX7_covered 2 = .ok (.iconst 0, 1) := by decide +kernel
theorem dX7_covered_3 : decode cX7_covered 3 = .ok (.istore_n 2, 1) := by decide +kernel
theorem dX7_covered_4 : decode cX7_covered 4 = .ok (.iconst 0, 1) := by decide +kernel
theorem dX7_covered_5 : decode cX7_covered 5 = .ok (.istore_n 3, 1) := by decide +kernel
theorem dX7_covered_6 : decode cX7_covered 6 = .ok (.iload_n 3, 1) := by decide +kernel
theorem dX7_covered_7 : decode cX7_covered 7 = .ok (.aload_n 0, 1) := by decide +kernel
theorem dX7_covered_8 : decode cX7_covered 8 = .ok (.getfield 23, 3) := by decide +kernel
theorem dX7_covered_11 : decode cX7_covered 11 = .ok (.getfield 96, 3) := by decide +kernel
theorem dX7_covered_14 : decode cX7_covered 14 = .ok (.getfield 206, 3) := by decide +kernel
theorem dX7_covered_17 : decode cX7_covered 17 = .ok (.if_icmp .ge 36, 3) := by decide +kernel
theorem dX7_covered_20 : decode cX7_covered 20 = .ok (.iload_n 1, 1) := by decide +kernel
theorem dX7_covered_21 : decode cX7_covered 21 = .ok (.aload_n 0, 1) := by decide +kernel
theorem dX7_covered_22 : decode cX7_covered 22 = .ok (.getfield 23, 3) := by decide +kernel
theorem dX7_covered_25 : decode cX7_covered 25 = .ok (.getfield 209, 3) := by decide +kernel
theorem dX7_covered_28 : decode cX7_covered 28 = .ok (.iload_n 3, 1) := by decide +kernel
theorem dX7_covered_29 : decode cX7_covered 29 = .ok (.iaload, 1) := by decide +kernel
theorem dX7_covered_30 : decode cX7_covered 30 = .ok (.iadd, 1) := by decide +kernel
theorem dX7_covered_31 : decode cX7_covered 31 = .ok (.istore_n 1, 1) := by decide +kernel
theorem dX7_covered_32 : decode cX7_covered 32 = .ok (.iload_n 2, 1) := by decide +kernel
theorem dX7_covered_33 : decode cX7_covered 33 = .ok (.aload_n 0, 1) := by decide +kernel
theorem dX7_covered_34 : decode cX7_covered 34 = .ok (.getfield 23, 3) := by decide +kernel
theorem dX7_covered_37 : decode cX7_covered 37 = .ok (.getfield 96, 3) := by decide +kernel
theorem dX7_covered_40 : decode cX7_covered 40 = .ok (.getfield 100, 3) := by decide +kernel
theorem dX7_covered_43 : decode cX7_covered 43 = .ok (.iload_n 3, 1) := by decide +kernel
theorem dX7_covered_44 : decode cX7_covered 44 = .ok (.iaload, 1) := by decide +kernel
theorem dX7_covered_45 : decode cX7_covered 45 = .ok (.iadd, 1) := by decide +kernel
theorem dX7_covered_46 : decode cX7_covered 46 = .ok (.istore_n 2, 1) := by decide +kernel
theorem dX7_covered_47 : decode cX7_covered 47 = .ok (.iinc 3 1, 3) := by decide +kernel
theorem dX7_covered_50 : decode cX7_covered 50 = .ok (.goto (-44), 3) := by decide +kernel
theorem dX7_covered_53 : decode cX7_covered 53 = .ok (.iload_n 2, 1) := by decide +kernel
theorem dX7_covered_54 : decode cX7_covered 54 = .ok (.ifCond .ne 7, 3) := by decide +kernel
theorem dX7_covered_57 : decode cX7_covered 57 = .ok (.fconst 0, 1) := by decide +kernel
theorem dX7_covered_58 : decode cX7_covered 58 = .ok (.goto 8, 3) := by decide +kernel
theorem dX7_covered_61 : decode cX7_covered 61 = .ok (.iload_n 1, 1) := by decide +kernel
theorem dX7_covered_62 : decode cX7_covered 62 = .ok (.i2f, 1) := by decide +kernel
theorem dX7_covered_63 : decode cX7_covered 63 = .ok (.iload_n 2, 1) := by decide +kernel
theorem dX7_covered_64 : decode cX7_covered 64 = .ok (.i2f, 1) := by decide +kernel
theorem dX7_covered_65 : decode cX7_covered 65 = .ok (.fdiv, 1) := by decide +kernel
theorem dX7_covered_66 : decode cX7_covered 66 = .ok (.freturn, 1) := by decide +kernel
set_option maxRecDepth 20000 in
theorem ggX7_lay_X7_checkPlace : GoodIn wsX7_lay wsX7_checkPlace := goodIn_ca (goodIn_r _ [10, 11, 12, 3, 13, 135, 136, 137, 138, 139, 140, 141, 142, 143, 144, 145, 146, 147, 148, 149, 150, 151, 152, 153, 154, 155] (by decide +kernel) (by decide +kernel)) (goodIn_sub (fun _ h => List.mem_cons_of_mem _ (List.mem_append_right _ h)) (by decide +kernel))
set_option maxRecDepth 20000 in
theorem gX7_lay_X7_checkPlace : GoodIn wsX7_lay (wsV RX7 121 RX7 yX7_checkPlace wsX7_checkPlace) := goodIn_app (goodIn_of _ (by decide +kernel)) ggX7_lay_X7_checkPlace
set_option maxRecDepth 20000 in
theorem ggX7_lay_X7_checkRow : GoodIn wsX7_lay wsX7_checkRow := goodIn_ca (goodIn_r _ [17, 11, 12, 3, 18, 19, 135, 136, 137, 138, 139, 140, 141, 142, 143, 144, 145, 146, 147, 148, 149, 150, 151, 152, 153, 154, 155, 156, 157, 158, 159, 160, 161, 162, 163] (by decide +kernel) (by decide +kernel)) (goodIn_sub (fun _ h => List.mem_cons_of_mem _ (List.mem_append_right _ h)) (by decide +kernel))
set_option maxRecDepth 20000 in
theorem gX7_lay_X7_checkRow : GoodIn wsX7_lay (wsV RX7 87 RX7 yX7_checkRow wsX7_checkRow) := goodIn_app (goodIn_of _ (by decide +kernel)) ggX7_lay_X7_checkRow
set_option maxRecDepth 20000 in
theorem ggX7_lay_X1_obstacleNow : GoodIn wsX7_lay wsX1_obstacleNow := goodIn_r _ [24, 25, 26, 27, 28, 29, 23, 30, 31, 32, 33, 34, 35, 36, 37, 38, 39, 40, 41, 42, 43, 44, 45, 46, 47, 48, 49, 50, 51, 52, 53, 54, 55, 56, 143, 144, 145, 146, 147, 148, 149, 150, 151, 152, 153, 154, 155, 156, 157, 158, 159, 160, 161, 162, 163] (by decide +kernel) (by decide +kernel)
set_option maxRecDepth 20000 in
theorem gX7_lay_X1_obstacleNow : GoodIn wsX7_lay (wsV RX7 160 RX1 yX1_obstacleNow wsX1_obstacleNow) := goodIn_app (goodIn_of _ (by decide +kernel)) ggX7_lay_X1_obstacleNow
set_option maxRecDepth 20000 in
theorem ggX7_lay_X2_keep : GoodIn wsX7_lay wsX2_keep := goodIn_r _ [61, 62, 63, 64, 65, 66, 67, 23, 68, 38, 69, 70, 71, 72, 73, 49, 36, 37, 74, 31, 75, 76, 26, 77, 25, 78, 79, 80, 53, 81, 82, 83, 56, 84, 85, 86, 87, 88, 89, 90, 91, 92, 93, 94, 95, 96, 97, 164, 165, 166, 143, 144, 145, 146, 147, 148, 149, 150, 151, 152, 153, 154, 155, 156, 157, 158, 159, 160, 161, 162, 163, 167, 168, 169] (by decide +kernel) (by decide +kernel)
set_option maxRecDepth 20000 in
theorem gX7_lay_X2_keep : GoodIn wsX7_lay (wsV RX7 69 RX2 yX2_keep wsX2_keep) := goodIn_app (goodIn_of _ (by decide +kernel)) ggX7_lay_X2_keep
set_option maxRecDepth 20000 in
theorem ggX7_lay_X1_layWord : GoodIn wsX7_lay wsX1_layWord := goodIn_r _ [101, 26, 36, 37, 74, 76, 77, 27, 28, 29, 23, 30, 31, 102, 103, 104, 105, 38, 106, 107, 40, 41, 42, 43, 50, 51, 52, 53, 54, 55, 56, 44, 45, 46, 47, 48, 49, 108, 109, 110, 111, 69, 112, 113, 114, 115, 116, 117, 118, 119, 120, 75, 121, 122, 123, 124, 125, 126, 127, 128, 129, 25, 130, 131, 132, 133, 134, 143, 144, 145, 146, 147, 148, 149, 150, 151, 152, 153, 154, 155, 156, 157, 158, 159, 160, 161, 162, 163] (by decide +kernel) (by decide +kernel)
set_option maxRecDepth 20000 in
theorem gX7_lay_X1_layWord : GoodIn wsX7_lay (wsV RX7 215 RX1 yX1_layWord wsX1_layWord) := goodIn_app (goodIn_of _ (by decide +kernel)) ggX7_lay_X1_layWord
theorem dX7_lay_0 : decode cX7_lay 0 = .ok (.aload_n 0, 1) := by decide +kernel
theorem dX7_lay_1 : decode cX7_lay 1 = .ok (.aload_n 0, 1) := by decide +kernel
theorem dX7_lay_2 : decode cX7_lay 2 = .ok (.getfield 23, 3) := by decide +kernel
theorem dX7_lay_5 : decode cX7_lay 5 = .ok (.getfield 157, 3) := by decide +kernel
theorem dX7_lay_8 : decode cX7_lay 8 = .ok (.iload_n 1, 1) := by decide +kernel
theorem dX7_lay_9 : decode cX7_lay 9 = .ok (.invokevirtual 121, 3) := by decide +kernel
theorem dX7_lay_12 : decode cX7_lay 12 = .ok (.aload_n 0, 1) := by decide +kernel
theorem dX7_lay_13 : decode cX7_lay 13 = .ok (.iload_n 2, 1) := by decide +kernel
theorem dX7_lay_14 : decode cX7_lay 14 = .ok (.invokevirtual 87, 3) := by decide +kernel
theorem dX7_lay_17 : decode cX7_lay 17 = .ok (.aload_n 0, 1) := by decide +kernel
theorem dX7_lay_18 : decode cX7_lay 18 = .ok (.getfield 23, 3) := by decide +kernel
theorem dX7_lay_21 : decode cX7_lay 21 = .ok (.iload_n 1, 1) := by decide +kernel
theorem dX7_lay_22 : decode cX7_lay 22 = .ok (.iload_n 2, 1) := by decide +kernel
theorem dX7_lay_23 : decode cX7_lay 23 = .ok (.invokevirtual 160, 3) := by decide +kernel
theorem dX7_lay_26 : decode cX7_lay 26 = .ok (.ifCond .eq 13, 3) := by decide +kernel
theorem dX7_lay_29 : decode cX7_lay 29 = .ok (.new 212, 3) := by decide +kernel
theorem dX7_lay_32 : decode cX7_lay 32 = .ok (.dup, 1) := by decide +kernel
theorem dX7_lay_33 : decode cX7_lay 33 = .ok (.ldc 165, 2) := by decide +kernel
theorem dX7_lay_35 : decode cX7_lay 35 = .ok (.invokespecial 214, 3) := by decide +kernel
theorem dX7_lay_38 : decode cX7_lay 38 = .ok (.athrow, 1) := by decide +kernel
theorem dX7_lay_39 : decode cX7_lay 39 = .ok (.aload_n 0, 1) := by decide +kernel
theorem dX7_lay_40 : decode cX7_lay 40 = .ok (.getfield 33, 3) := by decide +kernel
theorem dX7_lay_43 : decode cX7_lay 43 = .ok (.aload_n 0, 1) := by decide +kernel
theorem dX7_lay_44 : decode cX7_lay 44 = .ok (.getfield 23, 3) := by decide +kernel
theorem dX7_lay_47 : decode cX7_lay 47 = .ok (.invokevirtual 69, 3) := by decide +kernel
theorem dX7_lay_50 : decode cX7_lay 50 = .ok (.aload_n 0, 1) := by decide +kernel
theorem dX7_lay_51 : decode cX7_lay 51 = .ok (.getfield 23, 3) := by decide +kernel
theorem dX7_lay_54 : decode cX7_lay 54 = .ok (.iload_n 1, 1) := by decide +kernel
theorem dX7_lay_55 : decode cX7_lay 55 = .ok (.iload_n 2, 1) := by decide +kernel
theorem dX7_lay_56 : decode cX7_lay 56 = .ok (.invokevirtual 215, 3) := by decide +kernel
theorem dX7_lay_59 : decode cX7_lay 59 = .ok (.ireturn, 1) := by decide +kernel
set_option maxRecDepth 20000 in
theorem ggX7_pass_X2_keep : GoodIn wsX7_pass wsX2_keep := goodIn_r _ [11, 12, 13, 14, 15, 16, 17, 18, 19, 20, 21, 22, 23, 24, 25, 26, 27, 28, 29, 30, 31, 32, 33, 34, 35, 36, 37, 38, 39, 40, 41, 42, 43, 44, 45, 46, 47, 48, 49, 50, 51, 52, 53, 54, 55, 56, 57, 98, 99, 100, 85, 86, 87, 88, 89, 90, 91, 92, 93, 94, 95, 96, 97, 101, 102, 103, 104, 105, 106, 107, 108, 109, 110, 111] (by decide +kernel) (by decide +kernel)
set_option maxRecDepth 20000 in
theorem gX7_pass_X2_keep : GoodIn wsX7_pass (wsV RX7 69 RX2 yX2_keep wsX2_keep) := goodIn_app (goodIn_of _ (by decide +kernel)) ggX7_pass_X2_keep
set_option maxRecDepth 20000 in
theorem ggX7_pass_X1_passTurn : GoodIn wsX7_pass wsX1_passTurn := goodIn_r _ [61, 34, 20, 62, 63, 64, 65, 18, 66, 35, 33, 67, 68, 69, 70, 71, 29, 32, 26, 72, 73, 74, 75, 76, 85, 86, 87, 88, 89, 90, 91, 92, 93, 94, 95, 96, 97, 101, 102, 103, 104, 105, 106, 107, 108] (by decide +kernel) (by decide +kernel)
set_option maxRecDepth 20000 in
theorem gX7_pass_X1_passTurn : GoodIn wsX7_pass (wsV RX7 224 RX1 yX1_passTurn wsX1_passTurn) := goodIn_app (goodIn_of _ (by decide +kernel)) ggX7_pass_X1_passTurn
theorem dX7_pass_0 : decode cX7_pass 0 = .ok (.aload_n 0, 1) := by decide +kernel
theorem dX7_pass_1 : decode cX7_pass 1 = .ok (.getfield 23, 3) := by decide +kernel
theorem dX7_pass_4 : decode cX7_pass 4 = .ok (.getfield 218, 3) := by decide +kernel
theorem dX7_pass_7 : decode cX7_pass 7 = .ok (.ifCond .eq 13, 3) := by decide +kernel
theorem dX7_pass_10 : decode cX7_pass 10 = .ok (.new 212, 3) := by decide +kernel
theorem dX7_pass_13 : decode cX7_pass 13 = .ok (.dup, 1) := by decide +kernel
theorem dX7_pass_14 : decode cX7_pass 14 = .ok (.ldc 222, 2) := by decide +kernel
theorem dX7_pass_16 : decode cX7_pass 16 = .ok (.invokespecial 214, 3) := by decide +kernel
theorem dX7_pass_19 : decode cX7_pass 19 = .ok (.athrow, 1) := by decide +kernel
theorem dX7_pass_20 : decode cX7_pass 20 = .ok (.aload_n 0, 1) := by decide +kernel
theorem dX7_pass_21 : decode cX7_pass 21 = .ok (.getfield 33, 3) := by decide +kernel
theorem dX7_pass_24 : decode cX7_pass 24 = .ok (.aload_n 0, 1) := by decide +kernel
theorem dX7_pass_25 : decode cX7_pass 25 = .ok (.getfield 23, 3) := by decide +kernel
theorem dX7_pass_28 : decode cX7_pass 28 = .ok (.invokevirtual 69, 3) := by decide +kernel
theorem dX7_pass_31 : decode cX7_pass 31 = .ok (.aload_n 0, 1) := by decide +kernel
theorem dX7_pass_32 : decode cX7_pass 32 = .ok (.getfield 23, 3) := by decide +kernel
theorem dX7_pass_35 : decode cX7_pass 35 = .ok (.invokevirtual 224, 3) := by decide +kernel
theorem dX7_pass_38 : decode cX7_pass 38 = .ok (.aload_n 0, 1) := by decide +kernel
theorem dX7_pass_39 : decode cX7_pass 39 = .ok (.getfield 23, 3) := by decide +kernel
theorem dX7_pass_42 : decode cX7_pass 42 = .ok (.getfield 157, 3) := by decide +kernel
theorem dX7_pass_45 : decode cX7_pass 45 = .ok (.ireturn, 1) := by decide +kernel
set_option maxRecDepth 20000 in
theorem ggX7_auto_X2_keep : GoodIn wsX7_auto wsX2_keep := goodIn_r _ [9, 10, 11, 12, 13, 14, 15, 16, 17, 18, 19, 20, 21, 22, 23, 24, 25, 26, 27, 28, 29, 30, 31, 32, 33, 34, 35, 36, 37, 38, 39, 40, 41, 42, 43, 44, 45, 46, 47, 48, 49, 50, 51, 52, 53, 54, 55, 164, 165, 166, 167, 168, 169, 170, 171, 172, 173, 174, 175, 176, 177, 178, 179, 180, 181, 182, 183, 184, 185, 186, 187, 188, 189, 190] (by decide +kernel) (by decide +kernel)
set_option maxRecDepth 20000 in
theorem gX7_auto_X2_keep : GoodIn wsX7_auto (wsV RX7 69 RX2 yX2_keep wsX2_keep) := goodIn_app (goodIn_of _ (by decide +kernel)) ggX7_auto_X2_keep
set_option maxRecDepth 20000 in
theorem ggX7_auto_X1_playOn : GoodIn wsX7_auto wsX1_playOn := goodIn_r _ [59, 33, 60, 61, 62, 16, 63, 64, 65, 66, 67, 29, 31, 18, 68, 69, 70, 71, 72, 73, 74, 75, 76, 28, 77, 78, 79, 80, 25, 26, 81, 82, 83, 84, 85, 86, 87, 88, 89, 90, 24, 91, 92, 93, 37, 94, 95, 41, 96, 97, 98, 99, 100, 101, 102, 103, 51, 104, 105, 106, 107, 108, 109, 110, 111, 112, 113, 114, 54, 53, 115, 116, 117, 118, 119, 120, 121, 122, 123, 124, 125, 32, 126, 127, 128, 129, 130, 131, 132, 133, 134, 27, 30, 135, 136, 137, 138, 139, 140, 141, 142, 19, 143, 144, 145, 146, 147, 148, 149, 150, 151, 152, 153, 154, 155, 167, 168, 169, 170, 171, 172, 173, 174, 175, 176, 177, 178, 179, 180, 181, 182, 183, 184, 185, 186, 187, 188, 189, 190] (by decide +kernel) (by decide +kernel)
set_option maxRecDepth 20000 in
theorem gX7_auto_X1_playOn : GoodIn wsX7_auto (wsV RX7 200 RX1 yX1_playOn wsX1_playOn) := goodIn_app (goodIn_of _ (by decide +kernel)) ggX7_auto_X1_playOn
theorem dX7_auto_0 : decode cX7_auto 0 = .ok (.iload_n 1, 1) := by decide +kernel
theorem dX7_auto_1 : decode cX7_auto 1 = .ok (.iconst 1, 1) := by decide +kernel
theorem dX7_auto_2 : decode cX7_auto 2 = .ok (.if_icmp .lt 9, 3) := by decide +kernel
theorem dX7_auto_5 : decode cX7_auto 5 = .ok (.iload_n 1, 1) := by decide +kernel
theorem dX7_auto_6 : decode cX7_auto 6 = .ok (.bipush 50, 2) := by decide +kernel
theorem dX7_auto_8 : decode cX7_auto 8 = .ok (.if_icmp .le 13, 3) := by decide +kernel
theorem dX7_auto_11 : decode cX7_auto 11 = .ok (.new 55, 3) := by decide +kernel
theorem dX7_auto_14 : decode cX7_auto 14 = .ok (.dup, 1) := by decide +kernel
theorem dX7_auto_15 : decode cX7_auto 15 = .ok (.ldc 227, 2) := by decide +kernel
theorem dX7_auto_17 : decode cX7_auto 17 = .ok (.invokespecial 59, 3) := by decide +kernel
theorem dX7_auto_20 : decode cX7_auto 20 = .ok (.athrow, 1) := by decide +kernel
theorem dX7_auto_21 : decode cX7_auto 21 = .ok (.aload_n 0, 1) := by decide +kernel
theorem dX7_auto_22 : decode cX7_auto 22 = .ok (.getfield 33, 3) := by decide +kernel
theorem dX7_auto_25 : decode cX7_auto 25 = .ok (.aload_n 0, 1) := by decide +kernel
theorem dX7_auto_26 : decode cX7_auto 26 = .ok (.getfield 23, 3) := by decide +kernel
theorem dX7_auto_29 : decode cX7_auto 29 = .ok (.invokevirtual 69, 3) := by decide +kernel
theorem dX7_auto_32 : decode cX7_auto 32 = .ok (.aload_n 0, 1) := by decide +kernel
theorem dX7_auto_33 : decode cX7_auto 33 = .ok (.getfield 23, 3) := by decide +kernel
theorem dX7_auto_36 : decode cX7_auto 36 = .ok (.iload_n 1, 1) := by decide +kernel
theorem dX7_auto_37 : decode cX7_auto 37 = .ok (.invokevirtual 200, 3) := by decide +kernel
theorem dX7_auto_40 : decode cX7_auto 40 = .ok (.ireturn, 1) := by decide +kernel
set_option maxRecDepth 20000 in
theorem ggX7_give_X7_checkPlayer : GoodIn wsX7_give wsX7_checkPlayer := goodIn_ca (goodIn_r _ [15, 16, 17, 5, 18, 19, 86, 87, 88, 89, 90, 91, 92, 93, 94, 95, 96, 97, 98, 99, 100, 101, 102, 103, 104, 105, 106, 107, 108, 109, 110, 111, 112, 113, 114] (by decide +kernel) (by decide +kernel)) (goodIn_sub (fun _ h => List.mem_cons_of_mem _ (List.mem_append_right _ h)) (by decide +kernel))
set_option maxRecDepth 20000 in
theorem gX7_give_X7_checkPlayer : GoodIn wsX7_give (wsV RX7 113 RX7 yX7_checkPlayer wsX7_checkPlayer) := goodIn_app (goodIn_of _ (by decide +kernel)) ggX7_give_X7_checkPlayer
set_option maxRecDepth 20000 in
theorem ggX7_give_X7_startsWithWord : GoodIn wsX7_give wsX7_startsWithWord := goodIn_r _ [23, 10, 9, 24, 25, 26, 27, 86, 87, 88, 89, 90, 91, 92, 93] (by decide +kernel) (by decide +kernel)
set_option maxRecDepth 20000 in
theorem gX7_give_X7_startsWithWord : GoodIn wsX7_give (wsV RX7 229 RX7 yX7_startsWithWord wsX7_startsWithWord) := goodIn_app (goodIn_of _ (by decide +kernel)) ggX7_give_X7_startsWithWord
set_option maxRecDepth 20000 in
theorem ggX7_give_X2_keep : GoodIn wsX7_give wsX2_keep := goodIn_r _ [32, 33, 34, 35, 36, 37, 38, 39, 40, 41, 42, 43, 44, 45, 46, 47, 48, 49, 50, 51, 52, 53, 54, 55, 56, 57, 58, 59, 60, 61, 62, 63, 64, 65, 66, 67, 68, 69, 70, 71, 72, 73, 74, 75, 76, 77, 78, 115, 116, 117, 94, 95, 96, 97, 98, 99, 100, 101, 102, 103, 104, 105, 106, 107, 108, 109, 110, 111, 112, 113, 114, 118, 119, 120] (by decide +kernel) (by decide +kernel)
set_option maxRecDepth 20000 in
theorem gX7_give_X2_keep : GoodIn wsX7_give (wsV RX7 69 RX2 yX2_keep wsX2_keep) := goodIn_app (goodIn_of _ (by decide +kernel)) ggX7_give_X2_keep
set_option maxRecDepth 20000 in
theorem ggX7_give_X6_ofBytes : GoodIn wsX7_give wsX6_ofBytes := goodIn_r _ [81] (by decide +kernel) (by decide +kernel)
set_option maxRecDepth 20000 in
theorem gX7_give_X6_ofBytes : GoodIn wsX7_give (va_wsS RX7 240 yX6_ofBytes wsX6_ofBytes) := goodIn_app (goodIn_of _ (by decide +kernel)) ggX7_give_X6_ofBytes
set_option maxRecDepth 20000 in
theorem ggX7_give_X1_addWord : GoodIn wsX7_give wsX1_addWord := goodIn_r _ [85, 52, 51, 94, 95, 96, 97, 98, 99, 100, 101, 102, 103, 104, 105, 106] (by decide +kernel) (by decide +kernel)
set_option maxRecDepth 20000 in
theorem gX7_give_X1_addWord : GoodIn wsX7_give (wsV RX7 244 RX1 yX1_addWord wsX1_addWord) := goodIn_app (goodIn_of _ (by decide +kernel)) ggX7_give_X1_addWord
theorem dX7_give_0 : decode cX7_give 0 = .ok (.aload_n 0, 1) := by decide +kernel
theorem dX7_give_1 : decode cX7_give 1 = .ok (.iload_n 1, 1) := by decide +kernel
theorem dX7_give_2 : decode cX7_give 2 = .ok (.invokevirtual 113, 3) := by decide +kernel
theorem dX7_give_5 : decode cX7_give 5 = .ok (.aload_n 0, 1) := by decide +kernel
theorem dX7_give_6 : decode cX7_give 6 = .ok (.iload_n 2, 1) := by decide +kernel
theorem dX7_give_7 : decode cX7_give 7 = .ok (.invokevirtual 229, 3) := by decide +kernel
theorem dX7_give_10 : decode cX7_give 10 = .ok (.ifCond .ne 13, 3) := by decide +kernel
theorem dX7_give_13 : decode cX7_give 13 = .ok (.new 55, 3) := by decide +kernel
theorem dX7_give_16 : decode cX7_give 16 = .ok (.dup, 1) := by decide +kernel
theorem dX7_give_17 : decode cX7_give 17 = .ok (.ldc 233, 2) := by decide +kernel
theorem dX7_give_19 : decode cX7_give 19 = .ok (.invokespecial 59, 3) := by decide +kernel
theorem dX7_give_22 : decode cX7_give 22 = .ok (.athrow, 1) := by decide +kernel
theorem dX7_give_23 : decode cX7_give 23 = .ok (.aload_n 0, 1) := by decide +kernel
theorem dX7_give_24 : decode cX7_give 24 = .ok (.getfield 23, 3) := by decide +kernel
theorem dX7_give_27 : decode cX7_give 27 = .ok (.getfield 235, 3) := by decide +kernel
theorem dX7_give_30 : decode cX7_give 30 = .ok (.iload_n 1, 1) := by decide +kernel
theorem dX7_give_31 : decode cX7_give 31 = .ok (.iaload, 1) := by decide +kernel
theorem dX7_give_32 : decode cX7_give 32 = .ok (.bipush 8, 2) := by decide +kernel
theorem dX7_give_34 : decode cX7_give 34 = .ok (.if_icmp .ge 13, 3) := by decide +kernel
theorem dX7_give_37 : decode cX7_give 37 = .ok (.aload_n 0, 1) := by decide +kernel
theorem dX7_give_38 : decode cX7_give 38 = .ok (.getfield 23, 3) := by decide +kernel
theorem dX7_give_41 : decode cX7_give 41 = .ok (.getfield 218, 3) := by decide +kernel
theorem dX7_give_44 : decode cX7_give 44 = .ok (.ifCond .eq 13, 3) := by decide +kernel
theorem dX7_give_47 : decode cX7_give 47 = .ok (.new 212, 3) := by decide +kernel
theorem dX7_give_50 : decode cX7_give 50 = .ok (.dup, 1) := by decide +kernel
theorem dX7_give_51 : decode cX7_give 51 = .ok (.ldc 238, 2) := by decide +kernel
theorem dX7_give_53 : decode cX7_give 53 = .ok (.invokespecial 214, 3) := by decide +kernel
theorem dX7_give_56 : decode cX7_give 56 = .ok (.athrow, 1) := by decide +kernel
theorem dX7_give_57 : decode cX7_give 57 = .ok (.aload_n 0, 1) := by decide +kernel
theorem dX7_give_58 : decode cX7_give 58 = .ok (.getfield 33, 3) := by decide +kernel
theorem dX7_give_61 : decode cX7_give 61 = .ok (.aload_n 0, 1) := by decide +kernel
theorem dX7_give_62 : decode cX7_give 62 = .ok (.getfield 23, 3) := by decide +kernel
theorem dX7_give_65 : decode cX7_give 65 = .ok (.invokevirtual 69, 3) := by decide +kernel
theorem dX7_give_68 : decode cX7_give 68 = .ok (.aload_n 0, 1) := by decide +kernel
theorem dX7_give_69 : decode cX7_give 69 = .ok (.getfield 23, 3) := by decide +kernel
theorem dX7_give_72 : decode cX7_give 72 = .ok (.iload_n 1, 1) := by decide +kernel
theorem dX7_give_73 : decode cX7_give 73 = .ok (.aload_n 0, 1) := by decide +kernel
theorem dX7_give_74 : decode cX7_give 74 = .ok (.getfield 9, 3) := by decide +kernel
theorem dX7_give_77 : decode cX7_give 77 = .ok (.iconst 0, 1) := by decide +kernel
theorem dX7_give_78 : decode cX7_give 78 = .ok (.iload_n 2, 1) := by decide +kernel
theorem dX7_give_79 : decode cX7_give 79 = .ok (.invokestatic 240, 3) := by decide +kernel
theorem dX7_give_82 : decode cX7_give 82 = .ok (.invokevirtual 244, 3) := by decide +kernel
theorem dX7_give_85 : decode cX7_give 85 = .ok (.aload_n 0, 1) := by decide +kernel
theorem dX7_give_86 : decode cX7_give 86 = .ok (.iconst 0, 1) := by decide +kernel
theorem dX7_give_87 : decode cX7_give 87 = .ok (.putfield 13, 3) := by decide +kernel
theorem dX7_give_90 : decode cX7_give 90 = .ok (.aload_n 0, 1) := by decide +kernel
theorem dX7_give_91 : decode cX7_give 91 = .ok (.getfield 23, 3) := by decide +kernel
theorem dX7_give_94 : decode cX7_give 94 = .ok (.getfield 235, 3) := by decide +kernel
theorem dX7_give_97 : decode cX7_give 97 = .ok (.iload_n 1, 1) := by decide +kernel
theorem dX7_give_98 : decode cX7_give 98 = .ok (.iaload, 1) := by decide +kernel
theorem dX7_give_99 : decode cX7_give 99 = .ok (.iconst 1, 1) := by decide +kernel
theorem dX7_give_100 : decode cX7_give 100 = .ok (.isub, 1) := by decide +kernel
theorem dX7_give_101 : decode cX7_give 101 = .ok (.ireturn, 1) := by decide +kernel
set_option maxRecDepth 20000 in
theorem ggX7_undo_X2_restore : GoodIn wsX7_undo wsX2_restore := goodIn_r _ [7, 8, 9, 10, 11, 12, 13, 14, 15, 16, 17, 18, 19, 20, 21, 22, 23, 24, 25, 26, 27, 28, 29, 30, 31, 32, 33, 34, 35, 36, 37, 38, 39, 40, 41, 42, 43, 44, 45, 46, 47, 48, 49, 50, 51, 52, 53, 62, 63, 64, 65, 66, 67, 68, 69, 70, 71, 72, 73, 74, 75, 76, 77, 78, 79, 80, 81, 82, 83, 84, 85, 86, 87, 88] (by decide +kernel) (by decide +kernel)
set_option maxRecDepth 20000 in
theorem gX7_undo_X2_restore : GoodIn wsX7_undo (wsV RX7 248 RX2 yX2_restore wsX2_restore) := goodIn_app (goodIn_of _ (by decide +kernel)) ggX7_undo_X2_restore
theorem dX7_undo_0 : decode cX7_undo 0 = .ok (.aload_n 0, 1) := by decide +kernel
theorem dX7_undo_1 : decode cX7_undo 1 = .ok (.getfield 33, 3) := by decide +kernel
theorem dX7_undo_4 : decode cX7_undo 4 = .ok (.aload_n 0, 1) := by decide +kernel
theorem dX7_undo_5 : decode cX7_undo 5 = .ok (.getfield 23, 3) := by decide +kernel
theorem dX7_undo_8 : decode cX7_undo 8 = .ok (.invokevirtual 248, 3) := by decide +kernel
theorem dX7_undo_11 : decode cX7_undo 11 = .ok (.ireturn, 1) := by decide +kernel
set_option maxRecDepth 20000 in
theorem ggX7_checksum_X1_stateNumber : GoodIn wsX7_checksum wsX1_stateNumber := goodIn_r _ [10, 11, 12, 13, 14, 15, 16, 17, 18, 19, 20, 21, 22, 9, 23, 24, 25, 26, 27, 28, 29, 30, 31, 32, 33, 34, 35, 36, 37, 38, 39, 40, 41, 42, 43, 44, 45, 46, 47, 48, 49, 50, 51, 52, 53, 54, 55, 56, 57, 58, 59, 60, 61, 62, 63, 64, 65, 66, 67, 68, 118, 119, 120, 121, 122, 123, 124, 125, 126, 127, 128, 129, 130, 131, 132, 133, 134, 135, 136, 137, 138] (by decide +kernel) (by decide +kernel)
set_option maxRecDepth 20000 in
theorem gX7_checksum_X1_stateNumber : GoodIn wsX7_checksum (wsV RX7 83 RX1 yX1_stateNumber wsX1_stateNumber) := goodIn_app (goodIn_of _ (by decide +kernel)) ggX7_checksum_X1_stateNumber
set_option maxRecDepth 20000 in
theorem ggX7_checksum_X7_sumOfRow : GoodIn wsX7_checksum wsX7_sumOfRow := goodIn_r _ [73, 1, 2, 3, 74, 75, 76, 77, 9, 78, 11, 33, 24, 79, 29, 30, 31, 32, 34, 80, 81, 82, 83, 84, 110, 111, 112, 113, 114, 115, 116, 117, 118, 119, 120, 121, 122, 123, 124, 125, 126, 127, 128, 129, 130, 131, 132, 133, 134, 135, 136, 137, 138] (by decide +kernel) (by decide +kernel)
set_option maxRecDepth 20000 in
theorem gX7_checksum_X7_sumOfRow : GoodIn wsX7_checksum (wsV RX7 254 RX7 yX7_sumOfRow wsX7_sumOfRow) := goodIn_app (goodIn_of _ (by decide +kernel)) ggX7_checksum_X7_sumOfRow
set_option maxRecDepth 20000 in
theorem ggX7_checksum_X7_sumOfPlayer : GoodIn wsX7_checksum wsX7_sumOfPlayer := goodIn_r _ [88, 1, 2, 89, 90, 91, 92, 9, 93, 39, 94, 95, 96, 97, 98, 44, 45, 46, 47, 48, 54, 55, 56, 57, 99, 100, 101, 102, 11, 12, 79, 103, 104, 105, 106, 107, 108, 109, 110, 111, 112, 113, 114, 115, 116, 117, 118, 119, 120, 121, 122, 123, 124, 125, 126, 127, 128, 129, 130, 131, 132, 133, 134, 135, 136, 137, 138] (by decide +kernel) (by decide +kernel)
set_option maxRecDepth 20000 in
theorem gX7_checksum_X7_sumOfPlayer : GoodIn wsX7_checksum (wsV RX7 258 RX7 yX7_sumOfPlayer wsX7_sumOfPlayer) := goodIn_app (goodIn_of _ (by decide +kernel)) ggX7_checksum_X7_sumOfPlayer
theorem dX7_checksum_0 : decode cX7_checksum 0 = .ok (.lconst 0, 1) := by decide +kernel
theorem dX7_checksum_1 : decode cX7_checksum 1 = .ok (.lstore_n 1, 1) := by decide +kernel
theorem dX7_checksum_2 : decode cX7_checksum 2 = .ok (.iconst 0, 1) := by decide +kernel
theorem dX7_checksum_3 : decode cX7_checksum 3 = .ok (.istore_n 3, 1) := by decide +kernel
theorem dX7_checksum_4 : decode cX7_checksum 4 = .ok (.iload_n 3, 1) := by decide +kernel
theorem dX7_checksum_5 : decode cX7_checksum 5 = .ok (.bipush 12, 2) := by decide +kernel
theorem dX7_checksum_7 : decode cX7_checksum 7 = .ok (.if_icmp .ge 25, 3) := by decide +kernel
theorem dX7_checksum_10 : decode cX7_checksum 10 = .ok (.ldc2_w 252, 3) := by decide +kernel
theorem dX7_checksum_13 : decode cX7_checksum 13 = .ok (.lload_n 1, 1) := by decide +kernel
theorem dX7_checksum_14 : decode cX7_checksum 14 = .ok (.lmul, 1) := by decide +kernel
theorem dX7_checksum_15 : decode cX7_checksum 15 = .ok (.aload_n 0, 1) := by decide +kernel
theorem dX7_checksum_16 : decode cX7_checksum 16 = .ok (.getfield 23, 3) := by decide +kernel
theorem dX7_checksum_19 : decode cX7_checksum 19 = .ok (.iload_n 3, 1) := by decide +kernel
theorem dX7_checksum_20 : decode cX7_checksum 20 = .ok (.invokevirtual 83, 3) := by decide +kernel
theorem dX7_checksum_23 : decode cX7_checksum 23 = .ok (.i2l, 1) := by decide +kernel
theorem dX7_checksum_24 : decode cX7_checksum 24 = .ok (.ladd, 1) := by decide +kernel
theorem dX7_checksum_25 : decode cX7_checksum 25 = .ok (.lstore_n 1, 1) := by decide +kernel
theorem dX7_checksum_26 : decode cX7_checksum 26 = .ok (.iinc 3 1, 3) := by decide +kernel
theorem dX7_checksum_29 : decode cX7_checksum 29 = .ok (.goto (-25), 3) := by decide +kernel
theorem dX7_checksum_32 : decode cX7_checksum 32 = .ok (.iconst 0, 1) := by decide +kernel
theorem dX7_checksum_33 : decode cX7_checksum 33 = .ok (.istore_n 3, 1) := by decide +kernel
theorem dX7_checksum_34 : decode cX7_checksum 34 = .ok (.iload_n 3, 1) := by decide +kernel
theorem dX7_checksum_35 : decode cX7_checksum 35 = .ok (.aload_n 0, 1) := by decide +kernel
theorem dX7_checksum_36 : decode cX7_checksum 36 = .ok (.getfield 23, 3) := by decide +kernel
theorem dX7_checksum_39 : decode cX7_checksum 39 = .ok (.getfield 96, 3) := by decide +kernel
theorem dX7_checksum_42 : decode cX7_checksum 42 = .ok (.getfield 206, 3) := by decide +kernel
theorem dX7_checksum_45 : decode cX7_checksum 45 = .ok (.if_icmp .ge 16, 3) := by decide +kernel
theorem dX7_checksum_48 : decode cX7_checksum 48 = .ok (.aload_n 0, 1) := by decide +kernel
theorem dX7_checksum_49 : decode cX7_checksum 49 = .ok (.lload_n 1, 1) := by decide +kernel
theorem dX7_checksum_50 : decode cX7_checksum 50 = .ok (.iload_n 3, 1) := by decide +kernel
theorem dX7_checksum_51 : decode cX7_checksum 51 = .ok (.invokevirtual 254, 3) := by decide +kernel
theorem dX7_checksum_54 : decode cX7_checksum 54 = .ok (.lstore_n 1, 1) := by decide +kernel
theorem dX7_checksum_55 : decode cX7_checksum 55 = .ok (.iinc 3 1, 3) := by decide +kernel
theorem dX7_checksum_58 : decode cX7_checksum 58 = .ok (.goto (-24), 3) := by decide +kernel
theorem dX7_checksum_61 : decode cX7_checksum 61 = .ok (.iconst 0, 1) := by decide +kernel
theorem dX7_checksum_62 : decode cX7_checksum 62 = .ok (.istore_n 3, 1) := by decide +kernel
theorem dX7_checksum_63 : decode cX7_checksum 63 = .ok (.iload_n 3, 1) := by decide +kernel
theorem dX7_checksum_64 : decode cX7_checksum 64 = .ok (.aload_n 0, 1) := by decide +kernel
theorem dX7_checksum_65 : decode cX7_checksum 65 = .ok (.getfield 23, 3) := by decide +kernel
theorem dX7_checksum_68 : decode cX7_checksum 68 = .ok (.getfield 96, 3) := by decide +kernel
theorem dX7_checksum_71 : decode cX7_checksum 71 = .ok (.getfield 192, 3) := by decide +kernel
theorem dX7_checksum_74 : decode cX7_checksum 74 = .ok (.if_icmp .ge 16, 3) := by decide +kernel
theorem dX7_checksum_77 : decode cX7_checksum 77 = .ok (.aload_n 0, 1) := by decide +kernel
theorem dX7_checksum_78 : decode cX7_checksum 78 = .ok (.lload_n 1, 1) := by decide +kernel
theorem dX7_checksum_79 : decode cX7_checksum 79 = .ok (.iload_n 3, 1) := by decide +kernel
theorem dX7_checksum_80 : decode cX7_checksum 80 = .ok (.invokevirtual 258, 3) := by decide +kernel
theorem dX7_checksum_83 : decode cX7_checksum 83 = .ok (.lstore_n 1, 1) := by decide +kernel
theorem dX7_checksum_84 : decode cX7_checksum 84 = .ok (.iinc 3 1, 3) := by decide +kernel
theorem dX7_checksum_87 : decode cX7_checksum 87 = .ok (.goto (-24), 3) := by decide +kernel
theorem dX7_checksum_90 : decode cX7_checksum 90 = .ok (.lload_n 1, 1) := by decide +kernel
theorem dX7_checksum_91 : decode cX7_checksum 91 = .ok (.lreturn, 1) := by decide +kernel
set_option maxRecDepth 20000 in
theorem ggX7_sumOfRow_X1_rowNumber : GoodIn wsX7_sumOfRow wsX1_rowNumber := goodIn_r _ [9, 10, 11, 12, 13, 14, 15, 16, 8, 17, 18, 32, 33, 34, 35, 36, 37, 38, 39, 40, 41, 42, 43, 44, 45, 46, 47, 48, 49, 50, 51, 52] (by decide +kernel) (by decide +kernel)
set_option maxRecDepth 20000 in
theorem gX7_sumOfRow_X1_rowNumber : GoodIn wsX7_sumOfRow (wsV RX7 92 RX1 yX1_rowNumber wsX1_rowNumber) := goodIn_app (goodIn_of _ (by decide +kernel)) ggX7_sumOfRow_X1_rowNumber
set_option maxRecDepth 20000 in
theorem ggX7_sumOfRow_X1_letterOnTile : GoodIn wsX7_sumOfRow wsX1_letterOnTile := goodIn_r _ [22, 18, 23, 32, 33, 34, 35, 36, 37, 38, 39, 40, 41, 42, 43, 44] (by decide +kernel) (by decide +kernel)
set_option maxRecDepth 20000 in
theorem gX7_sumOfRow_X1_letterOnTile : GoodIn wsX7_sumOfRow (wsV RX7 110 RX1 yX1_letterOnTile wsX1_letterOnTile) := goodIn_app (goodIn_of _ (by decide +kernel)) ggX7_sumOfRow_X1_letterOnTile
theorem dX7_sumOfRow_0 : decode cX7_sumOfRow 0 = .ok (.lload_n 1, 1) := by decide +kernel
theorem dX7_sumOfRow_1 : decode cX7_sumOfRow 1 = .ok (.lstore 4, 2) := by decide +kernel
theorem dX7_sumOfRow_3 : decode cX7_sumOfRow 3 = .ok (.iconst 0, 1) := by decide +kernel
theorem dX7_sumOfRow_4 : decode cX7_sumOfRow 4 = .ok (.istore 6, 2) := by decide +kernel
theorem dX7_sumOfRow_6 : decode cX7_sumOfRow 6 = .ok (.iload 6, 2) := by decide +kernel
theorem dX7_sumOfRow_8 : decode cX7_sumOfRow 8 = .ok (.iconst 4, 1) := by decide +kernel
theorem dX7_sumOfRow_9 : decode cX7_sumOfRow 9 = .ok (.if_icmp .ge 29, 3) := by decide +kernel
theorem dX7_sumOfRow_12 : decode cX7_sumOfRow 12 = .ok (.ldc2_w 252, 3) := by decide +kernel
theorem dX7_sumOfRow_15 : decode cX7_sumOfRow 15 = .ok (.lload 4, 2) := by decide +kernel
theorem dX7_sumOfRow_17 : decode cX7_sumOfRow 17 = .ok (.lmul, 1) := by decide +kernel
theorem dX7_sumOfRow_18 : decode cX7_sumOfRow 18 = .ok (.aload_n 0, 1) := by decide +kernel
theorem dX7_sumOfRow_19 : decode cX7_sumOfRow 19 = .ok (.getfield 23, 3) := by decide +kernel
theorem dX7_sumOfRow_22 : decode cX7_sumOfRow 22 = .ok (.iload_n 3, 1) := by decide +kernel
theorem dX7_sumOfRow_23 : decode cX7_sumOfRow 23 = .ok (.iload 6, 2) := by decide +kernel
theorem dX7_sumOfRow_25 : decode cX7_sumOfRow 25 = .ok (.invokevirtual 92, 3) := by decide +kernel
theorem dX7_sumOfRow_28 : decode cX7_sumOfRow 28 = .ok (.i2l, 1) := by decide +kernel
theorem dX7_sumOfRow_29 : decode cX7_sumOfRow 29 = .ok (.ladd, 1) := by decide +kernel
theorem dX7_sumOfRow_30 : decode cX7_sumOfRow 30 = .ok (.lstore 4, 2) := by decide +kernel
theorem dX7_sumOfRow_32 : decode cX7_sumOfRow 32 = .ok (.iinc 6 1, 3) := by decide +kernel
theorem dX7_sumOfRow_35 : decode cX7_sumOfRow 35 = .ok (.goto (-29), 3) := by decide +kernel
theorem dX7_sumOfRow_38 : decode cX7_sumOfRow 38 = .ok (.iconst 0, 1) := by decide +kernel
theorem dX7_sumOfRow_39 : decode cX7_sumOfRow 39 = .ok (.istore 6, 2) := by decide +kernel
theorem dX7_sumOfRow_41 : decode cX7_sumOfRow 41 = .ok (.iload 6, 2) := by decide +kernel
theorem dX7_sumOfRow_43 : decode cX7_sumOfRow 43 = .ok (.aload_n 0, 1) := by decide +kernel
theorem dX7_sumOfRow_44 : decode cX7_sumOfRow 44 = .ok (.getfield 23, 3) := by decide +kernel
theorem dX7_sumOfRow_47 : decode cX7_sumOfRow 47 = .ok (.getfield 96, 3) := by decide +kernel
theorem dX7_sumOfRow_50 : decode cX7_sumOfRow 50 = .ok (.getfield 100, 3) := by decide +kernel
theorem dX7_sumOfRow_53 : decode cX7_sumOfRow 53 = .ok (.iload_n 3, 1) := by decide +kernel
theorem dX7_sumOfRow_54 : decode cX7_sumOfRow 54 = .ok (.iaload, 1) := by decide +kernel
theorem dX7_sumOfRow_55 : decode cX7_sumOfRow 55 = .ok (.if_icmp .ge 29, 3) := by decide +kernel
theorem dX7_sumOfRow_58 : decode cX7_sumOfRow 58 = .ok (.ldc2_w 252, 3) := by decide +kernel
theorem dX7_sumOfRow_61 : decode cX7_sumOfRow 61 = .ok (.lload 4, 2) := by decide +kernel
theorem dX7_sumOfRow_63 : decode cX7_sumOfRow 63 = .ok (.lmul, 1) := by decide +kernel
theorem dX7_sumOfRow_64 : decode cX7_sumOfRow 64 = .ok (.aload_n 0, 1) := by decide +kernel
theorem dX7_sumOfRow_65 : decode cX7_sumOfRow 65 = .ok (.getfield 23, 3) := by decide +kernel
theorem dX7_sumOfRow_68 : decode cX7_sumOfRow 68 = .ok (.iload_n 3, 1) := by decide +kernel
theorem dX7_sumOfRow_69 : decode cX7_sumOfRow 69 = .ok (.iload 6, 2) := by decide +kernel
theorem dX7_sumOfRow_71 : decode cX7_sumOfRow 71 = .ok (.invokevirtual 110, 3) := by decide +kernel
theorem dX7_sumOfRow_74 : decode cX7_sumOfRow 74 = .ok (.i2l, 1) := by decide +kernel
theorem dX7_sumOfRow_75 : decode cX7_sumOfRow 75 = .ok (.ladd, 1) := by decide +kernel
theorem dX7_sumOfRow_76 : decode cX7_sumOfRow 76 = .ok (.lstore 4, 2) := by decide +kernel
theorem dX7_sumOfRow_78 : decode cX7_sumOfRow 78 = .ok (.iinc 6 1, 3) := by decide +kernel
theorem dX7_sumOfRow_81 : decode cX7_sumOfRow 81 = .ok (.goto (-40), 3) := by decide +kernel
theorem dX7_sumOfRow_84 : decode cX7_sumOfRow 84 = .ok (.lload 4, 2) := by decide +kernel
theorem dX7_sumOfRow_86 : decode cX7_sumOfRow 86 = .ok (.lreturn, 1) := by decide +kernel
set_option maxRecDepth 20000 in
theorem ggX7_sumOfPlayer_X1_playerNumber : GoodIn wsX7_sumOfPlayer wsX1_playerNumber := goodIn_r _ [8, 9, 10, 11, 12, 13, 7, 14, 15, 16, 17, 18, 19, 20, 21, 22, 23, 24, 25, 26, 27, 28, 29, 30, 46, 47, 48, 49, 50, 51, 52, 53, 54, 55, 56, 57, 58, 59, 60, 61, 62, 63, 64, 65, 66] (by decide +kernel) (by decide +kernel)
set_option maxRecDepth 20000 in
theorem gX7_sumOfPlayer_X1_playerNumber : GoodIn wsX7_sumOfPlayer (wsV RX7 118 RX1 yX1_playerNumber wsX1_playerNumber) := goodIn_app (goodIn_of _ (by decide +kernel)) ggX7_sumOfPlayer_X1_playerNumber
set_option maxRecDepth 20000 in
theorem ggX7_sumOfPlayer_X1_wordOf : GoodIn wsX7_sumOfPlayer wsX1_wordOf := goodIn_r _ [18, 19, 46, 47, 48, 49, 50, 51, 52, 53, 54, 55, 56, 57, 58] (by decide +kernel) (by decide +kernel)
set_option maxRecDepth 20000 in
theorem gX7_sumOfPlayer_X1_wordOf : GoodIn wsX7_sumOfPlayer (wsV RX7 125 RX1 yX1_wordOf wsX1_wordOf) := goodIn_app (goodIn_of _ (by decide +kernel)) ggX7_sumOfPlayer_X1_wordOf
set_option maxRecDepth 20000 in
theorem ggX7_sumOfPlayer_X6_length : GoodIn wsX7_sumOfPlayer wsX6_length := goodIn_r _ [23] (by decide +kernel) (by decide +kernel)
set_option maxRecDepth 20000 in
theorem gX7_sumOfPlayer_X6_length : GoodIn wsX7_sumOfPlayer (va_wsS RX7 129 yX6_length wsX6_length) := goodIn_app (goodIn_of _ (by decide +kernel)) ggX7_sumOfPlayer_X6_length
set_option maxRecDepth 20000 in
theorem ggX7_sumOfPlayer_X6_letterAt : GoodIn wsX7_sumOfPlayer wsX6_letterAt := goodIn_r _ [35, 36, 37, 21, 22, 23] (by decide +kernel) (by decide +kernel)
set_option maxRecDepth 20000 in
theorem gX7_sumOfPlayer_X6_letterAt : GoodIn wsX7_sumOfPlayer (va_wsS RX7 137 yX6_letterAt wsX6_letterAt) := goodIn_app (goodIn_of _ (by decide +kernel)) ggX7_sumOfPlayer_X6_letterAt
theorem dX7_sumOfPlayer_0 : decode cX7_sumOfPlayer 0 = .ok (.lload_n 1, 1) := by decide +kernel
theorem dX7_sumOfPlayer_1 : decode cX7_sumOfPlayer 1 = .ok (.lstore 4, 2) := by decide +kernel
theorem dX7_sumOfPlayer_3 : decode cX7_sumOfPlayer 3 = .ok (.iconst 0, 1) := by decide +kernel
theorem dX7_sumOfPlayer_4 : decode cX7_sumOfPlayer 4 = .ok (.istore 6, 2) := by decide +kernel
theorem dX7_sumOfPlayer_6 : decode cX7_sumOfPlayer 6 = .ok (.iload 6, 2) := by decide +kernel
theorem dX7_sumOfPlayer_8 : decode cX7_sumOfPlayer 8 = .ok (.iconst 4, 1) := by decide +kernel
theorem dX7_sumOfPlayer_9 : decode cX7_sumOfPlayer 9 = .ok (.if_icmp .ge 29, 3) := by decide +kernel
theorem dX7_sumOfPlayer_12 : decode cX7_sumOfPlayer 12 = .ok (.ldc2_w 252, 3) := by decide +kernel
theorem dX7_sumOfPlayer_15 : decode cX7_sumOfPlayer 15 = .ok (.lload 4, 2) := by decide +kernel
theorem dX7_sumOfPlayer_17 : decode cX7_sumOfPlayer 17 = .ok (.lmul, 1) := by decide +kernel
theorem dX7_sumOfPlayer_18 : decode cX7_sumOfPlayer 18 = .ok (.aload_n 0, 1) := by decide +kernel
theorem dX7_sumOfPlayer_19 : decode cX7_sumOfPlayer 19 = .ok (.getfield 23, 3) := by decide +kernel
theorem dX7_sumOfPlayer_22 : decode cX7_sumOfPlayer 22 = .ok (.iload_n 3, 1) := by decide +kernel
theorem dX7_sumOfPlayer_23 : decode cX7_sumOfPlayer 23 = .ok (.iload 6, 2) := by decide +kernel
theorem dX7_sumOfPlayer_25 : decode cX7_sumOfPlayer 25 = .ok (.invokevirtual 118, 3) := by decide +kernel
theorem dX7_sumOfPlayer_28 : decode cX7_sumOfPlayer 28 = .ok (.i2l, 1) := by decide +kernel
theorem dX7_sumOfPlayer_29 : decode cX7_sumOfPlayer 29 = .ok (.ladd, 1) := by decide +kernel
theorem dX7_sumOfPlayer_30 : decode cX7_sumOfPlayer 30 = .ok (.lstore 4, 2) := by decide +kernel
theorem dX7_sumOfPlayer_32 : decode cX7_sumOfPlayer 32 = .ok (.iinc 6 1, 3) := by decide +kernel
theorem dX7_sumOfPlayer_35 : decode cX7_sumOfPlayer 35 = .ok (.goto (-29), 3) := by decide +kernel
theorem dX7_sumOfPlayer_38 : decode cX7_sumOfPlayer 38 = .ok (.iconst 0, 1) := by decide +kernel
theorem dX7_sumOfPlayer_39 : decode cX7_sumOfPlayer 39 = .ok (.istore 6, 2) := by decide +kernel
theorem dX7_sumOfPlayer_41 : decode cX7_sumOfPlayer 41 = .ok (.iload 6, 2) := by decide +kernel
theorem dX7_sumOfPlayer_43 : decode cX7_sumOfPlayer 43 = .ok (.aload_n 0, 1) := by decide +kernel
theorem dX7_sumOfPlayer_44 : decode cX7_sumOfPlayer 44 = .ok (.getfield 23, 3) := by decide +kernel
theorem dX7_sumOfPlayer_47 : decode cX7_sumOfPlayer 47 = .ok (.getfield 235, 3) := by decide +kernel
theorem dX7_sumOfPlayer_50 : decode cX7_sumOfPlayer 50 = .ok (.iload_n 3, 1) := by decide +kernel
theorem dX7_sumOfPlayer_51 : decode cX7_sumOfPlayer 51 = .ok (.iaload, 1) := by decide +kernel
theorem dX7_sumOfPlayer_52 : decode cX7_sumOfPlayer 52 = .ok (.if_icmp .ge 61, 3) := by decide +kernel
theorem dX7_sumOfPlayer_55 : decode cX7_sumOfPlayer 55 = .ok (.aload_n 0, 1) := by decide +kernel
theorem dX7_sumOfPlayer_56 : decode cX7_sumOfPlayer 56 = .ok (.getfield 23, 3) := by decide +kernel
theorem dX7_sumOfPlayer_59 : decode cX7_sumOfPlayer 59 = .ok (.iload_n 3, 1) := by decide +kernel
theorem dX7_sumOfPlayer_60 : decode cX7_sumOfPlayer 60 = .ok (.iload 6, 2) := by decide +kernel
theorem dX7_sumOfPlayer_62 : decode cX7_sumOfPlayer 62 = .ok (.invokevirtual 125, 3) := by decide +kernel
theorem dX7_sumOfPlayer_65 : decode cX7_sumOfPlayer 65 = .ok (.lstore 7, 2) := by decide +kernel
theorem dX7_sumOfPlayer_67 : decode cX7_sumOfPlayer 67 = .ok (.lload 7, 2) := by decide +kernel
theorem dX7_sumOfPlayer_69 : decode cX7_sumOfPlayer 69 = .ok (.invokestatic 129, 3) := by decide +kernel
theorem dX7_sumOfPlayer_72 : decode cX7_sumOfPlayer 72 = .ok (.istore 9, 2) := by decide +kernel
theorem dX7_sumOfPlayer_74 : decode cX7_sumOfPlayer 74 = .ok (.iconst 0, 1) := by decide +kernel
theorem dX7_sumOfPlayer_75 : decode cX7_sumOfPlayer 75 = .ok (.istore 10, 2) := by decide +kernel
theorem dX7_sumOfPlayer_77 : decode cX7_sumOfPlayer 77 = .ok (.iload 10, 2) := by decide +kernel
theorem dX7_sumOfPlayer_79 : decode cX7_sumOfPlayer 79 = .ok (.iload 9, 2) := by decide +kernel
theorem dX7_sumOfPlayer_81 : decode cX7_sumOfPlayer 81 = .ok (.if_icmp .ge 26, 3) := by decide +kernel
theorem dX7_sumOfPlayer_84 : decode cX7_sumOfPlayer 84 = .ok (.ldc2_w 252, 3) := by decide +kernel
theorem dX7_sumOfPlayer_87 : decode cX7_sumOfPlayer 87 = .ok (.lload 4, 2) := by decide +kernel
theorem dX7_sumOfPlayer_89 : decode cX7_sumOfPlayer 89 = .ok (.lmul, 1) := by decide +kernel
theorem dX7_sumOfPlayer_90 : decode cX7_sumOfPlayer 90 = .ok (.lload 7, 2) := by decide +kernel
theorem dX7_sumOfPlayer_92 : decode cX7_sumOfPlayer 92 = .ok (.iload 10, 2) := by decide +kernel
theorem dX7_sumOfPlayer_94 : decode cX7_sumOfPlayer 94 = .ok (.invokestatic 137, 3) := by decide +kernel
theorem dX7_sumOfPlayer_97 : decode cX7_sumOfPlayer 97 = .ok (.i2l, 1) := by decide +kernel
theorem dX7_sumOfPlayer_98 : decode cX7_sumOfPlayer 98 = .ok (.ladd, 1) := by decide +kernel
theorem dX7_sumOfPlayer_99 : decode cX7_sumOfPlayer 99 = .ok (.lstore 4, 2) := by decide +kernel
theorem dX7_sumOfPlayer_101 : decode cX7_sumOfPlayer 101 = .ok (.iinc 10 1, 3) := by decide +kernel
theorem dX7_sumOfPlayer_104 : decode cX7_sumOfPlayer 104 = .ok (.goto (-27), 3) := by decide +kernel
theorem dX7_sumOfPlayer_107 : decode cX7_sumOfPlayer 107 = .ok (.iinc 6 1, 3) := by decide +kernel
theorem dX7_sumOfPlayer_110 : decode cX7_sumOfPlayer 110 = .ok (.goto (-69), 3) := by decide +kernel
theorem dX7_sumOfPlayer_113 : decode cX7_sumOfPlayer 113 = .ok (.lload 4, 2) := by decide +kernel
theorem dX7_sumOfPlayer_115 : decode cX7_sumOfPlayer 115 = .ok (.lreturn, 1) := by decide +kernel
theorem dX7_appendBytes_0 : decode cX7_appendBytes 0 = .ok (.bipush 24, 2) := by decide +kernel
theorem dX7_appendBytes_2 : decode cX7_appendBytes 2 = .ok (.istore_n 2, 1) := by decide +kernel
theorem dX7_appendBytes_3 : decode cX7_appendBytes 3 = .ok (.iload_n 2, 1) := by decide +kernel
theorem dX7_appendBytes_4 : decode cX7_appendBytes 4 = .ok (.ifCond .lt 45, 3) := by decide +kernel
theorem dX7_appendBytes_7 : decode cX7_appendBytes 7 = .ok (.aload_n 0, 1) := by decide +kernel
theorem dX7_appendBytes_8 : decode cX7_appendBytes 8 = .ok (.getfield 13, 3) := by decide +kernel
theorem dX7_appendBytes_11 : decode cX7_appendBytes 11 = .ok (.sipush 600, 3) := by decide +kernel
theorem dX7_appendBytes_14 : decode cX7_appendBytes 14 = .ok (.if_icmp .ge 35, 3) := by decide +kernel
theorem dX7_appendBytes_17 : decode cX7_appendBytes 17 = .ok (.aload_n 0, 1) := by decide +kernel
theorem dX7_appendBytes_18 : decode cX7_appendBytes 18 = .ok (.getfield 9, 3) := by decide +kernel
theorem dX7_appendBytes_21 : decode cX7_appendBytes 21 = .ok (.aload_n 0, 1) := by decide +kernel
theorem dX7_appendBytes_22 : decode cX7_appendBytes 22 = .ok (.getfield 13, 3) := by decide +kernel
theorem dX7_appendBytes_25 : decode cX7_appendBytes 25 = .ok (.iload_n 1, 1) := by decide +kernel
theorem dX7_appendBytes_26 : decode cX7_appendBytes 26 = .ok (.iload_n 2, 1) := by decide +kernel
theorem dX7_appendBytes_27 : decode cX7_appendBytes 27 = .ok (.iushr, 1) := by decide +kernel
theorem dX7_appendBytes_28 : decode cX7_appendBytes 28 = .ok (.sipush 255, 3) := by decide +kernel
theorem dX7_appendBytes_31 : decode cX7_appendBytes 31 = .ok (.iand, 1) := by decide +kernel
theorem dX7_appendBytes_32 : decode cX7_appendBytes 32 = .ok (.iastore, 1) := by decide +kernel
theorem dX7_appendBytes_33 : decode cX7_appendBytes 33 = .ok (.aload_n 0, 1) := by decide +kernel
theorem dX7_appendBytes_34 : decode cX7_appendBytes 34 = .ok (.dup, 1) := by decide +kernel
theorem dX7_appendBytes_35 : decode cX7_appendBytes 35 = .ok (.getfield 13, 3) := by decide +kernel
theorem dX7_appendBytes_38 : decode cX7_appendBytes 38 = .ok (.iconst 1, 1) := by decide +kernel
theorem dX7_appendBytes_39 : decode cX7_appendBytes 39 = .ok (.iadd, 1) := by decide +kernel
theorem dX7_appendBytes_40 : decode cX7_appendBytes 40 = .ok (.putfield 13, 3) := by decide +kernel
theorem dX7_appendBytes_43 : decode cX7_appendBytes 43 = .ok (.iinc 2 (-8), 3) := by decide +kernel
theorem dX7_appendBytes_46 : decode cX7_appendBytes 46 = .ok (.goto (-43), 3) := by decide +kernel
theorem dX7_appendBytes_49 : decode cX7_appendBytes 49 = .ok (.return_, 1) := by decide +kernel
set_option maxRecDepth 20000 in
theorem ggX7_startsWithWord_X6_isLetter : GoodIn wsX7_startsWithWord wsX6_isLetter := goodIn_r _ [6] (by decide +kernel) (by decide +kernel)
set_option maxRecDepth 20000 in
theorem gX7_startsWithWord_X6_isLetter : GoodIn wsX7_startsWithWord (va_wsS RX7 261 yX6_isLetter wsX6_isLetter) := goodIn_app (goodIn_of _ (by decide +kernel)) ggX7_startsWithWord_X6_isLetter
theorem dX7_startsWithWord_0 : decode cX7_startsWithWord 0 = .ok (.iload_n 1, 1) := by decide +kernel
theorem dX7_startsWithWord_1 : decode cX7_startsWithWord 1 = .ok (.iconst 1, 1) := by decide +kernel
theorem dX7_startsWithWord_2 : decode cX7_startsWithWord 2 = .ok (.if_icmp .lt 17, 3) := by decide +kernel
theorem dX7_startsWithWord_5 : decode cX7_startsWithWord 5 = .ok (.iload_n 1, 1) := by decide +kernel
theorem dX7_startsWithWord_6 : decode cX7_startsWithWord 6 = .ok (.bipush 8, 2) := by decide +kernel
theorem dX7_startsWithWord_8 : decode cX7_startsWithWord 8 = .ok (.if_icmp .gt 11, 3) := by decide +kernel
theorem dX7_startsWithWord_11 : decode cX7_startsWithWord 11 = .ok (.iload_n 1, 1) := by decide +kernel
theorem dX7_startsWithWord_12 : decode cX7_startsWithWord 12 = .ok (.aload_n 0, 1) := by decide +kernel
theorem dX7_startsWithWord_13 : decode cX7_startsWithWord 13 = .ok (.getfield 13, 3) := by decide +kernel
theorem dX7_startsWithWord_16 : decode cX7_startsWithWord 16 = .ok (.if_icmp .le 5, 3) := by decide +kernel
theorem dX7_startsWithWord_19 : decode cX7_startsWithWord 19 = .ok (.iconst 0, 1) := by decide +kernel
theorem dX7_startsWithWord_20 : decode cX7_startsWithWord 20 = .ok (.ireturn, 1) := by decide +kernel
theorem dX7_startsWithWord_21 : decode cX7_startsWithWord 21 = .ok (.iconst 0, 1) := by decide +kernel
theorem dX7_startsWithWord_22 : decode cX7_startsWithWord 22 = .ok (.istore_n 2, 1) := by decide +kernel
theorem dX7_startsWithWord_23 : decode cX7_startsWithWord 23 = .ok (.iload_n 2, 1) := by decide +kernel
theorem dX7_startsWithWord_24 : decode cX7_startsWithWord 24 = .ok (.iload_n 1, 1) := by decide +kernel
theorem dX7_startsWithWord_25 : decode cX7_startsWithWord 25 = .ok (.if_icmp .ge 23, 3) := by decide +kernel
theorem dX7_startsWithWord_28 : decode cX7_startsWithWord 28 = .ok (.aload_n 0, 1) := by decide +kernel
theorem dX7_startsWithWord_29 : decode cX7_startsWithWord 29 = .ok (.getfield 9, 3) := by decide +kernel
theorem dX7_startsWithWord_32 : decode cX7_startsWithWord 32 = .ok (.iload_n 2, 1) := by decide +kernel
theorem dX7_startsWithWord_33 : decode cX7_startsWithWord 33 = .ok (.iaload, 1) := by decide +kernel
theorem dX7_startsWithWord_34 : decode cX7_startsWithWord 34 = .ok (.invokestatic 261, 3) := by decide +kernel
theorem dX7_startsWithWord_37 : decode cX7_startsWithWord 37 = .ok (.ifCond .ne 5, 3) := by decide +kernel
theorem dX7_startsWithWord_40 : decode cX7_startsWithWord 40 = .ok (.iconst 0, 1) := by decide +kernel
theorem dX7_startsWithWord_41 : decode cX7_startsWithWord 41 = .ok (.ireturn, 1) := by decide +kernel
theorem dX7_startsWithWord_42 : decode cX7_startsWithWord 42 = .ok (.iinc 2 1, 3) := by decide +kernel
theorem dX7_startsWithWord_45 : decode cX7_startsWithWord 45 = .ok (.goto (-22), 3) := by decide +kernel
theorem dX7_startsWithWord_48 : decode cX7_startsWithWord 48 = .ok (.iconst 1, 1) := by decide +kernel
theorem dX7_startsWithWord_49 : decode cX7_startsWithWord 49 = .ok (.ireturn, 1) := by decide +kernel
theorem dX7_checkRow_0 : decode cX7_checkRow 0 = .ok (.iload_n 1, 1) := by decide +kernel
theorem dX7_checkRow_1 : decode cX7_checkRow 1 = .ok (.ifCond .lt 17, 3) := by decide +kernel
theorem dX7_checkRow_4 : decode cX7_checkRow 4 = .ok (.iload_n 1, 1) := by decide +kernel
theorem dX7_checkRow_5 : decode cX7_checkRow 5 = .ok (.aload_n 0, 1) := by decide +kernel
theorem dX7_checkRow_6 : decode cX7_checkRow 6 = .ok (.getfield 23, 3) := by decide +kernel
theorem dX7_checkRow_9 : decode cX7_checkRow 9 = .ok (.getfield 96, 3) := by decide +kernel
theorem dX7_checkRow_12 : decode cX7_checkRow 12 = .ok (.getfield 206, 3) := by decide +kernel
theorem dX7_checkRow_15 : decode cX7_checkRow 15 = .ok (.if_icmp .lt 14, 3) := by decide +kernel
theorem dX7_checkRow_18 : decode cX7_checkRow 18 = .ok (.new 264, 3) := by decide +kernel
theorem dX7_checkRow_21 : decode cX7_checkRow 21 = .ok (.dup, 1) := by decide +kernel
theorem dX7_checkRow_22 : decode cX7_checkRow 22 = .ok (.ldc_w 266, 3) := by decide +kernel
theorem dX7_checkRow_25 : decode cX7_checkRow 25 = .ok (.invokespecial 268, 3) := by decide +kernel
theorem dX7_checkRow_28 : decode cX7_checkRow 28 = .ok (.athrow, 1) := by decide +kernel
theorem dX7_checkRow_29 : decode cX7_checkRow 29 = .ok (.return_, 1) := by decide +kernel
theorem dX7_checkPlayer_0 : decode cX7_checkPlayer 0 = .ok (.iload_n 1, 1) := by decide +kernel
theorem dX7_checkPlayer_1 : decode cX7_checkPlayer 1 = .ok (.ifCond .lt 17, 3) := by decide +kernel
theorem dX7_checkPlayer_4 : decode cX7_checkPlayer 4 = .ok (.iload_n 1, 1) := by decide +kernel
theorem dX7_checkPlayer_5 : decode cX7_checkPlayer 5 = .ok (.aload_n 0, 1) := by decide +kernel
theorem dX7_checkPlayer_6 : decode cX7_checkPlayer 6 = .ok (.getfield 23, 3) := by decide +kernel
theorem dX7_checkPlayer_9 : decode cX7_checkPlayer 9 = .ok (.getfield 96, 3) := by decide +kernel
theorem dX7_checkPlayer_12 : decode cX7_checkPlayer 12 = .ok (.getfield 192, 3) := by decide +kernel
theorem dX7_checkPlayer_15 : decode cX7_checkPlayer 15 = .ok (.if_icmp .lt 14, 3) := by decide +kernel
theorem dX7_checkPlayer_18 : decode cX7_checkPlayer 18 = .ok (.new 264, 3) := by decide +kernel
theorem dX7_checkPlayer_21 : decode cX7_checkPlayer 21 = .ok (.dup, 1) := by decide +kernel
theorem dX7_checkPlayer_22 : decode cX7_checkPlayer 22 = .ok (.ldc_w 269, 3) := by decide +kernel
theorem dX7_checkPlayer_25 : decode cX7_checkPlayer 25 = .ok (.invokespecial 268, 3) := by decide +kernel
theorem dX7_checkPlayer_28 : decode cX7_checkPlayer 28 = .ok (.athrow, 1) := by decide +kernel
theorem dX7_checkPlayer_29 : decode cX7_checkPlayer 29 = .ok (.return_, 1) := by decide +kernel
theorem dX7_checkPlace_0 : decode cX7_checkPlace 0 = .ok (.iload_n 2, 1) := by decide +kernel
theorem dX7_checkPlace_1 : decode cX7_checkPlace 1 = .ok (.ifCond .lt 16, 3) := by decide +kernel
theorem dX7_checkPlace_4 : decode cX7_checkPlace 4 = .ok (.iload_n 2, 1) := by decide +kernel
theorem dX7_checkPlace_5 : decode cX7_checkPlace 5 = .ok (.aload_n 0, 1) := by decide +kernel
theorem dX7_checkPlace_6 : decode cX7_checkPlace 6 = .ok (.getfield 23, 3) := by decide +kernel
theorem dX7_checkPlace_9 : decode cX7_checkPlace 9 = .ok (.getfield 235, 3) := by decide +kernel
theorem dX7_checkPlace_12 : decode cX7_checkPlace 12 = .ok (.iload_n 1, 1) := by decide +kernel
theorem dX7_checkPlace_13 : decode cX7_checkPlace 13 = .ok (.iaload, 1) := by decide +kernel
theorem dX7_checkPlace_14 : decode cX7_checkPlace 14 = .ok (.if_icmp .lt 14, 3) := by decide +kernel
theorem dX7_checkPlace_17 : decode cX7_checkPlace 17 = .ok (.new 264, 3) := by decide +kernel
theorem dX7_checkPlace_20 : decode cX7_checkPlace 20 = .ok (.dup, 1) := by decide +kernel
theorem dX7_checkPlace_21 : decode cX7_checkPlace 21 = .ok (.ldc_w 271, 3) := by decide +kernel
theorem dX7_checkPlace_24 : decode cX7_checkPlace 24 = .ok (.invokespecial 268, 3) := by decide +kernel
theorem dX7_checkPlace_27 : decode cX7_checkPlace 27 = .ok (.athrow, 1) := by decide +kernel
theorem dX7_checkPlace_28 : decode cX7_checkPlace 28 = .ok (.return_, 1) := by decide +kernel
set_option maxRecDepth 20000 in
theorem ggX8_init_X8_layGame : GoodIn wsX8_init wsX8_layGame := goodIn_r _ [19] (by decide +kernel) (by decide +kernel)
set_option maxRecDepth 20000 in
theorem gX8_init_X8_layGame : GoodIn wsX8_init (va_wsS RX8 41 yX8_layGame wsX8_layGame) := goodIn_app (goodIn_of _ (by decide +kernel)) ggX8_init_X8_layGame
set_option maxRecDepth 20000 in
theorem ggX8_init_X8_layRow : GoodIn wsX8_init wsX8_layRow := goodIn_r _ [22, 23, 24, 18, 25] (by decide +kernel) (by decide +kernel)
set_option maxRecDepth 20000 in
theorem gX8_init_X8_layRow : GoodIn wsX8_init (va_wsS RX8 45 yX8_layRow wsX8_layRow) := goodIn_app (goodIn_of _ (by decide +kernel)) ggX8_init_X8_layRow
theorem dX8_init_0 : decode cX8_init 0 = .ok (.aload_n 0, 1) := by decide +kernel
theorem dX8_init_1 : decode cX8_init 1 = .ok (.invokespecial 3, 3) := by decide +kernel
theorem dX8_init_4 : decode cX8_init 4 = .ok (.aload_n 0, 1) := by decide +kernel
theorem dX8_init_5 : decode cX8_init 5 = .ok (.sipush 600, 3) := by decide +kernel
theorem dX8_init_8 : decode cX8_init 8 = .ok (.newarray .int, 2) := by decide +kernel
theorem dX8_init_10 : decode cX8_init 10 = .ok (.putfield 9, 3) := by decide +kernel
theorem dX8_init_13 : decode cX8_init 13 = .ok (.aload_n 0, 1) := by decide +kernel
theorem dX8_init_14 : decode cX8_init 14 = .ok (.iconst (-1), 1) := by decide +kernel
theorem dX8_init_15 : decode cX8_init 15 = .ok (.putfield 13, 3) := by decide +kernel
theorem dX8_init_18 : decode cX8_init 18 = .ok (.aload_n 0, 1) := by decide +kernel
theorem dX8_init_19 : decode cX8_init 19 = .ok (.sipush 1802, 3) := by decide +kernel
theorem dX8_init_22 : decode cX8_init 22 = .ok (.newarray .int, 2) := by decide +kernel
theorem dX8_init_24 : decode cX8_init 24 = .ok (.putfield 17, 3) := by decide +kernel
theorem dX8_init_27 : decode cX8_init 27 = .ok (.aload_n 0, 1) := by decide +kernel
theorem dX8_init_28 : decode cX8_init 28 = .ok (.sipush 1802, 3) := by decide +kernel
theorem dX8_init_31 : decode cX8_init 31 = .ok (.newarray .int, 2) := by decide +kernel
theorem dX8_init_33 : decode cX8_init 33 = .ok (.putfield 20, 3) := by decide +kernel
theorem dX8_init_36 : decode cX8_init 36 = .ok (.aload_n 0, 1) := by decide +kernel
theorem dX8_init_37 : decode cX8_init 37 = .ok (.sipush 602, 3) := by decide +kernel
theorem dX8_init_40 : decode cX8_init 40 = .ok (.newarray .int, 2) := by decide +kernel
theorem dX8_init_42 : decode cX8_init 42 = .ok (.putfield 23, 3) := by decide +kernel
theorem dX8_init_45 : decode cX8_init 45 = .ok (.aload_n 0, 1) := by decide +kernel
theorem dX8_init_46 : decode cX8_init 46 = .ok (.bipush 8, 2) := by decide +kernel
theorem dX8_init_48 : decode cX8_init 48 = .ok (.sipush 1802, 3) := by decide +kernel
theorem dX8_init_51 : decode cX8_init 51 = .ok (.multianewarray 26 2, 4) := by decide +kernel
theorem dX8_init_55 : decode cX8_init 55 = .ok (.putfield 28, 3) := by decide +kernel
theorem dX8_init_58 : decode cX8_init 58 = .ok (.aload_n 0, 1) := by decide +kernel
theorem dX8_init_59 : decode cX8_init 59 = .ok (.sipush 1200, 3) := by decide +kernel
theorem dX8_init_62 : decode cX8_init 62 = .ok (.newarray .long, 2) := by decide +kernel
theorem dX8_init_64 : decode cX8_init 64 = .ok (.putfield 31, 3) := by decide +kernel
theorem dX8_init_67 : decode cX8_init 67 = .ok (.aload_n 0, 1) := by decide +kernel
theorem dX8_init_68 : decode cX8_init 68 = .ok (.sipush 2048, 3) := by decide +kernel
theorem dX8_init_71 : decode cX8_init 71 = .ok (.newarray .int, 2) := by decide +kernel
theorem dX8_init_73 : decode cX8_init 73 = .ok (.putfield 35, 3) := by decide +kernel
theorem dX8_init_76 : decode cX8_init 76 = .ok (.aload_n 0, 1) := by decide +kernel
theorem dX8_init_77 : decode cX8_init 77 = .ok (.sipush 2048, 3) := by decide +kernel
theorem dX8_init_80 : decode cX8_init 80 = .ok (.newarray .int, 2) := by decide +kernel
theorem dX8_init_82 : decode cX8_init 82 = .ok (.putfield 38, 3) := by decide +kernel
theorem dX8_init_85 : decode cX8_init 85 = .ok (.aload_n 0, 1) := by decide +kernel
theorem dX8_init_86 : decode cX8_init 86 = .ok (.getfield 17, 3) := by decide +kernel
theorem dX8_init_89 : decode cX8_init 89 = .ok (.invokestatic 41, 3) := by decide +kernel
theorem dX8_init_92 : decode cX8_init 92 = .ok (.aload_n 0, 1) := by decide +kernel
theorem dX8_init_93 : decode cX8_init 93 = .ok (.getfield 17, 3) := by decide +kernel
theorem dX8_init_96 : decode cX8_init 96 = .ok (.iconst 0, 1) := by decide +kernel
theorem dX8_init_97 : decode cX8_init 97 = .ok (.iconst 1, 1) := by decide +kernel
theorem dX8_init_98 : decode cX8_init 98 = .ok (.iastore, 1) := by decide +kernel
theorem dX8_init_99 : decode cX8_init 99 = .ok (.aload_n 0, 1) := by decide +kernel
theorem dX8_init_100 : decode cX8_init 100 = .ok (.getfield 17, 3) := by decide +kernel
theorem dX8_init_103 : decode cX8_init 103 = .ok (.iconst 0, 1) := by decide +kernel
theorem dX8_init_104 : decode cX8_init 104 = .ok (.bipush 10, 2) := by decide +kernel
theorem dX8_init_106 : decode cX8_init 106 = .ok (.invokestatic 45, 3) := by decide +kernel
theorem dX8_init_109 : decode cX8_init 109 = .ok (.return_, 1) := by decide +kernel
theorem dX8_thrown_0 : decode cX8_thrown 0 = .ok (.aload_n 0, 1) := by decide +kernel
theorem dX8_thrown_1 : decode cX8_thrown 1 = .ok (.getfield 49, 3) := by decide +kernel
theorem dX8_thrown_4 : decode cX8_thrown 4 = .ok (.ireturn, 1) := by decide +kernel
theorem dX8_fails_0 : decode cX8_fails 0 = .ok (.iload_n 1, 1) := by decide +kernel
theorem dX8_fails_1 : decode cX8_fails 1 = .ok (.ifCond .eq 15, 3) := by decide +kernel
theorem dX8_fails_4 : decode cX8_fails 4 = .ok (.aload_n 0, 1) := by decide +kernel
theorem dX8_fails_5 : decode cX8_fails 5 = .ok (.getfield 49, 3) := by decide +kernel
theorem dX8_fails_8 : decode cX8_fails 8 = .ok (.ifCond .ne 8, 3) := by decide +kernel
theorem dX8_fails_11 : decode cX8_fails 11 = .ok (.aload_n 0, 1) := by decide +kernel
theorem dX8_fails_12 : decode cX8_fails 12 = .ok (.iload_n 2, 1) := by decide +kernel
theorem dX8_fails_13 : decode cX8_fails 13 = .ok (.putfield 49, 3) := by decide +kernel
theorem dX8_fails_16 : decode cX8_fails 16 = .ok (.aload_n 0, 1) := by decide +kernel
theorem dX8_fails_17 : decode cX8_fails 17 = .ok (.getfield 49, 3) := by decide +kernel
theorem dX8_fails_20 : decode cX8_fails 20 = .ok (.ifCond .eq 7, 3) := by decide +kernel
theorem dX8_fails_23 : decode cX8_fails 23 = .ok (.iconst 1, 1) := by decide +kernel
theorem dX8_fails_24 : decode cX8_fails 24 = .ok (.goto 4, 3) := by decide +kernel
theorem dX8_fails_27 : decode cX8_fails 27 = .ok (.iconst 0, 1) := by decide +kernel
theorem dX8_fails_28 : decode cX8_fails 28 = .ok (.ireturn, 1) := by decide +kernel
theorem dX8_in_0 : decode cX8_in 0 = .ok (.iload_n 0, 1) := by decide +kernel
theorem dX8_in_1 : decode cX8_in 1 = .ok (.iload_n 1, 1) := by decide +kernel
theorem dX8_in_2 : decode cX8_in 2 = .ok (.if_icmp .lt 12, 3) := by decide +kernel
theorem dX8_in_5 : decode cX8_in 5 = .ok (.iload_n 0, 1) := by decide +kernel
theorem dX8_in_6 : decode cX8_in 6 = .ok (.iload_n 2, 1) := by decide +kernel
theorem dX8_in_7 : decode cX8_in 7 = .ok (.if_icmp .gt 7, 3) := by decide +kernel
theorem dX8_in_10 : decode cX8_in 10 = .ok (.iconst 1, 1) := by decide +kernel
theorem dX8_in_11 : decode cX8_in 11 = .ok (.goto 4, 3) := by decide +kernel
theorem dX8_in_14 : decode cX8_in 14 = .ok (.iconst 0, 1) := by decide +kernel
theorem dX8_in_15 : decode cX8_in 15 = .ok (.ireturn, 1) := by decide +kernel
theorem dX8_min_0 : decode cX8_min 0 = .ok (.iload_n 0, 1) := by decide +kernel
theorem dX8_min_1 : decode cX8_min 1 = .ok (.iload_n 1, 1) := by decide +kernel
theorem dX8_min_2 : decode cX8_min 2 = .ok (.if_icmp .ge 7, 3) := by decide +kernel
theorem dX8_min_5 : decode cX8_min 5 = .ok (.iload_n 0, 1) := by decide +kernel
theorem dX8_min_6 : decode cX8_min 6 = .ok (.goto 4, 3) := by decide +kernel
theorem dX8_min_9 : decode cX8_min 9 = .ok (.iload_n 1, 1) := by decide +kernel
theorem dX8_min_10 : decode cX8_min 10 = .ok (.ireturn, 1) := by decide +kernel
theorem dX8_max_0 : decode cX8_max 0 = .ok (.iload_n 0, 1) := by decide +kernel
theorem dX8_max_1 : decode cX8_max 1 = .ok (.iload_n 1, 1) := by decide +kernel
theorem dX8_max_2 : decode cX8_max 2 = .ok (.if_icmp .le 7, 3) := by decide +kernel
theorem dX8_max_5 : decode cX8_max 5 = .ok (.iload_n 0, 1) := by decide +kernel
theorem dX8_max_6 : decode cX8_max 6 = .ok (.goto 4, 3) := by decide +kernel
theorem dX8_max_9 : decode cX8_max 9 = .ok (.iload_n 1, 1) := by decide +kernel
theorem dX8_max_10 : decode cX8_max 10 = .ok (.ireturn, 1) := by decide +kernel
theorem dX8_copy_0 : decode cX8_copy 0 = .ok (.iconst 0, 1) := by decide +kernel
theorem dX8_copy_1 : decode cX8_copy 1 = .ok (.istore_n 3, 1) := by decide +kernel
theorem dX8_copy_2 : decode cX8_copy 2 = .ok (.iload_n 3, 1) := by decide +kernel
theorem dX8_copy_3 : decode cX8_copy 3 = .ok (.iload_n 2, 1) := by decide +kernel
theorem dX8_copy_4 : decode cX8_copy 4 = .ok (.if_icmp .ge 15, 3) := by decide +kernel
theorem dX8_copy_7 : decode cX8_copy 7 = .ok (.aload_n 1, 1) := by decide +kernel
theorem dX8_copy_8 : decode cX8_copy 8 = .ok (.iload_n 3, 1) := by decide +kernel
theorem dX8_copy_9 : decode cX8_copy 9 = .ok (.aload_n 0, 1) := by decide +kernel
theorem dX8_copy_10 : decode cX8_copy 10 = .ok (.iload_n 3, 1) := by decide +kernel
theorem dX8_copy_11 : decode cX8_copy 11 = .ok (.iaload, 1) := by decide +kernel
theorem dX8_copy_12 : decode cX8_copy 12 = .ok (.iastore, 1) := by decide +kernel
theorem dX8_copy_13 : decode cX8_copy 13 = .ok (.iinc 3 1, 3) := by decide +kernel
theorem dX8_copy_16 : decode cX8_copy 16 = .ok (.goto (-14), 3) := by decide +kernel
theorem dX8_copy_19 : decode cX8_copy 19 = .ok (.return_, 1) := by decide +kernel
theorem dX8_layGame_0 : decode cX8_layGame 0 = .ok (.iconst 0, 1) := by decide +kernel
theorem dX8_layGame_1 : decode cX8_layGame 1 = .ok (.istore_n 1, 1) := by decide +kernel
theorem dX8_layGame_2 : decode cX8_layGame 2 = .ok (.iload_n 1, 1) := by decide +kernel
theorem dX8_layGame_3 : decode cX8_layGame 3 = .ok (.sipush 1802, 3) := by decide +kernel
theorem dX8_layGame_6 : decode cX8_layGame 6 = .ok (.if_icmp .ge 13, 3) := by decide +kernel
theorem dX8_layGame_9 : decode cX8_layGame 9 = .ok (.aload_n 0, 1) := by decide +kernel
theorem dX8_layGame_10 : decode cX8_layGame 10 = .ok (.iload_n 1, 1) := by decide +kernel
theorem dX8_layGame_11 : decode cX8_layGame 11 = .ok (.iconst 0, 1) := by decide +kernel
theorem dX8_layGame_12 : decode cX8_layGame 12 = .ok (.iastore, 1) := by decide +kernel
theorem dX8_layGame_13 : decode cX8_layGame 13 = .ok (.iinc 1 1, 3) := by decide +kernel
theorem dX8_layGame_16 : decode cX8_layGame 16 = .ok (.goto (-14), 3) := by decide +kernel
theorem dX8_layGame_19 : decode cX8_layGame 19 = .ok (.aload_n 0, 1) := by decide +kernel
theorem dX8_layGame_20 : decode cX8_layGame 20 = .ok (.iconst 1, 1) := by decide +kernel
theorem dX8_layGame_21 : decode cX8_layGame 21 = .ok (.iconst 2, 1) := by decide +kernel
theorem dX8_layGame_22 : decode cX8_layGame 22 = .ok (.iastore, 1) := by decide +kernel
theorem dX8_layGame_23 : decode cX8_layGame 23 = .ok (.aload_n 0, 1) := by decide +kernel
theorem dX8_layGame_24 : decode cX8_layGame 24 = .ok (.iconst 2, 1) := by decide +kernel
theorem dX8_layGame_25 : decode cX8_layGame 25 = .ok (.iconst 2, 1) := by decide +kernel
theorem dX8_layGame_26 : decode cX8_layGame 26 = .ok (.iastore, 1) := by decide +kernel
theorem dX8_layGame_27 : decode cX8_layGame 27 = .ok (.aload_n 0, 1) := by decide +kernel
theorem dX8_layGame_28 : decode cX8_layGame 28 = .ok (.iconst 3, 1) := by decide +kernel
theorem dX8_layGame_29 : decode cX8_layGame 29 = .ok (.iconst 1, 1) := by decide +kernel
theorem dX8_layGame_30 : decode cX8_layGame 30 = .ok (.iastore, 1) := by decide +kernel
theorem dX8_layGame_31 : decode cX8_layGame 31 = .ok (.aload_n 0, 1) := by decide +kernel
theorem dX8_layGame_32 : decode cX8_layGame 32 = .ok (.iconst 4, 1) := by decide +kernel
theorem dX8_layGame_33 : decode cX8_layGame 33 = .ok (.iconst 5, 1) := by decide +kernel
theorem dX8_layGame_34 : decode cX8_layGame 34 = .ok (.iastore, 1) := by decide +kernel
theorem dX8_layGame_35 : decode cX8_layGame 35 = .ok (.return_, 1) := by decide +kernel
set_option maxRecDepth 20000 in
theorem ggX8_layRow_X8_rowAt : GoodIn wsX8_layRow wsX8_rowAt := goodIn_r _ [4] (by decide +kernel) (by decide +kernel)
set_option maxRecDepth 20000 in
theorem gX8_layRow_X8_rowAt : GoodIn wsX8_layRow (va_wsS RX8 52 yX8_rowAt wsX8_rowAt) := goodIn_app (goodIn_of _ (by decide +kernel)) ggX8_layRow_X8_rowAt
theorem dX8_layRow_0 : decode cX8_layRow 0 = .ok (.aload_n 0, 1) := by decide +kernel
theorem dX8_layRow_1 : decode cX8_layRow 1 = .ok (.iload_n 1, 1) := by decide +kernel
theorem dX8_layRow_2 : decode cX8_layRow 2 = .ok (.invokestatic 52, 3) := by decide +kernel
theorem dX8_layRow_5 : decode cX8_layRow 5 = .ok (.iconst 0, 1) := by decide +kernel
theorem dX8_layRow_6 : decode cX8_layRow 6 = .ok (.iadd, 1) := by decide +kernel
theorem dX8_layRow_7 : decode cX8_layRow 7 = .ok (.iload_n 2, 1) := by decide +kernel
theorem dX8_layRow_8 : decode cX8_layRow 8 = .ok (.iastore, 1) := by decide +kernel
theorem dX8_layRow_9 : decode cX8_layRow 9 = .ok (.aload_n 0, 1) := by decide +kernel
theorem dX8_layRow_10 : decode cX8_layRow 10 = .ok (.iload_n 1, 1) := by decide +kernel
theorem dX8_layRow_11 : decode cX8_layRow 11 = .ok (.invokestatic 52, 3) := by decide +kernel
theorem dX8_layRow_14 : decode cX8_layRow 14 = .ok (.iconst 3, 1) := by decide +kernel
theorem dX8_layRow_15 : decode cX8_layRow 15 = .ok (.iadd, 1) := by decide +kernel
theorem dX8_layRow_16 : decode cX8_layRow 16 = .ok (.iconst (-1), 1) := by decide +kernel
theorem dX8_layRow_17 : decode cX8_layRow 17 = .ok (.iastore, 1) := by decide +kernel
theorem dX8_layRow_18 : decode cX8_layRow 18 = .ok (.return_, 1) := by decide +kernel
theorem dX8_rowAt_0 : decode cX8_rowAt 0 = .ok (.bipush 36, 2) := by decide +kernel
theorem dX8_rowAt_2 : decode cX8_rowAt 2 = .ok (.bipush 45, 2) := by decide +kernel
theorem dX8_rowAt_4 : decode cX8_rowAt 4 = .ok (.iload_n 0, 1) := by decide +kernel
theorem dX8_rowAt_5 : decode cX8_rowAt 5 = .ok (.imul, 1) := by decide +kernel
theorem dX8_rowAt_6 : decode cX8_rowAt 6 = .ok (.iadd, 1) := by decide +kernel
theorem dX8_rowAt_7 : decode cX8_rowAt 7 = .ok (.ireturn, 1) := by decide +kernel
theorem dX8_playerAt_0 : decode cX8_playerAt 0 = .ok (.sipush 306, 3) := by decide +kernel
theorem dX8_playerAt_3 : decode cX8_playerAt 3 = .ok (.bipush 74, 2) := by decide +kernel
theorem dX8_playerAt_5 : decode cX8_playerAt 5 = .ok (.iload_n 0, 1) := by decide +kernel
theorem dX8_playerAt_6 : decode cX8_playerAt 6 = .ok (.imul, 1) := by decide +kernel
theorem dX8_playerAt_7 : decode cX8_playerAt 7 = .ok (.iadd, 1) := by decide +kernel
theorem dX8_playerAt_8 : decode cX8_playerAt 8 = .ok (.ireturn, 1) := by decide +kernel
set_option maxRecDepth 20000 in
theorem ggX8_wordAt_X8_playerAt : GoodIn wsX8_wordAt wsX8_playerAt := goodIn_r _ [4] (by decide +kernel) (by decide +kernel)
set_option maxRecDepth 20000 in
theorem gX8_wordAt_X8_playerAt : GoodIn wsX8_wordAt (va_wsS RX8 56 yX8_playerAt wsX8_playerAt) := goodIn_app (goodIn_of _ (by decide +kernel)) ggX8_wordAt_X8_playerAt
theorem dX8_wordAt_0 : decode cX8_wordAt 0 = .ok (.iload_n 0, 1) := by decide +kernel
theorem dX8_wordAt_1 : decode cX8_wordAt 1 = .ok (.invokestatic 56, 3) := by decide +kernel
theorem dX8_wordAt_4 : decode cX8_wordAt 4 = .ok (.iconst 2, 1) := by decide +kernel
theorem dX8_wordAt_5 : decode cX8_wordAt 5 = .ok (.iadd, 1) := by decide +kernel
theorem dX8_wordAt_6 : decode cX8_wordAt 6 = .ok (.bipush 9, 2) := by decide +kernel
theorem dX8_wordAt_8 : decode cX8_wordAt 8 = .ok (.iload_n 1, 1) := by decide +kernel
theorem dX8_wordAt_9 : decode cX8_wordAt 9 = .ok (.imul, 1) := by decide +kernel
theorem dX8_wordAt_10 : decode cX8_wordAt 10 = .ok (.iadd, 1) := by decide +kernel
theorem dX8_wordAt_11 : decode cX8_wordAt 11 = .ok (.ireturn, 1) := by decide +kernel
theorem dX8_append_0 : decode cX8_append 0 = .ok (.aload_n 0, 1) := by decide +kernel
theorem dX8_append_1 : decode cX8_append 1 = .ok (.iconst 0, 1) := by decide +kernel
theorem dX8_append_2 : decode cX8_append 2 = .ok (.putfield 49, 3) := by decide +kernel
theorem dX8_append_5 : decode cX8_append 5 = .ok (.aload_n 0, 1) := by decide +kernel
theorem dX8_append_6 : decode cX8_append 6 = .ok (.getfield 59, 3) := by decide +kernel
theorem dX8_append_9 : decode cX8_append 9 = .ok (.bipush 20, 2) := by decide +kernel
theorem dX8_append_11 : decode cX8_append 11 = .ok (.iadd, 1) := by decide +kernel
theorem dX8_append_12 : decode cX8_append 12 = .ok (.sipush 600, 3) := by decide +kernel
theorem dX8_append_15 : decode cX8_append 15 = .ok (.if_icmp .le 5, 3) := by decide +kernel
theorem dX8_append_18 : decode cX8_append 18 = .ok (.iconst (-1), 1) := by decide +kernel
theorem dX8_append_19 : decode cX8_append 19 = .ok (.ireturn, 1) := by decide +kernel
theorem dX8_append_20 : decode cX8_append 20 = .ok (.iconst 0, 1) := by decide +kernel
theorem dX8_append_21 : decode cX8_append 21 = .ok (.istore 6, 2) := by decide +kernel
theorem dX8_append_23 : decode cX8_append 23 = .ok (.iload 6, 2) := by decide +kernel
theorem dX8_append_25 : decode cX8_append 25 = .ok (.bipush 20, 2) := by decide +kernel
theorem dX8_append_27 : decode cX8_append 27 = .ok (.if_icmp .ge 93, 3) := by decide +kernel
theorem dX8_append_30 : decode cX8_append 30 = .ok (.iload 6, 2) := by decide +kernel
theorem dX8_append_32 : decode cX8_append 32 = .ok (.iconst 4, 1) := by decide +kernel
theorem dX8_append_33 : decode cX8_append 33 = .ok (.if_icmp .ge 7, 3) := by decide +kernel
theorem dX8_append_36 : decode cX8_append 36 = .ok (.iload_n 1, 1) := by decide +kernel
theorem dX8_append_37 : decode cX8_append 37 = .ok (.goto 39, 3) := by decide +kernel
theorem dX8_append_40 : decode cX8_append 40 = .ok (.iload 6, 2) := by decide +kernel
theorem dX8_append_42 : decode cX8_append 42 = .ok (.bipush 8, 2) := by decide +kernel
theorem dX8_append_44 : decode cX8_append 44 = .ok (.if_icmp .ge 7, 3) := by decide +kernel
theorem dX8_append_47 : decode cX8_append 47 = .ok (.iload_n 2, 1) := by decide +kernel
theorem dX8_append_48 : decode cX8_append 48 = .ok (.goto 28, 3) := by decide +kernel
theorem dX8_append_51 : decode cX8_append 51 = .ok (.iload 6, 2) := by decide +kernel
theorem dX8_append_53 : decode cX8_append 53 = .ok (.bipush 12, 2) := by decide +kernel
theorem dX8_append_55 : decode cX8_append 55 = .ok (.if_icmp .ge 7, 3) := by decide +kernel
theorem dX8_append_58 : decode cX8_append 58 = .ok (.iload_n 3, 1) := by decide +kernel
theorem dX8_append_59 : decode cX8_append 59 = .ok (.goto 17, 3) := by decide +kernel
theorem dX8_append_62 : decode cX8_append 62 = .ok (.iload 6, 2) := by decide +kernel
theorem dX8_append_64 : decode cX8_append 64 = .ok (.bipush 16, 2) := by decide +kernel
theorem dX8_append_66 : decode cX8_append 66 = .ok (.if_icmp .ge 8, 3) := by decide +kernel
theorem dX8_append_69 : decode cX8_append 69 = .ok (.iload 4, 2) := by decide +kernel
theorem dX8_append_71 : decode cX8_append 71 = .ok (.goto 5, 3) := by decide +kernel
theorem dX8_append_74 : decode cX8_append 74 = .ok (.iload 5, 2) := by decide +kernel
theorem dX8_append_76 : decode cX8_append 76 = .ok (.istore 7, 2) := by decide +kernel
theorem dX8_append_78 : decode cX8_append 78 = .ok (.aload_n 0, 1) := by decide +kernel
theorem dX8_append_79 : decode cX8_append 79 = .ok (.getfield 9, 3) := by decide +kernel
theorem dX8_append_82 : decode cX8_append 82 = .ok (.aload_n 0, 1) := by decide +kernel
theorem dX8_append_83 : decode cX8_append 83 = .ok (.getfield 59, 3) := by decide +kernel
theorem dX8_append_86 : decode cX8_append 86 = .ok (.iload 7, 2) := by decide +kernel
theorem dX8_append_88 : decode cX8_append 88 = .ok (.bipush 24, 2) := by decide +kernel
theorem dX8_append_90 : decode cX8_append 90 = .ok (.bipush 8, 2) := by decide +kernel
theorem dX8_append_92 : decode cX8_append 92 = .ok (.iload 6, 2) := by decide +kernel
theorem dX8_append_94 : decode cX8_append 94 = .ok (.iconst 4, 1) := by decide +kernel
theorem dX8_append_95 : decode cX8_append 95 = .ok (.irem, 1) := by decide +kernel
theorem dX8_append_96 : decode cX8_append 96 = .ok (.imul, 1) := by decide +kernel
theorem dX8_append_97 : decode cX8_append 97 = .ok (.isub, 1) := by decide +kernel
theorem dX8_append_98 : decode cX8_append 98 = .ok (.ishr, 1) := by decide +kernel
theorem dX8_append_99 : decode cX8_append 99 = .ok (.sipush 255, 3) := by decide +kernel
theorem dX8_append_102 : decode cX8_append 102 = .ok (.iand, 1) := by decide +kernel
theorem dX8_append_103 : decode cX8_append 103 = .ok (.iastore, 1) := by decide +kernel
theorem dX8_append_104 : decode cX8_append 104 = .ok (.aload_n 0, 1) := by decide +kernel
theorem dX8_append_105 : decode cX8_append 105 = .ok (.dup, 1) := by decide +kernel
theorem dX8_append_106 : decode cX8_append 106 = .ok (.getfield 59, 3) := by decide +kernel
theorem dX8_append_109 : decode cX8_append 109 = .ok (.iconst 1, 1) := by decide +kernel
theorem dX8_append_110 : decode cX8_append 110 = .ok (.iadd, 1) := by decide +kernel
theorem dX8_append_111 : decode cX8_append 111 = .ok (.putfield 59, 3) := by decide +kernel
theorem dX8_append_114 : decode cX8_append 114 = .ok (.iinc 6 1, 3) := by decide +kernel
theorem dX8_append_117 : decode cX8_append 117 = .ok (.goto (-94), 3) := by decide +kernel
theorem dX8_append_120 : decode cX8_append 120 = .ok (.aload_n 0, 1) := by decide +kernel
theorem dX8_append_121 : decode cX8_append 121 = .ok (.getfield 59, 3) := by decide +kernel
theorem dX8_append_124 : decode cX8_append 124 = .ok (.ireturn, 1) := by decide +kernel
theorem dX8_byteAt_0 : decode cX8_byteAt 0 = .ok (.iload_n 1, 1) := by decide +kernel
theorem dX8_byteAt_1 : decode cX8_byteAt 1 = .ok (.aload_n 0, 1) := by decide +kernel
theorem dX8_byteAt_2 : decode cX8_byteAt 2 = .ok (.getfield 62, 3) := by decide +kernel
theorem dX8_byteAt_5 : decode cX8_byteAt 5 = .ok (.if_icmp .ge 12, 3) := by decide +kernel
theorem dX8_byteAt_8 : decode cX8_byteAt 8 = .ok (.aload_n 0, 1) := by decide +kernel
theorem dX8_byteAt_9 : decode cX8_byteAt 9 = .ok (.getfield 9, 3) := by decide +kernel
theorem dX8_byteAt_12 : decode cX8_byteAt 12 = .ok (.iload_n 1, 1) := by decide +kernel
theorem dX8_byteAt_13 : decode cX8_byteAt 13 = .ok (.iaload, 1) := by decide +kernel
theorem dX8_byteAt_14 : decode cX8_byteAt 14 = .ok (.goto 4, 3) := by decide +kernel
theorem dX8_byteAt_17 : decode cX8_byteAt 17 = .ok (.iconst (-1), 1) := by decide +kernel
theorem dX8_byteAt_18 : decode cX8_byteAt 18 = .ok (.ireturn, 1) := by decide +kernel
set_option maxRecDepth 20000 in
theorem ggX8_ahead_X8_byteAt : GoodIn wsX8_ahead wsX8_byteAt := goodIn_r _ [6, 7, 8, 9, 10, 11, 12, 13, 14, 15, 16, 17, 18, 19, 20, 21, 22, 23, 24, 25, 26, 27, 28, 29] (by decide +kernel) (by decide +kernel)
set_option maxRecDepth 20000 in
theorem gX8_ahead_X8_byteAt : GoodIn wsX8_ahead (wsV RX8 68 RX8 yX8_byteAt wsX8_byteAt) := goodIn_app (goodIn_of _ (by decide +kernel)) ggX8_ahead_X8_byteAt
theorem dX8_ahead_0 : decode cX8_ahead 0 = .ok (.aload_n 0, 1) := by decide +kernel
theorem dX8_ahead_1 : decode cX8_ahead 1 = .ok (.aload_n 0, 1) := by decide +kernel
theorem dX8_ahead_2 : decode cX8_ahead 2 = .ok (.getfield 65, 3) := by decide +kernel
theorem dX8_ahead_5 : decode cX8_ahead 5 = .ok (.invokevirtual 68, 3) := by decide +kernel
theorem dX8_ahead_8 : decode cX8_ahead 8 = .ok (.bipush 32, 2) := by decide +kernel
theorem dX8_ahead_10 : decode cX8_ahead 10 = .ok (.if_icmp .ne 16, 3) := by decide +kernel
theorem dX8_ahead_13 : decode cX8_ahead 13 = .ok (.aload_n 0, 1) := by decide +kernel
theorem dX8_ahead_14 : decode cX8_ahead 14 = .ok (.dup, 1) := by decide +kernel
theorem dX8_ahead_15 : decode cX8_ahead 15 = .ok (.getfield 65, 3) := by decide +kernel
theorem dX8_ahead_18 : decode cX8_ahead 18 = .ok (.iconst 1, 1) := by decide +kernel
theorem dX8_ahead_19 : decode cX8_ahead 19 = .ok (.iadd, 1) := by decide +kernel
theorem dX8_ahead_20 : decode cX8_ahead 20 = .ok (.putfield 65, 3) := by decide +kernel
theorem dX8_ahead_23 : decode cX8_ahead 23 = .ok (.goto (-23), 3) := by decide +kernel
theorem dX8_ahead_26 : decode cX8_ahead 26 = .ok (.aload_n 0, 1) := by decide +kernel
theorem dX8_ahead_27 : decode cX8_ahead 27 = .ok (.aload_n 0, 1) := by decide +kernel
theorem dX8_ahead_28 : decode cX8_ahead 28 = .ok (.getfield 65, 3) := by decide +kernel
theorem dX8_ahead_31 : decode cX8_ahead 31 = .ok (.invokevirtual 68, 3) := by decide +kernel
theorem dX8_ahead_34 : decode cX8_ahead 34 = .ok (.ireturn, 1) := by decide +kernel
theorem dX8_isGood_0 : decode cX8_isGood 0 = .ok (.aload_n 0, 1) := by decide +kernel
theorem dX8_isGood_1 : decode cX8_isGood 1 = .ok (.getfield 71, 3) := by decide +kernel
theorem dX8_isGood_4 : decode cX8_isGood 4 = .ok (.ifCond .ne 7, 3) := by decide +kernel
theorem dX8_isGood_7 : decode cX8_isGood 7 = .ok (.iconst 1, 1) := by decide +kernel
theorem dX8_isGood_8 : decode cX8_isGood 8 = .ok (.goto 4, 3) := by decide +kernel
theorem dX8_isGood_11 : decode cX8_isGood 11 = .ok (.iconst 0, 1) := by decide +kernel
theorem dX8_isGood_12 : decode cX8_isGood 12 = .ok (.ireturn, 1) := by decide +kernel
theorem dX8_report_0 : decode cX8_report 0 = .ok (.aload_n 0, 1) := by decide +kernel
theorem dX8_report_1 : decode cX8_report 1 = .ok (.getfield 71, 3) := by decide +kernel
theorem dX8_report_4 : decode cX8_report 4 = .ok (.ifCond .eq 4, 3) := by decide +kernel
theorem dX8_report_7 : decode cX8_report 7 = .ok (.return_, 1) := by decide +kernel
theorem dX8_report_8 : decode cX8_report 8 = .ok (.aload_n 0, 1) := by decide +kernel
theorem dX8_report_9 : decode cX8_report 9 = .ok (.iload_n 1, 1) := by decide +kernel
theorem dX8_report_10 : decode cX8_report 10 = .ok (.putfield 71, 3) := by decide +kernel
theorem dX8_report_13 : decode cX8_report 13 = .ok (.aload_n 0, 1) := by decide +kernel
theorem dX8_report_14 : decode cX8_report 14 = .ok (.iload_n 2, 1) := by decide +kernel
theorem dX8_report_15 : decode cX8_report 15 = .ok (.putfield 74, 3) := by decide +kernel
theorem dX8_report_18 : decode cX8_report 18 = .ok (.return_, 1) := by decide +kernel
set_option maxRecDepth 20000 in
theorem ggX8_isDigit_X8_in : GoodIn wsX8_isDigit wsX8_in := goodIn_r _ [4] (by decide +kernel) (by decide +kernel)
set_option maxRecDepth 20000 in
theorem gX8_isDigit_X8_in : GoodIn wsX8_isDigit (va_wsS RX8 77 yX8_in wsX8_in) := goodIn_app (goodIn_of _ (by decide +kernel)) ggX8_isDigit_X8_in
theorem dX8_isDigit_0 : decode cX8_isDigit 0 = .ok (.iload_n 0, 1) := by decide +kernel
theorem dX8_isDigit_1 : decode cX8_isDigit 1 = .ok (.bipush 48, 2) := by decide +kernel
theorem dX8_isDigit_3 : decode cX8_isDigit 3 = .ok (.bipush 57, 2) := by decide +kernel
theorem dX8_isDigit_5 : decode cX8_isDigit 5 = .ok (.invokestatic 77, 3) := by decide +kernel
theorem dX8_isDigit_8 : decode cX8_isDigit 8 = .ok (.ireturn, 1) := by decide +kernel
set_option maxRecDepth 20000 in
theorem ggX8_takeWord_X8_isGood : GoodIn wsX8_takeWord wsX8_isGood := goodIn_r _ [6, 7, 70, 71, 72, 73, 74, 75, 76, 77, 78, 79, 80, 81, 82, 83, 84, 85, 86, 87, 88, 89, 90] (by decide +kernel) (by decide +kernel)
set_option maxRecDepth 20000 in
theorem gX8_takeWord_X8_isGood : GoodIn wsX8_takeWord (wsV RX8 81 RX8 yX8_isGood wsX8_isGood) := goodIn_app (goodIn_of _ (by decide +kernel)) ggX8_takeWord_X8_isGood
set_option maxRecDepth 20000 in
theorem ggX8_takeWord_X8_ahead : GoodIn wsX8_takeWord wsX8_ahead := goodIn_r _ [11, 1, 12, 13, 14, 5, 15, 16, 17, 70, 71, 72, 73, 74, 75, 76, 77, 78, 79, 80, 81, 82, 83, 84, 85, 86, 87, 88, 89, 90] (by decide +kernel) (by decide +kernel)
set_option maxRecDepth 20000 in
theorem gX8_takeWord_X8_ahead : GoodIn wsX8_takeWord (wsV RX8 85 RX8 yX8_ahead wsX8_ahead) := goodIn_app (goodIn_of _ (by decide +kernel)) ggX8_takeWord_X8_ahead
set_option maxRecDepth 20000 in
theorem ggX8_takeWord_J0_length_8abf5 : GoodIn wsX8_takeWord wsJ0_length_8abf5 := goodIn_r _ [22, 23, 24, 25, 26, 21, 27, 28, 29] (by decide +kernel) (by decide +kernel)
set_option maxRecDepth 20000 in
theorem gX8_takeWord_J0_length_8abf5 : GoodIn wsX8_takeWord (wsV RX8 89 RJ0 yJ0_length_8abf5 wsJ0_length_8abf5) := goodIn_app (goodIn_of _ (by decide +kernel)) ggX8_takeWord_J0_length_8abf5
set_option maxRecDepth 20000 in
theorem ggX8_takeWord_X8_byteAt : GoodIn wsX8_takeWord wsX8_byteAt := goodIn_r _ [15, 16, 17, 70, 71, 72, 73, 74, 75, 76, 77, 78, 79, 80, 81, 82, 83, 84, 85, 86, 87, 88, 89, 90] (by decide +kernel) (by decide +kernel)
set_option maxRecDepth 20000 in
theorem gX8_takeWord_X8_byteAt : GoodIn wsX8_takeWord (wsV RX8 68 RX8 yX8_byteAt wsX8_byteAt) := goodIn_app (goodIn_of _ (by decide +kernel)) ggX8_takeWord_X8_byteAt
set_option maxRecDepth 20000 in
theorem ggX8_takeWord_J0_charAt_5068e : GoodIn wsX8_takeWord wsJ0_charAt_5068e := goodIn_r _ [33, 23, 34, 35, 36, 21, 37, 28, 29, 38, 39, 40, 41, 42, 43, 44, 45, 46, 47, 48, 49, 50, 51, 52, 53, 54, 55, 56, 57, 58, 59, 60, 61, 62, 63, 64, 65, 66] (by decide +kernel) (by decide +kernel)
set_option maxRecDepth 20000 in
theorem gX8_takeWord_J0_charAt_5068e : GoodIn wsX8_takeWord (wsV RX8 94 RJ0 yJ0_charAt_5068e wsJ0_charAt_5068e) := goodIn_app (goodIn_of _ (by decide +kernel)) ggX8_takeWord_J0_charAt_5068e
set_option maxRecDepth 20000 in
theorem ggX8_takeWord_X8_in : GoodIn wsX8_takeWord wsX8_in := goodIn_r _ [69] (by decide +kernel) (by decide +kernel)
set_option maxRecDepth 20000 in
theorem gX8_takeWord_X8_in : GoodIn wsX8_takeWord (va_wsS RX8 77 yX8_in wsX8_in) := goodIn_app (goodIn_of _ (by decide +kernel)) ggX8_takeWord_X8_in
theorem dX8_takeWord_0 : decode cX8_takeWord 0 = .ok (.aload_n 0, 1) := by decide +kernel
theorem dX8_takeWord_1 : decode cX8_takeWord 1 = .ok (.invokevirtual 81, 3) := by decide +kernel
theorem dX8_takeWord_4 : decode cX8_takeWord 4 = .ok (.ifCond .ne 5, 3) := by decide +kernel
theorem dX8_takeWord_7 : decode cX8_takeWord 7 = .ok (.iconst 0, 1) := by decide +kernel
theorem dX8_takeWord_8 : decode cX8_takeWord 8 = .ok (.ireturn, 1) := by decide +kernel
theorem dX8_takeWord_9 : decode cX8_takeWord 9 = .ok (.aload_n 0, 1) := by decide +kernel
theorem dX8_takeWord_10 : decode cX8_takeWord 10 = .ok (.invokevirtual 85, 3) := by decide +kernel
theorem dX8_takeWord_13 : decode cX8_takeWord 13 = .ok (.pop, 1) := by decide +kernel
theorem dX8_takeWord_14 : decode cX8_takeWord 14 = .ok (.iconst 0, 1) := by decide +kernel
theorem dX8_takeWord_15 : decode cX8_takeWord 15 = .ok (.istore_n 2, 1) := by decide +kernel
theorem dX8_takeWord_16 : decode cX8_takeWord 16 = .ok (.iload_n 2, 1) := by decide +kernel
theorem dX8_takeWord_17 : decode cX8_takeWord 17 = .ok (.aload_n 1, 1) := by decide +kernel
theorem dX8_takeWord_18 : decode cX8_takeWord 18 = .ok (.invokevirtual 89, 3) := by decide +kernel
theorem dX8_takeWord_21 : decode cX8_takeWord 21 = .ok (.if_icmp .ge 27, 3) := by decide +kernel
theorem dX8_takeWord_24 : decode cX8_takeWord 24 = .ok (.aload_n 0, 1) := by decide +kernel
theorem dX8_takeWord_25 : decode cX8_takeWord 25 = .ok (.aload_n 0, 1) := by decide +kernel
theorem dX8_takeWord_26 : decode cX8_takeWord 26 = .ok (.getfield 65, 3) := by decide +kernel
theorem dX8_takeWord_29 : decode cX8_takeWord 29 = .ok (.iload_n 2, 1) := by decide +kernel
theorem dX8_takeWord_30 : decode cX8_takeWord 30 = .ok (.iadd, 1) := by decide +kernel
theorem dX8_takeWord_31 : decode cX8_takeWord 31 = .ok (.invokevirtual 68, 3) := by decide +kernel
theorem dX8_takeWord_34 : decode cX8_takeWord 34 = .ok (.aload_n 1, 1) := by decide +kernel
theorem dX8_takeWord_35 : decode cX8_takeWord 35 = .ok (.iload_n 2, 1) := by decide +kernel
theorem dX8_takeWord_36 : decode cX8_takeWord 36 = .ok (.invokevirtual 94, 3) := by decide +kernel
theorem dX8_takeWord_39 : decode cX8_takeWord 39 = .ok (.if_icmp .ne 9, 3) := by decide +kernel
theorem dX8_takeWord_42 : decode cX8_takeWord 42 = .ok (.iinc 2 1, 3) := by decide +kernel
theorem dX8_takeWord_45 : decode cX8_takeWord 45 = .ok (.goto (-29), 3) := by decide +kernel
theorem dX8_takeWord_48 : decode cX8_takeWord 48 = .ok (.iload_n 2, 1) := by decide +kernel
theorem dX8_takeWord_49 : decode cX8_takeWord 49 = .ok (.aload_n 1, 1) := by decide +kernel
theorem dX8_takeWord_50 : decode cX8_takeWord 50 = .ok (.invokevirtual 89, 3) := by decide +kernel
theorem dX8_takeWord_53 : decode cX8_takeWord 53 = .ok (.if_icmp .lt 23, 3) := by decide +kernel
theorem dX8_takeWord_56 : decode cX8_takeWord 56 = .ok (.aload_n 0, 1) := by decide +kernel
theorem dX8_takeWord_57 : decode cX8_takeWord 57 = .ok (.aload_n 0, 1) := by decide +kernel
theorem dX8_takeWord_58 : decode cX8_takeWord 58 = .ok (.getfield 65, 3) := by decide +kernel
theorem dX8_takeWord_61 : decode cX8_takeWord 61 = .ok (.iload_n 2, 1) := by decide +kernel
theorem dX8_takeWord_62 : decode cX8_takeWord 62 = .ok (.iadd, 1) := by decide +kernel
theorem dX8_takeWord_63 : decode cX8_takeWord 63 = .ok (.invokevirtual 68, 3) := by decide +kernel
theorem dX8_takeWord_66 : decode cX8_takeWord 66 = .ok (.bipush 97, 2) := by decide +kernel
theorem dX8_takeWord_68 : decode cX8_takeWord 68 = .ok (.bipush 122, 2) := by decide +kernel
theorem dX8_takeWord_70 : decode cX8_takeWord 70 = .ok (.invokestatic 77, 3) := by decide +kernel
theorem dX8_takeWord_73 : decode cX8_takeWord 73 = .ok (.ifCond .eq 5, 3) := by decide +kernel
theorem dX8_takeWord_76 : decode cX8_takeWord 76 = .ok (.iconst 0, 1) := by decide +kernel
theorem dX8_takeWord_77 : decode cX8_takeWord 77 = .ok (.ireturn, 1) := by decide +kernel
theorem dX8_takeWord_78 : decode cX8_takeWord 78 = .ok (.aload_n 0, 1) := by decide +kernel
theorem dX8_takeWord_79 : decode cX8_takeWord 79 = .ok (.dup, 1) := by decide +kernel
theorem dX8_takeWord_80 : decode cX8_takeWord 80 = .ok (.getfield 65, 3) := by decide +kernel
theorem dX8_takeWord_83 : decode cX8_takeWord 83 = .ok (.iload_n 2, 1) := by decide +kernel
theorem dX8_takeWord_84 : decode cX8_takeWord 84 = .ok (.iadd, 1) := by decide +kernel
theorem dX8_takeWord_85 : decode cX8_takeWord 85 = .ok (.putfield 65, 3) := by decide +kernel
theorem dX8_takeWord_88 : decode cX8_takeWord 88 = .ok (.iconst 1, 1) := by decide +kernel
theorem dX8_takeWord_89 : decode cX8_takeWord 89 = .ok (.ireturn, 1) := by decide +kernel
set_option maxRecDepth 20000 in
theorem ggX8_expect_X8_isGood : GoodIn wsX8_expect wsX8_isGood := goodIn_r _ [6, 7, 23, 24, 25, 26, 27, 28, 29, 30, 31, 32, 33, 34, 35, 36, 37, 38, 39, 40, 41, 42, 43] (by decide +kernel) (by decide +kernel)
set_option maxRecDepth 20000 in
theorem gX8_expect_X8_isGood : GoodIn wsX8_expect (wsV RX8 81 RX8 yX8_isGood wsX8_isGood) := goodIn_app (goodIn_of _ (by decide +kernel)) ggX8_expect_X8_isGood
set_option maxRecDepth 20000 in
theorem ggX8_expect_X8_ahead : GoodIn wsX8_expect wsX8_ahead := goodIn_r _ [11, 1, 12, 13, 14, 5, 15, 16, 17, 23, 24, 25, 26, 27, 28, 29, 30, 31, 32, 33, 34, 35, 36, 37, 38, 39, 40, 41, 42, 43] (by decide +kernel) (by decide +kernel)
set_option maxRecDepth 20000 in
theorem gX8_expect_X8_ahead : GoodIn wsX8_expect (wsV RX8 85 RX8 yX8_ahead wsX8_ahead) := goodIn_app (goodIn_of _ (by decide +kernel)) ggX8_expect_X8_ahead
set_option maxRecDepth 20000 in
theorem ggX8_expect_X8_report : GoodIn wsX8_expect wsX8_report := goodIn_r _ [21, 7, 22, 23, 24, 25, 26, 27, 28, 29, 30, 31, 32, 33, 34, 35, 36, 37, 38, 39, 40, 41, 42, 43] (by decide +kernel) (by decide +kernel)
set_option maxRecDepth 20000 in
theorem gX8_expect_X8_report : GoodIn wsX8_expect (wsV RX8 98 RX8 yX8_report wsX8_report) := goodIn_app (goodIn_of _ (by decide +kernel)) ggX8_expect_X8_report
theorem dX8_expect_0 : decode cX8_expect 0 = .ok (.aload_n 0, 1) := by decide +kernel
theorem dX8_expect_1 : decode cX8_expect 1 = .ok (.invokevirtual 81, 3) := by decide +kernel
theorem dX8_expect_4 : decode cX8_expect 4 = .ok (.ifCond .ne 4, 3) := by decide +kernel
theorem dX8_expect_7 : decode cX8_expect 7 = .ok (.return_, 1) := by decide +kernel
theorem dX8_expect_8 : decode cX8_expect 8 = .ok (.aload_n 0, 1) := by decide +kernel
theorem dX8_expect_9 : decode cX8_expect 9 = .ok (.invokevirtual 85, 3) := by decide +kernel
theorem dX8_expect_12 : decode cX8_expect 12 = .ok (.iload_n 1, 1) := by decide +kernel
theorem dX8_expect_13 : decode cX8_expect 13 = .ok (.if_icmp .ne 16, 3) := by decide +kernel
theorem dX8_expect_16 : decode cX8_expect 16 = .ok (.aload_n 0, 1) := by decide +kernel
theorem dX8_expect_17 : decode cX8_expect 17 = .ok (.dup, 1) := by decide +kernel
theorem dX8_expect_18 : decode cX8_expect 18 = .ok (.getfield 65, 3) := by decide +kernel
theorem dX8_expect_21 : decode cX8_expect 21 = .ok (.iconst 1, 1) := by decide +kernel
theorem dX8_expect_22 : decode cX8_expect 22 = .ok (.iadd, 1) := by decide +kernel
theorem dX8_expect_23 : decode cX8_expect 23 = .ok (.putfield 65, 3) := by decide +kernel
theorem dX8_expect_26 : decode cX8_expect 26 = .ok (.goto 13, 3) := by decide +kernel
theorem dX8_expect_29 : decode cX8_expect 29 = .ok (.aload_n 0, 1) := by decide +kernel
theorem dX8_expect_30 : decode cX8_expect 30 = .ok (.bipush (-2), 2) := by decide +kernel
theorem dX8_expect_32 : decode cX8_expect 32 = .ok (.aload_n 0, 1) := by decide +kernel
theorem dX8_expect_33 : decode cX8_expect 33 = .ok (.getfield 65, 3) := by decide +kernel
theorem dX8_expect_36 : decode cX8_expect 36 = .ok (.invokevirtual 98, 3) := by decide +kernel
theorem dX8_expect_39 : decode cX8_expect 39 = .ok (.return_, 1) := by decide +kernel
set_option maxRecDepth 20000 in
theorem ggX8_number_X8_isGood : GoodIn wsX8_number wsX8_isGood := goodIn_r _ [8, 9, 34, 35, 36, 37, 38, 39, 40, 41, 42, 43, 44, 45, 46, 47, 48, 49, 50, 51, 52, 53, 54] (by decide +kernel) (by decide +kernel)
set_option maxRecDepth 20000 in
theorem gX8_number_X8_isGood : GoodIn wsX8_number (wsV RX8 81 RX8 yX8_isGood wsX8_isGood) := goodIn_app (goodIn_of _ (by decide +kernel)) ggX8_number_X8_isGood
set_option maxRecDepth 20000 in
theorem ggX8_number_X8_ahead : GoodIn wsX8_number wsX8_ahead := goodIn_r _ [13, 1, 14, 15, 16, 7, 17, 18, 19, 34, 35, 36, 37, 38, 39, 40, 41, 42, 43, 44, 45, 46, 47, 48, 49, 50, 51, 52, 53, 54] (by decide +kernel) (by decide +kernel)
set_option maxRecDepth 20000 in
theorem gX8_number_X8_ahead : GoodIn wsX8_number (wsV RX8 85 RX8 yX8_ahead wsX8_ahead) := goodIn_app (goodIn_of _ (by decide +kernel)) ggX8_number_X8_ahead
set_option maxRecDepth 20000 in
theorem ggX8_number_X8_isDigit : GoodIn wsX8_number wsX8_isDigit := goodIn_r _ [22, 23, 24, 7, 25] (by decide +kernel) (by decide +kernel)
set_option maxRecDepth 20000 in
theorem gX8_number_X8_isDigit : GoodIn wsX8_number (va_wsS RX8 102 yX8_isDigit wsX8_isDigit) := goodIn_app (goodIn_of _ (by decide +kernel)) ggX8_number_X8_isDigit
set_option maxRecDepth 20000 in
theorem ggX8_number_X8_report : GoodIn wsX8_number wsX8_report := goodIn_r _ [29, 9, 30, 34, 35, 36, 37, 38, 39, 40, 41, 42, 43, 44, 45, 46, 47, 48, 49, 50, 51, 52, 53, 54] (by decide +kernel) (by decide +kernel)
set_option maxRecDepth 20000 in
theorem gX8_number_X8_report : GoodIn wsX8_number (wsV RX8 98 RX8 yX8_report wsX8_report) := goodIn_app (goodIn_of _ (by decide +kernel)) ggX8_number_X8_report
set_option maxRecDepth 20000 in
theorem ggX8_number_X8_byteAt : GoodIn wsX8_number wsX8_byteAt := goodIn_r _ [17, 18, 19, 34, 35, 36, 37, 38, 39, 40, 41, 42, 43, 44, 45, 46, 47, 48, 49, 50, 51, 52, 53, 54] (by decide +kernel) (by decide +kernel)
set_option maxRecDepth 20000 in
theorem gX8_number_X8_byteAt : GoodIn wsX8_number (wsV RX8 68 RX8 yX8_byteAt wsX8_byteAt) := goodIn_app (goodIn_of _ (by decide +kernel)) ggX8_number_X8_byteAt
set_option maxRecDepth 20000 in
theorem ggX8_number_X8_min : GoodIn wsX8_number wsX8_min := goodIn_r _ [33] (by decide +kernel) (by decide +kernel)
set_option maxRecDepth 20000 in
theorem gX8_number_X8_min : GoodIn wsX8_number (va_wsS RX8 110 yX8_min wsX8_min) := goodIn_app (goodIn_of _ (by decide +kernel)) ggX8_number_X8_min
set_option maxRecDepth 20000 in
theorem ggX8_number_X8_in : GoodIn wsX8_number wsX8_in := goodIn_r _ [25] (by decide +kernel) (by decide +kernel)
set_option maxRecDepth 20000 in
theorem gX8_number_X8_in : GoodIn wsX8_number (va_wsS RX8 77 yX8_in wsX8_in) := goodIn_app (goodIn_of _ (by decide +kernel)) ggX8_number_X8_in
theorem dX8_number_0 : decode cX8_number 0 = .ok (.aload_n 0, 1) := by decide +kernel
theorem dX8_number_1 : decode cX8_number 1 = .ok (.invokevirtual 81, 3) := by decide +kernel
theorem dX8_number_4 : decode cX8_number 4 = .ok (.ifCond .ne 5, 3) := by decide +kernel
theorem dX8_number_7 : decode cX8_number 7 = .ok (.iconst 0, 1) := by decide +kernel
theorem dX8_number_8 : decode cX8_number 8 = .ok (.ireturn, 1) := by decide +kernel
theorem dX8_number_9 : decode cX8_number 9 = .ok (.aload_n 0, 1) := by decide +kernel
theorem dX8_number_10 : decode cX8_number 10 = .ok (.invokevirtual 85, 3) := by decide +kernel
theorem dX8_number_13 : decode cX8_number 13 = .ok (.invokestatic 102, 3) := by decide +kernel
theorem dX8_number_16 : decode cX8_number 16 = .ok (.ifCond .ne 15, 3) := by decide +kernel
theorem dX8_number_19 : decode cX8_number 19 = .ok (.aload_n 0, 1) := by decide +kernel
theorem dX8_number_20 : decode cX8_number 20 = .ok (.bipush (-2), 2) := by decide +kernel
theorem dX8_number_22 : decode cX8_number 22 = .ok (.aload_n 0, 1) := by decide +kernel
theorem dX8_number_23 : decode cX8_number 23 = .ok (.getfield 65, 3) := by decide +kernel
theorem dX8_number_26 : decode cX8_number 26 = .ok (.invokevirtual 98, 3) := by decide +kernel
theorem dX8_number_29 : decode cX8_number 29 = .ok (.iconst 0, 1) := by decide +kernel
theorem dX8_number_30 : decode cX8_number 30 = .ok (.ireturn, 1) := by decide +kernel
theorem dX8_number_31 : decode cX8_number 31 = .ok (.aload_n 0, 1) := by decide +kernel
theorem dX8_number_32 : decode cX8_number 32 = .ok (.aload_n 0, 1) := by decide +kernel
theorem dX8_number_33 : decode cX8_number 33 = .ok (.getfield 65, 3) := by decide +kernel
theorem dX8_number_36 : decode cX8_number 36 = .ok (.putfield 106, 3) := by decide +kernel
theorem dX8_number_39 : decode cX8_number 39 = .ok (.iconst 0, 1) := by decide +kernel
theorem dX8_number_40 : decode cX8_number 40 = .ok (.istore_n 3, 1) := by decide +kernel
theorem dX8_number_41 : decode cX8_number 41 = .ok (.aload_n 0, 1) := by decide +kernel
theorem dX8_number_42 : decode cX8_number 42 = .ok (.aload_n 0, 1) := by decide +kernel
theorem dX8_number_43 : decode cX8_number 43 = .ok (.getfield 65, 3) := by decide +kernel
theorem dX8_number_46 : decode cX8_number 46 = .ok (.invokevirtual 68, 3) := by decide +kernel
theorem dX8_number_49 : decode cX8_number 49 = .ok (.invokestatic 102, 3) := by decide +kernel
theorem dX8_number_52 : decode cX8_number 52 = .ok (.ifCond .eq 38, 3) := by decide +kernel
theorem dX8_number_55 : decode cX8_number 55 = .ok (.ldc 109, 2) := by decide +kernel
theorem dX8_number_57 : decode cX8_number 57 = .ok (.bipush 10, 2) := by decide +kernel
theorem dX8_number_59 : decode cX8_number 59 = .ok (.iload_n 3, 1) := by decide +kernel
theorem dX8_number_60 : decode cX8_number 60 = .ok (.imul, 1) := by decide +kernel
theorem dX8_number_61 : decode cX8_number 61 = .ok (.aload_n 0, 1) := by decide +kernel
theorem dX8_number_62 : decode cX8_number 62 = .ok (.aload_n 0, 1) := by decide +kernel
theorem dX8_number_63 : decode cX8_number 63 = .ok (.getfield 65, 3) := by decide +kernel
theorem dX8_number_66 : decode cX8_number 66 = .ok (.invokevirtual 68, 3) := by decide +kernel
theorem dX8_number_69 : decode cX8_number 69 = .ok (.iadd, 1) := by decide +kernel
theorem dX8_number_70 : decode cX8_number 70 = .ok (.bipush 48, 2) := by decide +kernel
theorem dX8_number_72 : decode cX8_number 72 = .ok (.isub, 1) := by decide +kernel
theorem dX8_number_73 : decode cX8_number 73 = .ok (.invokestatic 110, 3) := by decide +kernel
theorem dX8_number_76 : decode cX8_number 76 = .ok (.istore_n 3, 1) := by decide +kernel
theorem dX8_number_77 : decode cX8_number 77 = .ok (.aload_n 0, 1) := by decide +kernel
theorem dX8_number_78 : decode cX8_number 78 = .ok (.dup, 1) := by decide +kernel
theorem dX8_number_79 : decode cX8_number 79 = .ok (.getfield 65, 3) := by decide +kernel
theorem dX8_number_82 : decode cX8_number 82 = .ok (.iconst 1, 1) := by decide +kernel
theorem dX8_number_83 : decode cX8_number 83 = .ok (.iadd, 1) := by decide +kernel
theorem dX8_number_84 : decode cX8_number 84 = .ok (.putfield 65, 3) := by decide +kernel
theorem dX8_number_87 : decode cX8_number 87 = .ok (.goto (-46), 3) := by decide +kernel
theorem dX8_number_90 : decode cX8_number 90 = .ok (.iload_n 3, 1) := by decide +kernel
theorem dX8_number_91 : decode cX8_number 91 = .ok (.iload_n 1, 1) := by decide +kernel
theorem dX8_number_92 : decode cX8_number 92 = .ok (.iload_n 2, 1) := by decide +kernel
theorem dX8_number_93 : decode cX8_number 93 = .ok (.invokestatic 77, 3) := by decide +kernel
theorem dX8_number_96 : decode cX8_number 96 = .ok (.ifCond .ne 13, 3) := by decide +kernel
theorem dX8_number_99 : decode cX8_number 99 = .ok (.aload_n 0, 1) := by decide +kernel
theorem dX8_number_100 : decode cX8_number 100 = .ok (.bipush (-3), 2) := by decide +kernel
theorem dX8_number_102 : decode cX8_number 102 = .ok (.aload_n 0, 1) := by decide +kernel
theorem dX8_number_103 : decode cX8_number 103 = .ok (.getfield 106, 3) := by decide +kernel
theorem dX8_number_106 : decode cX8_number 106 = .ok (.invokevirtual 98, 3) := by decide +kernel
theorem dX8_number_109 : decode cX8_number 109 = .ok (.aload_n 0, 1) := by decide +kernel
theorem dX8_number_110 : decode cX8_number 110 = .ok (.invokevirtual 81, 3) := by decide +kernel
theorem dX8_number_113 : decode cX8_number 113 = .ok (.ifCond .eq 7, 3) := by decide +kernel
theorem dX8_number_116 : decode cX8_number 116 = .ok (.iload_n 3, 1) := by decide +kernel
theorem dX8_number_117 : decode cX8_number 117 = .ok (.goto 4, 3) := by decide +kernel
theorem dX8_number_120 : decode cX8_number 120 = .ok (.iconst 0, 1) := by decide +kernel
theorem dX8_number_121 : decode cX8_number 121 = .ok (.ireturn, 1) := by decide +kernel
set_option maxRecDepth 20000 in
theorem ggX8_emit_X8_isGood : GoodIn wsX8_emit wsX8_isGood := goodIn_r _ [6, 7, 8, 9, 10, 11, 12, 13, 14, 15, 16, 17, 18, 19, 20, 21, 22, 23, 24, 25, 26, 27, 28] (by decide +kernel) (by decide +kernel)
set_option maxRecDepth 20000 in
theorem gX8_emit_X8_isGood : GoodIn wsX8_emit (wsV RX8 81 RX8 yX8_isGood wsX8_isGood) := goodIn_app (goodIn_of _ (by decide +kernel)) ggX8_emit_X8_isGood
theorem dX8_emit_0 : decode cX8_emit 0 = .ok (.aload_n 0, 1) := by decide +kernel
theorem dX8_emit_1 : decode cX8_emit 1 = .ok (.invokevirtual 81, 3) := by decide +kernel
theorem dX8_emit_4 : decode cX8_emit 4 = .ok (.ifCond .ne 4, 3) := by decide +kernel
theorem dX8_emit_7 : decode cX8_emit 7 = .ok (.return_, 1) := by decide +kernel
theorem dX8_emit_8 : decode cX8_emit 8 = .ok (.aload_n 0, 1) := by decide +kernel
theorem dX8_emit_9 : decode cX8_emit 9 = .ok (.getfield 20, 3) := by decide +kernel
theorem dX8_emit_12 : decode cX8_emit 12 = .ok (.sipush 602, 3) := by decide +kernel
theorem dX8_emit_15 : decode cX8_emit 15 = .ok (.aload_n 0, 1) := by decide +kernel
theorem dX8_emit_16 : decode cX8_emit 16 = .ok (.getfield 20, 3) := by decide +kernel
theorem dX8_emit_19 : decode cX8_emit 19 = .ok (.bipush 9, 2) := by decide +kernel
theorem dX8_emit_21 : decode cX8_emit 21 = .ok (.iaload, 1) := by decide +kernel
theorem dX8_emit_22 : decode cX8_emit 22 = .ok (.iadd, 1) := by decide +kernel
theorem dX8_emit_23 : decode cX8_emit 23 = .ok (.iload_n 1, 1) := by decide +kernel
theorem dX8_emit_24 : decode cX8_emit 24 = .ok (.iastore, 1) := by decide +kernel
theorem dX8_emit_25 : decode cX8_emit 25 = .ok (.aload_n 0, 1) := by decide +kernel
theorem dX8_emit_26 : decode cX8_emit 26 = .ok (.getfield 20, 3) := by decide +kernel
theorem dX8_emit_29 : decode cX8_emit 29 = .ok (.bipush 9, 2) := by decide +kernel
theorem dX8_emit_31 : decode cX8_emit 31 = .ok (.dup2, 1) := by decide +kernel
theorem dX8_emit_32 : decode cX8_emit 32 = .ok (.iaload, 1) := by decide +kernel
theorem dX8_emit_33 : decode cX8_emit 33 = .ok (.iconst 1, 1) := by decide +kernel
theorem dX8_emit_34 : decode cX8_emit 34 = .ok (.iadd, 1) := by decide +kernel
theorem dX8_emit_35 : decode cX8_emit 35 = .ok (.iastore, 1) := by decide +kernel
theorem dX8_emit_36 : decode cX8_emit 36 = .ok (.return_, 1) := by decide +kernel
set_option maxRecDepth 20000 in
theorem ggX8_factor_X8_isGood : GoodIn wsX8_factor wsX8_isGood := goodIn_r _ [7, 8, 112, 113, 114, 115, 116, 117, 118, 119, 120, 121, 122, 123, 124, 125, 126, 127, 128, 129, 130, 131, 132] (by decide +kernel) (by decide +kernel)
set_option maxRecDepth 20000 in
theorem gX8_factor_X8_isGood : GoodIn wsX8_factor (wsV RX8 81 RX8 yX8_isGood wsX8_isGood) := goodIn_app (goodIn_of _ (by decide +kernel)) ggX8_factor_X8_isGood
set_option maxRecDepth 20000 in
theorem ggX8_factor_X8_ahead : GoodIn wsX8_factor wsX8_ahead := goodIn_r _ [12, 2, 13, 14, 15, 6, 16, 17, 18, 112, 113, 114, 115, 116, 117, 118, 119, 120, 121, 122, 123, 124, 125, 126, 127, 128, 129, 130, 131, 132] (by decide +kernel) (by decide +kernel)
set_option maxRecDepth 20000 in
theorem gX8_factor_X8_ahead : GoodIn wsX8_factor (wsV RX8 85 RX8 yX8_ahead wsX8_ahead) := goodIn_app (goodIn_of _ (by decide +kernel)) ggX8_factor_X8_ahead
set_option maxRecDepth 20000 in
theorem ggX8_factor_X8_report : GoodIn wsX8_factor wsX8_report := goodIn_r _ [22, 8, 23, 112, 113, 114, 115, 116, 117, 118, 119, 120, 121, 122, 123, 124, 125, 126, 127, 128, 129, 130, 131, 132] (by decide +kernel) (by decide +kernel)
set_option maxRecDepth 20000 in
theorem gX8_factor_X8_report : GoodIn wsX8_factor (wsV RX8 98 RX8 yX8_report wsX8_report) := goodIn_app (goodIn_of _ (by decide +kernel)) ggX8_factor_X8_report
set_option maxRecDepth 20000 in
theorem ggX8_factor_X8_readSum : GoodIn wsX8_factor wsX8_readSum := goodIn_r _ [104, 2, 105, 106, 107, 6, 3, 4, 5, 7, 8, 9, 10, 11, 12, 13, 14, 15, 16, 17, 18, 99, 100, 101, 102, 103, 0, 1, 19, 20, 21, 22, 23, 24, 25, 26, 27, 28, 29, 30, 31, 32, 33, 34, 35, 36, 37, 38, 39, 40, 41, 42, 43, 44, 45, 46, 47, 48, 49, 50, 51, 52, 53, 54, 55, 56, 57, 58, 59, 60, 61, 62, 63, 64, 65, 66, 67, 68, 69, 70, 71, 72, 73, 74, 75, 76, 77, 78, 79, 80, 81, 82, 83, 84, 85, 86, 87, 88, 89, 90, 91, 92, 93, 94, 95, 96, 97, 98, 108, 109, 110, 111, 112, 113, 114, 115, 116, 117, 118, 119, 120, 121, 122, 123, 124, 125, 126, 127, 128, 129, 130, 131, 132] (by decide +kernel) (by decide +kernel)
set_option maxRecDepth 20000 in
theorem gX8_factor_X8_readSum : GoodIn wsX8_factor (wsV RX8 117 RX8 yX8_readSum wsX8_readSum) := goodIn_app (goodIn_of _ (by decide +kernel)) ggX8_factor_X8_readSum
set_option maxRecDepth 20000 in
theorem ggX8_factor_X8_expect : GoodIn wsX8_factor wsX8_expect := goodIn_r _ [30, 2, 3, 4, 5, 6, 7, 8, 9, 10, 11, 12, 13, 14, 15, 16, 17, 18, 19, 20, 21, 22, 23, 112, 113, 114, 115, 116, 117, 118, 119, 120, 121, 122, 123, 124, 125, 126, 127, 128, 129, 130, 131, 132] (by decide +kernel) (by decide +kernel)
set_option maxRecDepth 20000 in
theorem gX8_factor_X8_expect : GoodIn wsX8_factor (wsV RX8 120 RX8 yX8_expect wsX8_expect) := goodIn_app (goodIn_of _ (by decide +kernel)) ggX8_factor_X8_expect
set_option maxRecDepth 20000 in
theorem ggX8_factor_X8_isDigit : GoodIn wsX8_factor wsX8_isDigit := goodIn_r _ [33, 34, 35, 6, 36] (by decide +kernel) (by decide +kernel)
set_option maxRecDepth 20000 in
theorem gX8_factor_X8_isDigit : GoodIn wsX8_factor (va_wsS RX8 102 yX8_isDigit wsX8_isDigit) := goodIn_app (goodIn_of _ (by decide +kernel)) ggX8_factor_X8_isDigit
set_option maxRecDepth 20000 in
theorem ggX8_factor_X8_takeWord : GoodIn wsX8_factor wsX8_takeWord := goodIn_r _ [40, 2, 3, 4, 5, 6, 7, 8, 9, 10, 11, 12, 13, 14, 15, 16, 17, 18, 41, 42, 43, 44, 45, 46, 47, 48, 49, 50, 51, 52, 53, 54, 55, 56, 57, 58, 59, 60, 61, 62, 63, 64, 65, 66, 67, 68, 69, 70, 71, 72, 73, 74, 75, 76, 77, 78, 79, 80, 81, 82, 83, 84, 85, 86, 87, 88, 89, 34, 35, 36, 112, 113, 114, 115, 116, 117, 118, 119, 120, 121, 122, 123, 124, 125, 126, 127, 128, 129, 130, 131, 132] (by decide +kernel) (by decide +kernel)
set_option maxRecDepth 20000 in
theorem gX8_factor_X8_takeWord : GoodIn wsX8_factor (wsV RX8 126 RX8 yX8_takeWord wsX8_takeWord) := goodIn_app (goodIn_of _ (by decide +kernel)) ggX8_factor_X8_takeWord
set_option maxRecDepth 20000 in
theorem ggX8_factor_X8_number : GoodIn wsX8_factor wsX8_number := goodIn_r _ [93, 2, 94, 95, 3, 4, 5, 6, 7, 8, 9, 10, 11, 12, 13, 14, 15, 16, 17, 18, 31, 32, 33, 34, 35, 36, 19, 20, 21, 22, 23, 96, 97, 98, 112, 113, 114, 115, 116, 117, 118, 119, 120, 121, 122, 123, 124, 125, 126, 127, 128, 129, 130, 131, 132] (by decide +kernel) (by decide +kernel)
set_option maxRecDepth 20000 in
theorem gX8_factor_X8_number : GoodIn wsX8_factor (wsV RX8 140 RX8 yX8_number wsX8_number) := goodIn_app (goodIn_of _ (by decide +kernel)) ggX8_factor_X8_number
set_option maxRecDepth 20000 in
theorem ggX8_factor_X8_emit : GoodIn wsX8_factor wsX8_emit := goodIn_r _ [102, 103, 3, 4, 5, 6, 7, 8, 112, 113, 114, 115, 116, 117, 118, 119, 120, 121, 122, 123, 124, 125, 126, 127, 128, 129, 130, 131, 132] (by decide +kernel) (by decide +kernel)
set_option maxRecDepth 20000 in
theorem gX8_factor_X8_emit : GoodIn wsX8_factor (wsV RX8 143 RX8 yX8_emit wsX8_emit) := goodIn_app (goodIn_of _ (by decide +kernel)) ggX8_factor_X8_emit
theorem dX8_factor_0 : decode cX8_factor 0 = .ok (.aload_n 0, 1) := by decide +kernel
theorem dX8_factor_1 : decode cX8_factor 1 = .ok (.invokevirtual 81, 3) := by decide +kernel
theorem dX8_factor_4 : decode cX8_factor 4 = .ok (.ifCond .ne 4, 3) := by decide +kernel
theorem dX8_factor_7 : decode cX8_factor 7 = .ok (.return_, 1) := by decide +kernel
theorem dX8_factor_8 : decode cX8_factor 8 = .ok (.aload_n 0, 1) := by decide +kernel
theorem dX8_factor_9 : decode cX8_factor 9 = .ok (.invokevirtual 85, 3) := by decide +kernel
theorem dX8_factor_12 : decode cX8_factor 12 = .ok (.istore_n 1, 1) := by decide +kernel
theorem dX8_factor_13 : decode cX8_factor 13 = .ok (.iload_n 1, 1) := by decide +kernel
theorem dX8_factor_14 : decode cX8_factor 14 = .ok (.bipush 40, 2) := by decide +kernel
theorem dX8_factor_16 : decode cX8_factor 16 = .ok (.if_icmp .ne 62, 3) := by decide +kernel
theorem dX8_factor_19 : decode cX8_factor 19 = .ok (.aload_n 0, 1) := by decide +kernel
theorem dX8_factor_20 : decode cX8_factor 20 = .ok (.getfield 114, 3) := by decide +kernel
theorem dX8_factor_23 : decode cX8_factor 23 = .ok (.iconst 4, 1) := by decide +kernel
theorem dX8_factor_24 : decode cX8_factor 24 = .ok (.if_icmp .ne 13, 3) := by decide +kernel
theorem dX8_factor_27 : decode cX8_factor 27 = .ok (.aload_n 0, 1) := by decide +kernel
theorem dX8_factor_28 : decode cX8_factor 28 = .ok (.bipush (-6), 2) := by decide +kernel
theorem dX8_factor_30 : decode cX8_factor 30 = .ok (.aload_n 0, 1) := by decide +kernel
theorem dX8_factor_31 : decode cX8_factor 31 = .ok (.getfield 65, 3) := by decide +kernel
theorem dX8_factor_34 : decode cX8_factor 34 = .ok (.invokevirtual 98, 3) := by decide +kernel
theorem dX8_factor_37 : decode cX8_factor 37 = .ok (.aload_n 0, 1) := by decide +kernel
theorem dX8_factor_38 : decode cX8_factor 38 = .ok (.dup, 1) := by decide +kernel
theorem dX8_factor_39 : decode cX8_factor 39 = .ok (.getfield 65, 3) := by decide +kernel
theorem dX8_factor_42 : decode cX8_factor 42 = .ok (.iconst 1, 1) := by decide +kernel
theorem dX8_factor_43 : decode cX8_factor 43 = .ok (.iadd, 1) := by decide +kernel
theorem dX8_factor_44 : decode cX8_factor 44 = .ok (.putfield 65, 3) := by decide +kernel
theorem dX8_factor_47 : decode cX8_factor 47 = .ok (.aload_n 0, 1) := by decide +kernel
theorem dX8_factor_48 : decode cX8_factor 48 = .ok (.dup, 1) := by decide +kernel
theorem dX8_factor_49 : decode cX8_factor 49 = .ok (.getfield 114, 3) := by decide +kernel
theorem dX8_factor_52 : decode cX8_factor 52 = .ok (.iconst 1, 1) := by decide +kernel
theorem dX8_factor_53 : decode cX8_factor 53 = .ok (.iadd, 1) := by decide +kernel
theorem dX8_factor_54 : decode cX8_factor 54 = .ok (.putfield 114, 3) := by decide +kernel
theorem dX8_factor_57 : decode cX8_factor 57 = .ok (.aload_n 0, 1) := by decide +kernel
theorem dX8_factor_58 : decode cX8_factor 58 = .ok (.invokevirtual 117, 3) := by decide +kernel
theorem dX8_factor_61 : decode cX8_factor 61 = .ok (.aload_n 0, 1) := by decide +kernel
theorem dX8_factor_62 : decode cX8_factor 62 = .ok (.bipush 41, 2) := by decide +kernel
theorem dX8_factor_64 : decode cX8_factor 64 = .ok (.invokevirtual 120, 3) := by decide +kernel
theorem dX8_factor_67 : decode cX8_factor 67 = .ok (.aload_n 0, 1) := by decide +kernel
theorem dX8_factor_68 : decode cX8_factor 68 = .ok (.dup, 1) := by decide +kernel
theorem dX8_factor_69 : decode cX8_factor 69 = .ok (.getfield 114, 3) := by decide +kernel
theorem dX8_factor_72 : decode cX8_factor 72 = .ok (.iconst 1, 1) := by decide +kernel
theorem dX8_factor_73 : decode cX8_factor 73 = .ok (.isub, 1) := by decide +kernel
theorem dX8_factor_74 : decode cX8_factor 74 = .ok (.putfield 114, 3) := by decide +kernel
theorem dX8_factor_77 : decode cX8_factor 77 = .ok (.return_, 1) := by decide +kernel
theorem dX8_factor_78 : decode cX8_factor 78 = .ok (.iload_n 1, 1) := by decide +kernel
theorem dX8_factor_79 : decode cX8_factor 79 = .ok (.invokestatic 102, 3) := by decide +kernel
theorem dX8_factor_82 : decode cX8_factor 82 = .ok (.ifCond .eq 7, 3) := by decide +kernel
theorem dX8_factor_85 : decode cX8_factor 85 = .ok (.iconst (-1), 1) := by decide +kernel
theorem dX8_factor_86 : decode cX8_factor 86 = .ok (.goto 82, 3) := by decide +kernel
theorem dX8_factor_89 : decode cX8_factor 89 = .ok (.aload_n 0, 1) := by decide +kernel
theorem dX8_factor_90 : decode cX8_factor 90 = .ok (.ldc 124, 2) := by decide +kernel
theorem dX8_factor_92 : decode cX8_factor 92 = .ok (.invokevirtual 126, 3) := by decide +kernel
theorem dX8_factor_95 : decode cX8_factor 95 = .ok (.ifCond .eq 7, 3) := by decide +kernel
theorem dX8_factor_98 : decode cX8_factor 98 = .ok (.iconst 0, 1) := by decide +kernel
theorem dX8_factor_99 : decode cX8_factor 99 = .ok (.goto 69, 3) := by decide +kernel
theorem dX8_factor_102 : decode cX8_factor 102 = .ok (.aload_n 0, 1) := by decide +kernel
theorem dX8_factor_103 : decode cX8_factor 103 = .ok (.ldc 130, 2) := by decide +kernel
theorem dX8_factor_105 : decode cX8_factor 105 = .ok (.invokevirtual 126, 3) := by decide +kernel
theorem dX8_factor_108 : decode cX8_factor 108 = .ok (.ifCond .eq 7, 3) := by decide +kernel
theorem dX8_factor_111 : decode cX8_factor 111 = .ok (.iconst 1, 1) := by decide +kernel
theorem dX8_factor_112 : decode cX8_factor 112 = .ok (.goto 56, 3) := by decide +kernel
theorem dX8_factor_115 : decode cX8_factor 115 = .ok (.aload_n 0, 1) := by decide +kernel
theorem dX8_factor_116 : decode cX8_factor 116 = .ok (.ldc 132, 2) := by decide +kernel
theorem dX8_factor_118 : decode cX8_factor 118 = .ok (.invokevirtual 126, 3) := by decide +kernel
theorem dX8_factor_121 : decode cX8_factor 121 = .ok (.ifCond .eq 7, 3) := by decide +kernel
theorem dX8_factor_124 : decode cX8_factor 124 = .ok (.iconst 2, 1) := by decide +kernel
theorem dX8_factor_125 : decode cX8_factor 125 = .ok (.goto 43, 3) := by decide +kernel
theorem dX8_factor_128 : decode cX8_factor 128 = .ok (.aload_n 0, 1) := by decide +kernel
theorem dX8_factor_129 : decode cX8_factor 129 = .ok (.ldc 134, 2) := by decide +kernel
theorem dX8_factor_131 : decode cX8_factor 131 = .ok (.invokevirtual 126, 3) := by decide +kernel
theorem dX8_factor_134 : decode cX8_factor 134 = .ok (.ifCond .eq 7, 3) := by decide +kernel
theorem dX8_factor_137 : decode cX8_factor 137 = .ok (.iconst 3, 1) := by decide +kernel
theorem dX8_factor_138 : decode cX8_factor 138 = .ok (.goto 30, 3) := by decide +kernel
theorem dX8_factor_141 : decode cX8_factor 141 = .ok (.aload_n 0, 1) := by decide +kernel
theorem dX8_factor_142 : decode cX8_factor 142 = .ok (.ldc 136, 2) := by decide +kernel
theorem dX8_factor_144 : decode cX8_factor 144 = .ok (.invokevirtual 126, 3) := by decide +kernel
theorem dX8_factor_147 : decode cX8_factor 147 = .ok (.ifCond .eq 7, 3) := by decide +kernel
theorem dX8_factor_150 : decode cX8_factor 150 = .ok (.iconst 4, 1) := by decide +kernel
theorem dX8_factor_151 : decode cX8_factor 151 = .ok (.goto 17, 3) := by decide +kernel
theorem dX8_factor_154 : decode cX8_factor 154 = .ok (.aload_n 0, 1) := by decide +kernel
theorem dX8_factor_155 : decode cX8_factor 155 = .ok (.ldc 138, 2) := by decide +kernel
theorem dX8_factor_157 : decode cX8_factor 157 = .ok (.invokevirtual 126, 3) := by decide +kernel
theorem dX8_factor_160 : decode cX8_factor 160 = .ok (.ifCond .eq 7, 3) := by decide +kernel
theorem dX8_factor_163 : decode cX8_factor 163 = .ok (.iconst 5, 1) := by decide +kernel
theorem dX8_factor_164 : decode cX8_factor 164 = .ok (.goto 4, 3) := by decide +kernel
theorem dX8_factor_167 : decode cX8_factor 167 = .ok (.iconst (-1), 1) := by decide +kernel
theorem dX8_factor_168 : decode cX8_factor 168 = .ok (.istore_n 2, 1) := by decide +kernel
theorem dX8_factor_169 : decode cX8_factor 169 = .ok (.iload_n 2, 1) := by decide +kernel
theorem dX8_factor_170 : decode cX8_factor 170 = .ok (.ifCond .ge 14, 3) := by decide +kernel
theorem dX8_factor_173 : decode cX8_factor 173 = .ok (.aload_n 0, 1) := by decide +kernel
theorem dX8_factor_174 : decode cX8_factor 174 = .ok (.iconst 0, 1) := by decide +kernel
theorem dX8_factor_175 : decode cX8_factor 175 = .ok (.sipush 9999, 3) := by decide +kernel
theorem dX8_factor_178 : decode cX8_factor 178 = .ok (.invokevirtual 140, 3) := by decide +kernel
theorem dX8_factor_181 : decode cX8_factor 181 = .ok (.goto 4, 3) := by decide +kernel
theorem dX8_factor_184 : decode cX8_factor 184 = .ok (.iload_n 2, 1) := by decide +kernel
theorem dX8_factor_185 : decode cX8_factor 185 = .ok (.istore_n 3, 1) := by decide +kernel
theorem dX8_factor_186 : decode cX8_factor 186 = .ok (.aload_n 0, 1) := by decide +kernel
theorem dX8_factor_187 : decode cX8_factor 187 = .ok (.iload_n 2, 1) := by decide +kernel
theorem dX8_factor_188 : decode cX8_factor 188 = .ok (.ifCond .ge 7, 3) := by decide +kernel
theorem dX8_factor_191 : decode cX8_factor 191 = .ok (.iconst 0, 1) := by decide +kernel
theorem dX8_factor_192 : decode cX8_factor 192 = .ok (.goto 4, 3) := by decide +kernel
theorem dX8_factor_195 : decode cX8_factor 195 = .ok (.iconst 1, 1) := by decide +kernel
theorem dX8_factor_196 : decode cX8_factor 196 = .ok (.invokevirtual 143, 3) := by decide +kernel
theorem dX8_factor_199 : decode cX8_factor 199 = .ok (.aload_n 0, 1) := by decide +kernel
theorem dX8_factor_200 : decode cX8_factor 200 = .ok (.iload_n 3, 1) := by decide +kernel
theorem dX8_factor_201 : decode cX8_factor 201 = .ok (.invokevirtual 143, 3) := by decide +kernel
theorem dX8_factor_204 : decode cX8_factor 204 = .ok (.return_, 1) := by decide +kernel
set_option maxRecDepth 20000 in
theorem ggX8_term_X8_factor : GoodIn wsX8_term wsX8_factor := goodIn_r _ [26, 27, 1, 6, 7, 8, 5, 9, 10, 11, 12, 13, 14, 15, 16, 17, 18, 19, 20, 28, 29, 30, 31, 32, 33, 34, 35, 36, 37, 38, 39, 40, 41, 42, 43, 44, 45, 46, 47, 48, 49, 50, 51, 52, 53, 54, 55, 56, 57, 58, 59, 60, 61, 62, 63, 64, 65, 66, 67, 68, 69, 70, 71, 72, 73, 74, 75, 76, 77, 78, 79, 80, 81, 82, 83, 84, 85, 86, 87, 88, 89, 90, 91, 92, 93, 94, 95, 96, 97, 98, 99, 100, 101, 102, 103, 104, 105, 106, 107, 21, 22, 23, 24, 25, 108, 109, 110, 111, 0, 2, 3, 4, 112, 113, 114, 115, 116, 117, 118, 119, 120, 121, 122, 123, 124, 125, 126, 127, 128, 129, 130, 131, 132] (by decide +kernel) (by decide +kernel)
set_option maxRecDepth 20000 in
theorem gX8_term_X8_factor : GoodIn wsX8_term (wsV RX8 146 RX8 yX8_factor wsX8_factor) := goodIn_app (goodIn_of _ (by decide +kernel)) ggX8_term_X8_factor
set_option maxRecDepth 20000 in
theorem ggX8_term_X8_isGood : GoodIn wsX8_term wsX8_isGood := goodIn_r _ [9, 10, 112, 113, 114, 115, 116, 117, 118, 119, 120, 121, 122, 123, 124, 125, 126, 127, 128, 129, 130, 131, 132] (by decide +kernel) (by decide +kernel)
set_option maxRecDepth 20000 in
theorem gX8_term_X8_isGood : GoodIn wsX8_term (wsV RX8 81 RX8 yX8_isGood wsX8_isGood) := goodIn_app (goodIn_of _ (by decide +kernel)) ggX8_term_X8_isGood
set_option maxRecDepth 20000 in
theorem ggX8_term_X8_ahead : GoodIn wsX8_term wsX8_ahead := goodIn_r _ [14, 1, 15, 16, 17, 5, 18, 19, 20, 112, 113, 114, 115, 116, 117, 118, 119, 120, 121, 122, 123, 124, 125, 126, 127, 128, 129, 130, 131, 132] (by decide +kernel) (by decide +kernel)
set_option maxRecDepth 20000 in
theorem gX8_term_X8_ahead : GoodIn wsX8_term (wsV RX8 85 RX8 yX8_ahead wsX8_ahead) := goodIn_app (goodIn_of _ (by decide +kernel)) ggX8_term_X8_ahead
set_option maxRecDepth 20000 in
theorem ggX8_term_X8_emit : GoodIn wsX8_term wsX8_emit := goodIn_r _ [24, 25, 6, 7, 8, 5, 9, 10, 112, 113, 114, 115, 116, 117, 118, 119, 120, 121, 122, 123, 124, 125, 126, 127, 128, 129, 130, 131, 132] (by decide +kernel) (by decide +kernel)
set_option maxRecDepth 20000 in
theorem gX8_term_X8_emit : GoodIn wsX8_term (wsV RX8 143 RX8 yX8_emit wsX8_emit) := goodIn_app (goodIn_of _ (by decide +kernel)) ggX8_term_X8_emit
theorem dX8_term_0 : decode cX8_term 0 = .ok (.aload_n 0, 1) := by decide +kernel
theorem dX8_term_1 : decode cX8_term 1 = .ok (.invokevirtual 146, 3) := by decide +kernel
theorem dX8_term_4 : decode cX8_term 4 = .ok (.aload_n 0, 1) := by decide +kernel
theorem dX8_term_5 : decode cX8_term 5 = .ok (.invokevirtual 81, 3) := by decide +kernel
theorem dX8_term_8 : decode cX8_term 8 = .ok (.ifCond .eq 66, 3) := by decide +kernel
theorem dX8_term_11 : decode cX8_term 11 = .ok (.aload_n 0, 1) := by decide +kernel
theorem dX8_term_12 : decode cX8_term 12 = .ok (.invokevirtual 85, 3) := by decide +kernel
theorem dX8_term_15 : decode cX8_term 15 = .ok (.bipush 42, 2) := by decide +kernel
theorem dX8_term_17 : decode cX8_term 17 = .ok (.if_icmp .eq 12, 3) := by decide +kernel
theorem dX8_term_20 : decode cX8_term 20 = .ok (.aload_n 0, 1) := by decide +kernel
theorem dX8_term_21 : decode cX8_term 21 = .ok (.invokevirtual 85, 3) := by decide +kernel
theorem dX8_term_24 : decode cX8_term 24 = .ok (.bipush 47, 2) := by decide +kernel
theorem dX8_term_26 : decode cX8_term 26 = .ok (.if_icmp .ne 48, 3) := by decide +kernel
theorem dX8_term_29 : decode cX8_term 29 = .ok (.aload_n 0, 1) := by decide +kernel
theorem dX8_term_30 : decode cX8_term 30 = .ok (.invokevirtual 85, 3) := by decide +kernel
theorem dX8_term_33 : decode cX8_term 33 = .ok (.bipush 42, 2) := by decide +kernel
theorem dX8_term_35 : decode cX8_term 35 = .ok (.if_icmp .ne 7, 3) := by decide +kernel
theorem dX8_term_38 : decode cX8_term 38 = .ok (.iconst 1, 1) := by decide +kernel
theorem dX8_term_39 : decode cX8_term 39 = .ok (.goto 4, 3) := by decide +kernel
theorem dX8_term_42 : decode cX8_term 42 = .ok (.iconst 0, 1) := by decide +kernel
theorem dX8_term_43 : decode cX8_term 43 = .ok (.istore_n 1, 1) := by decide +kernel
theorem dX8_term_44 : decode cX8_term 44 = .ok (.aload_n 0, 1) := by decide +kernel
theorem dX8_term_45 : decode cX8_term 45 = .ok (.dup, 1) := by decide +kernel
theorem dX8_term_46 : decode cX8_term 46 = .ok (.getfield 65, 3) := by decide +kernel
theorem dX8_term_49 : decode cX8_term 49 = .ok (.iconst 1, 1) := by decide +kernel
theorem dX8_term_50 : decode cX8_term 50 = .ok (.iadd, 1) := by decide +kernel
theorem dX8_term_51 : decode cX8_term 51 = .ok (.putfield 65, 3) := by decide +kernel
theorem dX8_term_54 : decode cX8_term 54 = .ok (.aload_n 0, 1) := by decide +kernel
theorem dX8_term_55 : decode cX8_term 55 = .ok (.invokevirtual 146, 3) := by decide +kernel
theorem dX8_term_58 : decode cX8_term 58 = .ok (.aload_n 0, 1) := by decide +kernel
theorem dX8_term_59 : decode cX8_term 59 = .ok (.iload_n 1, 1) := by decide +kernel
theorem dX8_term_60 : decode cX8_term 60 = .ok (.ifCond .eq 7, 3) := by decide +kernel
theorem dX8_term_63 : decode cX8_term 63 = .ok (.iconst 4, 1) := by decide +kernel
theorem dX8_term_64 : decode cX8_term 64 = .ok (.goto 4, 3) := by decide +kernel
theorem dX8_term_67 : decode cX8_term 67 = .ok (.iconst 5, 1) := by decide +kernel
theorem dX8_term_68 : decode cX8_term 68 = .ok (.invokevirtual 143, 3) := by decide +kernel
theorem dX8_term_71 : decode cX8_term 71 = .ok (.goto (-67), 3) := by decide +kernel
theorem dX8_term_74 : decode cX8_term 74 = .ok (.return_, 1) := by decide +kernel
set_option maxRecDepth 20000 in
theorem ggX8_readSum_X8_term : GoodIn wsX8_readSum wsX8_term := goodIn_r _ [108, 1, 109, 110, 111, 5, 6, 7, 8, 9, 10, 11, 12, 13, 14, 15, 16, 17, 18, 19, 20, 21, 22, 23, 24, 25, 26, 27, 28, 29, 30, 31, 32, 33, 34, 35, 36, 37, 38, 39, 40, 41, 42, 43, 44, 45, 46, 47, 48, 49, 50, 51, 52, 53, 54, 55, 56, 57, 58, 59, 60, 61, 62, 63, 64, 65, 66, 67, 68, 69, 70, 71, 72, 73, 74, 75, 76, 77, 78, 79, 80, 81, 82, 83, 84, 85, 86, 87, 88, 89, 90, 91, 92, 93, 94, 95, 96, 97, 98, 99, 100, 101, 102, 103, 104, 105, 106, 107, 0, 2, 3, 4, 112, 113, 114, 115, 116, 117, 118, 119, 120, 121, 122, 123, 124, 125, 126, 127, 128, 129, 130, 131, 132] (by decide +kernel) (by decide +kernel)
set_option maxRecDepth 20000 in
theorem gX8_readSum_X8_term : GoodIn wsX8_readSum (wsV RX8 149 RX8 yX8_term wsX8_term) := goodIn_app (goodIn_of _ (by decide +kernel)) ggX8_readSum_X8_term
set_option maxRecDepth 20000 in
theorem ggX8_readSum_X8_isGood : GoodIn wsX8_readSum wsX8_isGood := goodIn_r _ [9, 10, 112, 113, 114, 115, 116, 117, 118, 119, 120, 121, 122, 123, 124, 125, 126, 127, 128, 129, 130, 131, 132] (by decide +kernel) (by decide +kernel)
set_option maxRecDepth 20000 in
theorem gX8_readSum_X8_isGood : GoodIn wsX8_readSum (wsV RX8 81 RX8 yX8_isGood wsX8_isGood) := goodIn_app (goodIn_of _ (by decide +kernel)) ggX8_readSum_X8_isGood
set_option maxRecDepth 20000 in
theorem ggX8_readSum_X8_ahead : GoodIn wsX8_readSum wsX8_ahead := goodIn_r _ [14, 1, 15, 16, 17, 5, 18, 19, 20, 112, 113, 114, 115, 116, 117, 118, 119, 120, 121, 122, 123, 124, 125, 126, 127, 128, 129, 130, 131, 132] (by decide +kernel) (by decide +kernel)
set_option maxRecDepth 20000 in
theorem gX8_readSum_X8_ahead : GoodIn wsX8_readSum (wsV RX8 85 RX8 yX8_ahead wsX8_ahead) := goodIn_app (goodIn_of _ (by decide +kernel)) ggX8_readSum_X8_ahead
set_option maxRecDepth 20000 in
theorem ggX8_readSum_X8_emit : GoodIn wsX8_readSum wsX8_emit := goodIn_r _ [24, 25, 6, 7, 8, 5, 9, 10, 112, 113, 114, 115, 116, 117, 118, 119, 120, 121, 122, 123, 124, 125, 126, 127, 128, 129, 130, 131, 132] (by decide +kernel) (by decide +kernel)
set_option maxRecDepth 20000 in
theorem gX8_readSum_X8_emit : GoodIn wsX8_readSum (wsV RX8 143 RX8 yX8_emit wsX8_emit) := goodIn_app (goodIn_of _ (by decide +kernel)) ggX8_readSum_X8_emit
theorem dX8_readSum_0 : decode cX8_readSum 0 = .ok (.aload_n 0, 1) := by decide +kernel
theorem dX8_readSum_1 : decode cX8_readSum 1 = .ok (.invokevirtual 149, 3) := by decide +kernel
theorem dX8_readSum_4 : decode cX8_readSum 4 = .ok (.aload_n 0, 1) := by decide +kernel
theorem dX8_readSum_5 : decode cX8_readSum 5 = .ok (.invokevirtual 81, 3) := by decide +kernel
theorem dX8_readSum_8 : decode cX8_readSum 8 = .ok (.ifCond .eq 66, 3) := by decide +kernel
theorem dX8_readSum_11 : decode cX8_readSum 11 = .ok (.aload_n 0, 1) := by decide +kernel
theorem dX8_readSum_12 : decode cX8_readSum 12 = .ok (.invokevirtual 85, 3) := by decide +kernel
theorem dX8_readSum_15 : decode cX8_readSum 15 = .ok (.bipush 43, 2) := by decide +kernel
theorem dX8_readSum_17 : decode cX8_readSum 17 = .ok (.if_icmp .eq 12, 3) := by decide +kernel
theorem dX8_readSum_20 : decode cX8_readSum 20 = .ok (.aload_n 0, 1) := by decide +kernel
theorem dX8_readSum_21 : decode cX8_readSum 21 = .ok (.invokevirtual 85, 3) := by decide +kernel
theorem dX8_readSum_24 : decode cX8_readSum 24 = .ok (.bipush 45, 2) := by decide +kernel
theorem dX8_readSum_26 : decode cX8_readSum 26 = .ok (.if_icmp .ne 48, 3) := by decide +kernel
theorem dX8_readSum_29 : decode cX8_readSum 29 = .ok (.aload_n 0, 1) := by decide +kernel
theorem dX8_readSum_30 : decode cX8_readSum 30 = .ok (.invokevirtual 85, 3) := by decide +kernel
theorem dX8_readSum_33 : decode cX8_readSum 33 = .ok (.bipush 43, 2) := by decide +kernel
theorem dX8_readSum_35 : decode cX8_readSum 35 = .ok (.if_icmp .ne 7, 3) := by decide +kernel
theorem dX8_readSum_38 : decode cX8_readSum 38 = .ok (.iconst 1, 1) := by decide +kernel
theorem dX8_readSum_39 : decode cX8_readSum 39 = .ok (.goto 4, 3) := by decide +kernel
theorem dX8_readSum_42 : decode cX8_readSum 42 = .ok (.iconst 0, 1) := by decide +kernel
theorem dX8_readSum_43 : decode cX8_readSum 43 = .ok (.istore_n 1, 1) := by decide +kernel
theorem dX8_readSum_44 : decode cX8_readSum 44 = .ok (.aload_n 0, 1) := by decide +kernel
theorem dX8_readSum_45 : decode cX8_readSum 45 = .ok (.dup, 1) := by decide +kernel
theorem dX8_readSum_46 : decode cX8_readSum 46 = .ok (.getfield 65, 3) := by decide +kernel
theorem dX8_readSum_49 : decode cX8_readSum 49 = .ok (.iconst 1, 1) := by decide +kernel
theorem dX8_readSum_50 : decode cX8_readSum 50 = .ok (.iadd, 1) := by decide +kernel
theorem dX8_readSum_51 : decode cX8_readSum 51 = .ok (.putfield 65, 3) := by decide +kernel
theorem dX8_readSum_54 : decode cX8_readSum 54 = .ok (.aload_n 0, 1) := by decide +kernel
theorem dX8_readSum_55 : decode cX8_readSum 55 = .ok (.invokevirtual 149, 3) := by decide +kernel
theorem dX8_readSum_58 : decode cX8_readSum 58 = .ok (.aload_n 0, 1) := by decide +kernel
theorem dX8_readSum_59 : decode cX8_readSum 59 = .ok (.iload_n 1, 1) := by decide +kernel
theorem dX8_readSum_60 : decode cX8_readSum 60 = .ok (.ifCond .eq 7, 3) := by decide +kernel
theorem dX8_readSum_63 : decode cX8_readSum 63 = .ok (.iconst 2, 1) := by decide +kernel
theorem dX8_readSum_64 : decode cX8_readSum 64 = .ok (.goto 4, 3) := by decide +kernel
theorem dX8_readSum_67 : decode cX8_readSum 67 = .ok (.iconst 3, 1) := by decide +kernel
theorem dX8_readSum_68 : decode cX8_readSum 68 = .ok (.invokevirtual 143, 3) := by decide +kernel
theorem dX8_readSum_71 : decode cX8_readSum 71 = .ok (.goto (-67), 3) := by decide +kernel
theorem dX8_readSum_74 : decode cX8_readSum 74 = .ok (.return_, 1) := by decide +kernel
set_option maxRecDepth 20000 in
theorem ggX8_once_X8_report : GoodIn wsX8_once wsX8_report := goodIn_r _ [6, 7, 8, 9, 10, 11, 12, 13, 14, 15, 16, 17, 18, 19, 20, 21, 22, 23, 24, 25, 26, 27, 28, 29] (by decide +kernel) (by decide +kernel)
set_option maxRecDepth 20000 in
theorem gX8_once_X8_report : GoodIn wsX8_once (wsV RX8 98 RX8 yX8_report wsX8_report) := goodIn_app (goodIn_of _ (by decide +kernel)) ggX8_once_X8_report
theorem dX8_once_0 : decode cX8_once 0 = .ok (.aload_n 0, 1) := by decide +kernel
theorem dX8_once_1 : decode cX8_once 1 = .ok (.getfield 152, 3) := by decide +kernel
theorem dX8_once_4 : decode cX8_once 4 = .ok (.iload_n 1, 1) := by decide +kernel
theorem dX8_once_5 : decode cX8_once 5 = .ok (.ishr, 1) := by decide +kernel
theorem dX8_once_6 : decode cX8_once 6 = .ok (.iconst 1, 1) := by decide +kernel
theorem dX8_once_7 : decode cX8_once 7 = .ok (.iand, 1) := by decide +kernel
theorem dX8_once_8 : decode cX8_once 8 = .ok (.iconst 1, 1) := by decide +kernel
theorem dX8_once_9 : decode cX8_once 9 = .ok (.if_icmp .ne 10, 3) := by decide +kernel
theorem dX8_once_12 : decode cX8_once 12 = .ok (.aload_n 0, 1) := by decide +kernel
theorem dX8_once_13 : decode cX8_once 13 = .ok (.bipush (-2), 2) := by decide +kernel
theorem dX8_once_15 : decode cX8_once 15 = .ok (.iload_n 2, 1) := by decide +kernel
theorem dX8_once_16 : decode cX8_once 16 = .ok (.invokevirtual 98, 3) := by decide +kernel
theorem dX8_once_19 : decode cX8_once 19 = .ok (.aload_n 0, 1) := by decide +kernel
theorem dX8_once_20 : decode cX8_once 20 = .ok (.dup, 1) := by decide +kernel
theorem dX8_once_21 : decode cX8_once 21 = .ok (.getfield 152, 3) := by decide +kernel
theorem dX8_once_24 : decode cX8_once 24 = .ok (.iconst 1, 1) := by decide +kernel
theorem dX8_once_25 : decode cX8_once 25 = .ok (.iload_n 1, 1) := by decide +kernel
theorem dX8_once_26 : decode cX8_once 26 = .ok (.ishl, 1) := by decide +kernel
theorem dX8_once_27 : decode cX8_once 27 = .ok (.ior, 1) := by decide +kernel
theorem dX8_once_28 : decode cX8_once 28 = .ok (.putfield 152, 3) := by decide +kernel
theorem dX8_once_31 : decode cX8_once 31 = .ok (.return_, 1) := by decide +kernel
set_option maxRecDepth 20000 in
theorem ggX8_isLetter_X8_in : GoodIn wsX8_isLetter wsX8_in := goodIn_r _ [4] (by decide +kernel) (by decide +kernel)
set_option maxRecDepth 20000 in
theorem gX8_isLetter_X8_in : GoodIn wsX8_isLetter (va_wsS RX8 77 yX8_in wsX8_in) := goodIn_app (goodIn_of _ (by decide +kernel)) ggX8_isLetter_X8_in
theorem dX8_isLetter_0 : decode cX8_isLetter 0 = .ok (.iload_n 0, 1) := by decide +kernel
theorem dX8_isLetter_1 : decode cX8_isLetter 1 = .ok (.bipush 97, 2) := by decide +kernel
theorem dX8_isLetter_3 : decode cX8_isLetter 3 = .ok (.bipush 122, 2) := by decide +kernel
theorem dX8_isLetter_5 : decode cX8_isLetter 5 = .ok (.invokestatic 77, 3) := by decide +kernel
theorem dX8_isLetter_8 : decode cX8_isLetter 8 = .ok (.ireturn, 1) := by decide +kernel
set_option maxRecDepth 20000 in
theorem ggX8_readAlike_X8_isGood : GoodIn wsX8_readAlike wsX8_isGood := goodIn_r _ [8, 9, 31, 32, 33, 34, 35, 36, 37, 38, 39, 40, 41, 42, 43, 44, 45, 46, 47, 48, 49, 50, 51] (by decide +kernel) (by decide +kernel)
set_option maxRecDepth 20000 in
theorem gX8_readAlike_X8_isGood : GoodIn wsX8_readAlike (wsV RX8 81 RX8 yX8_isGood wsX8_isGood) := goodIn_app (goodIn_of _ (by decide +kernel)) ggX8_readAlike_X8_isGood
set_option maxRecDepth 20000 in
theorem ggX8_readAlike_X8_ahead : GoodIn wsX8_readAlike wsX8_ahead := goodIn_r _ [13, 1, 14, 15, 16, 7, 17, 18, 19, 31, 32, 33, 34, 35, 36, 37, 38, 39, 40, 41, 42, 43, 44, 45, 46, 47, 48, 49, 50, 51] (by decide +kernel) (by decide +kernel)
set_option maxRecDepth 20000 in
theorem gX8_readAlike_X8_ahead : GoodIn wsX8_readAlike (wsV RX8 85 RX8 yX8_ahead wsX8_ahead) := goodIn_app (goodIn_of _ (by decide +kernel)) ggX8_readAlike_X8_ahead
set_option maxRecDepth 20000 in
theorem ggX8_readAlike_X8_isLetter : GoodIn wsX8_readAlike wsX8_isLetter := goodIn_r _ [22, 23, 24, 7, 25] (by decide +kernel) (by decide +kernel)
set_option maxRecDepth 20000 in
theorem gX8_readAlike_X8_isLetter : GoodIn wsX8_readAlike (va_wsS RX8 155 yX8_isLetter wsX8_isLetter) := goodIn_app (goodIn_of _ (by decide +kernel)) ggX8_readAlike_X8_isLetter
set_option maxRecDepth 20000 in
theorem ggX8_readAlike_X8_report : GoodIn wsX8_readAlike wsX8_report := goodIn_r _ [29, 9, 30, 31, 32, 33, 34, 35, 36, 37, 38, 39, 40, 41, 42, 43, 44, 45, 46, 47, 48, 49, 50, 51] (by decide +kernel) (by decide +kernel)
set_option maxRecDepth 20000 in
theorem gX8_readAlike_X8_report : GoodIn wsX8_readAlike (wsV RX8 98 RX8 yX8_report wsX8_report) := goodIn_app (goodIn_of _ (by decide +kernel)) ggX8_readAlike_X8_report
set_option maxRecDepth 20000 in
theorem ggX8_readAlike_X8_byteAt : GoodIn wsX8_readAlike wsX8_byteAt := goodIn_r _ [17, 18, 19, 31, 32, 33, 34, 35, 36, 37, 38, 39, 40, 41, 42, 43, 44, 45, 46, 47, 48, 49, 50, 51] (by decide +kernel) (by decide +kernel)
set_option maxRecDepth 20000 in
theorem gX8_readAlike_X8_byteAt : GoodIn wsX8_readAlike (wsV RX8 68 RX8 yX8_byteAt wsX8_byteAt) := goodIn_app (goodIn_of _ (by decide +kernel)) ggX8_readAlike_X8_byteAt
theorem dX8_readAlike_0 : decode cX8_readAlike 0 = .ok (.aload_n 0, 1) := by decide +kernel
theorem dX8_readAlike_1 : decode cX8_readAlike 1 = .ok (.invokevirtual 81, 3) := by decide +kernel
theorem dX8_readAlike_4 : decode cX8_readAlike 4 = .ok (.ifCond .ne 4, 3) := by decide +kernel
theorem dX8_readAlike_7 : decode cX8_readAlike 7 = .ok (.return_, 1) := by decide +kernel
theorem dX8_readAlike_8 : decode cX8_readAlike 8 = .ok (.aload_n 0, 1) := by decide +kernel
theorem dX8_readAlike_9 : decode cX8_readAlike 9 = .ok (.invokevirtual 85, 3) := by decide +kernel
theorem dX8_readAlike_12 : decode cX8_readAlike 12 = .ok (.invokestatic 155, 3) := by decide +kernel
theorem dX8_readAlike_15 : decode cX8_readAlike 15 = .ok (.ifCond .ne 13, 3) := by decide +kernel
theorem dX8_readAlike_18 : decode cX8_readAlike 18 = .ok (.aload_n 0, 1) := by decide +kernel
theorem dX8_readAlike_19 : decode cX8_readAlike 19 = .ok (.bipush (-2), 2) := by decide +kernel
theorem dX8_readAlike_21 : decode cX8_readAlike 21 = .ok (.aload_n 0, 1) := by decide +kernel
theorem dX8_readAlike_22 : decode cX8_readAlike 22 = .ok (.getfield 65, 3) := by decide +kernel
theorem dX8_readAlike_25 : decode cX8_readAlike 25 = .ok (.invokevirtual 98, 3) := by decide +kernel
theorem dX8_readAlike_28 : decode cX8_readAlike 28 = .ok (.aload_n 0, 1) := by decide +kernel
theorem dX8_readAlike_29 : decode cX8_readAlike 29 = .ok (.dup, 1) := by decide +kernel
theorem dX8_readAlike_30 : decode cX8_readAlike 30 = .ok (.getfield 158, 3) := by decide +kernel
theorem dX8_readAlike_33 : decode cX8_readAlike 33 = .ok (.iconst 1, 1) := by decide +kernel
theorem dX8_readAlike_34 : decode cX8_readAlike 34 = .ok (.iadd, 1) := by decide +kernel
theorem dX8_readAlike_35 : decode cX8_readAlike 35 = .ok (.putfield 158, 3) := by decide +kernel
theorem dX8_readAlike_38 : decode cX8_readAlike 38 = .ok (.aload_n 0, 1) := by decide +kernel
theorem dX8_readAlike_39 : decode cX8_readAlike 39 = .ok (.invokevirtual 81, 3) := by decide +kernel
theorem dX8_readAlike_42 : decode cX8_readAlike 42 = .ok (.ifCond .eq 74, 3) := by decide +kernel
theorem dX8_readAlike_45 : decode cX8_readAlike 45 = .ok (.aload_n 0, 1) := by decide +kernel
theorem dX8_readAlike_46 : decode cX8_readAlike 46 = .ok (.aload_n 0, 1) := by decide +kernel
theorem dX8_readAlike_47 : decode cX8_readAlike 47 = .ok (.getfield 65, 3) := by decide +kernel
theorem dX8_readAlike_50 : decode cX8_readAlike 50 = .ok (.invokevirtual 68, 3) := by decide +kernel
theorem dX8_readAlike_53 : decode cX8_readAlike 53 = .ok (.invokestatic 155, 3) := by decide +kernel
theorem dX8_readAlike_56 : decode cX8_readAlike 56 = .ok (.ifCond .eq 60, 3) := by decide +kernel
theorem dX8_readAlike_59 : decode cX8_readAlike 59 = .ok (.bipush 10, 2) := by decide +kernel
theorem dX8_readAlike_61 : decode cX8_readAlike 61 = .ok (.aload_n 0, 1) := by decide +kernel
theorem dX8_readAlike_62 : decode cX8_readAlike 62 = .ok (.aload_n 0, 1) := by decide +kernel
theorem dX8_readAlike_63 : decode cX8_readAlike 63 = .ok (.getfield 65, 3) := by decide +kernel
theorem dX8_readAlike_66 : decode cX8_readAlike 66 = .ok (.invokevirtual 68, 3) := by decide +kernel
theorem dX8_readAlike_69 : decode cX8_readAlike 69 = .ok (.iadd, 1) := by decide +kernel
theorem dX8_readAlike_70 : decode cX8_readAlike 70 = .ok (.bipush 97, 2) := by decide +kernel
theorem dX8_readAlike_72 : decode cX8_readAlike 72 = .ok (.isub, 1) := by decide +kernel
theorem dX8_readAlike_73 : decode cX8_readAlike 73 = .ok (.istore_n 1, 1) := by decide +kernel
theorem dX8_readAlike_74 : decode cX8_readAlike 74 = .ok (.aload_n 0, 1) := by decide +kernel
theorem dX8_readAlike_75 : decode cX8_readAlike 75 = .ok (.getfield 20, 3) := by decide +kernel
theorem dX8_readAlike_78 : decode cX8_readAlike 78 = .ok (.iload_n 1, 1) := by decide +kernel
theorem dX8_readAlike_79 : decode cX8_readAlike 79 = .ok (.iaload, 1) := by decide +kernel
theorem dX8_readAlike_80 : decode cX8_readAlike 80 = .ok (.ifCond .eq 13, 3) := by decide +kernel
theorem dX8_readAlike_83 : decode cX8_readAlike 83 = .ok (.aload_n 0, 1) := by decide +kernel
theorem dX8_readAlike_84 : decode cX8_readAlike 84 = .ok (.bipush (-4), 2) := by decide +kernel
theorem dX8_readAlike_86 : decode cX8_readAlike 86 = .ok (.aload_n 0, 1) := by decide +kernel
theorem dX8_readAlike_87 : decode cX8_readAlike 87 = .ok (.getfield 65, 3) := by decide +kernel
theorem dX8_readAlike_90 : decode cX8_readAlike 90 = .ok (.invokevirtual 98, 3) := by decide +kernel
theorem dX8_readAlike_93 : decode cX8_readAlike 93 = .ok (.aload_n 0, 1) := by decide +kernel
theorem dX8_readAlike_94 : decode cX8_readAlike 94 = .ok (.getfield 20, 3) := by decide +kernel
theorem dX8_readAlike_97 : decode cX8_readAlike 97 = .ok (.iload_n 1, 1) := by decide +kernel
theorem dX8_readAlike_98 : decode cX8_readAlike 98 = .ok (.aload_n 0, 1) := by decide +kernel
theorem dX8_readAlike_99 : decode cX8_readAlike 99 = .ok (.getfield 158, 3) := by decide +kernel
theorem dX8_readAlike_102 : decode cX8_readAlike 102 = .ok (.iastore, 1) := by decide +kernel
theorem dX8_readAlike_103 : decode cX8_readAlike 103 = .ok (.aload_n 0, 1) := by decide +kernel
theorem dX8_readAlike_104 : decode cX8_readAlike 104 = .ok (.dup, 1) := by decide +kernel
theorem dX8_readAlike_105 : decode cX8_readAlike 105 = .ok (.getfield 65, 3) := by decide +kernel
theorem dX8_readAlike_108 : decode cX8_readAlike 108 = .ok (.iconst 1, 1) := by decide +kernel
theorem dX8_readAlike_109 : decode cX8_readAlike 109 = .ok (.iadd, 1) := by decide +kernel
theorem dX8_readAlike_110 : decode cX8_readAlike 110 = .ok (.putfield 65, 3) := by decide +kernel
theorem dX8_readAlike_113 : decode cX8_readAlike 113 = .ok (.goto (-75), 3) := by decide +kernel
theorem dX8_readAlike_116 : decode cX8_readAlike 116 = .ok (.return_, 1) := by decide +kernel
set_option maxRecDepth 20000 in
theorem ggX8_readText_X8_isGood : GoodIn wsX8_readText wsX8_isGood := goodIn_r _ [7, 8, 39, 40, 41, 42, 43, 44, 45, 46, 47, 48, 49, 50, 51, 52, 53, 54, 55, 56, 57, 58, 59] (by decide +kernel) (by decide +kernel)
set_option maxRecDepth 20000 in
theorem gX8_readText_X8_isGood : GoodIn wsX8_readText (wsV RX8 81 RX8 yX8_isGood wsX8_isGood) := goodIn_app (goodIn_of _ (by decide +kernel)) ggX8_readText_X8_isGood
set_option maxRecDepth 20000 in
theorem ggX8_readText_X8_ahead : GoodIn wsX8_readText wsX8_ahead := goodIn_r _ [12, 1, 13, 14, 15, 6, 16, 17, 18, 39, 40, 41, 42, 43, 44, 45, 46, 47, 48, 49, 50, 51, 52, 53, 54, 55, 56, 57, 58, 59] (by decide +kernel) (by decide +kernel)
set_option maxRecDepth 20000 in
theorem gX8_readText_X8_ahead : GoodIn wsX8_readText (wsV RX8 85 RX8 yX8_ahead wsX8_ahead) := goodIn_app (goodIn_of _ (by decide +kernel)) ggX8_readText_X8_ahead
set_option maxRecDepth 20000 in
theorem ggX8_readText_X8_isLetter : GoodIn wsX8_readText wsX8_isLetter := goodIn_r _ [21, 22, 23, 6, 24] (by decide +kernel) (by decide +kernel)
set_option maxRecDepth 20000 in
theorem gX8_readText_X8_isLetter : GoodIn wsX8_readText (va_wsS RX8 155 yX8_isLetter wsX8_isLetter) := goodIn_app (goodIn_of _ (by decide +kernel)) ggX8_readText_X8_isLetter
set_option maxRecDepth 20000 in
theorem ggX8_readText_X8_report : GoodIn wsX8_readText wsX8_report := goodIn_r _ [28, 8, 29, 39, 40, 41, 42, 43, 44, 45, 46, 47, 48, 49, 50, 51, 52, 53, 54, 55, 56, 57, 58, 59] (by decide +kernel) (by decide +kernel)
set_option maxRecDepth 20000 in
theorem gX8_readText_X8_report : GoodIn wsX8_readText (wsV RX8 98 RX8 yX8_report wsX8_report) := goodIn_app (goodIn_of _ (by decide +kernel)) ggX8_readText_X8_report
set_option maxRecDepth 20000 in
theorem ggX8_readText_X8_playerAt : GoodIn wsX8_readText wsX8_playerAt := goodIn_r _ [32] (by decide +kernel) (by decide +kernel)
set_option maxRecDepth 20000 in
theorem gX8_readText_X8_playerAt : GoodIn wsX8_readText (va_wsS RX8 56 yX8_playerAt wsX8_playerAt) := goodIn_app (goodIn_of _ (by decide +kernel)) ggX8_readText_X8_playerAt
set_option maxRecDepth 20000 in
theorem ggX8_readText_X8_min : GoodIn wsX8_readText wsX8_min := goodIn_r _ [35] (by decide +kernel) (by decide +kernel)
set_option maxRecDepth 20000 in
theorem gX8_readText_X8_min : GoodIn wsX8_readText (va_wsS RX8 110 yX8_min wsX8_min) := goodIn_app (goodIn_of _ (by decide +kernel)) ggX8_readText_X8_min
set_option maxRecDepth 20000 in
theorem ggX8_readText_X8_wordAt : GoodIn wsX8_readText wsX8_wordAt := goodIn_r _ [38, 30, 31, 6, 32] (by decide +kernel) (by decide +kernel)
set_option maxRecDepth 20000 in
theorem gX8_readText_X8_wordAt : GoodIn wsX8_readText (va_wsS RX8 161 yX8_wordAt wsX8_wordAt) := goodIn_app (goodIn_of _ (by decide +kernel)) ggX8_readText_X8_wordAt
set_option maxRecDepth 20000 in
theorem ggX8_readText_X8_byteAt : GoodIn wsX8_readText wsX8_byteAt := goodIn_r _ [16, 17, 18, 39, 40, 41, 42, 43, 44, 45, 46, 47, 48, 49, 50, 51, 52, 53, 54, 55, 56, 57, 58, 59] (by decide +kernel) (by decide +kernel)
set_option maxRecDepth 20000 in
theorem gX8_readText_X8_byteAt : GoodIn wsX8_readText (wsV RX8 68 RX8 yX8_byteAt wsX8_byteAt) := goodIn_app (goodIn_of _ (by decide +kernel)) ggX8_readText_X8_byteAt
theorem dX8_readText_0 : decode cX8_readText 0 = .ok (.aload_n 0, 1) := by decide +kernel
theorem dX8_readText_1 : decode cX8_readText 1 = .ok (.invokevirtual 81, 3) := by decide +kernel
theorem dX8_readText_4 : decode cX8_readText 4 = .ok (.ifCond .ne 4, 3) := by decide +kernel
theorem dX8_readText_7 : decode cX8_readText 7 = .ok (.return_, 1) := by decide +kernel
theorem dX8_readText_8 : decode cX8_readText 8 = .ok (.aload_n 0, 1) := by decide +kernel
theorem dX8_readText_9 : decode cX8_readText 9 = .ok (.invokevirtual 85, 3) := by decide +kernel
theorem dX8_readText_12 : decode cX8_readText 12 = .ok (.invokestatic 155, 3) := by decide +kernel
theorem dX8_readText_15 : decode cX8_readText 15 = .ok (.ifCond .ne 14, 3) := by decide +kernel
theorem dX8_readText_18 : decode cX8_readText 18 = .ok (.aload_n 0, 1) := by decide +kernel
theorem dX8_readText_19 : decode cX8_readText 19 = .ok (.bipush (-2), 2) := by decide +kernel
theorem dX8_readText_21 : decode cX8_readText 21 = .ok (.aload_n 0, 1) := by decide +kernel
theorem dX8_readText_22 : decode cX8_readText 22 = .ok (.getfield 65, 3) := by decide +kernel
theorem dX8_readText_25 : decode cX8_readText 25 = .ok (.invokevirtual 98, 3) := by decide +kernel
theorem dX8_readText_28 : decode cX8_readText 28 = .ok (.return_, 1) := by decide +kernel
theorem dX8_readText_29 : decode cX8_readText 29 = .ok (.aload_n 0, 1) := by decide +kernel
theorem dX8_readText_30 : decode cX8_readText 30 = .ok (.getfield 65, 3) := by decide +kernel
theorem dX8_readText_33 : decode cX8_readText 33 = .ok (.istore_n 2, 1) := by decide +kernel
theorem dX8_readText_34 : decode cX8_readText 34 = .ok (.iconst 0, 1) := by decide +kernel
theorem dX8_readText_35 : decode cX8_readText 35 = .ok (.istore_n 3, 1) := by decide +kernel
theorem dX8_readText_36 : decode cX8_readText 36 = .ok (.aload_n 0, 1) := by decide +kernel
theorem dX8_readText_37 : decode cX8_readText 37 = .ok (.getfield 20, 3) := by decide +kernel
theorem dX8_readText_40 : decode cX8_readText 40 = .ok (.iload_n 1, 1) := by decide +kernel
theorem dX8_readText_41 : decode cX8_readText 41 = .ok (.invokestatic 56, 3) := by decide +kernel
theorem dX8_readText_44 : decode cX8_readText 44 = .ok (.iconst 1, 1) := by decide +kernel
theorem dX8_readText_45 : decode cX8_readText 45 = .ok (.iadd, 1) := by decide +kernel
theorem dX8_readText_46 : decode cX8_readText 46 = .ok (.iaload, 1) := by decide +kernel
theorem dX8_readText_47 : decode cX8_readText 47 = .ok (.istore 4, 2) := by decide +kernel
theorem dX8_readText_49 : decode cX8_readText 49 = .ok (.iload_n 1, 1) := by decide +kernel
theorem dX8_readText_50 : decode cX8_readText 50 = .ok (.iload 4, 2) := by decide +kernel
theorem dX8_readText_52 : decode cX8_readText 52 = .ok (.bipush 7, 2) := by decide +kernel
theorem dX8_readText_54 : decode cX8_readText 54 = .ok (.invokestatic 110, 3) := by decide +kernel
theorem dX8_readText_57 : decode cX8_readText 57 = .ok (.invokestatic 161, 3) := by decide +kernel
theorem dX8_readText_60 : decode cX8_readText 60 = .ok (.istore 5, 2) := by decide +kernel
theorem dX8_readText_62 : decode cX8_readText 62 = .ok (.aload_n 0, 1) := by decide +kernel
theorem dX8_readText_63 : decode cX8_readText 63 = .ok (.aload_n 0, 1) := by decide +kernel
theorem dX8_readText_64 : decode cX8_readText 64 = .ok (.getfield 65, 3) := by decide +kernel
theorem dX8_readText_67 : decode cX8_readText 67 = .ok (.iload_n 3, 1) := by decide +kernel
theorem dX8_readText_68 : decode cX8_readText 68 = .ok (.iadd, 1) := by decide +kernel
theorem dX8_readText_69 : decode cX8_readText 69 = .ok (.invokevirtual 68, 3) := by decide +kernel
theorem dX8_readText_72 : decode cX8_readText 72 = .ok (.invokestatic 155, 3) := by decide +kernel
theorem dX8_readText_75 : decode cX8_readText 75 = .ok (.ifCond .eq 9, 3) := by decide +kernel
theorem dX8_readText_78 : decode cX8_readText 78 = .ok (.iinc 3 1, 3) := by decide +kernel
theorem dX8_readText_81 : decode cX8_readText 81 = .ok (.goto (-19), 3) := by decide +kernel
theorem dX8_readText_84 : decode cX8_readText 84 = .ok (.iload_n 3, 1) := by decide +kernel
theorem dX8_readText_85 : decode cX8_readText 85 = .ok (.bipush 8, 2) := by decide +kernel
theorem dX8_readText_87 : decode cX8_readText 87 = .ok (.if_icmp .le 10, 3) := by decide +kernel
theorem dX8_readText_90 : decode cX8_readText 90 = .ok (.aload_n 0, 1) := by decide +kernel
theorem dX8_readText_91 : decode cX8_readText 91 = .ok (.bipush (-3), 2) := by decide +kernel
theorem dX8_readText_93 : decode cX8_readText 93 = .ok (.iload_n 2, 1) := by decide +kernel
theorem dX8_readText_94 : decode cX8_readText 94 = .ok (.invokevirtual 98, 3) := by decide +kernel
theorem dX8_readText_97 : decode cX8_readText 97 = .ok (.iload 4, 2) := by decide +kernel
theorem dX8_readText_99 : decode cX8_readText 99 = .ok (.bipush 8, 2) := by decide +kernel
theorem dX8_readText_101 : decode cX8_readText 101 = .ok (.if_icmp .ne 10, 3) := by decide +kernel
theorem dX8_readText_104 : decode cX8_readText 104 = .ok (.aload_n 0, 1) := by decide +kernel
theorem dX8_readText_105 : decode cX8_readText 105 = .ok (.bipush (-5), 2) := by decide +kernel
theorem dX8_readText_107 : decode cX8_readText 107 = .ok (.iload_n 2, 1) := by decide +kernel
theorem dX8_readText_108 : decode cX8_readText 108 = .ok (.invokevirtual 98, 3) := by decide +kernel
theorem dX8_readText_111 : decode cX8_readText 111 = .ok (.aload_n 0, 1) := by decide +kernel
theorem dX8_readText_112 : decode cX8_readText 112 = .ok (.invokevirtual 81, 3) := by decide +kernel
theorem dX8_readText_115 : decode cX8_readText 115 = .ok (.ifCond .ne 4, 3) := by decide +kernel
theorem dX8_readText_118 : decode cX8_readText 118 = .ok (.return_, 1) := by decide +kernel
theorem dX8_readText_119 : decode cX8_readText 119 = .ok (.aload_n 0, 1) := by decide +kernel
theorem dX8_readText_120 : decode cX8_readText 120 = .ok (.getfield 20, 3) := by decide +kernel
theorem dX8_readText_123 : decode cX8_readText 123 = .ok (.iload 5, 2) := by decide +kernel
theorem dX8_readText_125 : decode cX8_readText 125 = .ok (.iload_n 3, 1) := by decide +kernel
theorem dX8_readText_126 : decode cX8_readText 126 = .ok (.iastore, 1) := by decide +kernel
theorem dX8_readText_127 : decode cX8_readText 127 = .ok (.iconst 0, 1) := by decide +kernel
theorem dX8_readText_128 : decode cX8_readText 128 = .ok (.istore 6, 2) := by decide +kernel
theorem dX8_readText_130 : decode cX8_readText 130 = .ok (.iload 6, 2) := by decide +kernel
theorem dX8_readText_132 : decode cX8_readText 132 = .ok (.iload_n 3, 1) := by decide +kernel
theorem dX8_readText_133 : decode cX8_readText 133 = .ok (.if_icmp .ge 35, 3) := by decide +kernel
theorem dX8_readText_136 : decode cX8_readText 136 = .ok (.aload_n 0, 1) := by decide +kernel
theorem dX8_readText_137 : decode cX8_readText 137 = .ok (.getfield 20, 3) := by decide +kernel
theorem dX8_readText_140 : decode cX8_readText 140 = .ok (.iload 5, 2) := by decide +kernel
theorem dX8_readText_142 : decode cX8_readText 142 = .ok (.iconst 1, 1) := by decide +kernel
theorem dX8_readText_143 : decode cX8_readText 143 = .ok (.iadd, 1) := by decide +kernel
theorem dX8_readText_144 : decode cX8_readText 144 = .ok (.iload 6, 2) := by decide +kernel
theorem dX8_readText_146 : decode cX8_readText 146 = .ok (.iadd, 1) := by decide +kernel
theorem dX8_readText_147 : decode cX8_readText 147 = .ok (.aload_n 0, 1) := by decide +kernel
theorem dX8_readText_148 : decode cX8_readText 148 = .ok (.aload_n 0, 1) := by decide +kernel
theorem dX8_readText_149 : decode cX8_readText 149 = .ok (.getfield 65, 3) := by decide +kernel
theorem dX8_readText_152 : decode cX8_readText 152 = .ok (.iload 6, 2) := by decide +kernel
theorem dX8_readText_154 : decode cX8_readText 154 = .ok (.iadd, 1) := by decide +kernel
theorem dX8_readText_155 : decode cX8_readText 155 = .ok (.invokevirtual 68, 3) := by decide +kernel
theorem dX8_readText_158 : decode cX8_readText 158 = .ok (.bipush 97, 2) := by decide +kernel
theorem dX8_readText_160 : decode cX8_readText 160 = .ok (.isub, 1) := by decide +kernel
theorem dX8_readText_161 : decode cX8_readText 161 = .ok (.iastore, 1) := by decide +kernel
theorem dX8_readText_162 : decode cX8_readText 162 = .ok (.iinc 6 1, 3) := by decide +kernel
theorem dX8_readText_165 : decode cX8_readText 165 = .ok (.goto (-35), 3) := by decide +kernel
theorem dX8_readText_168 : decode cX8_readText 168 = .ok (.aload_n 0, 1) := by decide +kernel
