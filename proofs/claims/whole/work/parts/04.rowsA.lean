theorem dX0_init_0 : decode cX0_init 0 = .ok (.aload_n 0, 1) := by decide +kernel
theorem dX0_init_1 : decode cX0_init 1 = .ok (.invokespecial 3, 3) := by decide +kernel
theorem dX0_init_4 : decode cX0_init 4 = .ok (.aload_n 0, 1) := by decide +kernel
theorem dX0_init_5 : decode cX0_init 5 = .ok (.sipush 2048, 3) := by decide +kernel
theorem dX0_init_8 : decode cX0_init 8 = .ok (.newarray .int, 2) := by decide +kernel
theorem dX0_init_10 : decode cX0_init 10 = .ok (.putfield 11, 3) := by decide +kernel
theorem dX0_init_13 : decode cX0_init 13 = .ok (.aload_n 0, 1) := by decide +kernel
theorem dX0_init_14 : decode cX0_init 14 = .ok (.sipush 2048, 3) := by decide +kernel
theorem dX0_init_17 : decode cX0_init 17 = .ok (.newarray .int, 2) := by decide +kernel
theorem dX0_init_19 : decode cX0_init 19 = .ok (.putfield 15, 3) := by decide +kernel
theorem dX0_init_22 : decode cX0_init 22 = .ok (.aload_n 0, 1) := by decide +kernel
theorem dX0_init_23 : decode cX0_init 23 = .ok (.bipush 8, 2) := by decide +kernel
theorem dX0_init_25 : decode cX0_init 25 = .ok (.newarray .int, 2) := by decide +kernel
theorem dX0_init_27 : decode cX0_init 27 = .ok (.putfield 18, 3) := by decide +kernel
theorem dX0_init_30 : decode cX0_init 30 = .ok (.aload_n 0, 1) := by decide +kernel
theorem dX0_init_31 : decode cX0_init 31 = .ok (.bipush 64, 2) := by decide +kernel
theorem dX0_init_33 : decode cX0_init 33 = .ok (.newarray .int, 2) := by decide +kernel
theorem dX0_init_35 : decode cX0_init 35 = .ok (.putfield 21, 3) := by decide +kernel
theorem dX0_init_38 : decode cX0_init 38 = .ok (.return_, 1) := by decide +kernel
set_option maxRecDepth 20000 in
theorem ggX0_search_J7_fill_53178 : GoodIn wsX0_search wsJ7_fill_53178 := goodIn_r _ [10] (by decide +kernel) (by decide +kernel)
set_option maxRecDepth 20000 in
theorem gX0_search_J7_fill_53178 : GoodIn wsX0_search (va_wsS RX0 34 yJ7_fill_53178 wsJ7_fill_53178) := goodIn_app (goodIn_of _ (by decide +kernel)) ggX0_search_J7_fill_53178
set_option maxRecDepth 20000 in
theorem ggX0_search_X0_prepare : GoodIn wsX0_search wsX0_prepare := goodIn_r _ [15, 16, 6, 17, 18, 19, 20, 21, 22, 23, 24, 25, 26, 27, 28, 29, 30, 31, 32, 33, 34, 35, 36, 37, 38, 39, 40, 41, 42, 43, 44, 45, 46, 47, 48, 49, 50, 51, 103, 104, 105, 106, 107, 108, 109, 110, 111, 112, 113, 114, 115, 91, 92, 93, 94, 95, 96, 97, 98, 99, 100, 101, 102, 116, 117, 118, 119, 120, 121, 122, 123] (by decide +kernel) (by decide +kernel)
set_option maxRecDepth 20000 in
theorem gX0_search_X0_prepare : GoodIn wsX0_search (wsV RX0 40 RX0 yX0_prepare wsX0_prepare) := goodIn_app (goodIn_of _ (by decide +kernel)) ggX0_search_X0_prepare
set_option maxRecDepth 20000 in
theorem ggX0_search_X1_wordOf : GoodIn wsX0_search wsX1_wordOf := goodIn_r _ [39, 40, 103, 104, 105, 106, 107, 108, 109, 110, 111, 112, 113, 114, 115] (by decide +kernel) (by decide +kernel)
set_option maxRecDepth 20000 in
theorem gX0_search_X1_wordOf : GoodIn wsX0_search (wsV RX0 47 RX1 yX1_wordOf wsX1_wordOf) := goodIn_app (goodIn_of _ (by decide +kernel)) ggX0_search_X1_wordOf
set_option maxRecDepth 20000 in
theorem ggX0_search_X1_obstacle : GoodIn wsX0_search wsX1_obstacle := goodIn_r _ [55, 56, 57, 33, 58, 59, 42, 43, 44, 60, 29, 30, 31, 32, 34, 35, 61, 46, 47, 48, 49, 50, 51, 103, 104, 105, 106, 107, 108, 109, 110, 111, 112, 113, 114, 115, 116, 117, 118, 119, 120, 121, 122, 123] (by decide +kernel) (by decide +kernel)
set_option maxRecDepth 20000 in
theorem gX0_search_X1_obstacle : GoodIn wsX0_search (wsV RX0 53 RX1 yX1_obstacle wsX1_obstacle) := goodIn_app (goodIn_of _ (by decide +kernel)) ggX0_search_X1_obstacle
set_option maxRecDepth 20000 in
theorem ggX0_search_X1_pointsFor : GoodIn wsX0_search wsX1_pointsFor := goodIn_r _ [65, 33, 66, 57, 67, 56, 59, 42, 43, 44, 61, 46, 47, 48, 49, 50, 51, 60, 29, 30, 31, 32, 34, 35, 103, 104, 105, 106, 107, 108, 109, 110, 111, 112, 113, 114, 115, 116, 117, 118, 119, 120, 121, 122, 123] (by decide +kernel) (by decide +kernel)
set_option maxRecDepth 20000 in
theorem gX0_search_X1_pointsFor : GoodIn wsX0_search (wsV RX0 57 RX1 yX1_pointsFor wsX1_pointsFor) := goodIn_app (goodIn_of _ (by decide +kernel)) ggX0_search_X1_pointsFor
set_option maxRecDepth 20000 in
theorem ggX0_search_X0_note : GoodIn wsX0_search wsX0_note := goodIn_r _ [71, 4, 5, 72, 73, 74, 75, 1, 2, 17, 3, 76, 77, 78, 79, 80, 81, 82, 83, 84, 85, 14, 86, 6, 25, 91, 92, 93, 94, 95, 96, 97, 98, 99, 100, 101, 102] (by decide +kernel) (by decide +kernel)
set_option maxRecDepth 20000 in
theorem gX0_search_X0_note : GoodIn wsX0_search (wsV RX0 60 RX0 yX0_note wsX0_note) := goodIn_app (goodIn_of _ (by decide +kernel)) ggX0_search_X0_note
set_option maxRecDepth 20000 in
theorem ggX0_search_X0_extend : GoodIn wsX0_search wsX0_extend := goodIn_r _ [90, 17, 19, 6, 4, 27, 25, 22, 24, 5, 83, 84, 85, 14, 86, 76, 77, 78, 79, 80, 81, 82, 68, 69, 70, 71, 72, 73, 74, 75, 1, 2, 3, 91, 92, 93, 94, 95, 96, 97, 98, 99, 100, 101, 102] (by decide +kernel) (by decide +kernel)
set_option maxRecDepth 20000 in
theorem gX0_search_X0_extend : GoodIn wsX0_search (wsV RX0 64 RX0 yX0_extend wsX0_extend) := goodIn_app (goodIn_of _ (by decide +kernel)) ggX0_search_X0_extend
theorem dX0_search_0 : decode cX0_search 0 = .ok (.aload_n 0, 1) := by decide +kernel
theorem dX0_search_1 : decode cX0_search 1 = .ok (.iconst 0, 1) := by decide +kernel
theorem dX0_search_2 : decode cX0_search 2 = .ok (.putfield 24, 3) := by decide +kernel
theorem dX0_search_5 : decode cX0_search 5 = .ok (.aload_n 0, 1) := by decide +kernel
theorem dX0_search_6 : decode cX0_search 6 = .ok (.iconst 0, 1) := by decide +kernel
theorem dX0_search_7 : decode cX0_search 7 = .ok (.putfield 28, 3) := by decide +kernel
theorem dX0_search_10 : decode cX0_search 10 = .ok (.aload_n 0, 1) := by decide +kernel
theorem dX0_search_11 : decode cX0_search 11 = .ok (.iconst 0, 1) := by decide +kernel
theorem dX0_search_12 : decode cX0_search 12 = .ok (.putfield 31, 3) := by decide +kernel
theorem dX0_search_15 : decode cX0_search 15 = .ok (.aload_n 0, 1) := by decide +kernel
theorem dX0_search_16 : decode cX0_search 16 = .ok (.getfield 11, 3) := by decide +kernel
theorem dX0_search_19 : decode cX0_search 19 = .ok (.iconst 0, 1) := by decide +kernel
theorem dX0_search_20 : decode cX0_search 20 = .ok (.invokestatic 34, 3) := by decide +kernel
theorem dX0_search_23 : decode cX0_search 23 = .ok (.aload_n 0, 1) := by decide +kernel
theorem dX0_search_24 : decode cX0_search 24 = .ok (.getfield 15, 3) := by decide +kernel
theorem dX0_search_27 : decode cX0_search 27 = .ok (.iconst 0, 1) := by decide +kernel
theorem dX0_search_28 : decode cX0_search 28 = .ok (.invokestatic 34, 3) := by decide +kernel
theorem dX0_search_31 : decode cX0_search 31 = .ok (.aload_n 0, 1) := by decide +kernel
theorem dX0_search_32 : decode cX0_search 32 = .ok (.aload_n 1, 1) := by decide +kernel
theorem dX0_search_33 : decode cX0_search 33 = .ok (.iload_n 2, 1) := by decide +kernel
theorem dX0_search_34 : decode cX0_search 34 = .ok (.iload_n 3, 1) := by decide +kernel
theorem dX0_search_35 : decode cX0_search 35 = .ok (.invokevirtual 40, 3) := by decide +kernel
theorem dX0_search_38 : decode cX0_search 38 = .ok (.iconst 0, 1) := by decide +kernel
theorem dX0_search_39 : decode cX0_search 39 = .ok (.istore 4, 2) := by decide +kernel
theorem dX0_search_41 : decode cX0_search 41 = .ok (.iload 4, 2) := by decide +kernel
theorem dX0_search_43 : decode cX0_search 43 = .ok (.aload_n 0, 1) := by decide +kernel
theorem dX0_search_44 : decode cX0_search 44 = .ok (.getfield 44, 3) := by decide +kernel
theorem dX0_search_47 : decode cX0_search 47 = .ok (.if_icmp .ge 46, 3) := by decide +kernel
theorem dX0_search_50 : decode cX0_search 50 = .ok (.aload_n 1, 1) := by decide +kernel
theorem dX0_search_51 : decode cX0_search 51 = .ok (.iload_n 2, 1) := by decide +kernel
theorem dX0_search_52 : decode cX0_search 52 = .ok (.iload 4, 2) := by decide +kernel
theorem dX0_search_54 : decode cX0_search 54 = .ok (.invokevirtual 47, 3) := by decide +kernel
theorem dX0_search_57 : decode cX0_search 57 = .ok (.lstore 5, 2) := by decide +kernel
theorem dX0_search_59 : decode cX0_search 59 = .ok (.aload_n 1, 1) := by decide +kernel
theorem dX0_search_60 : decode cX0_search 60 = .ok (.lload 5, 2) := by decide +kernel
theorem dX0_search_62 : decode cX0_search 62 = .ok (.iload_n 3, 1) := by decide +kernel
theorem dX0_search_63 : decode cX0_search 63 = .ok (.invokevirtual 53, 3) := by decide +kernel
theorem dX0_search_66 : decode cX0_search 66 = .ok (.ifCond .ne 21, 3) := by decide +kernel
theorem dX0_search_69 : decode cX0_search 69 = .ok (.aload_n 0, 1) := by decide +kernel
theorem dX0_search_70 : decode cX0_search 70 = .ok (.iconst 1, 1) := by decide +kernel
theorem dX0_search_71 : decode cX0_search 71 = .ok (.iload 4, 2) := by decide +kernel
theorem dX0_search_73 : decode cX0_search 73 = .ok (.ishl, 1) := by decide +kernel
theorem dX0_search_74 : decode cX0_search 74 = .ok (.iload 4, 2) := by decide +kernel
theorem dX0_search_76 : decode cX0_search 76 = .ok (.iconst 1, 1) := by decide +kernel
theorem dX0_search_77 : decode cX0_search 77 = .ok (.aload_n 1, 1) := by decide +kernel
theorem dX0_search_78 : decode cX0_search 78 = .ok (.lload 5, 2) := by decide +kernel
theorem dX0_search_80 : decode cX0_search 80 = .ok (.iload_n 3, 1) := by decide +kernel
theorem dX0_search_81 : decode cX0_search 81 = .ok (.invokevirtual 57, 3) := by decide +kernel
theorem dX0_search_84 : decode cX0_search 84 = .ok (.invokevirtual 60, 3) := by decide +kernel
theorem dX0_search_87 : decode cX0_search 87 = .ok (.iinc 4 1, 3) := by decide +kernel
theorem dX0_search_90 : decode cX0_search 90 = .ok (.goto (-49), 3) := by decide +kernel
theorem dX0_search_93 : decode cX0_search 93 = .ok (.iconst 1, 1) := by decide +kernel
theorem dX0_search_94 : decode cX0_search 94 = .ok (.istore 4, 2) := by decide +kernel
theorem dX0_search_96 : decode cX0_search 96 = .ok (.iload 4, 2) := by decide +kernel
theorem dX0_search_98 : decode cX0_search 98 = .ok (.iconst 1, 1) := by decide +kernel
theorem dX0_search_99 : decode cX0_search 99 = .ok (.aload_n 0, 1) := by decide +kernel
theorem dX0_search_100 : decode cX0_search 100 = .ok (.getfield 44, 3) := by decide +kernel
theorem dX0_search_103 : decode cX0_search 103 = .ok (.ishl, 1) := by decide +kernel
theorem dX0_search_104 : decode cX0_search 104 = .ok (.if_icmp .ge 15, 3) := by decide +kernel
theorem dX0_search_107 : decode cX0_search 107 = .ok (.aload_n 0, 1) := by decide +kernel
theorem dX0_search_108 : decode cX0_search 108 = .ok (.iload 4, 2) := by decide +kernel
theorem dX0_search_110 : decode cX0_search 110 = .ok (.invokevirtual 64, 3) := by decide +kernel
theorem dX0_search_113 : decode cX0_search 113 = .ok (.iinc 4 1, 3) := by decide +kernel
theorem dX0_search_116 : decode cX0_search 116 = .ok (.goto (-20), 3) := by decide +kernel
theorem dX0_search_119 : decode cX0_search 119 = .ok (.return_, 1) := by decide +kernel
set_option maxRecDepth 20000 in
theorem ggX0_prepare_X1_freeTiles : GoodIn wsX0_prepare wsX1_freeTiles := goodIn_r _ [18, 19, 20, 21, 38, 39, 40, 41, 42, 43, 44, 45, 46, 47, 48, 49, 50, 63, 64, 65, 66, 67, 68, 69, 70] (by decide +kernel) (by decide +kernel)
set_option maxRecDepth 20000 in
theorem gX0_prepare_X1_freeTiles : GoodIn wsX0_prepare (wsV RX0 71 RX1 yX1_freeTiles wsX1_freeTiles) := goodIn_app (goodIn_of _ (by decide +kernel)) ggX0_prepare_X1_freeTiles
set_option maxRecDepth 20000 in
theorem ggX0_prepare_X1_wordOf : GoodIn wsX0_prepare wsX1_wordOf := goodIn_r _ [25, 26, 38, 39, 40, 41, 42, 43, 44, 45, 46, 47, 48, 49, 50] (by decide +kernel) (by decide +kernel)
set_option maxRecDepth 20000 in
theorem gX0_prepare_X1_wordOf : GoodIn wsX0_prepare (wsV RX0 47 RX1 yX1_wordOf wsX1_wordOf) := goodIn_app (goodIn_of _ (by decide +kernel)) ggX0_prepare_X1_wordOf
set_option maxRecDepth 20000 in
theorem ggX0_prepare_X6_length : GoodIn wsX0_prepare wsX6_length := goodIn_r _ [30] (by decide +kernel) (by decide +kernel)
set_option maxRecDepth 20000 in
theorem gX0_prepare_X6_length : GoodIn wsX0_prepare (va_wsS RX0 98 yX6_length wsX6_length) := goodIn_app (goodIn_of _ (by decide +kernel)) ggX0_prepare_X6_length
set_option maxRecDepth 20000 in
theorem ggX0_prepare_X4_rhymeOf : GoodIn wsX0_prepare wsX4_rhymeOf := goodIn_r _ [35, 36, 37, 63, 64, 65, 66, 67, 68, 69, 70] (by decide +kernel) (by decide +kernel)
set_option maxRecDepth 20000 in
theorem gX0_prepare_X4_rhymeOf : GoodIn wsX0_prepare (wsV RX0 104 RX4 yX4_rhymeOf wsX4_rhymeOf) := goodIn_app (goodIn_of _ (by decide +kernel)) ggX0_prepare_X4_rhymeOf
theorem dX0_prepare_0 : decode cX0_prepare 0 = .ok (.aload_n 0, 1) := by decide +kernel
theorem dX0_prepare_1 : decode cX0_prepare 1 = .ok (.aload_n 1, 1) := by decide +kernel
theorem dX0_prepare_2 : decode cX0_prepare 2 = .ok (.getfield 68, 3) := by decide +kernel
theorem dX0_prepare_5 : decode cX0_prepare 5 = .ok (.iload_n 2, 1) := by decide +kernel
theorem dX0_prepare_6 : decode cX0_prepare 6 = .ok (.iaload, 1) := by decide +kernel
theorem dX0_prepare_7 : decode cX0_prepare 7 = .ok (.putfield 44, 3) := by decide +kernel
theorem dX0_prepare_10 : decode cX0_prepare 10 = .ok (.aload_n 0, 1) := by decide +kernel
theorem dX0_prepare_11 : decode cX0_prepare 11 = .ok (.aload_n 1, 1) := by decide +kernel
theorem dX0_prepare_12 : decode cX0_prepare 12 = .ok (.iload_n 3, 1) := by decide +kernel
theorem dX0_prepare_13 : decode cX0_prepare 13 = .ok (.invokevirtual 71, 3) := by decide +kernel
theorem dX0_prepare_16 : decode cX0_prepare 16 = .ok (.putfield 75, 3) := by decide +kernel
theorem dX0_prepare_19 : decode cX0_prepare 19 = .ok (.aload_n 0, 1) := by decide +kernel
theorem dX0_prepare_20 : decode cX0_prepare 20 = .ok (.aload_n 1, 1) := by decide +kernel
theorem dX0_prepare_21 : decode cX0_prepare 21 = .ok (.getfield 78, 3) := by decide +kernel
theorem dX0_prepare_24 : decode cX0_prepare 24 = .ok (.iload_n 3, 1) := by decide +kernel
theorem dX0_prepare_25 : decode cX0_prepare 25 = .ok (.iaload, 1) := by decide +kernel
theorem dX0_prepare_26 : decode cX0_prepare 26 = .ok (.putfield 81, 3) := by decide +kernel
theorem dX0_prepare_29 : decode cX0_prepare 29 = .ok (.aload_n 0, 1) := by decide +kernel
theorem dX0_prepare_30 : decode cX0_prepare 30 = .ok (.aload_n 1, 1) := by decide +kernel
theorem dX0_prepare_31 : decode cX0_prepare 31 = .ok (.getfield 84, 3) := by decide +kernel
theorem dX0_prepare_34 : decode cX0_prepare 34 = .ok (.getfield 88, 3) := by decide +kernel
theorem dX0_prepare_37 : decode cX0_prepare 37 = .ok (.putfield 93, 3) := by decide +kernel
theorem dX0_prepare_40 : decode cX0_prepare 40 = .ok (.aload_n 0, 1) := by decide +kernel
theorem dX0_prepare_41 : decode cX0_prepare 41 = .ok (.aload_n 1, 1) := by decide +kernel
theorem dX0_prepare_42 : decode cX0_prepare 42 = .ok (.getfield 84, 3) := by decide +kernel
theorem dX0_prepare_45 : decode cX0_prepare 45 = .ok (.getfield 94, 3) := by decide +kernel
theorem dX0_prepare_48 : decode cX0_prepare 48 = .ok (.putfield 97, 3) := by decide +kernel
theorem dX0_prepare_51 : decode cX0_prepare 51 = .ok (.iconst 0, 1) := by decide +kernel
theorem dX0_prepare_52 : decode cX0_prepare 52 = .ok (.istore 4, 2) := by decide +kernel
theorem dX0_prepare_54 : decode cX0_prepare 54 = .ok (.iload 4, 2) := by decide +kernel
theorem dX0_prepare_56 : decode cX0_prepare 56 = .ok (.aload_n 0, 1) := by decide +kernel
theorem dX0_prepare_57 : decode cX0_prepare 57 = .ok (.getfield 44, 3) := by decide +kernel
theorem dX0_prepare_60 : decode cX0_prepare 60 = .ok (.if_icmp .ge 121, 3) := by decide +kernel
theorem dX0_prepare_63 : decode cX0_prepare 63 = .ok (.aload_n 1, 1) := by decide +kernel
theorem dX0_prepare_64 : decode cX0_prepare 64 = .ok (.iload_n 2, 1) := by decide +kernel
theorem dX0_prepare_65 : decode cX0_prepare 65 = .ok (.iload 4, 2) := by decide +kernel
theorem dX0_prepare_67 : decode cX0_prepare 67 = .ok (.invokevirtual 47, 3) := by decide +kernel
theorem dX0_prepare_70 : decode cX0_prepare 70 = .ok (.lstore 5, 2) := by decide +kernel
theorem dX0_prepare_72 : decode cX0_prepare 72 = .ok (.aload_n 0, 1) := by decide +kernel
theorem dX0_prepare_73 : decode cX0_prepare 73 = .ok (.getfield 18, 3) := by decide +kernel
theorem dX0_prepare_76 : decode cX0_prepare 76 = .ok (.iload 4, 2) := by decide +kernel
theorem dX0_prepare_78 : decode cX0_prepare 78 = .ok (.lload 5, 2) := by decide +kernel
theorem dX0_prepare_80 : decode cX0_prepare 80 = .ok (.invokestatic 98, 3) := by decide +kernel
theorem dX0_prepare_83 : decode cX0_prepare 83 = .ok (.iastore, 1) := by decide +kernel
theorem dX0_prepare_84 : decode cX0_prepare 84 = .ok (.iconst 0, 1) := by decide +kernel
theorem dX0_prepare_85 : decode cX0_prepare 85 = .ok (.istore 7, 2) := by decide +kernel
theorem dX0_prepare_87 : decode cX0_prepare 87 = .ok (.iload 7, 2) := by decide +kernel
theorem dX0_prepare_89 : decode cX0_prepare 89 = .ok (.aload_n 0, 1) := by decide +kernel
theorem dX0_prepare_90 : decode cX0_prepare 90 = .ok (.getfield 44, 3) := by decide +kernel
theorem dX0_prepare_93 : decode cX0_prepare 93 = .ok (.if_icmp .ge 82, 3) := by decide +kernel
theorem dX0_prepare_96 : decode cX0_prepare 96 = .ok (.aload_n 1, 1) := by decide +kernel
theorem dX0_prepare_97 : decode cX0_prepare 97 = .ok (.iload_n 2, 1) := by decide +kernel
theorem dX0_prepare_98 : decode cX0_prepare 98 = .ok (.iload 7, 2) := by decide +kernel
theorem dX0_prepare_100 : decode cX0_prepare 100 = .ok (.invokevirtual 47, 3) := by decide +kernel
theorem dX0_prepare_103 : decode cX0_prepare 103 = .ok (.lstore 8, 2) := by decide +kernel
theorem dX0_prepare_105 : decode cX0_prepare 105 = .ok (.aload_n 1, 1) := by decide +kernel
theorem dX0_prepare_106 : decode cX0_prepare 106 = .ok (.getfield 84, 3) := by decide +kernel
theorem dX0_prepare_109 : decode cX0_prepare 109 = .ok (.lload 5, 2) := by decide +kernel
theorem dX0_prepare_111 : decode cX0_prepare 111 = .ok (.lload 8, 2) := by decide +kernel
theorem dX0_prepare_113 : decode cX0_prepare 113 = .ok (.invokevirtual 104, 3) := by decide +kernel
theorem dX0_prepare_116 : decode cX0_prepare 116 = .ok (.istore 10, 2) := by decide +kernel
theorem dX0_prepare_118 : decode cX0_prepare 118 = .ok (.lload 5, 2) := by decide +kernel
theorem dX0_prepare_120 : decode cX0_prepare 120 = .ok (.lload 8, 2) := by decide +kernel
theorem dX0_prepare_122 : decode cX0_prepare 122 = .ok (.lcmp, 1) := by decide +kernel
theorem dX0_prepare_123 : decode cX0_prepare 123 = .ok (.ifCond .eq 19, 3) := by decide +kernel
theorem dX0_prepare_126 : decode cX0_prepare 126 = .ok (.iload 10, 2) := by decide +kernel
theorem dX0_prepare_128 : decode cX0_prepare 128 = .ok (.aload_n 1, 1) := by decide +kernel
theorem dX0_prepare_129 : decode cX0_prepare 129 = .ok (.getfield 84, 3) := by decide +kernel
theorem dX0_prepare_132 : decode cX0_prepare 132 = .ok (.getfield 108, 3) := by decide +kernel
theorem dX0_prepare_135 : decode cX0_prepare 135 = .ok (.if_icmp .lt 7, 3) := by decide +kernel
theorem dX0_prepare_138 : decode cX0_prepare 138 = .ok (.iconst 1, 1) := by decide +kernel
theorem dX0_prepare_139 : decode cX0_prepare 139 = .ok (.goto 4, 3) := by decide +kernel
theorem dX0_prepare_142 : decode cX0_prepare 142 = .ok (.iconst 0, 1) := by decide +kernel
theorem dX0_prepare_143 : decode cX0_prepare 143 = .ok (.istore 11, 2) := by decide +kernel
theorem dX0_prepare_145 : decode cX0_prepare 145 = .ok (.aload_n 0, 1) := by decide +kernel
theorem dX0_prepare_146 : decode cX0_prepare 146 = .ok (.getfield 21, 3) := by decide +kernel
theorem dX0_prepare_149 : decode cX0_prepare 149 = .ok (.iload 4, 2) := by decide +kernel
theorem dX0_prepare_151 : decode cX0_prepare 151 = .ok (.bipush 8, 2) := by decide +kernel
theorem dX0_prepare_153 : decode cX0_prepare 153 = .ok (.imul, 1) := by decide +kernel
theorem dX0_prepare_154 : decode cX0_prepare 154 = .ok (.iload 7, 2) := by decide +kernel
theorem dX0_prepare_156 : decode cX0_prepare 156 = .ok (.iadd, 1) := by decide +kernel
theorem dX0_prepare_157 : decode cX0_prepare 157 = .ok (.iload 11, 2) := by decide +kernel
theorem dX0_prepare_159 : decode cX0_prepare 159 = .ok (.ifCond .eq 8, 3) := by decide +kernel
theorem dX0_prepare_162 : decode cX0_prepare 162 = .ok (.iload 10, 2) := by decide +kernel
theorem dX0_prepare_164 : decode cX0_prepare 164 = .ok (.goto 4, 3) := by decide +kernel
theorem dX0_prepare_167 : decode cX0_prepare 167 = .ok (.iconst (-1), 1) := by decide +kernel
theorem dX0_prepare_168 : decode cX0_prepare 168 = .ok (.iastore, 1) := by decide +kernel
theorem dX0_prepare_169 : decode cX0_prepare 169 = .ok (.iinc 7 1, 3) := by decide +kernel
theorem dX0_prepare_172 : decode cX0_prepare 172 = .ok (.goto (-85), 3) := by decide +kernel
theorem dX0_prepare_175 : decode cX0_prepare 175 = .ok (.iinc 4 1, 3) := by decide +kernel
theorem dX0_prepare_178 : decode cX0_prepare 178 = .ok (.goto (-124), 3) := by decide +kernel
theorem dX0_prepare_181 : decode cX0_prepare 181 = .ok (.return_, 1) := by decide +kernel
set_option maxRecDepth 20000 in
theorem ggX0_extend_X0_lettersOf : GoodIn wsX0_extend wsX0_lettersOf := goodIn_r _ [14, 3, 6, 33, 34, 35, 36, 37, 38, 39, 40, 41, 42, 43, 44] (by decide +kernel) (by decide +kernel)
set_option maxRecDepth 20000 in
theorem gX0_extend_X0_lettersOf : GoodIn wsX0_extend (wsV RX0 111 RX0 yX0_lettersOf wsX0_lettersOf) := goodIn_app (goodIn_of _ (by decide +kernel)) ggX0_extend_X0_lettersOf
set_option maxRecDepth 20000 in
theorem ggX0_extend_J6_bitCount_0f7a4 : GoodIn wsX0_extend wsJ6_bitCount_0f7a4 := goodIn_r _ [18, 19, 20, 21] (by decide +kernel) (by decide +kernel)
set_option maxRecDepth 20000 in
theorem gX0_extend_J6_bitCount_0f7a4 : GoodIn wsX0_extend (va_wsS RX0 114 yJ6_bitCount_0f7a4 wsJ6_bitCount_0f7a4) := goodIn_app (goodIn_of _ (by decide +kernel)) ggX0_extend_J6_bitCount_0f7a4
set_option maxRecDepth 20000 in
theorem ggX0_extend_X0_note : GoodIn wsX0_extend wsX0_note := goodIn_r _ [25, 4, 9, 26, 27, 28, 29, 30, 31, 1, 32, 15, 16, 17, 18, 19, 20, 21, 10, 11, 12, 13, 14, 3, 6, 33, 34, 35, 36, 37, 38, 39, 40, 41, 42, 43, 44] (by decide +kernel) (by decide +kernel)
set_option maxRecDepth 20000 in
theorem gX0_extend_X0_note : GoodIn wsX0_extend (wsV RX0 60 RX0 yX0_note wsX0_note) := goodIn_app (goodIn_of _ (by decide +kernel)) ggX0_extend_X0_note
theorem dX0_extend_0 : decode cX0_extend 0 = .ok (.aload_n 0, 1) := by decide +kernel
theorem dX0_extend_1 : decode cX0_extend 1 = .ok (.getfield 75, 3) := by decide +kernel
theorem dX0_extend_4 : decode cX0_extend 4 = .ok (.aload_n 0, 1) := by decide +kernel
theorem dX0_extend_5 : decode cX0_extend 5 = .ok (.iload_n 1, 1) := by decide +kernel
theorem dX0_extend_6 : decode cX0_extend 6 = .ok (.invokevirtual 111, 3) := by decide +kernel
theorem dX0_extend_9 : decode cX0_extend 9 = .ok (.isub, 1) := by decide +kernel
theorem dX0_extend_10 : decode cX0_extend 10 = .ok (.istore_n 2, 1) := by decide +kernel
theorem dX0_extend_11 : decode cX0_extend 11 = .ok (.aload_n 0, 1) := by decide +kernel
theorem dX0_extend_12 : decode cX0_extend 12 = .ok (.getfield 81, 3) := by decide +kernel
theorem dX0_extend_15 : decode cX0_extend 15 = .ok (.iload_n 1, 1) := by decide +kernel
theorem dX0_extend_16 : decode cX0_extend 16 = .ok (.invokestatic 114, 3) := by decide +kernel
theorem dX0_extend_19 : decode cX0_extend 19 = .ok (.iadd, 1) := by decide +kernel
theorem dX0_extend_20 : decode cX0_extend 20 = .ok (.iconst 1, 1) := by decide +kernel
theorem dX0_extend_21 : decode cX0_extend 21 = .ok (.iadd, 1) := by decide +kernel
theorem dX0_extend_22 : decode cX0_extend 22 = .ok (.istore_n 3, 1) := by decide +kernel
theorem dX0_extend_23 : decode cX0_extend 23 = .ok (.iconst 0, 1) := by decide +kernel
theorem dX0_extend_24 : decode cX0_extend 24 = .ok (.istore 4, 2) := by decide +kernel
theorem dX0_extend_26 : decode cX0_extend 26 = .ok (.iload 4, 2) := by decide +kernel
theorem dX0_extend_28 : decode cX0_extend 28 = .ok (.aload_n 0, 1) := by decide +kernel
theorem dX0_extend_29 : decode cX0_extend 29 = .ok (.getfield 44, 3) := by decide +kernel
theorem dX0_extend_32 : decode cX0_extend 32 = .ok (.if_icmp .ge 167, 3) := by decide +kernel
theorem dX0_extend_35 : decode cX0_extend 35 = .ok (.iload_n 1, 1) := by decide +kernel
theorem dX0_extend_36 : decode cX0_extend 36 = .ok (.bipush 8, 2) := by decide +kernel
theorem dX0_extend_38 : decode cX0_extend 38 = .ok (.imul, 1) := by decide +kernel
theorem dX0_extend_39 : decode cX0_extend 39 = .ok (.iload 4, 2) := by decide +kernel
theorem dX0_extend_41 : decode cX0_extend 41 = .ok (.iadd, 1) := by decide +kernel
theorem dX0_extend_42 : decode cX0_extend 42 = .ok (.istore 5, 2) := by decide +kernel
theorem dX0_extend_44 : decode cX0_extend 44 = .ok (.iconst 0, 1) := by decide +kernel
theorem dX0_extend_45 : decode cX0_extend 45 = .ok (.istore 6, 2) := by decide +kernel
theorem dX0_extend_47 : decode cX0_extend 47 = .ok (.iload 6, 2) := by decide +kernel
theorem dX0_extend_49 : decode cX0_extend 49 = .ok (.aload_n 0, 1) := by decide +kernel
theorem dX0_extend_50 : decode cX0_extend 50 = .ok (.getfield 44, 3) := by decide +kernel
theorem dX0_extend_53 : decode cX0_extend 53 = .ok (.if_icmp .ge 140, 3) := by decide +kernel
theorem dX0_extend_56 : decode cX0_extend 56 = .ok (.aload_n 0, 1) := by decide +kernel
theorem dX0_extend_57 : decode cX0_extend 57 = .ok (.getfield 11, 3) := by decide +kernel
theorem dX0_extend_60 : decode cX0_extend 60 = .ok (.iload 5, 2) := by decide +kernel
theorem dX0_extend_62 : decode cX0_extend 62 = .ok (.iaload, 1) := by decide +kernel
theorem dX0_extend_63 : decode cX0_extend 63 = .ok (.ifCond .le 130, 3) := by decide +kernel
theorem dX0_extend_66 : decode cX0_extend 66 = .ok (.aload_n 0, 1) := by decide +kernel
theorem dX0_extend_67 : decode cX0_extend 67 = .ok (.getfield 21, 3) := by decide +kernel
theorem dX0_extend_70 : decode cX0_extend 70 = .ok (.iload 4, 2) := by decide +kernel
theorem dX0_extend_72 : decode cX0_extend 72 = .ok (.bipush 8, 2) := by decide +kernel
theorem dX0_extend_74 : decode cX0_extend 74 = .ok (.imul, 1) := by decide +kernel
theorem dX0_extend_75 : decode cX0_extend 75 = .ok (.iload 6, 2) := by decide +kernel
theorem dX0_extend_77 : decode cX0_extend 77 = .ok (.iadd, 1) := by decide +kernel
theorem dX0_extend_78 : decode cX0_extend 78 = .ok (.iaload, 1) := by decide +kernel
theorem dX0_extend_79 : decode cX0_extend 79 = .ok (.istore 7, 2) := by decide +kernel
theorem dX0_extend_81 : decode cX0_extend 81 = .ok (.iload_n 1, 1) := by decide +kernel
theorem dX0_extend_82 : decode cX0_extend 82 = .ok (.iconst 1, 1) := by decide +kernel
theorem dX0_extend_83 : decode cX0_extend 83 = .ok (.iload 6, 2) := by decide +kernel
theorem dX0_extend_85 : decode cX0_extend 85 = .ok (.ishl, 1) := by decide +kernel
theorem dX0_extend_86 : decode cX0_extend 86 = .ok (.iand, 1) := by decide +kernel
theorem dX0_extend_87 : decode cX0_extend 87 = .ok (.ifCond .ne 7, 3) := by decide +kernel
theorem dX0_extend_90 : decode cX0_extend 90 = .ok (.iconst 1, 1) := by decide +kernel
theorem dX0_extend_91 : decode cX0_extend 91 = .ok (.goto 4, 3) := by decide +kernel
theorem dX0_extend_94 : decode cX0_extend 94 = .ok (.iconst 0, 1) := by decide +kernel
theorem dX0_extend_95 : decode cX0_extend 95 = .ok (.istore 8, 2) := by decide +kernel
theorem dX0_extend_97 : decode cX0_extend 97 = .ok (.iload 8, 2) := by decide +kernel
theorem dX0_extend_99 : decode cX0_extend 99 = .ok (.ifCond .eq 88, 3) := by decide +kernel
theorem dX0_extend_102 : decode cX0_extend 102 = .ok (.iload 7, 2) := by decide +kernel
theorem dX0_extend_104 : decode cX0_extend 104 = .ok (.iconst (-1), 1) := by decide +kernel
theorem dX0_extend_105 : decode cX0_extend 105 = .ok (.if_icmp .eq 82, 3) := by decide +kernel
theorem dX0_extend_108 : decode cX0_extend 108 = .ok (.aload_n 0, 1) := by decide +kernel
theorem dX0_extend_109 : decode cX0_extend 109 = .ok (.getfield 18, 3) := by decide +kernel
theorem dX0_extend_112 : decode cX0_extend 112 = .ok (.iload 6, 2) := by decide +kernel
theorem dX0_extend_114 : decode cX0_extend 114 = .ok (.iaload, 1) := by decide +kernel
theorem dX0_extend_115 : decode cX0_extend 115 = .ok (.iload_n 2, 1) := by decide +kernel
theorem dX0_extend_116 : decode cX0_extend 116 = .ok (.if_icmp .gt 71, 3) := by decide +kernel
theorem dX0_extend_119 : decode cX0_extend 119 = .ok (.aload_n 0, 1) := by decide +kernel
theorem dX0_extend_120 : decode cX0_extend 120 = .ok (.getfield 18, 3) := by decide +kernel
theorem dX0_extend_123 : decode cX0_extend 123 = .ok (.iload 6, 2) := by decide +kernel
theorem dX0_extend_125 : decode cX0_extend 125 = .ok (.iaload, 1) := by decide +kernel
theorem dX0_extend_126 : decode cX0_extend 126 = .ok (.aload_n 0, 1) := by decide +kernel
theorem dX0_extend_127 : decode cX0_extend 127 = .ok (.getfield 93, 3) := by decide +kernel
theorem dX0_extend_130 : decode cX0_extend 130 = .ok (.iload 7, 2) := by decide +kernel
theorem dX0_extend_132 : decode cX0_extend 132 = .ok (.imul, 1) := by decide +kernel
theorem dX0_extend_133 : decode cX0_extend 133 = .ok (.iadd, 1) := by decide +kernel
theorem dX0_extend_134 : decode cX0_extend 134 = .ok (.aload_n 0, 1) := by decide +kernel
theorem dX0_extend_135 : decode cX0_extend 135 = .ok (.getfield 18, 3) := by decide +kernel
theorem dX0_extend_138 : decode cX0_extend 138 = .ok (.iload 6, 2) := by decide +kernel
theorem dX0_extend_140 : decode cX0_extend 140 = .ok (.iaload, 1) := by decide +kernel
theorem dX0_extend_141 : decode cX0_extend 141 = .ok (.iload_n 2, 1) := by decide +kernel
theorem dX0_extend_142 : decode cX0_extend 142 = .ok (.if_icmp .ne 12, 3) := by decide +kernel
theorem dX0_extend_145 : decode cX0_extend 145 = .ok (.aload_n 0, 1) := by decide +kernel
theorem dX0_extend_146 : decode cX0_extend 146 = .ok (.getfield 97, 3) := by decide +kernel
theorem dX0_extend_149 : decode cX0_extend 149 = .ok (.iload_n 3, 1) := by decide +kernel
theorem dX0_extend_150 : decode cX0_extend 150 = .ok (.imul, 1) := by decide +kernel
theorem dX0_extend_151 : decode cX0_extend 151 = .ok (.goto 4, 3) := by decide +kernel
theorem dX0_extend_154 : decode cX0_extend 154 = .ok (.iconst 0, 1) := by decide +kernel
theorem dX0_extend_155 : decode cX0_extend 155 = .ok (.iadd, 1) := by decide +kernel
theorem dX0_extend_156 : decode cX0_extend 156 = .ok (.istore 9, 2) := by decide +kernel
theorem dX0_extend_158 : decode cX0_extend 158 = .ok (.aload_n 0, 1) := by decide +kernel
theorem dX0_extend_159 : decode cX0_extend 159 = .ok (.iload_n 1, 1) := by decide +kernel
theorem dX0_extend_160 : decode cX0_extend 160 = .ok (.iconst 1, 1) := by decide +kernel
theorem dX0_extend_161 : decode cX0_extend 161 = .ok (.iload 6, 2) := by decide +kernel
theorem dX0_extend_163 : decode cX0_extend 163 = .ok (.ishl, 1) := by decide +kernel
theorem dX0_extend_164 : decode cX0_extend 164 = .ok (.ior, 1) := by decide +kernel
theorem dX0_extend_165 : decode cX0_extend 165 = .ok (.iload 6, 2) := by decide +kernel
theorem dX0_extend_167 : decode cX0_extend 167 = .ok (.aload_n 0, 1) := by decide +kernel
theorem dX0_extend_168 : decode cX0_extend 168 = .ok (.getfield 11, 3) := by decide +kernel
theorem dX0_extend_171 : decode cX0_extend 171 = .ok (.iload 5, 2) := by decide +kernel
theorem dX0_extend_173 : decode cX0_extend 173 = .ok (.iaload, 1) := by decide +kernel
theorem dX0_extend_174 : decode cX0_extend 174 = .ok (.aload_n 0, 1) := by decide +kernel
theorem dX0_extend_175 : decode cX0_extend 175 = .ok (.getfield 15, 3) := by decide +kernel
theorem dX0_extend_178 : decode cX0_extend 178 = .ok (.iload 5, 2) := by decide +kernel
theorem dX0_extend_180 : decode cX0_extend 180 = .ok (.iaload, 1) := by decide +kernel
theorem dX0_extend_181 : decode cX0_extend 181 = .ok (.iload 9, 2) := by decide +kernel
theorem dX0_extend_183 : decode cX0_extend 183 = .ok (.iadd, 1) := by decide +kernel
theorem dX0_extend_184 : decode cX0_extend 184 = .ok (.invokevirtual 60, 3) := by decide +kernel
theorem dX0_extend_187 : decode cX0_extend 187 = .ok (.iinc 6 1, 3) := by decide +kernel
theorem dX0_extend_190 : decode cX0_extend 190 = .ok (.goto (-143), 3) := by decide +kernel
theorem dX0_extend_193 : decode cX0_extend 193 = .ok (.iinc 4 1, 3) := by decide +kernel
theorem dX0_extend_196 : decode cX0_extend 196 = .ok (.goto (-170), 3) := by decide +kernel
theorem dX0_extend_199 : decode cX0_extend 199 = .ok (.return_, 1) := by decide +kernel
set_option maxRecDepth 20000 in
theorem ggX0_note_J6_bitCount_0f7a4 : GoodIn wsX0_note wsJ6_bitCount_0f7a4 := goodIn_r _ [14, 15, 16, 17] (by decide +kernel) (by decide +kernel)
set_option maxRecDepth 20000 in
theorem gX0_note_J6_bitCount_0f7a4 : GoodIn wsX0_note (va_wsS RX0 114 yJ6_bitCount_0f7a4 wsJ6_bitCount_0f7a4) := goodIn_app (goodIn_of _ (by decide +kernel)) ggX0_note_J6_bitCount_0f7a4
set_option maxRecDepth 20000 in
theorem ggX0_note_X0_lettersOf : GoodIn wsX0_note wsX0_lettersOf := goodIn_r _ [22, 23, 24, 25, 26, 27, 28, 29, 30, 31, 32, 33, 34, 35, 36] (by decide +kernel) (by decide +kernel)
set_option maxRecDepth 20000 in
theorem gX0_note_X0_lettersOf : GoodIn wsX0_note (wsV RX0 111 RX0 yX0_lettersOf wsX0_lettersOf) := goodIn_app (goodIn_of _ (by decide +kernel)) ggX0_note_X0_lettersOf
theorem dX0_note_0 : decode cX0_note 0 = .ok (.iload_n 1, 1) := by decide +kernel
theorem dX0_note_1 : decode cX0_note 1 = .ok (.bipush 8, 2) := by decide +kernel
theorem dX0_note_3 : decode cX0_note 3 = .ok (.imul, 1) := by decide +kernel
theorem dX0_note_4 : decode cX0_note 4 = .ok (.iload_n 2, 1) := by decide +kernel
theorem dX0_note_5 : decode cX0_note 5 = .ok (.iadd, 1) := by decide +kernel
theorem dX0_note_6 : decode cX0_note 6 = .ok (.istore 5, 2) := by decide +kernel
theorem dX0_note_8 : decode cX0_note 8 = .ok (.aload_n 0, 1) := by decide +kernel
theorem dX0_note_9 : decode cX0_note 9 = .ok (.getfield 11, 3) := by decide +kernel
theorem dX0_note_12 : decode cX0_note 12 = .ok (.iload 5, 2) := by decide +kernel
theorem dX0_note_14 : decode cX0_note 14 = .ok (.dup2, 1) := by decide +kernel
theorem dX0_note_15 : decode cX0_note 15 = .ok (.iaload, 1) := by decide +kernel
theorem dX0_note_16 : decode cX0_note 16 = .ok (.iload_n 3, 1) := by decide +kernel
theorem dX0_note_17 : decode cX0_note 17 = .ok (.iadd, 1) := by decide +kernel
theorem dX0_note_18 : decode cX0_note 18 = .ok (.iastore, 1) := by decide +kernel
theorem dX0_note_19 : decode cX0_note 19 = .ok (.aload_n 0, 1) := by decide +kernel
theorem dX0_note_20 : decode cX0_note 20 = .ok (.getfield 15, 3) := by decide +kernel
theorem dX0_note_23 : decode cX0_note 23 = .ok (.iload 5, 2) := by decide +kernel
theorem dX0_note_25 : decode cX0_note 25 = .ok (.aload_n 0, 1) := by decide +kernel
theorem dX0_note_26 : decode cX0_note 26 = .ok (.getfield 15, 3) := by decide +kernel
theorem dX0_note_29 : decode cX0_note 29 = .ok (.iload 5, 2) := by decide +kernel
theorem dX0_note_31 : decode cX0_note 31 = .ok (.iaload, 1) := by decide +kernel
theorem dX0_note_32 : decode cX0_note 32 = .ok (.iload 4, 2) := by decide +kernel
theorem dX0_note_34 : decode cX0_note 34 = .ok (.invokestatic 119, 3) := by decide +kernel
theorem dX0_note_37 : decode cX0_note 37 = .ok (.iastore, 1) := by decide +kernel
theorem dX0_note_38 : decode cX0_note 38 = .ok (.aload_n 0, 1) := by decide +kernel
theorem dX0_note_39 : decode cX0_note 39 = .ok (.aload_n 0, 1) := by decide +kernel
theorem dX0_note_40 : decode cX0_note 40 = .ok (.getfield 24, 3) := by decide +kernel
theorem dX0_note_43 : decode cX0_note 43 = .ok (.iload_n 1, 1) := by decide +kernel
theorem dX0_note_44 : decode cX0_note 44 = .ok (.invokestatic 114, 3) := by decide +kernel
theorem dX0_note_47 : decode cX0_note 47 = .ok (.invokestatic 119, 3) := by decide +kernel
theorem dX0_note_50 : decode cX0_note 50 = .ok (.putfield 24, 3) := by decide +kernel
theorem dX0_note_53 : decode cX0_note 53 = .ok (.aload_n 0, 1) := by decide +kernel
theorem dX0_note_54 : decode cX0_note 54 = .ok (.aload_n 0, 1) := by decide +kernel
theorem dX0_note_55 : decode cX0_note 55 = .ok (.getfield 28, 3) := by decide +kernel
theorem dX0_note_58 : decode cX0_note 58 = .ok (.iload 4, 2) := by decide +kernel
theorem dX0_note_60 : decode cX0_note 60 = .ok (.invokestatic 119, 3) := by decide +kernel
theorem dX0_note_63 : decode cX0_note 63 = .ok (.putfield 28, 3) := by decide +kernel
theorem dX0_note_66 : decode cX0_note 66 = .ok (.aload_n 0, 1) := by decide +kernel
theorem dX0_note_67 : decode cX0_note 67 = .ok (.iload_n 1, 1) := by decide +kernel
theorem dX0_note_68 : decode cX0_note 68 = .ok (.invokevirtual 111, 3) := by decide +kernel
theorem dX0_note_71 : decode cX0_note 71 = .ok (.aload_n 0, 1) := by decide +kernel
theorem dX0_note_72 : decode cX0_note 72 = .ok (.getfield 75, 3) := by decide +kernel
theorem dX0_note_75 : decode cX0_note 75 = .ok (.if_icmp .ne 13, 3) := by decide +kernel
theorem dX0_note_78 : decode cX0_note 78 = .ok (.aload_n 0, 1) := by decide +kernel
theorem dX0_note_79 : decode cX0_note 79 = .ok (.dup, 1) := by decide +kernel
theorem dX0_note_80 : decode cX0_note 80 = .ok (.getfield 31, 3) := by decide +kernel
theorem dX0_note_83 : decode cX0_note 83 = .ok (.iload_n 3, 1) := by decide +kernel
theorem dX0_note_84 : decode cX0_note 84 = .ok (.iadd, 1) := by decide +kernel
theorem dX0_note_85 : decode cX0_note 85 = .ok (.putfield 31, 3) := by decide +kernel
theorem dX0_note_88 : decode cX0_note 88 = .ok (.return_, 1) := by decide +kernel
theorem dX0_lettersOf_0 : decode cX0_lettersOf 0 = .ok (.iconst 0, 1) := by decide +kernel
theorem dX0_lettersOf_1 : decode cX0_lettersOf 1 = .ok (.istore_n 2, 1) := by decide +kernel
theorem dX0_lettersOf_2 : decode cX0_lettersOf 2 = .ok (.iconst 0, 1) := by decide +kernel
theorem dX0_lettersOf_3 : decode cX0_lettersOf 3 = .ok (.istore_n 3, 1) := by decide +kernel
theorem dX0_lettersOf_4 : decode cX0_lettersOf 4 = .ok (.iload_n 3, 1) := by decide +kernel
theorem dX0_lettersOf_5 : decode cX0_lettersOf 5 = .ok (.aload_n 0, 1) := by decide +kernel
theorem dX0_lettersOf_6 : decode cX0_lettersOf 6 = .ok (.getfield 44, 3) := by decide +kernel
theorem dX0_lettersOf_9 : decode cX0_lettersOf 9 = .ok (.if_icmp .ge 26, 3) := by decide +kernel
theorem dX0_lettersOf_12 : decode cX0_lettersOf 12 = .ok (.iload_n 1, 1) := by decide +kernel
theorem dX0_lettersOf_13 : decode cX0_lettersOf 13 = .ok (.iconst 1, 1) := by decide +kernel
theorem dX0_lettersOf_14 : decode cX0_lettersOf 14 = .ok (.iload_n 3, 1) := by decide +kernel
theorem dX0_lettersOf_15 : decode cX0_lettersOf 15 = .ok (.ishl, 1) := by decide +kernel
theorem dX0_lettersOf_16 : decode cX0_lettersOf 16 = .ok (.iand, 1) := by decide +kernel
theorem dX0_lettersOf_17 : decode cX0_lettersOf 17 = .ok (.ifCond .eq 12, 3) := by decide +kernel
theorem dX0_lettersOf_20 : decode cX0_lettersOf 20 = .ok (.iload_n 2, 1) := by decide +kernel
theorem dX0_lettersOf_21 : decode cX0_lettersOf 21 = .ok (.aload_n 0, 1) := by decide +kernel
theorem dX0_lettersOf_22 : decode cX0_lettersOf 22 = .ok (.getfield 18, 3) := by decide +kernel
theorem dX0_lettersOf_25 : decode cX0_lettersOf 25 = .ok (.iload_n 3, 1) := by decide +kernel
theorem dX0_lettersOf_26 : decode cX0_lettersOf 26 = .ok (.iaload, 1) := by decide +kernel
theorem dX0_lettersOf_27 : decode cX0_lettersOf 27 = .ok (.iadd, 1) := by decide +kernel
theorem dX0_lettersOf_28 : decode cX0_lettersOf 28 = .ok (.istore_n 2, 1) := by decide +kernel
theorem dX0_lettersOf_29 : decode cX0_lettersOf 29 = .ok (.iinc 3 1, 3) := by decide +kernel
theorem dX0_lettersOf_32 : decode cX0_lettersOf 32 = .ok (.goto (-28), 3) := by decide +kernel
theorem dX0_lettersOf_35 : decode cX0_lettersOf 35 = .ok (.iload_n 2, 1) := by decide +kernel
theorem dX0_lettersOf_36 : decode cX0_lettersOf 36 = .ok (.ireturn, 1) := by decide +kernel
set_option maxRecDepth 20000 in
theorem ggX1_init_X4_init : GoodIn wsX1_init wsX4_init := goodIn_r _ [20, 21, 2, 3, 8, 22, 23, 24, 25, 26, 27, 28, 29, 30, 31, 32, 67, 68, 69, 70, 71, 72, 73, 74, 88, 89, 90] (by decide +kernel) (by decide +kernel)
set_option maxRecDepth 20000 in
theorem gX1_init_X4_init_n11 : GoodIn wsX1_init (wsX4_init) := ggX1_init_X4_init
set_option maxRecDepth 20000 in
theorem ggX1_init_X1_reset : GoodIn wsX1_init wsX1_reset := goodIn_r _ [37, 7, 9, 10, 11, 13, 14, 15, 16, 17, 38, 39, 40, 41, 42, 43, 6, 44, 22, 23, 27, 45, 46, 47, 48, 49, 50, 51, 52, 53, 54, 55, 56, 26, 57, 58, 59, 60, 61, 62, 31, 63, 64, 65, 66, 75, 76, 77, 78, 79, 80, 81, 82, 83, 84, 85, 86, 87, 67, 68, 69, 70, 71, 72, 73, 74, 88, 89, 90] (by decide +kernel) (by decide +kernel)
set_option maxRecDepth 20000 in
theorem gX1_init_X1_reset : GoodIn wsX1_init (wsV RX1 49 RX1 yX1_reset wsX1_reset) := goodIn_app (goodIn_of _ (by decide +kernel)) ggX1_init_X1_reset
theorem dX1_init_0 : decode cX1_init 0 = .ok (.aload_n 0, 1) := by decide +kernel
theorem dX1_init_1 : decode cX1_init 1 = .ok (.invokespecial 3, 3) := by decide +kernel
theorem dX1_init_4 : decode cX1_init 4 = .ok (.aload_n 0, 1) := by decide +kernel
theorem dX1_init_5 : decode cX1_init 5 = .ok (.new 9, 3) := by decide +kernel
theorem dX1_init_8 : decode cX1_init 8 = .ok (.dup, 1) := by decide +kernel
theorem dX1_init_9 : decode cX1_init 9 = .ok (.invokespecial 11, 3) := by decide +kernel
theorem dX1_init_12 : decode cX1_init 12 = .ok (.putfield 12, 3) := by decide +kernel
theorem dX1_init_15 : decode cX1_init 15 = .ok (.aload_n 0, 1) := by decide +kernel
theorem dX1_init_16 : decode cX1_init 16 = .ok (.sipush 240, 3) := by decide +kernel
theorem dX1_init_19 : decode cX1_init 19 = .ok (.newarray .int, 2) := by decide +kernel
theorem dX1_init_21 : decode cX1_init 21 = .ok (.putfield 18, 3) := by decide +kernel
theorem dX1_init_24 : decode cX1_init 24 = .ok (.aload_n 0, 1) := by decide +kernel
theorem dX1_init_25 : decode cX1_init 25 = .ok (.bipush 6, 2) := by decide +kernel
theorem dX1_init_27 : decode cX1_init 27 = .ok (.newarray .int, 2) := by decide +kernel
theorem dX1_init_29 : decode cX1_init 29 = .ok (.putfield 22, 3) := by decide +kernel
theorem dX1_init_32 : decode cX1_init 32 = .ok (.aload_n 0, 1) := by decide +kernel
theorem dX1_init_33 : decode cX1_init 33 = .ok (.bipush 6, 2) := by decide +kernel
theorem dX1_init_35 : decode cX1_init 35 = .ok (.newarray .int, 2) := by decide +kernel
theorem dX1_init_37 : decode cX1_init 37 = .ok (.putfield 25, 3) := by decide +kernel
theorem dX1_init_40 : decode cX1_init 40 = .ok (.aload_n 0, 1) := by decide +kernel
theorem dX1_init_41 : decode cX1_init 41 = .ok (.bipush 6, 2) := by decide +kernel
theorem dX1_init_43 : decode cX1_init 43 = .ok (.newarray .long, 2) := by decide +kernel
theorem dX1_init_45 : decode cX1_init 45 = .ok (.putfield 28, 3) := by decide +kernel
theorem dX1_init_48 : decode cX1_init 48 = .ok (.aload_n 0, 1) := by decide +kernel
theorem dX1_init_49 : decode cX1_init 49 = .ok (.bipush 6, 2) := by decide +kernel
theorem dX1_init_51 : decode cX1_init 51 = .ok (.newarray .int, 2) := by decide +kernel
theorem dX1_init_53 : decode cX1_init 53 = .ok (.putfield 32, 3) := by decide +kernel
theorem dX1_init_56 : decode cX1_init 56 = .ok (.aload_n 0, 1) := by decide +kernel
theorem dX1_init_57 : decode cX1_init 57 = .ok (.bipush 32, 2) := by decide +kernel
theorem dX1_init_59 : decode cX1_init 59 = .ok (.newarray .long, 2) := by decide +kernel
theorem dX1_init_61 : decode cX1_init 61 = .ok (.putfield 35, 3) := by decide +kernel
theorem dX1_init_64 : decode cX1_init 64 = .ok (.aload_n 0, 1) := by decide +kernel
theorem dX1_init_65 : decode cX1_init 65 = .ok (.iconst 4, 1) := by decide +kernel
theorem dX1_init_66 : decode cX1_init 66 = .ok (.newarray .int, 2) := by decide +kernel
theorem dX1_init_68 : decode cX1_init 68 = .ok (.putfield 38, 3) := by decide +kernel
theorem dX1_init_71 : decode cX1_init 71 = .ok (.aload_n 0, 1) := by decide +kernel
theorem dX1_init_72 : decode cX1_init 72 = .ok (.iconst 4, 1) := by decide +kernel
theorem dX1_init_73 : decode cX1_init 73 = .ok (.newarray .int, 2) := by decide +kernel
theorem dX1_init_75 : decode cX1_init 75 = .ok (.putfield 41, 3) := by decide +kernel
theorem dX1_init_78 : decode cX1_init 78 = .ok (.aload_n 0, 1) := by decide +kernel
theorem dX1_init_79 : decode cX1_init 79 = .ok (.bipush 6, 2) := by decide +kernel
theorem dX1_init_81 : decode cX1_init 81 = .ok (.newarray .int, 2) := by decide +kernel
theorem dX1_init_83 : decode cX1_init 83 = .ok (.putfield 46, 3) := by decide +kernel
theorem dX1_init_86 : decode cX1_init 86 = .ok (.aload_n 0, 1) := by decide +kernel
theorem dX1_init_87 : decode cX1_init 87 = .ok (.invokevirtual 49, 3) := by decide +kernel
theorem dX1_init_90 : decode cX1_init 90 = .ok (.return_, 1) := by decide +kernel
set_option maxRecDepth 20000 in
theorem ggX1_reset_X4_reset : GoodIn wsX1_reset wsX4_reset := goodIn_r _ [17, 18, 19, 20, 21, 22, 23, 24, 25, 26, 27, 28, 29, 30, 31, 32, 33, 34, 35, 36, 37, 38, 39, 40, 58, 59, 60, 61, 62, 63, 64, 65, 66, 67, 68] (by decide +kernel) (by decide +kernel)
set_option maxRecDepth 20000 in
theorem gX1_reset_X4_reset : GoodIn wsX1_reset (wsV RX1 52 RX4 yX4_reset wsX4_reset) := goodIn_app (goodIn_of _ (by decide +kernel)) ggX1_reset_X4_reset
set_option maxRecDepth 20000 in
theorem ggX1_reset_J7_fill_53178 : GoodIn wsX1_reset wsJ7_fill_53178 := goodIn_r _ [29] (by decide +kernel) (by decide +kernel)
set_option maxRecDepth 20000 in
theorem gX1_reset_J7_fill_53178 : GoodIn wsX1_reset (va_wsS RX1 53 yJ7_fill_53178 wsJ7_fill_53178) := goodIn_app (goodIn_of _ (by decide +kernel)) ggX1_reset_J7_fill_53178
set_option maxRecDepth 20000 in
theorem ggX1_reset_J7_fill_d0a16 : GoodIn wsX1_reset wsJ7_fill_d0a16 := goodIn_r _ [44] (by decide +kernel) (by decide +kernel)
set_option maxRecDepth 20000 in
theorem gX1_reset_J7_fill_d0a16 : GoodIn wsX1_reset (va_wsS RX1 59 yJ7_fill_d0a16 wsJ7_fill_d0a16) := goodIn_app (goodIn_of _ (by decide +kernel)) ggX1_reset_J7_fill_d0a16
theorem dX1_reset_0 : decode cX1_reset 0 = .ok (.aload_n 0, 1) := by decide +kernel
theorem dX1_reset_1 : decode cX1_reset 1 = .ok (.getfield 12, 3) := by decide +kernel
theorem dX1_reset_4 : decode cX1_reset 4 = .ok (.invokevirtual 52, 3) := by decide +kernel
theorem dX1_reset_7 : decode cX1_reset 7 = .ok (.aload_n 0, 1) := by decide +kernel
theorem dX1_reset_8 : decode cX1_reset 8 = .ok (.getfield 18, 3) := by decide +kernel
theorem dX1_reset_11 : decode cX1_reset 11 = .ok (.iconst 0, 1) := by decide +kernel
theorem dX1_reset_12 : decode cX1_reset 12 = .ok (.invokestatic 53, 3) := by decide +kernel
theorem dX1_reset_15 : decode cX1_reset 15 = .ok (.aload_n 0, 1) := by decide +kernel
theorem dX1_reset_16 : decode cX1_reset 16 = .ok (.getfield 22, 3) := by decide +kernel
theorem dX1_reset_19 : decode cX1_reset 19 = .ok (.iconst 0, 1) := by decide +kernel
theorem dX1_reset_20 : decode cX1_reset 20 = .ok (.invokestatic 53, 3) := by decide +kernel
theorem dX1_reset_23 : decode cX1_reset 23 = .ok (.aload_n 0, 1) := by decide +kernel
theorem dX1_reset_24 : decode cX1_reset 24 = .ok (.getfield 25, 3) := by decide +kernel
theorem dX1_reset_27 : decode cX1_reset 27 = .ok (.iconst 0, 1) := by decide +kernel
theorem dX1_reset_28 : decode cX1_reset 28 = .ok (.invokestatic 53, 3) := by decide +kernel
theorem dX1_reset_31 : decode cX1_reset 31 = .ok (.aload_n 0, 1) := by decide +kernel
theorem dX1_reset_32 : decode cX1_reset 32 = .ok (.getfield 28, 3) := by decide +kernel
theorem dX1_reset_35 : decode cX1_reset 35 = .ok (.lconst 0, 1) := by decide +kernel
theorem dX1_reset_36 : decode cX1_reset 36 = .ok (.invokestatic 59, 3) := by decide +kernel
theorem dX1_reset_39 : decode cX1_reset 39 = .ok (.aload_n 0, 1) := by decide +kernel
theorem dX1_reset_40 : decode cX1_reset 40 = .ok (.getfield 32, 3) := by decide +kernel
theorem dX1_reset_43 : decode cX1_reset 43 = .ok (.iconst (-1), 1) := by decide +kernel
theorem dX1_reset_44 : decode cX1_reset 44 = .ok (.invokestatic 53, 3) := by decide +kernel
theorem dX1_reset_47 : decode cX1_reset 47 = .ok (.aload_n 0, 1) := by decide +kernel
theorem dX1_reset_48 : decode cX1_reset 48 = .ok (.getfield 35, 3) := by decide +kernel
theorem dX1_reset_51 : decode cX1_reset 51 = .ok (.lconst 0, 1) := by decide +kernel
theorem dX1_reset_52 : decode cX1_reset 52 = .ok (.invokestatic 59, 3) := by decide +kernel
theorem dX1_reset_55 : decode cX1_reset 55 = .ok (.aload_n 0, 1) := by decide +kernel
theorem dX1_reset_56 : decode cX1_reset 56 = .ok (.getfield 38, 3) := by decide +kernel
theorem dX1_reset_59 : decode cX1_reset 59 = .ok (.iconst 0, 1) := by decide +kernel
theorem dX1_reset_60 : decode cX1_reset 60 = .ok (.invokestatic 53, 3) := by decide +kernel
theorem dX1_reset_63 : decode cX1_reset 63 = .ok (.aload_n 0, 1) := by decide +kernel
theorem dX1_reset_64 : decode cX1_reset 64 = .ok (.getfield 41, 3) := by decide +kernel
theorem dX1_reset_67 : decode cX1_reset 67 = .ok (.iconst 0, 1) := by decide +kernel
theorem dX1_reset_68 : decode cX1_reset 68 = .ok (.invokestatic 53, 3) := by decide +kernel
theorem dX1_reset_71 : decode cX1_reset 71 = .ok (.aload_n 0, 1) := by decide +kernel
theorem dX1_reset_72 : decode cX1_reset 72 = .ok (.iconst 0, 1) := by decide +kernel
theorem dX1_reset_73 : decode cX1_reset 73 = .ok (.putfield 62, 3) := by decide +kernel
theorem dX1_reset_76 : decode cX1_reset 76 = .ok (.aload_n 0, 1) := by decide +kernel
theorem dX1_reset_77 : decode cX1_reset 77 = .ok (.iconst 0, 1) := by decide +kernel
theorem dX1_reset_78 : decode cX1_reset 78 = .ok (.putfield 66, 3) := by decide +kernel
theorem dX1_reset_81 : decode cX1_reset 81 = .ok (.aload_n 0, 1) := by decide +kernel
theorem dX1_reset_82 : decode cX1_reset 82 = .ok (.iconst 0, 1) := by decide +kernel
theorem dX1_reset_83 : decode cX1_reset 83 = .ok (.putfield 69, 3) := by decide +kernel
theorem dX1_reset_86 : decode cX1_reset 86 = .ok (.return_, 1) := by decide +kernel
set_option maxRecDepth 20000 in
theorem ggX1_copyFrom_X4_copyFrom : GoodIn wsX1_copyFrom wsX4_copyFrom := goodIn_r _ [21, 22, 23, 4, 5, 6, 24, 25, 26, 27, 28, 29, 30, 31, 32, 33, 34, 35, 36, 37, 38, 52, 53, 54, 55, 56, 57, 58, 59, 60, 61, 62] (by decide +kernel) (by decide +kernel)
set_option maxRecDepth 20000 in
theorem gX1_copyFrom_X4_copyFrom : GoodIn wsX1_copyFrom (wsV RX1 73 RX4 yX4_copyFrom wsX4_copyFrom) := goodIn_app (goodIn_of _ (by decide +kernel)) ggX1_copyFrom_X4_copyFrom
theorem dX1_copyFrom_0 : decode cX1_copyFrom 0 = .ok (.aload_n 0, 1) := by decide +kernel
theorem dX1_copyFrom_1 : decode cX1_copyFrom 1 = .ok (.getfield 12, 3) := by decide +kernel
theorem dX1_copyFrom_4 : decode cX1_copyFrom 4 = .ok (.aload_n 1, 1) := by decide +kernel
theorem dX1_copyFrom_5 : decode cX1_copyFrom 5 = .ok (.getfield 12, 3) := by decide +kernel
theorem dX1_copyFrom_8 : decode cX1_copyFrom 8 = .ok (.invokevirtual 73, 3) := by decide +kernel
theorem dX1_copyFrom_11 : decode cX1_copyFrom 11 = .ok (.aload_n 1, 1) := by decide +kernel
theorem dX1_copyFrom_12 : decode cX1_copyFrom 12 = .ok (.getfield 18, 3) := by decide +kernel
theorem dX1_copyFrom_15 : decode cX1_copyFrom 15 = .ok (.iconst 0, 1) := by decide +kernel
theorem dX1_copyFrom_16 : decode cX1_copyFrom 16 = .ok (.aload_n 0, 1) := by decide +kernel
theorem dX1_copyFrom_17 : decode cX1_copyFrom 17 = .ok (.getfield 18, 3) := by decide +kernel
theorem dX1_copyFrom_20 : decode cX1_copyFrom 20 = .ok (.iconst 0, 1) := by decide +kernel
theorem dX1_copyFrom_21 : decode cX1_copyFrom 21 = .ok (.aload_n 0, 1) := by decide +kernel
theorem dX1_copyFrom_22 : decode cX1_copyFrom 22 = .ok (.getfield 18, 3) := by decide +kernel
theorem dX1_copyFrom_25 : decode cX1_copyFrom 25 = .ok (.arraylength, 1) := by decide +kernel
theorem dX1_copyFrom_26 : decode cX1_copyFrom 26 = .ok (.invokestatic 77, 3) := by decide +kernel
theorem dX1_copyFrom_29 : decode cX1_copyFrom 29 = .ok (.aload_n 1, 1) := by decide +kernel
theorem dX1_copyFrom_30 : decode cX1_copyFrom 30 = .ok (.getfield 22, 3) := by decide +kernel
theorem dX1_copyFrom_33 : decode cX1_copyFrom 33 = .ok (.iconst 0, 1) := by decide +kernel
theorem dX1_copyFrom_34 : decode cX1_copyFrom 34 = .ok (.aload_n 0, 1) := by decide +kernel
theorem dX1_copyFrom_35 : decode cX1_copyFrom 35 = .ok (.getfield 22, 3) := by decide +kernel
theorem dX1_copyFrom_38 : decode cX1_copyFrom 38 = .ok (.iconst 0, 1) := by decide +kernel
theorem dX1_copyFrom_39 : decode cX1_copyFrom 39 = .ok (.aload_n 0, 1) := by decide +kernel
theorem dX1_copyFrom_40 : decode cX1_copyFrom 40 = .ok (.getfield 22, 3) := by decide +kernel
theorem dX1_copyFrom_43 : decode cX1_copyFrom 43 = .ok (.arraylength, 1) := by decide +kernel
theorem dX1_copyFrom_44 : decode cX1_copyFrom 44 = .ok (.invokestatic 77, 3) := by decide +kernel
theorem dX1_copyFrom_47 : decode cX1_copyFrom 47 = .ok (.aload_n 1, 1) := by decide +kernel
theorem dX1_copyFrom_48 : decode cX1_copyFrom 48 = .ok (.getfield 25, 3) := by decide +kernel
theorem dX1_copyFrom_51 : decode cX1_copyFrom 51 = .ok (.iconst 0, 1) := by decide +kernel
theorem dX1_copyFrom_52 : decode cX1_copyFrom 52 = .ok (.aload_n 0, 1) := by decide +kernel
theorem dX1_copyFrom_53 : decode cX1_copyFrom 53 = .ok (.getfield 25, 3) := by decide +kernel
theorem dX1_copyFrom_56 : decode cX1_copyFrom 56 = .ok (.iconst 0, 1) := by decide +kernel
theorem dX1_copyFrom_57 : decode cX1_copyFrom 57 = .ok (.aload_n 0, 1) := by decide +kernel
theorem dX1_copyFrom_58 : decode cX1_copyFrom 58 = .ok (.getfield 25, 3) := by decide +kernel
theorem dX1_copyFrom_61 : decode cX1_copyFrom 61 = .ok (.arraylength, 1) := by decide +kernel
theorem dX1_copyFrom_62 : decode cX1_copyFrom 62 = .ok (.invokestatic 77, 3) := by decide +kernel
theorem dX1_copyFrom_65 : decode cX1_copyFrom 65 = .ok (.aload_n 1, 1) := by decide +kernel
theorem dX1_copyFrom_66 : decode cX1_copyFrom 66 = .ok (.getfield 28, 3) := by decide +kernel
theorem dX1_copyFrom_69 : decode cX1_copyFrom 69 = .ok (.iconst 0, 1) := by decide +kernel
theorem dX1_copyFrom_70 : decode cX1_copyFrom 70 = .ok (.aload_n 0, 1) := by decide +kernel
theorem dX1_copyFrom_71 : decode cX1_copyFrom 71 = .ok (.getfield 28, 3) := by decide +kernel
theorem dX1_copyFrom_74 : decode cX1_copyFrom 74 = .ok (.iconst 0, 1) := by decide +kernel
theorem dX1_copyFrom_75 : decode cX1_copyFrom 75 = .ok (.aload_n 0, 1) := by decide +kernel
theorem dX1_copyFrom_76 : decode cX1_copyFrom 76 = .ok (.getfield 28, 3) := by decide +kernel
theorem dX1_copyFrom_79 : decode cX1_copyFrom 79 = .ok (.arraylength, 1) := by decide +kernel
theorem dX1_copyFrom_80 : decode cX1_copyFrom 80 = .ok (.invokestatic 77, 3) := by decide +kernel
theorem dX1_copyFrom_83 : decode cX1_copyFrom 83 = .ok (.aload_n 1, 1) := by decide +kernel
theorem dX1_copyFrom_84 : decode cX1_copyFrom 84 = .ok (.getfield 32, 3) := by decide +kernel
theorem dX1_copyFrom_87 : decode cX1_copyFrom 87 = .ok (.iconst 0, 1) := by decide +kernel
theorem dX1_copyFrom_88 : decode cX1_copyFrom 88 = .ok (.aload_n 0, 1) := by decide +kernel
theorem dX1_copyFrom_89 : decode cX1_copyFrom 89 = .ok (.getfield 32, 3) := by decide +kernel
theorem dX1_copyFrom_92 : decode cX1_copyFrom 92 = .ok (.iconst 0, 1) := by decide +kernel
theorem dX1_copyFrom_93 : decode cX1_copyFrom 93 = .ok (.aload_n 0, 1) := by decide +kernel
theorem dX1_copyFrom_94 : decode cX1_copyFrom 94 = .ok (.getfield 32, 3) := by decide +kernel
theorem dX1_copyFrom_97 : decode cX1_copyFrom 97 = .ok (.arraylength, 1) := by decide +kernel
theorem dX1_copyFrom_98 : decode cX1_copyFrom 98 = .ok (.invokestatic 77, 3) := by decide +kernel
theorem dX1_copyFrom_101 : decode cX1_copyFrom 101 = .ok (.aload_n 1, 1) := by decide +kernel
theorem dX1_copyFrom_102 : decode cX1_copyFrom 102 = .ok (.getfield 35, 3) := by decide +kernel
theorem dX1_copyFrom_105 : decode cX1_copyFrom 105 = .ok (.iconst 0, 1) := by decide +kernel
theorem dX1_copyFrom_106 : decode cX1_copyFrom 106 = .ok (.aload_n 0, 1) := by decide +kernel
theorem dX1_copyFrom_107 : decode cX1_copyFrom 107 = .ok (.getfield 35, 3) := by decide +kernel
theorem dX1_copyFrom_110 : decode cX1_copyFrom 110 = .ok (.iconst 0, 1) := by decide +kernel
theorem dX1_copyFrom_111 : decode cX1_copyFrom 111 = .ok (.aload_n 0, 1) := by decide +kernel
theorem dX1_copyFrom_112 : decode cX1_copyFrom 112 = .ok (.getfield 35, 3) := by decide +kernel
theorem dX1_copyFrom_115 : decode cX1_copyFrom 115 = .ok (.arraylength, 1) := by decide +kernel
theorem dX1_copyFrom_116 : decode cX1_copyFrom 116 = .ok (.invokestatic 77, 3) := by decide +kernel
theorem dX1_copyFrom_119 : decode cX1_copyFrom 119 = .ok (.aload_n 1, 1) := by decide +kernel
theorem dX1_copyFrom_120 : decode cX1_copyFrom 120 = .ok (.getfield 38, 3) := by decide +kernel
theorem dX1_copyFrom_123 : decode cX1_copyFrom 123 = .ok (.iconst 0, 1) := by decide +kernel
theorem dX1_copyFrom_124 : decode cX1_copyFrom 124 = .ok (.aload_n 0, 1) := by decide +kernel
theorem dX1_copyFrom_125 : decode cX1_copyFrom 125 = .ok (.getfield 38, 3) := by decide +kernel
theorem dX1_copyFrom_128 : decode cX1_copyFrom 128 = .ok (.iconst 0, 1) := by decide +kernel
theorem dX1_copyFrom_129 : decode cX1_copyFrom 129 = .ok (.aload_n 0, 1) := by decide +kernel
theorem dX1_copyFrom_130 : decode cX1_copyFrom 130 = .ok (.getfield 38, 3) := by decide +kernel
theorem dX1_copyFrom_133 : decode cX1_copyFrom 133 = .ok (.arraylength, 1) := by decide +kernel
theorem dX1_copyFrom_134 : decode cX1_copyFrom 134 = .ok (.invokestatic 77, 3) := by decide +kernel
theorem dX1_copyFrom_137 : decode cX1_copyFrom 137 = .ok (.aload_n 1, 1) := by decide +kernel
theorem dX1_copyFrom_138 : decode cX1_copyFrom 138 = .ok (.getfield 41, 3) := by decide +kernel
theorem dX1_copyFrom_141 : decode cX1_copyFrom 141 = .ok (.iconst 0, 1) := by decide +kernel
theorem dX1_copyFrom_142 : decode cX1_copyFrom 142 = .ok (.aload_n 0, 1) := by decide +kernel
theorem dX1_copyFrom_143 : decode cX1_copyFrom 143 = .ok (.getfield 41, 3) := by decide +kernel
theorem dX1_copyFrom_146 : decode cX1_copyFrom 146 = .ok (.iconst 0, 1) := by decide +kernel
theorem dX1_copyFrom_147 : decode cX1_copyFrom 147 = .ok (.aload_n 0, 1) := by decide +kernel
theorem dX1_copyFrom_148 : decode cX1_copyFrom 148 = .ok (.getfield 41, 3) := by decide +kernel
theorem dX1_copyFrom_151 : decode cX1_copyFrom 151 = .ok (.arraylength, 1) := by decide +kernel
theorem dX1_copyFrom_152 : decode cX1_copyFrom 152 = .ok (.invokestatic 77, 3) := by decide +kernel
theorem dX1_copyFrom_155 : decode cX1_copyFrom 155 = .ok (.aload_n 0, 1) := by decide +kernel
theorem dX1_copyFrom_156 : decode cX1_copyFrom 156 = .ok (.aload_n 1, 1) := by decide +kernel
theorem dX1_copyFrom_157 : decode cX1_copyFrom 157 = .ok (.getfield 62, 3) := by decide +kernel
theorem dX1_copyFrom_160 : decode cX1_copyFrom 160 = .ok (.putfield 62, 3) := by decide +kernel
theorem dX1_copyFrom_163 : decode cX1_copyFrom 163 = .ok (.aload_n 0, 1) := by decide +kernel
theorem dX1_copyFrom_164 : decode cX1_copyFrom 164 = .ok (.aload_n 1, 1) := by decide +kernel
theorem dX1_copyFrom_165 : decode cX1_copyFrom 165 = .ok (.getfield 66, 3) := by decide +kernel
theorem dX1_copyFrom_168 : decode cX1_copyFrom 168 = .ok (.putfield 66, 3) := by decide +kernel
theorem dX1_copyFrom_171 : decode cX1_copyFrom 171 = .ok (.aload_n 0, 1) := by decide +kernel
theorem dX1_copyFrom_172 : decode cX1_copyFrom 172 = .ok (.aload_n 1, 1) := by decide +kernel
theorem dX1_copyFrom_173 : decode cX1_copyFrom 173 = .ok (.getfield 69, 3) := by decide +kernel
theorem dX1_copyFrom_176 : decode cX1_copyFrom 176 = .ok (.putfield 69, 3) := by decide +kernel
theorem dX1_copyFrom_179 : decode cX1_copyFrom 179 = .ok (.return_, 1) := by decide +kernel
set_option maxRecDepth 20000 in
theorem ggX1_stateNumber_X1_wordsOnRows : GoodIn wsX1_stateNumber wsX1_wordsOnRows := goodIn_r _ [14, 1, 2, 15, 60, 61, 62, 63, 64, 65, 66, 67, 68, 69, 70, 71, 72, 73, 74, 75, 76, 77, 78, 79, 80] (by decide +kernel) (by decide +kernel)
set_option maxRecDepth 20000 in
theorem gX1_stateNumber_X1_wordsOnRows : GoodIn wsX1_stateNumber (wsV RX1 98 RX1 yX1_wordsOnRows wsX1_wordsOnRows) := goodIn_app (goodIn_of _ (by decide +kernel)) ggX1_stateNumber_X1_wordsOnRows
set_option maxRecDepth 20000 in
theorem ggX1_stateNumber_X1_filledRows : GoodIn wsX1_stateNumber wsX1_filledRows := goodIn_r _ [19, 1, 2, 20, 21, 22, 13, 23, 24, 25, 60, 61, 62, 63, 64, 65, 66, 67, 68, 69, 70, 71, 72, 73, 74, 75, 76, 77, 78, 79, 80] (by decide +kernel) (by decide +kernel)
set_option maxRecDepth 20000 in
theorem gX1_stateNumber_X1_filledRows : GoodIn wsX1_stateNumber (wsV RX1 102 RX1 yX1_filledRows wsX1_filledRows) := goodIn_app (goodIn_of _ (by decide +kernel)) ggX1_stateNumber_X1_filledRows
set_option maxRecDepth 20000 in
theorem ggX1_stateNumber_X1_playsNow : GoodIn wsX1_stateNumber wsX1_playsNow := goodIn_r _ [29, 30, 7, 1, 2, 31, 32, 33, 13, 34, 8, 35, 36, 37, 38, 39, 40, 41, 42, 43, 15, 44, 4, 45, 46, 47, 48, 20, 21, 22, 23, 24, 25, 49, 50, 51, 52, 53, 54, 55, 60, 61, 62, 63, 64, 65, 66, 67, 68, 69, 70, 71, 72, 73, 74, 75, 76, 77, 78, 79, 80] (by decide +kernel) (by decide +kernel)
set_option maxRecDepth 20000 in
theorem gX1_stateNumber_X1_playsNow : GoodIn wsX1_stateNumber (wsV RX1 105 RX1 yX1_playsNow wsX1_playsNow) := goodIn_app (goodIn_of _ (by decide +kernel)) ggX1_stateNumber_X1_playsNow
set_option maxRecDepth 20000 in
theorem ggX1_stateNumber_X1_wordsOfHands : GoodIn wsX1_stateNumber wsX1_wordsOfHands := goodIn_r _ [59, 1, 3, 30, 60, 61, 62, 63, 64, 65, 66, 67, 68, 69, 70, 71, 72, 73, 74, 75, 76, 77, 78, 79, 80] (by decide +kernel) (by decide +kernel)
set_option maxRecDepth 20000 in
theorem gX1_stateNumber_X1_wordsOfHands : GoodIn wsX1_stateNumber (wsV RX1 108 RX1 yX1_wordsOfHands wsX1_wordsOfHands) := goodIn_app (goodIn_of _ (by decide +kernel)) ggX1_stateNumber_X1_wordsOfHands
theorem dX1_stateNumber_0 : decode cX1_stateNumber 0 = .ok (.iload_n 1, 1) := by decide +kernel
theorem dX1_stateNumber_1 : decode cX1_stateNumber 1 = .ok (.tableswitch 137 0 10 #[59, 67, 75, 83, 91, 99, 104, 117, 122, 127, 132], 59) := by decide +kernel
theorem dX1_stateNumber_60 : decode cX1_stateNumber 60 = .ok (.aload_n 0, 1) := by decide +kernel
theorem dX1_stateNumber_61 : decode cX1_stateNumber 61 = .ok (.getfield 12, 3) := by decide +kernel
theorem dX1_stateNumber_64 : decode cX1_stateNumber 64 = .ok (.getfield 83, 3) := by decide +kernel
theorem dX1_stateNumber_67 : decode cX1_stateNumber 67 = .ok (.ireturn, 1) := by decide +kernel
theorem dX1_stateNumber_68 : decode cX1_stateNumber 68 = .ok (.aload_n 0, 1) := by decide +kernel
theorem dX1_stateNumber_69 : decode cX1_stateNumber 69 = .ok (.getfield 12, 3) := by decide +kernel
theorem dX1_stateNumber_72 : decode cX1_stateNumber 72 = .ok (.getfield 86, 3) := by decide +kernel
theorem dX1_stateNumber_75 : decode cX1_stateNumber 75 = .ok (.ireturn, 1) := by decide +kernel
theorem dX1_stateNumber_76 : decode cX1_stateNumber 76 = .ok (.aload_n 0, 1) := by decide +kernel
theorem dX1_stateNumber_77 : decode cX1_stateNumber 77 = .ok (.getfield 12, 3) := by decide +kernel
theorem dX1_stateNumber_80 : decode cX1_stateNumber 80 = .ok (.getfield 89, 3) := by decide +kernel
theorem dX1_stateNumber_83 : decode cX1_stateNumber 83 = .ok (.ireturn, 1) := by decide +kernel
theorem dX1_stateNumber_84 : decode cX1_stateNumber 84 = .ok (.aload_n 0, 1) := by decide +kernel
theorem dX1_stateNumber_85 : decode cX1_stateNumber 85 = .ok (.getfield 12, 3) := by decide +kernel
theorem dX1_stateNumber_88 : decode cX1_stateNumber 88 = .ok (.getfield 92, 3) := by decide +kernel
theorem dX1_stateNumber_91 : decode cX1_stateNumber 91 = .ok (.ireturn, 1) := by decide +kernel
theorem dX1_stateNumber_92 : decode cX1_stateNumber 92 = .ok (.aload_n 0, 1) := by decide +kernel
theorem dX1_stateNumber_93 : decode cX1_stateNumber 93 = .ok (.getfield 12, 3) := by decide +kernel
theorem dX1_stateNumber_96 : decode cX1_stateNumber 96 = .ok (.getfield 95, 3) := by decide +kernel
theorem dX1_stateNumber_99 : decode cX1_stateNumber 99 = .ok (.ireturn, 1) := by decide +kernel
theorem dX1_stateNumber_100 : decode cX1_stateNumber 100 = .ok (.aload_n 0, 1) := by decide +kernel
theorem dX1_stateNumber_101 : decode cX1_stateNumber 101 = .ok (.getfield 62, 3) := by decide +kernel
theorem dX1_stateNumber_104 : decode cX1_stateNumber 104 = .ok (.ireturn, 1) := by decide +kernel
theorem dX1_stateNumber_105 : decode cX1_stateNumber 105 = .ok (.aload_n 0, 1) := by decide +kernel
theorem dX1_stateNumber_106 : decode cX1_stateNumber 106 = .ok (.getfield 69, 3) := by decide +kernel
theorem dX1_stateNumber_109 : decode cX1_stateNumber 109 = .ok (.ifCond .eq 7, 3) := by decide +kernel
theorem dX1_stateNumber_112 : decode cX1_stateNumber 112 = .ok (.iconst 1, 1) := by decide +kernel
theorem dX1_stateNumber_113 : decode cX1_stateNumber 113 = .ok (.goto 4, 3) := by decide +kernel
theorem dX1_stateNumber_116 : decode cX1_stateNumber 116 = .ok (.iconst 0, 1) := by decide +kernel
theorem dX1_stateNumber_117 : decode cX1_stateNumber 117 = .ok (.ireturn, 1) := by decide +kernel
theorem dX1_stateNumber_118 : decode cX1_stateNumber 118 = .ok (.aload_n 0, 1) := by decide +kernel
theorem dX1_stateNumber_119 : decode cX1_stateNumber 119 = .ok (.getfield 66, 3) := by decide +kernel
theorem dX1_stateNumber_122 : decode cX1_stateNumber 122 = .ok (.ireturn, 1) := by decide +kernel
theorem dX1_stateNumber_123 : decode cX1_stateNumber 123 = .ok (.aload_n 0, 1) := by decide +kernel
theorem dX1_stateNumber_124 : decode cX1_stateNumber 124 = .ok (.invokevirtual 98, 3) := by decide +kernel
theorem dX1_stateNumber_127 : decode cX1_stateNumber 127 = .ok (.ireturn, 1) := by decide +kernel
theorem dX1_stateNumber_128 : decode cX1_stateNumber 128 = .ok (.aload_n 0, 1) := by decide +kernel
theorem dX1_stateNumber_129 : decode cX1_stateNumber 129 = .ok (.invokevirtual 102, 3) := by decide +kernel
theorem dX1_stateNumber_132 : decode cX1_stateNumber 132 = .ok (.ireturn, 1) := by decide +kernel
theorem dX1_stateNumber_133 : decode cX1_stateNumber 133 = .ok (.aload_n 0, 1) := by decide +kernel
theorem dX1_stateNumber_134 : decode cX1_stateNumber 134 = .ok (.invokevirtual 105, 3) := by decide +kernel
theorem dX1_stateNumber_137 : decode cX1_stateNumber 137 = .ok (.ireturn, 1) := by decide +kernel
theorem dX1_stateNumber_138 : decode cX1_stateNumber 138 = .ok (.aload_n 0, 1) := by decide +kernel
theorem dX1_stateNumber_139 : decode cX1_stateNumber 139 = .ok (.invokevirtual 108, 3) := by decide +kernel
theorem dX1_stateNumber_142 : decode cX1_stateNumber 142 = .ok (.ireturn, 1) := by decide +kernel
set_option maxRecDepth 20000 in
theorem ggX1_rowNumber_X1_freeTiles : GoodIn wsX1_rowNumber wsX1_freeTiles := goodIn_r _ [9, 1, 2, 10, 11, 12, 13, 14, 15, 16, 17, 18, 19, 20, 21, 22, 23, 24, 25, 26, 27, 28, 29, 30, 31] (by decide +kernel) (by decide +kernel)
set_option maxRecDepth 20000 in
theorem gX1_rowNumber_X1_freeTiles : GoodIn wsX1_rowNumber (wsV RX1 114 RX1 yX1_freeTiles wsX1_freeTiles) := goodIn_app (goodIn_of _ (by decide +kernel)) ggX1_rowNumber_X1_freeTiles
theorem dX1_rowNumber_0 : decode cX1_rowNumber 0 = .ok (.iload_n 2, 1) := by decide +kernel
theorem dX1_rowNumber_1 : decode cX1_rowNumber 1 = .ok (.tableswitch 50 0 2 #[27, 37, 43], 27) := by decide +kernel
theorem dX1_rowNumber_28 : decode cX1_rowNumber 28 = .ok (.aload_n 0, 1) := by decide +kernel
theorem dX1_rowNumber_29 : decode cX1_rowNumber 29 = .ok (.getfield 12, 3) := by decide +kernel
theorem dX1_rowNumber_32 : decode cX1_rowNumber 32 = .ok (.getfield 111, 3) := by decide +kernel
theorem dX1_rowNumber_35 : decode cX1_rowNumber 35 = .ok (.iload_n 1, 1) := by decide +kernel
theorem dX1_rowNumber_36 : decode cX1_rowNumber 36 = .ok (.iaload, 1) := by decide +kernel
theorem dX1_rowNumber_37 : decode cX1_rowNumber 37 = .ok (.ireturn, 1) := by decide +kernel
theorem dX1_rowNumber_38 : decode cX1_rowNumber 38 = .ok (.aload_n 0, 1) := by decide +kernel
theorem dX1_rowNumber_39 : decode cX1_rowNumber 39 = .ok (.iload_n 1, 1) := by decide +kernel
theorem dX1_rowNumber_40 : decode cX1_rowNumber 40 = .ok (.invokevirtual 114, 3) := by decide +kernel
theorem dX1_rowNumber_43 : decode cX1_rowNumber 43 = .ok (.ireturn, 1) := by decide +kernel
theorem dX1_rowNumber_44 : decode cX1_rowNumber 44 = .ok (.aload_n 0, 1) := by decide +kernel
theorem dX1_rowNumber_45 : decode cX1_rowNumber 45 = .ok (.getfield 25, 3) := by decide +kernel
theorem dX1_rowNumber_48 : decode cX1_rowNumber 48 = .ok (.iload_n 1, 1) := by decide +kernel
theorem dX1_rowNumber_49 : decode cX1_rowNumber 49 = .ok (.iaload, 1) := by decide +kernel
theorem dX1_rowNumber_50 : decode cX1_rowNumber 50 = .ok (.ireturn, 1) := by decide +kernel
theorem dX1_rowNumber_51 : decode cX1_rowNumber 51 = .ok (.aload_n 0, 1) := by decide +kernel
theorem dX1_rowNumber_52 : decode cX1_rowNumber 52 = .ok (.getfield 32, 3) := by decide +kernel
theorem dX1_rowNumber_55 : decode cX1_rowNumber 55 = .ok (.iload_n 1, 1) := by decide +kernel
theorem dX1_rowNumber_56 : decode cX1_rowNumber 56 = .ok (.iaload, 1) := by decide +kernel
theorem dX1_rowNumber_57 : decode cX1_rowNumber 57 = .ok (.ireturn, 1) := by decide +kernel
set_option maxRecDepth 20000 in
theorem ggX1_playerNumber_X1_lettersOfHand : GoodIn wsX1_playerNumber wsX1_lettersOfHand := goodIn_r _ [7, 1, 8, 9, 10, 6, 11, 12, 13, 14, 15, 16, 24, 25, 26, 27, 28, 29, 30, 31, 32, 33, 34, 35, 36] (by decide +kernel) (by decide +kernel)
set_option maxRecDepth 20000 in
theorem gX1_playerNumber_X1_lettersOfHand : GoodIn wsX1_playerNumber (wsV RX1 118 RX1 yX1_lettersOfHand wsX1_lettersOfHand) := goodIn_app (goodIn_of _ (by decide +kernel)) ggX1_playerNumber_X1_lettersOfHand
set_option maxRecDepth 20000 in
theorem ggX1_playerNumber_X1_rowsOwnedBy : GoodIn wsX1_playerNumber wsX1_rowsOwnedBy := goodIn_r _ [20, 21, 22, 23, 24, 25, 26, 27, 28, 29, 30, 31, 32, 33, 34, 35, 36, 37, 38, 39, 40, 41, 42, 43, 44] (by decide +kernel) (by decide +kernel)
set_option maxRecDepth 20000 in
theorem gX1_playerNumber_X1_rowsOwnedBy : GoodIn wsX1_playerNumber (wsV RX1 121 RX1 yX1_rowsOwnedBy wsX1_rowsOwnedBy) := goodIn_app (goodIn_of _ (by decide +kernel)) ggX1_playerNumber_X1_rowsOwnedBy
theorem dX1_playerNumber_0 : decode cX1_playerNumber 0 = .ok (.iload_n 2, 1) := by decide +kernel
theorem dX1_playerNumber_1 : decode cX1_playerNumber 1 = .ok (.tableswitch 47 0 2 #[27, 34, 40], 27) := by decide +kernel
theorem dX1_playerNumber_28 : decode cX1_playerNumber 28 = .ok (.aload_n 0, 1) := by decide +kernel
theorem dX1_playerNumber_29 : decode cX1_playerNumber 29 = .ok (.getfield 38, 3) := by decide +kernel
theorem dX1_playerNumber_32 : decode cX1_playerNumber 32 = .ok (.iload_n 1, 1) := by decide +kernel
theorem dX1_playerNumber_33 : decode cX1_playerNumber 33 = .ok (.iaload, 1) := by decide +kernel
theorem dX1_playerNumber_34 : decode cX1_playerNumber 34 = .ok (.ireturn, 1) := by decide +kernel
theorem dX1_playerNumber_35 : decode cX1_playerNumber 35 = .ok (.aload_n 0, 1) := by decide +kernel
theorem dX1_playerNumber_36 : decode cX1_playerNumber 36 = .ok (.iload_n 1, 1) := by decide +kernel
theorem dX1_playerNumber_37 : decode cX1_playerNumber 37 = .ok (.invokevirtual 118, 3) := by decide +kernel
theorem dX1_playerNumber_40 : decode cX1_playerNumber 40 = .ok (.ireturn, 1) := by decide +kernel
theorem dX1_playerNumber_41 : decode cX1_playerNumber 41 = .ok (.aload_n 0, 1) := by decide +kernel
theorem dX1_playerNumber_42 : decode cX1_playerNumber 42 = .ok (.getfield 41, 3) := by decide +kernel
theorem dX1_playerNumber_45 : decode cX1_playerNumber 45 = .ok (.iload_n 1, 1) := by decide +kernel
theorem dX1_playerNumber_46 : decode cX1_playerNumber 46 = .ok (.iaload, 1) := by decide +kernel
theorem dX1_playerNumber_47 : decode cX1_playerNumber 47 = .ok (.ireturn, 1) := by decide +kernel
theorem dX1_playerNumber_48 : decode cX1_playerNumber 48 = .ok (.aload_n 0, 1) := by decide +kernel
theorem dX1_playerNumber_49 : decode cX1_playerNumber 49 = .ok (.iload_n 1, 1) := by decide +kernel
theorem dX1_playerNumber_50 : decode cX1_playerNumber 50 = .ok (.invokevirtual 121, 3) := by decide +kernel
theorem dX1_playerNumber_53 : decode cX1_playerNumber 53 = .ok (.ireturn, 1) := by decide +kernel
theorem dX1_letterOnTile_0 : decode cX1_letterOnTile 0 = .ok (.iload_n 2, 1) := by decide +kernel
theorem dX1_letterOnTile_1 : decode cX1_letterOnTile 1 = .ok (.aload_n 0, 1) := by decide +kernel
theorem dX1_letterOnTile_2 : decode cX1_letterOnTile 2 = .ok (.getfield 22, 3) := by decide +kernel
theorem dX1_letterOnTile_5 : decode cX1_letterOnTile 5 = .ok (.iload_n 1, 1) := by decide +kernel
theorem dX1_letterOnTile_6 : decode cX1_letterOnTile 6 = .ok (.iaload, 1) := by decide +kernel
theorem dX1_letterOnTile_7 : decode cX1_letterOnTile 7 = .ok (.if_icmp .ge 17, 3) := by decide +kernel
theorem dX1_letterOnTile_10 : decode cX1_letterOnTile 10 = .ok (.aload_n 0, 1) := by decide +kernel
theorem dX1_letterOnTile_11 : decode cX1_letterOnTile 11 = .ok (.getfield 18, 3) := by decide +kernel
theorem dX1_letterOnTile_14 : decode cX1_letterOnTile 14 = .ok (.iload_n 1, 1) := by decide +kernel
theorem dX1_letterOnTile_15 : decode cX1_letterOnTile 15 = .ok (.bipush 40, 2) := by decide +kernel
theorem dX1_letterOnTile_17 : decode cX1_letterOnTile 17 = .ok (.imul, 1) := by decide +kernel
theorem dX1_letterOnTile_18 : decode cX1_letterOnTile 18 = .ok (.iload_n 2, 1) := by decide +kernel
theorem dX1_letterOnTile_19 : decode cX1_letterOnTile 19 = .ok (.iadd, 1) := by decide +kernel
theorem dX1_letterOnTile_20 : decode cX1_letterOnTile 20 = .ok (.iaload, 1) := by decide +kernel
theorem dX1_letterOnTile_21 : decode cX1_letterOnTile 21 = .ok (.goto 4, 3) := by decide +kernel
theorem dX1_letterOnTile_24 : decode cX1_letterOnTile 24 = .ok (.iconst (-1), 1) := by decide +kernel
theorem dX1_letterOnTile_25 : decode cX1_letterOnTile 25 = .ok (.ireturn, 1) := by decide +kernel
theorem dX1_freeTiles_0 : decode cX1_freeTiles 0 = .ok (.aload_n 0, 1) := by decide +kernel
theorem dX1_freeTiles_1 : decode cX1_freeTiles 1 = .ok (.getfield 12, 3) := by decide +kernel
theorem dX1_freeTiles_4 : decode cX1_freeTiles 4 = .ok (.getfield 111, 3) := by decide +kernel
theorem dX1_freeTiles_7 : decode cX1_freeTiles 7 = .ok (.iload_n 1, 1) := by decide +kernel
theorem dX1_freeTiles_8 : decode cX1_freeTiles 8 = .ok (.iaload, 1) := by decide +kernel
theorem dX1_freeTiles_9 : decode cX1_freeTiles 9 = .ok (.aload_n 0, 1) := by decide +kernel
theorem dX1_freeTiles_10 : decode cX1_freeTiles 10 = .ok (.getfield 22, 3) := by decide +kernel
theorem dX1_freeTiles_13 : decode cX1_freeTiles 13 = .ok (.iload_n 1, 1) := by decide +kernel
theorem dX1_freeTiles_14 : decode cX1_freeTiles 14 = .ok (.iaload, 1) := by decide +kernel
theorem dX1_freeTiles_15 : decode cX1_freeTiles 15 = .ok (.isub, 1) := by decide +kernel
theorem dX1_freeTiles_16 : decode cX1_freeTiles 16 = .ok (.ireturn, 1) := by decide +kernel
theorem dX1_wordOf_0 : decode cX1_wordOf 0 = .ok (.aload_n 0, 1) := by decide +kernel
theorem dX1_wordOf_1 : decode cX1_wordOf 1 = .ok (.getfield 35, 3) := by decide +kernel
theorem dX1_wordOf_4 : decode cX1_wordOf 4 = .ok (.iload_n 1, 1) := by decide +kernel
theorem dX1_wordOf_5 : decode cX1_wordOf 5 = .ok (.bipush 8, 2) := by decide +kernel
theorem dX1_wordOf_7 : decode cX1_wordOf 7 = .ok (.imul, 1) := by decide +kernel
theorem dX1_wordOf_8 : decode cX1_wordOf 8 = .ok (.iload_n 2, 1) := by decide +kernel
theorem dX1_wordOf_9 : decode cX1_wordOf 9 = .ok (.iadd, 1) := by decide +kernel
theorem dX1_wordOf_10 : decode cX1_wordOf 10 = .ok (.laload, 1) := by decide +kernel
theorem dX1_wordOf_11 : decode cX1_wordOf 11 = .ok (.lreturn, 1) := by decide +kernel
theorem dX1_wordsOfHands_0 : decode cX1_wordsOfHands 0 = .ok (.iconst 0, 1) := by decide +kernel
theorem dX1_wordsOfHands_1 : decode cX1_wordsOfHands 1 = .ok (.istore_n 1, 1) := by decide +kernel
theorem dX1_wordsOfHands_2 : decode cX1_wordsOfHands 2 = .ok (.iconst 0, 1) := by decide +kernel
theorem dX1_wordsOfHands_3 : decode cX1_wordsOfHands 3 = .ok (.istore_n 2, 1) := by decide +kernel
theorem dX1_wordsOfHands_4 : decode cX1_wordsOfHands 4 = .ok (.iload_n 2, 1) := by decide +kernel
theorem dX1_wordsOfHands_5 : decode cX1_wordsOfHands 5 = .ok (.aload_n 0, 1) := by decide +kernel
theorem dX1_wordsOfHands_6 : decode cX1_wordsOfHands 6 = .ok (.getfield 12, 3) := by decide +kernel
theorem dX1_wordsOfHands_9 : decode cX1_wordsOfHands 9 = .ok (.getfield 86, 3) := by decide +kernel
theorem dX1_wordsOfHands_12 : decode cX1_wordsOfHands 12 = .ok (.if_icmp .ge 18, 3) := by decide +kernel
theorem dX1_wordsOfHands_15 : decode cX1_wordsOfHands 15 = .ok (.iload_n 1, 1) := by decide +kernel
theorem dX1_wordsOfHands_16 : decode cX1_wordsOfHands 16 = .ok (.aload_n 0, 1) := by decide +kernel
theorem dX1_wordsOfHands_17 : decode cX1_wordsOfHands 17 = .ok (.getfield 38, 3) := by decide +kernel
theorem dX1_wordsOfHands_20 : decode cX1_wordsOfHands 20 = .ok (.iload_n 2, 1) := by decide +kernel
theorem dX1_wordsOfHands_21 : decode cX1_wordsOfHands 21 = .ok (.iaload, 1) := by decide +kernel
theorem dX1_wordsOfHands_22 : decode cX1_wordsOfHands 22 = .ok (.iadd, 1) := by decide +kernel
theorem dX1_wordsOfHands_23 : decode cX1_wordsOfHands 23 = .ok (.istore_n 1, 1) := by decide +kernel
theorem dX1_wordsOfHands_24 : decode cX1_wordsOfHands 24 = .ok (.iinc 2 1, 3) := by decide +kernel
theorem dX1_wordsOfHands_27 : decode cX1_wordsOfHands 27 = .ok (.goto (-23), 3) := by decide +kernel
theorem dX1_wordsOfHands_30 : decode cX1_wordsOfHands 30 = .ok (.iload_n 1, 1) := by decide +kernel
theorem dX1_wordsOfHands_31 : decode cX1_wordsOfHands 31 = .ok (.ireturn, 1) := by decide +kernel
theorem dX1_wordsOnRows_0 : decode cX1_wordsOnRows 0 = .ok (.iconst 0, 1) := by decide +kernel
theorem dX1_wordsOnRows_1 : decode cX1_wordsOnRows 1 = .ok (.istore_n 1, 1) := by decide +kernel
theorem dX1_wordsOnRows_2 : decode cX1_wordsOnRows 2 = .ok (.iconst 0, 1) := by decide +kernel
theorem dX1_wordsOnRows_3 : decode cX1_wordsOnRows 3 = .ok (.istore_n 2, 1) := by decide +kernel
theorem dX1_wordsOnRows_4 : decode cX1_wordsOnRows 4 = .ok (.iload_n 2, 1) := by decide +kernel
theorem dX1_wordsOnRows_5 : decode cX1_wordsOnRows 5 = .ok (.aload_n 0, 1) := by decide +kernel
theorem dX1_wordsOnRows_6 : decode cX1_wordsOnRows 6 = .ok (.getfield 12, 3) := by decide +kernel
theorem dX1_wordsOnRows_9 : decode cX1_wordsOnRows 9 = .ok (.getfield 83, 3) := by decide +kernel
theorem dX1_wordsOnRows_12 : decode cX1_wordsOnRows 12 = .ok (.if_icmp .ge 18, 3) := by decide +kernel
theorem dX1_wordsOnRows_15 : decode cX1_wordsOnRows 15 = .ok (.iload_n 1, 1) := by decide +kernel
theorem dX1_wordsOnRows_16 : decode cX1_wordsOnRows 16 = .ok (.aload_n 0, 1) := by decide +kernel
theorem dX1_wordsOnRows_17 : decode cX1_wordsOnRows 17 = .ok (.getfield 25, 3) := by decide +kernel
theorem dX1_wordsOnRows_20 : decode cX1_wordsOnRows 20 = .ok (.iload_n 2, 1) := by decide +kernel
theorem dX1_wordsOnRows_21 : decode cX1_wordsOnRows 21 = .ok (.iaload, 1) := by decide +kernel
theorem dX1_wordsOnRows_22 : decode cX1_wordsOnRows 22 = .ok (.iadd, 1) := by decide +kernel
theorem dX1_wordsOnRows_23 : decode cX1_wordsOnRows 23 = .ok (.istore_n 1, 1) := by decide +kernel
theorem dX1_wordsOnRows_24 : decode cX1_wordsOnRows 24 = .ok (.iinc 2 1, 3) := by decide +kernel
theorem dX1_wordsOnRows_27 : decode cX1_wordsOnRows 27 = .ok (.goto (-23), 3) := by decide +kernel
theorem dX1_wordsOnRows_30 : decode cX1_wordsOnRows 30 = .ok (.iload_n 1, 1) := by decide +kernel
theorem dX1_wordsOnRows_31 : decode cX1_wordsOnRows 31 = .ok (.ireturn, 1) := by decide +kernel
set_option maxRecDepth 20000 in
theorem ggX1_filledRows_X1_freeTiles : GoodIn wsX1_filledRows wsX1_freeTiles := goodIn_r _ [7, 1, 8, 9, 10, 11, 12, 13, 14, 15, 16, 17, 18, 19, 20, 21, 22, 23, 24, 25, 26, 27, 28, 29, 30] (by decide +kernel) (by decide +kernel)
set_option maxRecDepth 20000 in
theorem gX1_filledRows_X1_freeTiles : GoodIn wsX1_filledRows (wsV RX1 114 RX1 yX1_freeTiles wsX1_freeTiles) := goodIn_app (goodIn_of _ (by decide +kernel)) ggX1_filledRows_X1_freeTiles
theorem dX1_filledRows_0 : decode cX1_filledRows 0 = .ok (.iconst 0, 1) := by decide +kernel
theorem dX1_filledRows_1 : decode cX1_filledRows 1 = .ok (.istore_n 1, 1) := by decide +kernel
theorem dX1_filledRows_2 : decode cX1_filledRows 2 = .ok (.iconst 0, 1) := by decide +kernel
theorem dX1_filledRows_3 : decode cX1_filledRows 3 = .ok (.istore_n 2, 1) := by decide +kernel
theorem dX1_filledRows_4 : decode cX1_filledRows 4 = .ok (.iload_n 2, 1) := by decide +kernel
theorem dX1_filledRows_5 : decode cX1_filledRows 5 = .ok (.aload_n 0, 1) := by decide +kernel
theorem dX1_filledRows_6 : decode cX1_filledRows 6 = .ok (.getfield 12, 3) := by decide +kernel
theorem dX1_filledRows_9 : decode cX1_filledRows 9 = .ok (.getfield 83, 3) := by decide +kernel
theorem dX1_filledRows_12 : decode cX1_filledRows 12 = .ok (.if_icmp .ge 20, 3) := by decide +kernel
theorem dX1_filledRows_15 : decode cX1_filledRows 15 = .ok (.aload_n 0, 1) := by decide +kernel
theorem dX1_filledRows_16 : decode cX1_filledRows 16 = .ok (.iload_n 2, 1) := by decide +kernel
theorem dX1_filledRows_17 : decode cX1_filledRows 17 = .ok (.invokevirtual 114, 3) := by decide +kernel
theorem dX1_filledRows_20 : decode cX1_filledRows 20 = .ok (.ifCond .ne 6, 3) := by decide +kernel
theorem dX1_filledRows_23 : decode cX1_filledRows 23 = .ok (.iinc 1 1, 3) := by decide +kernel
theorem dX1_filledRows_26 : decode cX1_filledRows 26 = .ok (.iinc 2 1, 3) := by decide +kernel
theorem dX1_filledRows_29 : decode cX1_filledRows 29 = .ok (.goto (-25), 3) := by decide +kernel
theorem dX1_filledRows_32 : decode cX1_filledRows 32 = .ok (.iload_n 1, 1) := by decide +kernel
theorem dX1_filledRows_33 : decode cX1_filledRows 33 = .ok (.ireturn, 1) := by decide +kernel
set_option maxRecDepth 20000 in
theorem ggX1_lettersOfHand_X1_wordOf : GoodIn wsX1_lettersOfHand wsX1_wordOf := goodIn_r _ [6, 7, 12, 13, 14, 15, 16, 17, 18, 19, 20, 21, 22, 23, 24] (by decide +kernel) (by decide +kernel)
set_option maxRecDepth 20000 in
theorem gX1_lettersOfHand_X1_wordOf : GoodIn wsX1_lettersOfHand (wsV RX1 124 RX1 yX1_wordOf wsX1_wordOf) := goodIn_app (goodIn_of _ (by decide +kernel)) ggX1_lettersOfHand_X1_wordOf
set_option maxRecDepth 20000 in
theorem ggX1_lettersOfHand_X6_length : GoodIn wsX1_lettersOfHand wsX6_length := goodIn_r _ [11] (by decide +kernel) (by decide +kernel)
set_option maxRecDepth 20000 in
theorem gX1_lettersOfHand_X6_length : GoodIn wsX1_lettersOfHand (va_wsS RX1 128 yX6_length wsX6_length) := goodIn_app (goodIn_of _ (by decide +kernel)) ggX1_lettersOfHand_X6_length
theorem dX1_lettersOfHand_0 : decode cX1_lettersOfHand 0 = .ok (.iconst 0, 1) := by decide +kernel
theorem dX1_lettersOfHand_1 : decode cX1_lettersOfHand 1 = .ok (.istore_n 2, 1) := by decide +kernel
theorem dX1_lettersOfHand_2 : decode cX1_lettersOfHand 2 = .ok (.iconst 0, 1) := by decide +kernel
theorem dX1_lettersOfHand_3 : decode cX1_lettersOfHand 3 = .ok (.istore_n 3, 1) := by decide +kernel
theorem dX1_lettersOfHand_4 : decode cX1_lettersOfHand 4 = .ok (.iload_n 3, 1) := by decide +kernel
theorem dX1_lettersOfHand_5 : decode cX1_lettersOfHand 5 = .ok (.aload_n 0, 1) := by decide +kernel
theorem dX1_lettersOfHand_6 : decode cX1_lettersOfHand 6 = .ok (.getfield 38, 3) := by decide +kernel
theorem dX1_lettersOfHand_9 : decode cX1_lettersOfHand 9 = .ok (.iload_n 1, 1) := by decide +kernel
theorem dX1_lettersOfHand_10 : decode cX1_lettersOfHand 10 = .ok (.iaload, 1) := by decide +kernel
theorem dX1_lettersOfHand_11 : decode cX1_lettersOfHand 11 = .ok (.if_icmp .ge 21, 3) := by decide +kernel
theorem dX1_lettersOfHand_14 : decode cX1_lettersOfHand 14 = .ok (.iload_n 2, 1) := by decide +kernel
theorem dX1_lettersOfHand_15 : decode cX1_lettersOfHand 15 = .ok (.aload_n 0, 1) := by decide +kernel
theorem dX1_lettersOfHand_16 : decode cX1_lettersOfHand 16 = .ok (.iload_n 1, 1) := by decide +kernel
theorem dX1_lettersOfHand_17 : decode cX1_lettersOfHand 17 = .ok (.iload_n 3, 1) := by decide +kernel
theorem dX1_lettersOfHand_18 : decode cX1_lettersOfHand 18 = .ok (.invokevirtual 124, 3) := by decide +kernel
theorem dX1_lettersOfHand_21 : decode cX1_lettersOfHand 21 = .ok (.invokestatic 128, 3) := by decide +kernel
theorem dX1_lettersOfHand_24 : decode cX1_lettersOfHand 24 = .ok (.iadd, 1) := by decide +kernel
theorem dX1_lettersOfHand_25 : decode cX1_lettersOfHand 25 = .ok (.istore_n 2, 1) := by decide +kernel
theorem dX1_lettersOfHand_26 : decode cX1_lettersOfHand 26 = .ok (.iinc 3 1, 3) := by decide +kernel
theorem dX1_lettersOfHand_29 : decode cX1_lettersOfHand 29 = .ok (.goto (-25), 3) := by decide +kernel
theorem dX1_lettersOfHand_32 : decode cX1_lettersOfHand 32 = .ok (.iload_n 2, 1) := by decide +kernel
theorem dX1_lettersOfHand_33 : decode cX1_lettersOfHand 33 = .ok (.ireturn, 1) := by decide +kernel
theorem dX1_rowsOwnedBy_0 : decode cX1_rowsOwnedBy 0 = .ok (.iconst 0, 1) := by decide +kernel
theorem dX1_rowsOwnedBy_1 : decode cX1_rowsOwnedBy 1 = .ok (.istore_n 2, 1) := by decide +kernel
theorem dX1_rowsOwnedBy_2 : decode cX1_rowsOwnedBy 2 = .ok (.iconst 0, 1) := by decide +kernel
theorem dX1_rowsOwnedBy_3 : decode cX1_rowsOwnedBy 3 = .ok (.istore_n 3, 1) := by decide +kernel
theorem dX1_rowsOwnedBy_4 : decode cX1_rowsOwnedBy 4 = .ok (.iload_n 3, 1) := by decide +kernel
theorem dX1_rowsOwnedBy_5 : decode cX1_rowsOwnedBy 5 = .ok (.aload_n 0, 1) := by decide +kernel
theorem dX1_rowsOwnedBy_6 : decode cX1_rowsOwnedBy 6 = .ok (.getfield 12, 3) := by decide +kernel
theorem dX1_rowsOwnedBy_9 : decode cX1_rowsOwnedBy 9 = .ok (.getfield 83, 3) := by decide +kernel
theorem dX1_rowsOwnedBy_12 : decode cX1_rowsOwnedBy 12 = .ok (.if_icmp .ge 22, 3) := by decide +kernel
theorem dX1_rowsOwnedBy_15 : decode cX1_rowsOwnedBy 15 = .ok (.aload_n 0, 1) := by decide +kernel
theorem dX1_rowsOwnedBy_16 : decode cX1_rowsOwnedBy 16 = .ok (.getfield 32, 3) := by decide +kernel
theorem dX1_rowsOwnedBy_19 : decode cX1_rowsOwnedBy 19 = .ok (.iload_n 3, 1) := by decide +kernel
theorem dX1_rowsOwnedBy_20 : decode cX1_rowsOwnedBy 20 = .ok (.iaload, 1) := by decide +kernel
theorem dX1_rowsOwnedBy_21 : decode cX1_rowsOwnedBy 21 = .ok (.iload_n 1, 1) := by decide +kernel
theorem dX1_rowsOwnedBy_22 : decode cX1_rowsOwnedBy 22 = .ok (.if_icmp .ne 6, 3) := by decide +kernel
theorem dX1_rowsOwnedBy_25 : decode cX1_rowsOwnedBy 25 = .ok (.iinc 2 1, 3) := by decide +kernel
theorem dX1_rowsOwnedBy_28 : decode cX1_rowsOwnedBy 28 = .ok (.iinc 3 1, 3) := by decide +kernel
theorem dX1_rowsOwnedBy_31 : decode cX1_rowsOwnedBy 31 = .ok (.goto (-27), 3) := by decide +kernel
theorem dX1_rowsOwnedBy_34 : decode cX1_rowsOwnedBy 34 = .ok (.iload_n 2, 1) := by decide +kernel
theorem dX1_rowsOwnedBy_35 : decode cX1_rowsOwnedBy 35 = .ok (.ireturn, 1) := by decide +kernel
set_option maxRecDepth 20000 in
theorem ggX1_playsNow_X1_obstacleNow : GoodIn wsX1_playsNow wsX1_obstacleNow := goodIn_r _ [9, 10, 2, 11, 12, 13, 8, 14, 15, 16, 17, 18, 19, 20, 21, 3, 22, 23, 24, 25, 26, 27, 28, 29, 30, 31, 32, 33, 34, 35, 36, 37, 38, 39, 40, 41, 42, 43, 44, 45, 46, 47, 48, 49, 50, 51, 52, 53, 54, 55, 56, 57, 58, 59, 60] (by decide +kernel) (by decide +kernel)
set_option maxRecDepth 20000 in
theorem gX1_playsNow_X1_obstacleNow : GoodIn wsX1_playsNow (wsV RX1 134 RX1 yX1_obstacleNow wsX1_obstacleNow) := goodIn_app (goodIn_of _ (by decide +kernel)) ggX1_playsNow_X1_obstacleNow
theorem dX1_playsNow_0 : decode cX1_playsNow 0 = .ok (.iconst 0, 1) := by decide +kernel
theorem dX1_playsNow_1 : decode cX1_playsNow 1 = .ok (.istore_n 1, 1) := by decide +kernel
theorem dX1_playsNow_2 : decode cX1_playsNow 2 = .ok (.iconst 0, 1) := by decide +kernel
theorem dX1_playsNow_3 : decode cX1_playsNow 3 = .ok (.istore_n 2, 1) := by decide +kernel
theorem dX1_playsNow_4 : decode cX1_playsNow 4 = .ok (.iload_n 2, 1) := by decide +kernel
theorem dX1_playsNow_5 : decode cX1_playsNow 5 = .ok (.aload_n 0, 1) := by decide +kernel
theorem dX1_playsNow_6 : decode cX1_playsNow 6 = .ok (.getfield 38, 3) := by decide +kernel
theorem dX1_playsNow_9 : decode cX1_playsNow 9 = .ok (.aload_n 0, 1) := by decide +kernel
theorem dX1_playsNow_10 : decode cX1_playsNow 10 = .ok (.getfield 62, 3) := by decide +kernel
theorem dX1_playsNow_13 : decode cX1_playsNow 13 = .ok (.iaload, 1) := by decide +kernel
theorem dX1_playsNow_14 : decode cX1_playsNow 14 = .ok (.if_icmp .ge 40, 3) := by decide +kernel
theorem dX1_playsNow_17 : decode cX1_playsNow 17 = .ok (.iconst 0, 1) := by decide +kernel
theorem dX1_playsNow_18 : decode cX1_playsNow 18 = .ok (.istore_n 3, 1) := by decide +kernel
theorem dX1_playsNow_19 : decode cX1_playsNow 19 = .ok (.iload_n 3, 1) := by decide +kernel
theorem dX1_playsNow_20 : decode cX1_playsNow 20 = .ok (.aload_n 0, 1) := by decide +kernel
theorem dX1_playsNow_21 : decode cX1_playsNow 21 = .ok (.getfield 12, 3) := by decide +kernel
theorem dX1_playsNow_24 : decode cX1_playsNow 24 = .ok (.getfield 83, 3) := by decide +kernel
theorem dX1_playsNow_27 : decode cX1_playsNow 27 = .ok (.if_icmp .ge 21, 3) := by decide +kernel
theorem dX1_playsNow_30 : decode cX1_playsNow 30 = .ok (.aload_n 0, 1) := by decide +kernel
theorem dX1_playsNow_31 : decode cX1_playsNow 31 = .ok (.iload_n 2, 1) := by decide +kernel
theorem dX1_playsNow_32 : decode cX1_playsNow 32 = .ok (.iload_n 3, 1) := by decide +kernel
theorem dX1_playsNow_33 : decode cX1_playsNow 33 = .ok (.invokevirtual 134, 3) := by decide +kernel
theorem dX1_playsNow_36 : decode cX1_playsNow 36 = .ok (.ifCond .ne 6, 3) := by decide +kernel
theorem dX1_playsNow_39 : decode cX1_playsNow 39 = .ok (.iinc 1 1, 3) := by decide +kernel
theorem dX1_playsNow_42 : decode cX1_playsNow 42 = .ok (.iinc 3 1, 3) := by decide +kernel
theorem dX1_playsNow_45 : decode cX1_playsNow 45 = .ok (.goto (-26), 3) := by decide +kernel
theorem dX1_playsNow_48 : decode cX1_playsNow 48 = .ok (.iinc 2 1, 3) := by decide +kernel
theorem dX1_playsNow_51 : decode cX1_playsNow 51 = .ok (.goto (-47), 3) := by decide +kernel
theorem dX1_playsNow_54 : decode cX1_playsNow 54 = .ok (.iload_n 1, 1) := by decide +kernel
theorem dX1_playsNow_55 : decode cX1_playsNow 55 = .ok (.ireturn, 1) := by decide +kernel
set_option maxRecDepth 20000 in
theorem ggX1_obstacleNow_X1_wordOf : GoodIn wsX1_obstacleNow wsX1_wordOf := goodIn_r _ [7, 8, 34, 35, 36, 37, 38, 39, 40, 41, 42, 43, 44, 45, 46] (by decide +kernel) (by decide +kernel)
set_option maxRecDepth 20000 in
theorem gX1_obstacleNow_X1_wordOf : GoodIn wsX1_obstacleNow (wsV RX1 124 RX1 yX1_wordOf wsX1_wordOf) := goodIn_app (goodIn_of _ (by decide +kernel)) ggX1_obstacleNow_X1_wordOf
set_option maxRecDepth 20000 in
theorem ggX1_obstacleNow_X1_obstacle : GoodIn wsX1_obstacleNow wsX1_obstacle := goodIn_r _ [12, 13, 14, 15, 16, 17, 18, 19, 20, 21, 22, 23, 6, 24, 25, 26, 27, 28, 29, 30, 31, 32, 33, 34, 35, 36, 37, 38, 39, 40, 41, 42, 43, 44, 45, 46, 47, 48, 49, 50, 51, 52, 53, 54] (by decide +kernel) (by decide +kernel)
set_option maxRecDepth 20000 in
theorem gX1_obstacleNow_X1_obstacle : GoodIn wsX1_obstacleNow (wsV RX1 138 RX1 yX1_obstacle wsX1_obstacle) := goodIn_app (goodIn_of _ (by decide +kernel)) ggX1_obstacleNow_X1_obstacle
theorem dX1_obstacleNow_0 : decode cX1_obstacleNow 0 = .ok (.aload_n 0, 1) := by decide +kernel
theorem dX1_obstacleNow_1 : decode cX1_obstacleNow 1 = .ok (.getfield 69, 3) := by decide +kernel
theorem dX1_obstacleNow_4 : decode cX1_obstacleNow 4 = .ok (.ifCond .eq 7, 3) := by decide +kernel
theorem dX1_obstacleNow_7 : decode cX1_obstacleNow 7 = .ok (.iconst 1, 1) := by decide +kernel
theorem dX1_obstacleNow_8 : decode cX1_obstacleNow 8 = .ok (.goto 17, 3) := by decide +kernel
theorem dX1_obstacleNow_11 : decode cX1_obstacleNow 11 = .ok (.aload_n 0, 1) := by decide +kernel
theorem dX1_obstacleNow_12 : decode cX1_obstacleNow 12 = .ok (.aload_n 0, 1) := by decide +kernel
theorem dX1_obstacleNow_13 : decode cX1_obstacleNow 13 = .ok (.aload_n 0, 1) := by decide +kernel
theorem dX1_obstacleNow_14 : decode cX1_obstacleNow 14 = .ok (.getfield 62, 3) := by decide +kernel
theorem dX1_obstacleNow_17 : decode cX1_obstacleNow 17 = .ok (.iload_n 1, 1) := by decide +kernel
theorem dX1_obstacleNow_18 : decode cX1_obstacleNow 18 = .ok (.invokevirtual 124, 3) := by decide +kernel
theorem dX1_obstacleNow_21 : decode cX1_obstacleNow 21 = .ok (.iload_n 2, 1) := by decide +kernel
theorem dX1_obstacleNow_22 : decode cX1_obstacleNow 22 = .ok (.invokevirtual 138, 3) := by decide +kernel
theorem dX1_obstacleNow_25 : decode cX1_obstacleNow 25 = .ok (.ireturn, 1) := by decide +kernel
set_option maxRecDepth 20000 in
theorem ggX1_obstacle_X6_length : GoodIn wsX1_obstacle wsX6_length := goodIn_r _ [8] (by decide +kernel) (by decide +kernel)
set_option maxRecDepth 20000 in
theorem gX1_obstacle_X6_length : GoodIn wsX1_obstacle (va_wsS RX1 128 yX6_length wsX6_length) := goodIn_app (goodIn_of _ (by decide +kernel)) ggX1_obstacle_X6_length
set_option maxRecDepth 20000 in
theorem ggX1_obstacle_X1_freeTiles : GoodIn wsX1_obstacle wsX1_freeTiles := goodIn_r _ [13, 3, 14, 15, 23, 24, 25, 26, 27, 28, 29, 30, 31, 32, 33, 34, 35, 36, 37, 38, 39, 40, 41, 42, 43] (by decide +kernel) (by decide +kernel)
set_option maxRecDepth 20000 in
theorem gX1_obstacle_X1_freeTiles : GoodIn wsX1_obstacle (wsV RX1 114 RX1 yX1_freeTiles wsX1_freeTiles) := goodIn_app (goodIn_of _ (by decide +kernel)) ggX1_obstacle_X1_freeTiles
set_option maxRecDepth 20000 in
theorem ggX1_obstacle_X4_rhymeOf : GoodIn wsX1_obstacle wsX4_rhymeOf := goodIn_r _ [20, 21, 22, 36, 37, 38, 39, 40, 41, 42, 43] (by decide +kernel) (by decide +kernel)
set_option maxRecDepth 20000 in
theorem gX1_obstacle_X4_rhymeOf : GoodIn wsX1_obstacle (wsV RX1 142 RX4 yX4_rhymeOf wsX4_rhymeOf) := goodIn_app (goodIn_of _ (by decide +kernel)) ggX1_obstacle_X4_rhymeOf
theorem dX1_obstacle_0 : decode cX1_obstacle 0 = .ok (.lload_n 1, 1) := by decide +kernel
theorem dX1_obstacle_1 : decode cX1_obstacle 1 = .ok (.invokestatic 128, 3) := by decide +kernel
theorem dX1_obstacle_4 : decode cX1_obstacle 4 = .ok (.aload_n 0, 1) := by decide +kernel
theorem dX1_obstacle_5 : decode cX1_obstacle 5 = .ok (.iload_n 3, 1) := by decide +kernel
theorem dX1_obstacle_6 : decode cX1_obstacle 6 = .ok (.invokevirtual 114, 3) := by decide +kernel
theorem dX1_obstacle_9 : decode cX1_obstacle 9 = .ok (.if_icmp .le 5, 3) := by decide +kernel
theorem dX1_obstacle_12 : decode cX1_obstacle 12 = .ok (.iconst 2, 1) := by decide +kernel
theorem dX1_obstacle_13 : decode cX1_obstacle 13 = .ok (.ireturn, 1) := by decide +kernel
theorem dX1_obstacle_14 : decode cX1_obstacle 14 = .ok (.aload_n 0, 1) := by decide +kernel
theorem dX1_obstacle_15 : decode cX1_obstacle 15 = .ok (.getfield 25, 3) := by decide +kernel
theorem dX1_obstacle_18 : decode cX1_obstacle 18 = .ok (.iload_n 3, 1) := by decide +kernel
theorem dX1_obstacle_19 : decode cX1_obstacle 19 = .ok (.iaload, 1) := by decide +kernel
theorem dX1_obstacle_20 : decode cX1_obstacle 20 = .ok (.ifCond .ne 5, 3) := by decide +kernel
theorem dX1_obstacle_23 : decode cX1_obstacle 23 = .ok (.iconst 0, 1) := by decide +kernel
theorem dX1_obstacle_24 : decode cX1_obstacle 24 = .ok (.ireturn, 1) := by decide +kernel
theorem dX1_obstacle_25 : decode cX1_obstacle 25 = .ok (.lload_n 1, 1) := by decide +kernel
theorem dX1_obstacle_26 : decode cX1_obstacle 26 = .ok (.aload_n 0, 1) := by decide +kernel
theorem dX1_obstacle_27 : decode cX1_obstacle 27 = .ok (.getfield 28, 3) := by decide +kernel
theorem dX1_obstacle_30 : decode cX1_obstacle 30 = .ok (.iload_n 3, 1) := by decide +kernel
theorem dX1_obstacle_31 : decode cX1_obstacle 31 = .ok (.laload, 1) := by decide +kernel
theorem dX1_obstacle_32 : decode cX1_obstacle 32 = .ok (.lcmp, 1) := by decide +kernel
theorem dX1_obstacle_33 : decode cX1_obstacle 33 = .ok (.ifCond .ne 5, 3) := by decide +kernel
theorem dX1_obstacle_36 : decode cX1_obstacle 36 = .ok (.iconst 3, 1) := by decide +kernel
theorem dX1_obstacle_37 : decode cX1_obstacle 37 = .ok (.ireturn, 1) := by decide +kernel
theorem dX1_obstacle_38 : decode cX1_obstacle 38 = .ok (.aload_n 0, 1) := by decide +kernel
theorem dX1_obstacle_39 : decode cX1_obstacle 39 = .ok (.getfield 12, 3) := by decide +kernel
theorem dX1_obstacle_42 : decode cX1_obstacle 42 = .ok (.lload_n 1, 1) := by decide +kernel
theorem dX1_obstacle_43 : decode cX1_obstacle 43 = .ok (.aload_n 0, 1) := by decide +kernel
theorem dX1_obstacle_44 : decode cX1_obstacle 44 = .ok (.getfield 28, 3) := by decide +kernel
theorem dX1_obstacle_47 : decode cX1_obstacle 47 = .ok (.iload_n 3, 1) := by decide +kernel
theorem dX1_obstacle_48 : decode cX1_obstacle 48 = .ok (.laload, 1) := by decide +kernel
theorem dX1_obstacle_49 : decode cX1_obstacle 49 = .ok (.invokevirtual 142, 3) := by decide +kernel
theorem dX1_obstacle_52 : decode cX1_obstacle 52 = .ok (.aload_n 0, 1) := by decide +kernel
theorem dX1_obstacle_53 : decode cX1_obstacle 53 = .ok (.getfield 12, 3) := by decide +kernel
theorem dX1_obstacle_56 : decode cX1_obstacle 56 = .ok (.getfield 89, 3) := by decide +kernel
theorem dX1_obstacle_59 : decode cX1_obstacle 59 = .ok (.if_icmp .ge 7, 3) := by decide +kernel
theorem dX1_obstacle_62 : decode cX1_obstacle 62 = .ok (.iconst 4, 1) := by decide +kernel
theorem dX1_obstacle_63 : decode cX1_obstacle 63 = .ok (.goto 4, 3) := by decide +kernel
theorem dX1_obstacle_66 : decode cX1_obstacle 66 = .ok (.iconst 0, 1) := by decide +kernel
theorem dX1_obstacle_67 : decode cX1_obstacle 67 = .ok (.ireturn, 1) := by decide +kernel
set_option maxRecDepth 20000 in
theorem ggX1_canFill_X1_wordOf : GoodIn wsX1_canFill wsX1_wordOf := goodIn_r _ [6, 7, 33, 34, 35, 36, 37, 38, 39, 40, 41, 42, 43, 44, 45] (by decide +kernel) (by decide +kernel)
set_option maxRecDepth 20000 in
theorem gX1_canFill_X1_wordOf : GoodIn wsX1_canFill (wsV RX1 124 RX1 yX1_wordOf wsX1_wordOf) := goodIn_app (goodIn_of _ (by decide +kernel)) ggX1_canFill_X1_wordOf
set_option maxRecDepth 20000 in
theorem ggX1_canFill_X6_length : GoodIn wsX1_canFill wsX6_length := goodIn_r _ [11] (by decide +kernel) (by decide +kernel)
set_option maxRecDepth 20000 in
theorem gX1_canFill_X6_length : GoodIn wsX1_canFill (va_wsS RX1 128 yX6_length wsX6_length) := goodIn_app (goodIn_of _ (by decide +kernel)) ggX1_canFill_X6_length
set_option maxRecDepth 20000 in
theorem ggX1_canFill_X1_freeTiles : GoodIn wsX1_canFill wsX1_freeTiles := goodIn_r _ [15, 16, 17, 18, 33, 34, 35, 36, 37, 38, 39, 40, 41, 42, 43, 44, 45, 46, 47, 48, 49, 50, 51, 52, 53] (by decide +kernel) (by decide +kernel)
set_option maxRecDepth 20000 in
theorem gX1_canFill_X1_freeTiles : GoodIn wsX1_canFill (wsV RX1 114 RX1 yX1_freeTiles wsX1_freeTiles) := goodIn_app (goodIn_of _ (by decide +kernel)) ggX1_canFill_X1_freeTiles
set_option maxRecDepth 20000 in
theorem ggX1_canFill_X1_obstacle : GoodIn wsX1_canFill wsX1_obstacle := goodIn_r _ [22, 23, 24, 16, 25, 8, 9, 10, 11, 12, 13, 14, 5, 15, 17, 18, 26, 27, 28, 29, 30, 31, 32, 33, 34, 35, 36, 37, 38, 39, 40, 41, 42, 43, 44, 45, 46, 47, 48, 49, 50, 51, 52, 53] (by decide +kernel) (by decide +kernel)
set_option maxRecDepth 20000 in
theorem gX1_canFill_X1_obstacle : GoodIn wsX1_canFill (wsV RX1 138 RX1 yX1_obstacle wsX1_obstacle) := goodIn_app (goodIn_of _ (by decide +kernel)) ggX1_canFill_X1_obstacle
theorem dX1_canFill_0 : decode cX1_canFill 0 = .ok (.iconst 0, 1) := by decide +kernel
theorem dX1_canFill_1 : decode cX1_canFill 1 = .ok (.istore_n 3, 1) := by decide +kernel
theorem dX1_canFill_2 : decode cX1_canFill 2 = .ok (.iload_n 3, 1) := by decide +kernel
theorem dX1_canFill_3 : decode cX1_canFill 3 = .ok (.aload_n 0, 1) := by decide +kernel
theorem dX1_canFill_4 : decode cX1_canFill 4 = .ok (.getfield 38, 3) := by decide +kernel
theorem dX1_canFill_7 : decode cX1_canFill 7 = .ok (.iload_n 1, 1) := by decide +kernel
theorem dX1_canFill_8 : decode cX1_canFill 8 = .ok (.iaload, 1) := by decide +kernel
theorem dX1_canFill_9 : decode cX1_canFill 9 = .ok (.if_icmp .ge 42, 3) := by decide +kernel
theorem dX1_canFill_12 : decode cX1_canFill 12 = .ok (.aload_n 0, 1) := by decide +kernel
theorem dX1_canFill_13 : decode cX1_canFill 13 = .ok (.iload_n 1, 1) := by decide +kernel
theorem dX1_canFill_14 : decode cX1_canFill 14 = .ok (.iload_n 3, 1) := by decide +kernel
theorem dX1_canFill_15 : decode cX1_canFill 15 = .ok (.invokevirtual 124, 3) := by decide +kernel
theorem dX1_canFill_18 : decode cX1_canFill 18 = .ok (.lstore 4, 2) := by decide +kernel
theorem dX1_canFill_20 : decode cX1_canFill 20 = .ok (.lload 4, 2) := by decide +kernel
theorem dX1_canFill_22 : decode cX1_canFill 22 = .ok (.invokestatic 128, 3) := by decide +kernel
theorem dX1_canFill_25 : decode cX1_canFill 25 = .ok (.aload_n 0, 1) := by decide +kernel
theorem dX1_canFill_26 : decode cX1_canFill 26 = .ok (.iload_n 2, 1) := by decide +kernel
theorem dX1_canFill_27 : decode cX1_canFill 27 = .ok (.invokevirtual 114, 3) := by decide +kernel
theorem dX1_canFill_30 : decode cX1_canFill 30 = .ok (.if_icmp .ne 15, 3) := by decide +kernel
theorem dX1_canFill_33 : decode cX1_canFill 33 = .ok (.aload_n 0, 1) := by decide +kernel
theorem dX1_canFill_34 : decode cX1_canFill 34 = .ok (.lload 4, 2) := by decide +kernel
theorem dX1_canFill_36 : decode cX1_canFill 36 = .ok (.iload_n 2, 1) := by decide +kernel
theorem dX1_canFill_37 : decode cX1_canFill 37 = .ok (.invokevirtual 138, 3) := by decide +kernel
theorem dX1_canFill_40 : decode cX1_canFill 40 = .ok (.ifCond .ne 5, 3) := by decide +kernel
theorem dX1_canFill_43 : decode cX1_canFill 43 = .ok (.iconst 1, 1) := by decide +kernel
theorem dX1_canFill_44 : decode cX1_canFill 44 = .ok (.ireturn, 1) := by decide +kernel
theorem dX1_canFill_45 : decode cX1_canFill 45 = .ok (.iinc 3 1, 3) := by decide +kernel
theorem dX1_canFill_48 : decode cX1_canFill 48 = .ok (.goto (-46), 3) := by decide +kernel
theorem dX1_canFill_51 : decode cX1_canFill 51 = .ok (.iconst 0, 1) := by decide +kernel
theorem dX1_canFill_52 : decode cX1_canFill 52 = .ok (.ireturn, 1) := by decide +kernel
set_option maxRecDepth 20000 in
theorem ggX1_pointsFor_X6_length : GoodIn wsX1_pointsFor wsX6_length := goodIn_r _ [9] (by decide +kernel) (by decide +kernel)
set_option maxRecDepth 20000 in
theorem gX1_pointsFor_X6_length : GoodIn wsX1_pointsFor (va_wsS RX1 128 yX6_length wsX6_length) := goodIn_app (goodIn_of _ (by decide +kernel)) ggX1_pointsFor_X6_length
set_option maxRecDepth 20000 in
theorem ggX1_pointsFor_X4_rhymeOf : GoodIn wsX1_pointsFor wsX4_rhymeOf := goodIn_r _ [14, 15, 16, 37, 38, 39, 40, 41, 42, 43, 44] (by decide +kernel) (by decide +kernel)
set_option maxRecDepth 20000 in
theorem gX1_pointsFor_X4_rhymeOf : GoodIn wsX1_pointsFor (wsV RX1 142 RX4 yX4_rhymeOf wsX4_rhymeOf) := goodIn_app (goodIn_of _ (by decide +kernel)) ggX1_pointsFor_X4_rhymeOf
set_option maxRecDepth 20000 in
theorem ggX1_pointsFor_X1_freeTiles : GoodIn wsX1_pointsFor wsX1_freeTiles := goodIn_r _ [21, 1, 22, 23, 24, 25, 26, 27, 28, 29, 30, 31, 32, 33, 34, 35, 36, 37, 38, 39, 40, 41, 42, 43, 44] (by decide +kernel) (by decide +kernel)
set_option maxRecDepth 20000 in
theorem gX1_pointsFor_X1_freeTiles : GoodIn wsX1_pointsFor (wsV RX1 114 RX1 yX1_freeTiles wsX1_freeTiles) := goodIn_app (goodIn_of _ (by decide +kernel)) ggX1_pointsFor_X1_freeTiles
theorem dX1_pointsFor_0 : decode cX1_pointsFor 0 = .ok (.lload_n 1, 1) := by decide +kernel
theorem dX1_pointsFor_1 : decode cX1_pointsFor 1 = .ok (.invokestatic 128, 3) := by decide +kernel
theorem dX1_pointsFor_4 : decode cX1_pointsFor 4 = .ok (.istore 4, 2) := by decide +kernel
theorem dX1_pointsFor_6 : decode cX1_pointsFor 6 = .ok (.iload 4, 2) := by decide +kernel
theorem dX1_pointsFor_8 : decode cX1_pointsFor 8 = .ok (.aload_n 0, 1) := by decide +kernel
theorem dX1_pointsFor_9 : decode cX1_pointsFor 9 = .ok (.getfield 12, 3) := by decide +kernel
theorem dX1_pointsFor_12 : decode cX1_pointsFor 12 = .ok (.getfield 92, 3) := by decide +kernel
theorem dX1_pointsFor_15 : decode cX1_pointsFor 15 = .ok (.aload_n 0, 1) := by decide +kernel
theorem dX1_pointsFor_16 : decode cX1_pointsFor 16 = .ok (.getfield 12, 3) := by decide +kernel
theorem dX1_pointsFor_19 : decode cX1_pointsFor 19 = .ok (.lload_n 1, 1) := by decide +kernel
theorem dX1_pointsFor_20 : decode cX1_pointsFor 20 = .ok (.aload_n 0, 1) := by decide +kernel
theorem dX1_pointsFor_21 : decode cX1_pointsFor 21 = .ok (.getfield 28, 3) := by decide +kernel
theorem dX1_pointsFor_24 : decode cX1_pointsFor 24 = .ok (.iload_n 3, 1) := by decide +kernel
theorem dX1_pointsFor_25 : decode cX1_pointsFor 25 = .ok (.laload, 1) := by decide +kernel
theorem dX1_pointsFor_26 : decode cX1_pointsFor 26 = .ok (.invokevirtual 142, 3) := by decide +kernel
theorem dX1_pointsFor_29 : decode cX1_pointsFor 29 = .ok (.imul, 1) := by decide +kernel
theorem dX1_pointsFor_30 : decode cX1_pointsFor 30 = .ok (.iadd, 1) := by decide +kernel
theorem dX1_pointsFor_31 : decode cX1_pointsFor 31 = .ok (.istore 5, 2) := by decide +kernel
theorem dX1_pointsFor_33 : decode cX1_pointsFor 33 = .ok (.iload 4, 2) := by decide +kernel
theorem dX1_pointsFor_35 : decode cX1_pointsFor 35 = .ok (.aload_n 0, 1) := by decide +kernel
theorem dX1_pointsFor_36 : decode cX1_pointsFor 36 = .ok (.iload_n 3, 1) := by decide +kernel
theorem dX1_pointsFor_37 : decode cX1_pointsFor 37 = .ok (.invokevirtual 114, 3) := by decide +kernel
theorem dX1_pointsFor_40 : decode cX1_pointsFor 40 = .ok (.if_icmp .ne 24, 3) := by decide +kernel
theorem dX1_pointsFor_43 : decode cX1_pointsFor 43 = .ok (.iload 5, 2) := by decide +kernel
theorem dX1_pointsFor_45 : decode cX1_pointsFor 45 = .ok (.aload_n 0, 1) := by decide +kernel
theorem dX1_pointsFor_46 : decode cX1_pointsFor 46 = .ok (.getfield 12, 3) := by decide +kernel
theorem dX1_pointsFor_49 : decode cX1_pointsFor 49 = .ok (.getfield 95, 3) := by decide +kernel
theorem dX1_pointsFor_52 : decode cX1_pointsFor 52 = .ok (.aload_n 0, 1) := by decide +kernel
theorem dX1_pointsFor_53 : decode cX1_pointsFor 53 = .ok (.getfield 25, 3) := by decide +kernel
theorem dX1_pointsFor_56 : decode cX1_pointsFor 56 = .ok (.iload_n 3, 1) := by decide +kernel
theorem dX1_pointsFor_57 : decode cX1_pointsFor 57 = .ok (.iaload, 1) := by decide +kernel
theorem dX1_pointsFor_58 : decode cX1_pointsFor 58 = .ok (.iconst 1, 1) := by decide +kernel
theorem dX1_pointsFor_59 : decode cX1_pointsFor 59 = .ok (.iadd, 1) := by decide +kernel
theorem dX1_pointsFor_60 : decode cX1_pointsFor 60 = .ok (.imul, 1) := by decide +kernel
theorem dX1_pointsFor_61 : decode cX1_pointsFor 61 = .ok (.iadd, 1) := by decide +kernel
theorem dX1_pointsFor_62 : decode cX1_pointsFor 62 = .ok (.istore 5, 2) := by decide +kernel
theorem dX1_pointsFor_64 : decode cX1_pointsFor 64 = .ok (.iload 5, 2) := by decide +kernel
theorem dX1_pointsFor_66 : decode cX1_pointsFor 66 = .ok (.ireturn, 1) := by decide +kernel
set_option maxRecDepth 20000 in
theorem ggX1_rankOf_X1_wordOf : GoodIn wsX1_rankOf wsX1_wordOf := goodIn_r _ [11, 12, 54, 55, 56, 57, 58, 59, 60, 61, 62, 63, 64, 65, 66] (by decide +kernel) (by decide +kernel)
set_option maxRecDepth 20000 in
theorem gX1_rankOf_X1_wordOf : GoodIn wsX1_rankOf (wsV RX1 124 RX1 yX1_wordOf wsX1_wordOf) := goodIn_app (goodIn_of _ (by decide +kernel)) ggX1_rankOf_X1_wordOf
set_option maxRecDepth 20000 in
theorem ggX1_rankOf_X6_length : GoodIn wsX1_rankOf wsX6_length := goodIn_r _ [16] (by decide +kernel) (by decide +kernel)
set_option maxRecDepth 20000 in
theorem gX1_rankOf_X6_length : GoodIn wsX1_rankOf (va_wsS RX1 128 yX6_length wsX6_length) := goodIn_app (goodIn_of _ (by decide +kernel)) ggX1_rankOf_X6_length
set_option maxRecDepth 20000 in
theorem ggX1_rankOf_X1_freeTiles : GoodIn wsX1_rankOf wsX1_freeTiles := goodIn_r _ [20, 3, 21, 22, 54, 55, 56, 57, 58, 59, 60, 61, 62, 63, 64, 65, 66, 67, 68, 69, 70, 71, 72, 73, 74] (by decide +kernel) (by decide +kernel)
set_option maxRecDepth 20000 in
theorem gX1_rankOf_X1_freeTiles : GoodIn wsX1_rankOf (wsV RX1 114 RX1 yX1_freeTiles wsX1_freeTiles) := goodIn_app (goodIn_of _ (by decide +kernel)) ggX1_rankOf_X1_freeTiles
set_option maxRecDepth 20000 in
theorem ggX1_rankOf_X3_indexOf : GoodIn wsX1_rankOf wsX3_indexOf := goodIn_r _ [26] (by decide +kernel) (by decide +kernel)
set_option maxRecDepth 20000 in
theorem gX1_rankOf_X3_indexOf : GoodIn wsX1_rankOf (va_wsS RX1 146 yX3_indexOf wsX3_indexOf) := goodIn_app (goodIn_of _ (by decide +kernel)) ggX1_rankOf_X3_indexOf
set_option maxRecDepth 20000 in
theorem ggX1_rankOf_X1_pointsFor : GoodIn wsX1_rankOf wsX1_pointsFor := goodIn_r _ [30, 3, 31, 4, 32, 33, 13, 14, 15, 16, 34, 35, 36, 37, 38, 39, 40, 17, 18, 19, 10, 20, 21, 22, 54, 55, 56, 57, 58, 59, 60, 61, 62, 63, 64, 65, 66, 67, 68, 69, 70, 71, 72, 73, 74] (by decide +kernel) (by decide +kernel)
set_option maxRecDepth 20000 in
theorem gX1_rankOf_X1_pointsFor : GoodIn wsX1_rankOf (wsV RX1 149 RX1 yX1_pointsFor wsX1_pointsFor) := goodIn_app (goodIn_of _ (by decide +kernel)) ggX1_rankOf_X1_pointsFor
set_option maxRecDepth 20000 in
theorem ggX1_rankOf_X4_rhymeOf : GoodIn wsX1_rankOf wsX4_rhymeOf := goodIn_r _ [38, 39, 40, 67, 68, 69, 70, 71, 72, 73, 74] (by decide +kernel) (by decide +kernel)
set_option maxRecDepth 20000 in
theorem gX1_rankOf_X4_rhymeOf : GoodIn wsX1_rankOf (wsV RX1 142 RX4 yX4_rhymeOf wsX4_rhymeOf) := goodIn_app (goodIn_of _ (by decide +kernel)) ggX1_rankOf_X4_rhymeOf
set_option maxRecDepth 20000 in
theorem ggX1_rankOf_X3_value : GoodIn wsX1_rankOf wsX3_value := goodIn_r _ [44, 45, 46, 47, 48, 49, 25, 50, 51, 52, 53, 24, 26, 75, 76, 77] (by decide +kernel) (by decide +kernel)
set_option maxRecDepth 20000 in
theorem gX1_rankOf_X3_value : GoodIn wsX1_rankOf (wsV RX1 156 RX3 yX3_value wsX3_value) := goodIn_app (goodIn_of _ (by decide +kernel)) ggX1_rankOf_X3_value
theorem dX1_rankOf_0 : decode cX1_rankOf 0 = .ok (.aload_n 0, 1) := by decide +kernel
theorem dX1_rankOf_1 : decode cX1_rankOf 1 = .ok (.aload_n 0, 1) := by decide +kernel
theorem dX1_rankOf_2 : decode cX1_rankOf 2 = .ok (.getfield 62, 3) := by decide +kernel
theorem dX1_rankOf_5 : decode cX1_rankOf 5 = .ok (.iload_n 1, 1) := by decide +kernel
theorem dX1_rankOf_6 : decode cX1_rankOf 6 = .ok (.invokevirtual 124, 3) := by decide +kernel
theorem dX1_rankOf_9 : decode cX1_rankOf 9 = .ok (.lstore_n 3, 1) := by decide +kernel
theorem dX1_rankOf_10 : decode cX1_rankOf 10 = .ok (.lload_n 3, 1) := by decide +kernel
theorem dX1_rankOf_11 : decode cX1_rankOf 11 = .ok (.invokestatic 128, 3) := by decide +kernel
theorem dX1_rankOf_14 : decode cX1_rankOf 14 = .ok (.istore 5, 2) := by decide +kernel
theorem dX1_rankOf_16 : decode cX1_rankOf 16 = .ok (.aload_n 0, 1) := by decide +kernel
theorem dX1_rankOf_17 : decode cX1_rankOf 17 = .ok (.iload_n 2, 1) := by decide +kernel
theorem dX1_rankOf_18 : decode cX1_rankOf 18 = .ok (.invokevirtual 114, 3) := by decide +kernel
theorem dX1_rankOf_21 : decode cX1_rankOf 21 = .ok (.iload 5, 2) := by decide +kernel
theorem dX1_rankOf_23 : decode cX1_rankOf 23 = .ok (.isub, 1) := by decide +kernel
theorem dX1_rankOf_24 : decode cX1_rankOf 24 = .ok (.istore 6, 2) := by decide +kernel
theorem dX1_rankOf_26 : decode cX1_rankOf 26 = .ok (.aload_n 0, 1) := by decide +kernel
theorem dX1_rankOf_27 : decode cX1_rankOf 27 = .ok (.getfield 46, 3) := by decide +kernel
theorem dX1_rankOf_30 : decode cX1_rankOf 30 = .ok (.iconst (-1), 1) := by decide +kernel
theorem dX1_rankOf_31 : decode cX1_rankOf 31 = .ok (.invokestatic 146, 3) := by decide +kernel
theorem dX1_rankOf_34 : decode cX1_rankOf 34 = .ok (.aload_n 0, 1) := by decide +kernel
theorem dX1_rankOf_35 : decode cX1_rankOf 35 = .ok (.lload_n 3, 1) := by decide +kernel
theorem dX1_rankOf_36 : decode cX1_rankOf 36 = .ok (.iload_n 2, 1) := by decide +kernel
theorem dX1_rankOf_37 : decode cX1_rankOf 37 = .ok (.invokevirtual 149, 3) := by decide +kernel
theorem dX1_rankOf_40 : decode cX1_rankOf 40 = .ok (.iastore, 1) := by decide +kernel
theorem dX1_rankOf_41 : decode cX1_rankOf 41 = .ok (.aload_n 0, 1) := by decide +kernel
theorem dX1_rankOf_42 : decode cX1_rankOf 42 = .ok (.getfield 46, 3) := by decide +kernel
theorem dX1_rankOf_45 : decode cX1_rankOf 45 = .ok (.bipush (-2), 2) := by decide +kernel
theorem dX1_rankOf_47 : decode cX1_rankOf 47 = .ok (.invokestatic 146, 3) := by decide +kernel
theorem dX1_rankOf_50 : decode cX1_rankOf 50 = .ok (.iload 5, 2) := by decide +kernel
theorem dX1_rankOf_52 : decode cX1_rankOf 52 = .ok (.iastore, 1) := by decide +kernel
theorem dX1_rankOf_53 : decode cX1_rankOf 53 = .ok (.aload_n 0, 1) := by decide +kernel
theorem dX1_rankOf_54 : decode cX1_rankOf 54 = .ok (.getfield 46, 3) := by decide +kernel
theorem dX1_rankOf_57 : decode cX1_rankOf 57 = .ok (.bipush (-3), 2) := by decide +kernel
theorem dX1_rankOf_59 : decode cX1_rankOf 59 = .ok (.invokestatic 146, 3) := by decide +kernel
theorem dX1_rankOf_62 : decode cX1_rankOf 62 = .ok (.aload_n 0, 1) := by decide +kernel
theorem dX1_rankOf_63 : decode cX1_rankOf 63 = .ok (.getfield 12, 3) := by decide +kernel
theorem dX1_rankOf_66 : decode cX1_rankOf 66 = .ok (.lload_n 3, 1) := by decide +kernel
theorem dX1_rankOf_67 : decode cX1_rankOf 67 = .ok (.aload_n 0, 1) := by decide +kernel
theorem dX1_rankOf_68 : decode cX1_rankOf 68 = .ok (.getfield 28, 3) := by decide +kernel
theorem dX1_rankOf_71 : decode cX1_rankOf 71 = .ok (.iload_n 2, 1) := by decide +kernel
theorem dX1_rankOf_72 : decode cX1_rankOf 72 = .ok (.laload, 1) := by decide +kernel
theorem dX1_rankOf_73 : decode cX1_rankOf 73 = .ok (.invokevirtual 142, 3) := by decide +kernel
theorem dX1_rankOf_76 : decode cX1_rankOf 76 = .ok (.iastore, 1) := by decide +kernel
theorem dX1_rankOf_77 : decode cX1_rankOf 77 = .ok (.aload_n 0, 1) := by decide +kernel
theorem dX1_rankOf_78 : decode cX1_rankOf 78 = .ok (.getfield 46, 3) := by decide +kernel
theorem dX1_rankOf_81 : decode cX1_rankOf 81 = .ok (.bipush (-4), 2) := by decide +kernel
theorem dX1_rankOf_83 : decode cX1_rankOf 83 = .ok (.invokestatic 146, 3) := by decide +kernel
theorem dX1_rankOf_86 : decode cX1_rankOf 86 = .ok (.iload 6, 2) := by decide +kernel
theorem dX1_rankOf_88 : decode cX1_rankOf 88 = .ok (.iastore, 1) := by decide +kernel
theorem dX1_rankOf_89 : decode cX1_rankOf 89 = .ok (.aload_n 0, 1) := by decide +kernel
theorem dX1_rankOf_90 : decode cX1_rankOf 90 = .ok (.getfield 46, 3) := by decide +kernel
theorem dX1_rankOf_93 : decode cX1_rankOf 93 = .ok (.bipush (-5), 2) := by decide +kernel
theorem dX1_rankOf_95 : decode cX1_rankOf 95 = .ok (.invokestatic 146, 3) := by decide +kernel
theorem dX1_rankOf_98 : decode cX1_rankOf 98 = .ok (.iload 6, 2) := by decide +kernel
theorem dX1_rankOf_100 : decode cX1_rankOf 100 = .ok (.ifCond .ne 7, 3) := by decide +kernel
theorem dX1_rankOf_103 : decode cX1_rankOf 103 = .ok (.iconst 1, 1) := by decide +kernel
theorem dX1_rankOf_104 : decode cX1_rankOf 104 = .ok (.goto 4, 3) := by decide +kernel
theorem dX1_rankOf_107 : decode cX1_rankOf 107 = .ok (.iconst 0, 1) := by decide +kernel
theorem dX1_rankOf_108 : decode cX1_rankOf 108 = .ok (.iastore, 1) := by decide +kernel
theorem dX1_rankOf_109 : decode cX1_rankOf 109 = .ok (.aload_n 0, 1) := by decide +kernel
theorem dX1_rankOf_110 : decode cX1_rankOf 110 = .ok (.getfield 46, 3) := by decide +kernel
theorem dX1_rankOf_113 : decode cX1_rankOf 113 = .ok (.bipush (-6), 2) := by decide +kernel
theorem dX1_rankOf_115 : decode cX1_rankOf 115 = .ok (.invokestatic 146, 3) := by decide +kernel
theorem dX1_rankOf_118 : decode cX1_rankOf 118 = .ok (.aload_n 0, 1) := by decide +kernel
theorem dX1_rankOf_119 : decode cX1_rankOf 119 = .ok (.getfield 38, 3) := by decide +kernel
theorem dX1_rankOf_122 : decode cX1_rankOf 122 = .ok (.aload_n 0, 1) := by decide +kernel
theorem dX1_rankOf_123 : decode cX1_rankOf 123 = .ok (.getfield 62, 3) := by decide +kernel
theorem dX1_rankOf_126 : decode cX1_rankOf 126 = .ok (.iaload, 1) := by decide +kernel
theorem dX1_rankOf_127 : decode cX1_rankOf 127 = .ok (.iconst 1, 1) := by decide +kernel
theorem dX1_rankOf_128 : decode cX1_rankOf 128 = .ok (.isub, 1) := by decide +kernel
theorem dX1_rankOf_129 : decode cX1_rankOf 129 = .ok (.iastore, 1) := by decide +kernel
theorem dX1_rankOf_130 : decode cX1_rankOf 130 = .ok (.aload_n 0, 1) := by decide +kernel
theorem dX1_rankOf_131 : decode cX1_rankOf 131 = .ok (.getfield 12, 3) := by decide +kernel
theorem dX1_rankOf_134 : decode cX1_rankOf 134 = .ok (.getfield 152, 3) := by decide +kernel
theorem dX1_rankOf_137 : decode cX1_rankOf 137 = .ok (.aload_n 0, 1) := by decide +kernel
theorem dX1_rankOf_138 : decode cX1_rankOf 138 = .ok (.getfield 46, 3) := by decide +kernel
theorem dX1_rankOf_141 : decode cX1_rankOf 141 = .ok (.invokevirtual 156, 3) := by decide +kernel
theorem dX1_rankOf_144 : decode cX1_rankOf 144 = .ok (.ireturn, 1) := by decide +kernel
set_option maxRecDepth 20000 in
theorem ggX1_bestPlay_X1_obstacleNow : GoodIn wsX1_bestPlay wsX1_obstacleNow := goodIn_r _ [9, 10, 2, 11, 12, 13, 8, 14, 15, 16, 17, 18, 19, 20, 21, 3, 22, 23, 24, 25, 26, 27, 28, 29, 30, 31, 32, 33, 34, 35, 36, 37, 38, 39, 69, 70, 71, 72, 73, 74, 75, 76, 77, 78, 79, 80, 81, 82, 83, 84, 85, 86, 87, 88, 89] (by decide +kernel) (by decide +kernel)
set_option maxRecDepth 20000 in
theorem gX1_bestPlay_X1_obstacleNow : GoodIn wsX1_bestPlay (wsV RX1 134 RX1 yX1_obstacleNow wsX1_obstacleNow) := goodIn_app (goodIn_of _ (by decide +kernel)) ggX1_bestPlay_X1_obstacleNow
set_option maxRecDepth 20000 in
theorem ggX1_bestPlay_X1_rankOf : GoodIn wsX1_bestPlay wsX1_rankOf := goodIn_r _ [43, 2, 44, 3, 21, 1, 45, 11, 12, 13, 8, 14, 15, 23, 24, 25, 26, 27, 28, 29, 30, 31, 32, 46, 47, 48, 49, 50, 51, 52, 53, 54, 55, 20, 33, 34, 35, 36, 37, 38, 39, 56, 57, 58, 59, 60, 61, 62, 63, 64, 65, 66, 67, 68, 69, 70, 71, 72, 73, 74, 75, 76, 77, 78, 79, 80, 81, 82, 83, 84, 85, 86, 87, 88, 89, 90, 91, 92] (by decide +kernel) (by decide +kernel)
set_option maxRecDepth 20000 in
theorem gX1_bestPlay_X1_rankOf : GoodIn wsX1_bestPlay (wsV RX1 160 RX1 yX1_rankOf wsX1_rankOf) := goodIn_app (goodIn_of _ (by decide +kernel)) ggX1_bestPlay_X1_rankOf
theorem dX1_bestPlay_0 : decode cX1_bestPlay 0 = .ok (.iconst (-1), 1) := by decide +kernel
theorem dX1_bestPlay_1 : decode cX1_bestPlay 1 = .ok (.istore_n 1, 1) := by decide +kernel
theorem dX1_bestPlay_2 : decode cX1_bestPlay 2 = .ok (.iconst 0, 1) := by decide +kernel
theorem dX1_bestPlay_3 : decode cX1_bestPlay 3 = .ok (.istore_n 2, 1) := by decide +kernel
theorem dX1_bestPlay_4 : decode cX1_bestPlay 4 = .ok (.iconst 0, 1) := by decide +kernel
theorem dX1_bestPlay_5 : decode cX1_bestPlay 5 = .ok (.istore_n 3, 1) := by decide +kernel
theorem dX1_bestPlay_6 : decode cX1_bestPlay 6 = .ok (.iload_n 3, 1) := by decide +kernel
theorem dX1_bestPlay_7 : decode cX1_bestPlay 7 = .ok (.aload_n 0, 1) := by decide +kernel
theorem dX1_bestPlay_8 : decode cX1_bestPlay 8 = .ok (.getfield 38, 3) := by decide +kernel
theorem dX1_bestPlay_11 : decode cX1_bestPlay 11 = .ok (.aload_n 0, 1) := by decide +kernel
theorem dX1_bestPlay_12 : decode cX1_bestPlay 12 = .ok (.getfield 62, 3) := by decide +kernel
theorem dX1_bestPlay_15 : decode cX1_bestPlay 15 = .ok (.iaload, 1) := by decide +kernel
theorem dX1_bestPlay_16 : decode cX1_bestPlay 16 = .ok (.if_icmp .ge 71, 3) := by decide +kernel
theorem dX1_bestPlay_19 : decode cX1_bestPlay 19 = .ok (.iconst 0, 1) := by decide +kernel
theorem dX1_bestPlay_20 : decode cX1_bestPlay 20 = .ok (.istore 4, 2) := by decide +kernel
theorem dX1_bestPlay_22 : decode cX1_bestPlay 22 = .ok (.iload 4, 2) := by decide +kernel
theorem dX1_bestPlay_24 : decode cX1_bestPlay 24 = .ok (.aload_n 0, 1) := by decide +kernel
theorem dX1_bestPlay_25 : decode cX1_bestPlay 25 = .ok (.getfield 12, 3) := by decide +kernel
theorem dX1_bestPlay_28 : decode cX1_bestPlay 28 = .ok (.getfield 83, 3) := by decide +kernel
theorem dX1_bestPlay_31 : decode cX1_bestPlay 31 = .ok (.if_icmp .ge 50, 3) := by decide +kernel
theorem dX1_bestPlay_34 : decode cX1_bestPlay 34 = .ok (.aload_n 0, 1) := by decide +kernel
theorem dX1_bestPlay_35 : decode cX1_bestPlay 35 = .ok (.iload_n 3, 1) := by decide +kernel
theorem dX1_bestPlay_36 : decode cX1_bestPlay 36 = .ok (.iload 4, 2) := by decide +kernel
theorem dX1_bestPlay_38 : decode cX1_bestPlay 38 = .ok (.invokevirtual 134, 3) := by decide +kernel
theorem dX1_bestPlay_41 : decode cX1_bestPlay 41 = .ok (.ifCond .ne 34, 3) := by decide +kernel
theorem dX1_bestPlay_44 : decode cX1_bestPlay 44 = .ok (.aload_n 0, 1) := by decide +kernel
theorem dX1_bestPlay_45 : decode cX1_bestPlay 45 = .ok (.iload_n 3, 1) := by decide +kernel
theorem dX1_bestPlay_46 : decode cX1_bestPlay 46 = .ok (.iload 4, 2) := by decide +kernel
theorem dX1_bestPlay_48 : decode cX1_bestPlay 48 = .ok (.invokevirtual 160, 3) := by decide +kernel
theorem dX1_bestPlay_51 : decode cX1_bestPlay 51 = .ok (.istore 5, 2) := by decide +kernel
theorem dX1_bestPlay_53 : decode cX1_bestPlay 53 = .ok (.iload_n 1, 1) := by decide +kernel
theorem dX1_bestPlay_54 : decode cX1_bestPlay 54 = .ok (.iconst (-1), 1) := by decide +kernel
theorem dX1_bestPlay_55 : decode cX1_bestPlay 55 = .ok (.if_icmp .eq 9, 3) := by decide +kernel
theorem dX1_bestPlay_58 : decode cX1_bestPlay 58 = .ok (.iload 5, 2) := by decide +kernel
theorem dX1_bestPlay_60 : decode cX1_bestPlay 60 = .ok (.iload_n 2, 1) := by decide +kernel
theorem dX1_bestPlay_61 : decode cX1_bestPlay 61 = .ok (.if_icmp .le 14, 3) := by decide +kernel
theorem dX1_bestPlay_64 : decode cX1_bestPlay 64 = .ok (.bipush 10, 2) := by decide +kernel
theorem dX1_bestPlay_66 : decode cX1_bestPlay 66 = .ok (.iload_n 3, 1) := by decide +kernel
theorem dX1_bestPlay_67 : decode cX1_bestPlay 67 = .ok (.imul, 1) := by decide +kernel
theorem dX1_bestPlay_68 : decode cX1_bestPlay 68 = .ok (.iload 4, 2) := by decide +kernel
theorem dX1_bestPlay_70 : decode cX1_bestPlay 70 = .ok (.iadd, 1) := by decide +kernel
theorem dX1_bestPlay_71 : decode cX1_bestPlay 71 = .ok (.istore_n 1, 1) := by decide +kernel
theorem dX1_bestPlay_72 : decode cX1_bestPlay 72 = .ok (.iload 5, 2) := by decide +kernel
theorem dX1_bestPlay_74 : decode cX1_bestPlay 74 = .ok (.istore_n 2, 1) := by decide +kernel
theorem dX1_bestPlay_75 : decode cX1_bestPlay 75 = .ok (.iinc 4 1, 3) := by decide +kernel
theorem dX1_bestPlay_78 : decode cX1_bestPlay 78 = .ok (.goto (-56), 3) := by decide +kernel
theorem dX1_bestPlay_81 : decode cX1_bestPlay 81 = .ok (.iinc 3 1, 3) := by decide +kernel
theorem dX1_bestPlay_84 : decode cX1_bestPlay 84 = .ok (.goto (-78), 3) := by decide +kernel
theorem dX1_bestPlay_87 : decode cX1_bestPlay 87 = .ok (.iload_n 1, 1) := by decide +kernel
theorem dX1_bestPlay_88 : decode cX1_bestPlay 88 = .ok (.ireturn, 1) := by decide +kernel
theorem dX1_leader_0 : decode cX1_leader 0 = .ok (.iconst 0, 1) := by decide +kernel
theorem dX1_leader_1 : decode cX1_leader 1 = .ok (.istore_n 1, 1) := by decide +kernel
theorem dX1_leader_2 : decode cX1_leader 2 = .ok (.iconst 1, 1) := by decide +kernel
theorem dX1_leader_3 : decode cX1_leader 3 = .ok (.istore_n 2, 1) := by decide +kernel
theorem dX1_leader_4 : decode cX1_leader 4 = .ok (.iload_n 2, 1) := by decide +kernel
theorem dX1_leader_5 : decode cX1_leader 5 = .ok (.aload_n 0, 1) := by decide +kernel
theorem dX1_leader_6 : decode cX1_leader 6 = .ok (.getfield 12, 3) := by decide +kernel
theorem dX1_leader_9 : decode cX1_leader 9 = .ok (.getfield 86, 3) := by decide +kernel
theorem dX1_leader_12 : decode cX1_leader 12 = .ok (.if_icmp .ge 26, 3) := by decide +kernel
theorem dX1_leader_15 : decode cX1_leader 15 = .ok (.aload_n 0, 1) := by decide +kernel
theorem dX1_leader_16 : decode cX1_leader 16 = .ok (.getfield 41, 3) := by decide +kernel
theorem dX1_leader_19 : decode cX1_leader 19 = .ok (.iload_n 2, 1) := by decide +kernel
theorem dX1_leader_20 : decode cX1_leader 20 = .ok (.iaload, 1) := by decide +kernel
theorem dX1_leader_21 : decode cX1_leader 21 = .ok (.aload_n 0, 1) := by decide +kernel
theorem dX1_leader_22 : decode cX1_leader 22 = .ok (.getfield 41, 3) := by decide +kernel
theorem dX1_leader_25 : decode cX1_leader 25 = .ok (.iload_n 1, 1) := by decide +kernel
theorem dX1_leader_26 : decode cX1_leader 26 = .ok (.iaload, 1) := by decide +kernel
theorem dX1_leader_27 : decode cX1_leader 27 = .ok (.if_icmp .le 5, 3) := by decide +kernel
theorem dX1_leader_30 : decode cX1_leader 30 = .ok (.iload_n 2, 1) := by decide +kernel
theorem dX1_leader_31 : decode cX1_leader 31 = .ok (.istore_n 1, 1) := by decide +kernel
theorem dX1_leader_32 : decode cX1_leader 32 = .ok (.iinc 2 1, 3) := by decide +kernel
theorem dX1_leader_35 : decode cX1_leader 35 = .ok (.goto (-31), 3) := by decide +kernel
theorem dX1_leader_38 : decode cX1_leader 38 = .ok (.iload_n 1, 1) := by decide +kernel
theorem dX1_leader_39 : decode cX1_leader 39 = .ok (.ireturn, 1) := by decide +kernel
set_option maxRecDepth 20000 in
theorem ggX1_playOn_X1_stepByRank : GoodIn wsX1_playOn wsX1_stepByRank := goodIn_r _ [6, 7, 8, 9, 5, 10, 11, 12, 13, 14, 15, 16, 17, 18, 1, 19, 20, 21, 22, 23, 24, 25, 26, 27, 28, 29, 30, 31, 32, 33, 34, 35, 36, 37, 38, 39, 40, 41, 42, 43, 44, 45, 46, 47, 48, 49, 50, 51, 52, 53, 54, 55, 56, 57, 58, 59, 60, 61, 62, 63, 64, 65, 66, 67, 68, 69, 70, 71, 72, 73, 74, 75, 76, 77, 78, 79, 80, 81, 82, 83, 84, 85, 86, 87, 88, 89, 90, 91, 92, 93, 94, 95, 96, 97, 98, 99, 100, 101, 102, 103, 104, 105, 106, 107, 108, 109, 110, 111, 112, 113, 114, 115, 116, 117, 118, 119, 120, 121, 122, 123, 124, 125, 126, 127, 128, 129, 130, 131, 132, 133, 134, 135, 136, 137, 138] (by decide +kernel) (by decide +kernel)
set_option maxRecDepth 20000 in
theorem gX1_playOn_X1_stepByRank : GoodIn wsX1_playOn (wsV RX1 163 RX1 yX1_stepByRank wsX1_stepByRank) := goodIn_app (goodIn_of _ (by decide +kernel)) ggX1_playOn_X1_stepByRank
theorem dX1_playOn_0 : decode cX1_playOn 0 = .ok (.iconst 0, 1) := by decide +kernel
theorem dX1_playOn_1 : decode cX1_playOn 1 = .ok (.istore_n 2, 1) := by decide +kernel
theorem dX1_playOn_2 : decode cX1_playOn 2 = .ok (.aload_n 0, 1) := by decide +kernel
theorem dX1_playOn_3 : decode cX1_playOn 3 = .ok (.getfield 69, 3) := by decide +kernel
theorem dX1_playOn_6 : decode cX1_playOn 6 = .ok (.ifCond .ne 18, 3) := by decide +kernel
theorem dX1_playOn_9 : decode cX1_playOn 9 = .ok (.iload_n 2, 1) := by decide +kernel
theorem dX1_playOn_10 : decode cX1_playOn 10 = .ok (.iload_n 1, 1) := by decide +kernel
theorem dX1_playOn_11 : decode cX1_playOn 11 = .ok (.if_icmp .ge 13, 3) := by decide +kernel
theorem dX1_playOn_14 : decode cX1_playOn 14 = .ok (.aload_n 0, 1) := by decide +kernel
theorem dX1_playOn_15 : decode cX1_playOn 15 = .ok (.invokevirtual 163, 3) := by decide +kernel
theorem dX1_playOn_18 : decode cX1_playOn 18 = .ok (.iinc 2 1, 3) := by decide +kernel
theorem dX1_playOn_21 : decode cX1_playOn 21 = .ok (.goto (-19), 3) := by decide +kernel
theorem dX1_playOn_24 : decode cX1_playOn 24 = .ok (.iload_n 2, 1) := by decide +kernel
theorem dX1_playOn_25 : decode cX1_playOn 25 = .ok (.ireturn, 1) := by decide +kernel
set_option maxRecDepth 20000 in
theorem ggX1_stepByRank_X1_bestPlay : GoodIn wsX1_stepByRank wsX1_bestPlay := goodIn_r _ [5, 6, 7, 8, 9, 10, 11, 12, 4, 13, 14, 15, 16, 17, 18, 19, 20, 21, 22, 23, 24, 25, 26, 27, 28, 29, 30, 31, 32, 33, 34, 35, 36, 37, 38, 39, 40, 41, 42, 43, 44, 45, 46, 47, 48, 49, 50, 51, 52, 53, 54, 55, 56, 57, 58, 59, 60, 61, 62, 63, 64, 65, 66, 67, 68, 69, 70, 71, 72, 111, 112, 113, 114, 115, 116, 117, 118, 119, 120, 121, 122, 123, 124, 125, 126, 127, 128, 129, 130, 131, 132, 133, 134] (by decide +kernel) (by decide +kernel)
set_option maxRecDepth 20000 in
theorem gX1_stepByRank_X1_bestPlay : GoodIn wsX1_stepByRank (wsV RX1 166 RX1 yX1_bestPlay wsX1_bestPlay) := goodIn_app (goodIn_of _ (by decide +kernel)) ggX1_stepByRank_X1_bestPlay
set_option maxRecDepth 20000 in
theorem ggX1_stepByRank_X1_passTurn : GoodIn wsX1_stepByRank wsX1_passTurn := goodIn_r _ [76, 77, 8, 78, 79, 80, 81, 4, 82, 14, 7, 83, 84, 85, 86, 9, 87, 88, 36, 31, 32, 33, 34, 35, 111, 112, 113, 114, 115, 116, 117, 118, 119, 120, 121, 122, 123, 124, 125, 126, 127, 128, 129, 130, 131] (by decide +kernel) (by decide +kernel)
set_option maxRecDepth 20000 in
theorem gX1_stepByRank_X1_passTurn : GoodIn wsX1_stepByRank (wsV RX1 169 RX1 yX1_passTurn wsX1_passTurn) := goodIn_app (goodIn_of _ (by decide +kernel)) ggX1_stepByRank_X1_passTurn
set_option maxRecDepth 20000 in
theorem ggX1_stepByRank_X1_layWord : GoodIn wsX1_stepByRank wsX1_layWord := goodIn_r _ [92, 7, 24, 25, 87, 88, 77, 15, 16, 17, 4, 18, 19, 54, 55, 56, 57, 8, 58, 59, 27, 28, 29, 30, 37, 38, 39, 40, 41, 42, 43, 31, 32, 33, 34, 35, 36, 93, 94, 95, 96, 97, 98, 99, 100, 101, 102, 103, 104, 105, 106, 6, 107, 108, 109, 110, 78, 79, 80, 81, 82, 14, 83, 84, 85, 86, 9, 111, 112, 113, 114, 115, 116, 117, 118, 119, 120, 121, 122, 123, 124, 125, 126, 127, 128, 129, 130, 131] (by decide +kernel) (by decide +kernel)
set_option maxRecDepth 20000 in
theorem gX1_stepByRank_X1_layWord : GoodIn wsX1_stepByRank (wsV RX1 172 RX1 yX1_layWord wsX1_layWord) := goodIn_app (goodIn_of _ (by decide +kernel)) ggX1_stepByRank_X1_layWord
theorem dX1_stepByRank_0 : decode cX1_stepByRank 0 = .ok (.aload_n 0, 1) := by decide +kernel
theorem dX1_stepByRank_1 : decode cX1_stepByRank 1 = .ok (.invokevirtual 166, 3) := by decide +kernel
theorem dX1_stepByRank_4 : decode cX1_stepByRank 4 = .ok (.istore_n 1, 1) := by decide +kernel
theorem dX1_stepByRank_5 : decode cX1_stepByRank 5 = .ok (.iload_n 1, 1) := by decide +kernel
theorem dX1_stepByRank_6 : decode cX1_stepByRank 6 = .ok (.iconst (-1), 1) := by decide +kernel
theorem dX1_stepByRank_7 : decode cX1_stepByRank 7 = .ok (.if_icmp .ne 10, 3) := by decide +kernel
theorem dX1_stepByRank_10 : decode cX1_stepByRank 10 = .ok (.aload_n 0, 1) := by decide +kernel
theorem dX1_stepByRank_11 : decode cX1_stepByRank 11 = .ok (.invokevirtual 169, 3) := by decide +kernel
theorem dX1_stepByRank_14 : decode cX1_stepByRank 14 = .ok (.goto 16, 3) := by decide +kernel
theorem dX1_stepByRank_17 : decode cX1_stepByRank 17 = .ok (.aload_n 0, 1) := by decide +kernel
theorem dX1_stepByRank_18 : decode cX1_stepByRank 18 = .ok (.iload_n 1, 1) := by decide +kernel
theorem dX1_stepByRank_19 : decode cX1_stepByRank 19 = .ok (.bipush 10, 2) := by decide +kernel
theorem dX1_stepByRank_21 : decode cX1_stepByRank 21 = .ok (.idiv, 1) := by decide +kernel
theorem dX1_stepByRank_22 : decode cX1_stepByRank 22 = .ok (.iload_n 1, 1) := by decide +kernel
theorem dX1_stepByRank_23 : decode cX1_stepByRank 23 = .ok (.bipush 10, 2) := by decide +kernel
theorem dX1_stepByRank_25 : decode cX1_stepByRank 25 = .ok (.irem, 1) := by decide +kernel
theorem dX1_stepByRank_26 : decode cX1_stepByRank 26 = .ok (.invokevirtual 172, 3) := by decide +kernel
theorem dX1_stepByRank_29 : decode cX1_stepByRank 29 = .ok (.pop, 1) := by decide +kernel
theorem dX1_stepByRank_30 : decode cX1_stepByRank 30 = .ok (.return_, 1) := by decide +kernel
set_option maxRecDepth 20000 in
theorem ggX1_passTurn_X1_endTurn : GoodIn wsX1_passTurn wsX1_endTurn := goodIn_r _ [8, 9, 10, 2, 3, 11, 12, 13, 7, 14, 15, 16, 17, 18, 19, 20, 21, 22, 23, 24, 25, 26, 27, 28, 29, 30, 31, 32, 33, 34, 35, 36, 37, 38, 39, 40, 41, 42, 43, 44] (by decide +kernel) (by decide +kernel)
set_option maxRecDepth 20000 in
theorem gX1_passTurn_X1_endTurn : GoodIn wsX1_passTurn (wsV RX1 175 RX1 yX1_endTurn wsX1_endTurn) := goodIn_app (goodIn_of _ (by decide +kernel)) ggX1_passTurn_X1_endTurn
theorem dX1_passTurn_0 : decode cX1_passTurn 0 = .ok (.aload_n 0, 1) := by decide +kernel
theorem dX1_passTurn_1 : decode cX1_passTurn 1 = .ok (.dup, 1) := by decide +kernel
theorem dX1_passTurn_2 : decode cX1_passTurn 2 = .ok (.getfield 66, 3) := by decide +kernel
theorem dX1_passTurn_5 : decode cX1_passTurn 5 = .ok (.iconst 1, 1) := by decide +kernel
theorem dX1_passTurn_6 : decode cX1_passTurn 6 = .ok (.iadd, 1) := by decide +kernel
theorem dX1_passTurn_7 : decode cX1_passTurn 7 = .ok (.putfield 66, 3) := by decide +kernel
theorem dX1_passTurn_10 : decode cX1_passTurn 10 = .ok (.aload_n 0, 1) := by decide +kernel
theorem dX1_passTurn_11 : decode cX1_passTurn 11 = .ok (.aload_n 0, 1) := by decide +kernel
theorem dX1_passTurn_12 : decode cX1_passTurn 12 = .ok (.getfield 66, 3) := by decide +kernel
theorem dX1_passTurn_15 : decode cX1_passTurn 15 = .ok (.aload_n 0, 1) := by decide +kernel
theorem dX1_passTurn_16 : decode cX1_passTurn 16 = .ok (.getfield 12, 3) := by decide +kernel
theorem dX1_passTurn_19 : decode cX1_passTurn 19 = .ok (.getfield 86, 3) := by decide +kernel
theorem dX1_passTurn_22 : decode cX1_passTurn 22 = .ok (.if_icmp .lt 7, 3) := by decide +kernel
theorem dX1_passTurn_25 : decode cX1_passTurn 25 = .ok (.iconst 1, 1) := by decide +kernel
theorem dX1_passTurn_26 : decode cX1_passTurn 26 = .ok (.goto 4, 3) := by decide +kernel
theorem dX1_passTurn_29 : decode cX1_passTurn 29 = .ok (.iconst 0, 1) := by decide +kernel
theorem dX1_passTurn_30 : decode cX1_passTurn 30 = .ok (.invokevirtual 175, 3) := by decide +kernel
theorem dX1_passTurn_33 : decode cX1_passTurn 33 = .ok (.return_, 1) := by decide +kernel
set_option maxRecDepth 20000 in
theorem ggX1_layWord_X1_wordOf : GoodIn wsX1_layWord wsX1_wordOf := goodIn_r _ [11, 12, 67, 68, 69, 70, 71, 72, 73, 74, 75, 76, 77, 78, 79] (by decide +kernel) (by decide +kernel)
set_option maxRecDepth 20000 in
theorem gX1_layWord_X1_wordOf : GoodIn wsX1_layWord (wsV RX1 124 RX1 yX1_wordOf wsX1_wordOf) := goodIn_app (goodIn_of _ (by decide +kernel)) ggX1_layWord_X1_wordOf
set_option maxRecDepth 20000 in
theorem ggX1_layWord_X1_pointsFor : GoodIn wsX1_layWord wsX1_pointsFor := goodIn_r _ [16, 17, 18, 3, 19, 2, 20, 21, 22, 23, 24, 25, 26, 27, 28, 29, 30, 31, 32, 33, 10, 34, 35, 36, 67, 68, 69, 70, 71, 72, 73, 74, 75, 76, 77, 78, 79, 80, 81, 82, 83, 84, 85, 86, 87] (by decide +kernel) (by decide +kernel)
set_option maxRecDepth 20000 in
theorem gX1_layWord_X1_pointsFor : GoodIn wsX1_layWord (wsV RX1 149 RX1 yX1_pointsFor wsX1_pointsFor) := goodIn_app (goodIn_of _ (by decide +kernel)) ggX1_layWord_X1_pointsFor
set_option maxRecDepth 20000 in
theorem ggX1_layWord_X1_putLetters : GoodIn wsX1_layWord wsX1_putLetters := goodIn_r _ [40, 36, 41, 20, 21, 22, 23, 42, 43, 44, 45, 46, 67, 68, 69, 70, 71, 72, 73, 74, 75, 76, 77, 78, 79] (by decide +kernel) (by decide +kernel)
set_option maxRecDepth 20000 in
theorem gX1_layWord_X1_putLetters : GoodIn wsX1_layWord (wsV RX1 179 RX1 yX1_putLetters wsX1_putLetters) := goodIn_app (goodIn_of _ (by decide +kernel)) ggX1_layWord_X1_putLetters
set_option maxRecDepth 20000 in
theorem ggX1_layWord_X1_removeWord : GoodIn wsX1_layWord wsX1_removeWord := goodIn_r _ [50, 51, 12, 67, 68, 69, 70, 71, 72, 73, 74, 75, 76, 77, 78, 79] (by decide +kernel) (by decide +kernel)
set_option maxRecDepth 20000 in
theorem gX1_layWord_X1_removeWord : GoodIn wsX1_layWord (wsV RX1 183 RX1 yX1_removeWord wsX1_removeWord) := goodIn_app (goodIn_of _ (by decide +kernel)) ggX1_layWord_X1_removeWord
set_option maxRecDepth 20000 in
theorem ggX1_layWord_X1_wordsOfHands : GoodIn wsX1_layWord wsX1_wordsOfHands := goodIn_r _ [55, 17, 56, 51, 67, 68, 69, 70, 71, 72, 73, 74, 75, 76, 77, 78, 79, 80, 81, 82, 83, 84, 85, 86, 87] (by decide +kernel) (by decide +kernel)
set_option maxRecDepth 20000 in
theorem gX1_layWord_X1_wordsOfHands : GoodIn wsX1_layWord (wsV RX1 108 RX1 yX1_wordsOfHands wsX1_wordsOfHands) := goodIn_app (goodIn_of _ (by decide +kernel)) ggX1_layWord_X1_wordsOfHands
set_option maxRecDepth 20000 in
theorem ggX1_layWord_X1_endTurn : GoodIn wsX1_layWord wsX1_endTurn := goodIn_r _ [60, 61, 1, 17, 56, 62, 63, 64, 10, 65, 66, 4, 5, 36, 31, 32, 33, 34, 35, 67, 68, 69, 70, 71, 72, 73, 74, 75, 76, 77, 78, 79, 80, 81, 82, 83, 84, 85, 86, 87] (by decide +kernel) (by decide +kernel)
set_option maxRecDepth 20000 in
theorem gX1_layWord_X1_endTurn : GoodIn wsX1_layWord (wsV RX1 175 RX1 yX1_endTurn wsX1_endTurn) := goodIn_app (goodIn_of _ (by decide +kernel)) ggX1_layWord_X1_endTurn
theorem dX1_layWord_0 : decode cX1_layWord 0 = .ok (.aload_n 0, 1) := by decide +kernel
theorem dX1_layWord_1 : decode cX1_layWord 1 = .ok (.aload_n 0, 1) := by decide +kernel
theorem dX1_layWord_2 : decode cX1_layWord 2 = .ok (.getfield 62, 3) := by decide +kernel
theorem dX1_layWord_5 : decode cX1_layWord 5 = .ok (.iload_n 1, 1) := by decide +kernel
theorem dX1_layWord_6 : decode cX1_layWord 6 = .ok (.invokevirtual 124, 3) := by decide +kernel
theorem dX1_layWord_9 : decode cX1_layWord 9 = .ok (.lstore_n 3, 1) := by decide +kernel
theorem dX1_layWord_10 : decode cX1_layWord 10 = .ok (.aload_n 0, 1) := by decide +kernel
theorem dX1_layWord_11 : decode cX1_layWord 11 = .ok (.lload_n 3, 1) := by decide +kernel
theorem dX1_layWord_12 : decode cX1_layWord 12 = .ok (.iload_n 2, 1) := by decide +kernel
theorem dX1_layWord_13 : decode cX1_layWord 13 = .ok (.invokevirtual 149, 3) := by decide +kernel
theorem dX1_layWord_16 : decode cX1_layWord 16 = .ok (.istore 5, 2) := by decide +kernel
theorem dX1_layWord_18 : decode cX1_layWord 18 = .ok (.aload_n 0, 1) := by decide +kernel
theorem dX1_layWord_19 : decode cX1_layWord 19 = .ok (.lload_n 3, 1) := by decide +kernel
theorem dX1_layWord_20 : decode cX1_layWord 20 = .ok (.iload_n 2, 1) := by decide +kernel
theorem dX1_layWord_21 : decode cX1_layWord 21 = .ok (.invokevirtual 179, 3) := by decide +kernel
theorem dX1_layWord_24 : decode cX1_layWord 24 = .ok (.aload_n 0, 1) := by decide +kernel
theorem dX1_layWord_25 : decode cX1_layWord 25 = .ok (.getfield 25, 3) := by decide +kernel
theorem dX1_layWord_28 : decode cX1_layWord 28 = .ok (.iload_n 2, 1) := by decide +kernel
theorem dX1_layWord_29 : decode cX1_layWord 29 = .ok (.dup2, 1) := by decide +kernel
theorem dX1_layWord_30 : decode cX1_layWord 30 = .ok (.iaload, 1) := by decide +kernel
theorem dX1_layWord_31 : decode cX1_layWord 31 = .ok (.iconst 1, 1) := by decide +kernel
theorem dX1_layWord_32 : decode cX1_layWord 32 = .ok (.iadd, 1) := by decide +kernel
theorem dX1_layWord_33 : decode cX1_layWord 33 = .ok (.iastore, 1) := by decide +kernel
theorem dX1_layWord_34 : decode cX1_layWord 34 = .ok (.aload_n 0, 1) := by decide +kernel
theorem dX1_layWord_35 : decode cX1_layWord 35 = .ok (.getfield 28, 3) := by decide +kernel
theorem dX1_layWord_38 : decode cX1_layWord 38 = .ok (.iload_n 2, 1) := by decide +kernel
theorem dX1_layWord_39 : decode cX1_layWord 39 = .ok (.lload_n 3, 1) := by decide +kernel
theorem dX1_layWord_40 : decode cX1_layWord 40 = .ok (.lastore, 1) := by decide +kernel
theorem dX1_layWord_41 : decode cX1_layWord 41 = .ok (.aload_n 0, 1) := by decide +kernel
theorem dX1_layWord_42 : decode cX1_layWord 42 = .ok (.getfield 32, 3) := by decide +kernel
theorem dX1_layWord_45 : decode cX1_layWord 45 = .ok (.iload_n 2, 1) := by decide +kernel
theorem dX1_layWord_46 : decode cX1_layWord 46 = .ok (.aload_n 0, 1) := by decide +kernel
theorem dX1_layWord_47 : decode cX1_layWord 47 = .ok (.getfield 62, 3) := by decide +kernel
theorem dX1_layWord_50 : decode cX1_layWord 50 = .ok (.iastore, 1) := by decide +kernel
theorem dX1_layWord_51 : decode cX1_layWord 51 = .ok (.aload_n 0, 1) := by decide +kernel
theorem dX1_layWord_52 : decode cX1_layWord 52 = .ok (.getfield 41, 3) := by decide +kernel
theorem dX1_layWord_55 : decode cX1_layWord 55 = .ok (.aload_n 0, 1) := by decide +kernel
theorem dX1_layWord_56 : decode cX1_layWord 56 = .ok (.getfield 62, 3) := by decide +kernel
theorem dX1_layWord_59 : decode cX1_layWord 59 = .ok (.dup2, 1) := by decide +kernel
theorem dX1_layWord_60 : decode cX1_layWord 60 = .ok (.iaload, 1) := by decide +kernel
theorem dX1_layWord_61 : decode cX1_layWord 61 = .ok (.iload 5, 2) := by decide +kernel
theorem dX1_layWord_63 : decode cX1_layWord 63 = .ok (.iadd, 1) := by decide +kernel
theorem dX1_layWord_64 : decode cX1_layWord 64 = .ok (.iastore, 1) := by decide +kernel
theorem dX1_layWord_65 : decode cX1_layWord 65 = .ok (.aload_n 0, 1) := by decide +kernel
theorem dX1_layWord_66 : decode cX1_layWord 66 = .ok (.aload_n 0, 1) := by decide +kernel
theorem dX1_layWord_67 : decode cX1_layWord 67 = .ok (.getfield 62, 3) := by decide +kernel
theorem dX1_layWord_70 : decode cX1_layWord 70 = .ok (.iload_n 1, 1) := by decide +kernel
theorem dX1_layWord_71 : decode cX1_layWord 71 = .ok (.invokevirtual 183, 3) := by decide +kernel
theorem dX1_layWord_74 : decode cX1_layWord 74 = .ok (.aload_n 0, 1) := by decide +kernel
theorem dX1_layWord_75 : decode cX1_layWord 75 = .ok (.iconst 0, 1) := by decide +kernel
theorem dX1_layWord_76 : decode cX1_layWord 76 = .ok (.putfield 66, 3) := by decide +kernel
theorem dX1_layWord_79 : decode cX1_layWord 79 = .ok (.aload_n 0, 1) := by decide +kernel
theorem dX1_layWord_80 : decode cX1_layWord 80 = .ok (.aload_n 0, 1) := by decide +kernel
theorem dX1_layWord_81 : decode cX1_layWord 81 = .ok (.invokevirtual 108, 3) := by decide +kernel
theorem dX1_layWord_84 : decode cX1_layWord 84 = .ok (.ifCond .ne 7, 3) := by decide +kernel
theorem dX1_layWord_87 : decode cX1_layWord 87 = .ok (.iconst 1, 1) := by decide +kernel
theorem dX1_layWord_88 : decode cX1_layWord 88 = .ok (.goto 4, 3) := by decide +kernel
theorem dX1_layWord_91 : decode cX1_layWord 91 = .ok (.iconst 0, 1) := by decide +kernel
theorem dX1_layWord_92 : decode cX1_layWord 92 = .ok (.invokevirtual 175, 3) := by decide +kernel
theorem dX1_layWord_95 : decode cX1_layWord 95 = .ok (.iload 5, 2) := by decide +kernel
theorem dX1_layWord_97 : decode cX1_layWord 97 = .ok (.ireturn, 1) := by decide +kernel
set_option maxRecDepth 20000 in
theorem ggX1_putLetters_X6_length : GoodIn wsX1_putLetters wsX6_length := goodIn_r _ [6] (by decide +kernel) (by decide +kernel)
set_option maxRecDepth 20000 in
theorem gX1_putLetters_X6_length : GoodIn wsX1_putLetters (va_wsS RX1 128 yX6_length wsX6_length) := goodIn_app (goodIn_of _ (by decide +kernel)) ggX1_putLetters_X6_length
set_option maxRecDepth 20000 in
theorem ggX1_putLetters_X6_letterAt : GoodIn wsX1_putLetters wsX6_letterAt := goodIn_r _ [9, 10, 11, 4, 5, 6] (by decide +kernel) (by decide +kernel)
set_option maxRecDepth 20000 in
theorem gX1_putLetters_X6_letterAt : GoodIn wsX1_putLetters (va_wsS RX1 187 yX6_letterAt wsX6_letterAt) := goodIn_app (goodIn_of _ (by decide +kernel)) ggX1_putLetters_X6_letterAt
theorem dX1_putLetters_0 : decode cX1_putLetters 0 = .ok (.lload_n 1, 1) := by decide +kernel
theorem dX1_putLetters_1 : decode cX1_putLetters 1 = .ok (.invokestatic 128, 3) := by decide +kernel
theorem dX1_putLetters_4 : decode cX1_putLetters 4 = .ok (.istore 4, 2) := by decide +kernel
theorem dX1_putLetters_6 : decode cX1_putLetters 6 = .ok (.iconst 0, 1) := by decide +kernel
theorem dX1_putLetters_7 : decode cX1_putLetters 7 = .ok (.istore 5, 2) := by decide +kernel
theorem dX1_putLetters_9 : decode cX1_putLetters 9 = .ok (.iload 5, 2) := by decide +kernel
theorem dX1_putLetters_11 : decode cX1_putLetters 11 = .ok (.iload 4, 2) := by decide +kernel
theorem dX1_putLetters_13 : decode cX1_putLetters 13 = .ok (.if_icmp .ge 52, 3) := by decide +kernel
theorem dX1_putLetters_16 : decode cX1_putLetters 16 = .ok (.aload_n 0, 1) := by decide +kernel
theorem dX1_putLetters_17 : decode cX1_putLetters 17 = .ok (.getfield 22, 3) := by decide +kernel
theorem dX1_putLetters_20 : decode cX1_putLetters 20 = .ok (.iload_n 3, 1) := by decide +kernel
theorem dX1_putLetters_21 : decode cX1_putLetters 21 = .ok (.iaload, 1) := by decide +kernel
theorem dX1_putLetters_22 : decode cX1_putLetters 22 = .ok (.bipush 40, 2) := by decide +kernel
theorem dX1_putLetters_24 : decode cX1_putLetters 24 = .ok (.if_icmp .ge 41, 3) := by decide +kernel
theorem dX1_putLetters_27 : decode cX1_putLetters 27 = .ok (.aload_n 0, 1) := by decide +kernel
theorem dX1_putLetters_28 : decode cX1_putLetters 28 = .ok (.getfield 18, 3) := by decide +kernel
theorem dX1_putLetters_31 : decode cX1_putLetters 31 = .ok (.iload_n 3, 1) := by decide +kernel
theorem dX1_putLetters_32 : decode cX1_putLetters 32 = .ok (.bipush 40, 2) := by decide +kernel
theorem dX1_putLetters_34 : decode cX1_putLetters 34 = .ok (.imul, 1) := by decide +kernel
theorem dX1_putLetters_35 : decode cX1_putLetters 35 = .ok (.aload_n 0, 1) := by decide +kernel
theorem dX1_putLetters_36 : decode cX1_putLetters 36 = .ok (.getfield 22, 3) := by decide +kernel
theorem dX1_putLetters_39 : decode cX1_putLetters 39 = .ok (.iload_n 3, 1) := by decide +kernel
theorem dX1_putLetters_40 : decode cX1_putLetters 40 = .ok (.iaload, 1) := by decide +kernel
theorem dX1_putLetters_41 : decode cX1_putLetters 41 = .ok (.iadd, 1) := by decide +kernel
theorem dX1_putLetters_42 : decode cX1_putLetters 42 = .ok (.lload_n 1, 1) := by decide +kernel
theorem dX1_putLetters_43 : decode cX1_putLetters 43 = .ok (.iload 5, 2) := by decide +kernel
theorem dX1_putLetters_45 : decode cX1_putLetters 45 = .ok (.invokestatic 187, 3) := by decide +kernel
theorem dX1_putLetters_48 : decode cX1_putLetters 48 = .ok (.iastore, 1) := by decide +kernel
theorem dX1_putLetters_49 : decode cX1_putLetters 49 = .ok (.aload_n 0, 1) := by decide +kernel
theorem dX1_putLetters_50 : decode cX1_putLetters 50 = .ok (.getfield 22, 3) := by decide +kernel
theorem dX1_putLetters_53 : decode cX1_putLetters 53 = .ok (.iload_n 3, 1) := by decide +kernel
theorem dX1_putLetters_54 : decode cX1_putLetters 54 = .ok (.dup2, 1) := by decide +kernel
theorem dX1_putLetters_55 : decode cX1_putLetters 55 = .ok (.iaload, 1) := by decide +kernel
theorem dX1_putLetters_56 : decode cX1_putLetters 56 = .ok (.iconst 1, 1) := by decide +kernel
theorem dX1_putLetters_57 : decode cX1_putLetters 57 = .ok (.iadd, 1) := by decide +kernel
theorem dX1_putLetters_58 : decode cX1_putLetters 58 = .ok (.iastore, 1) := by decide +kernel
theorem dX1_putLetters_59 : decode cX1_putLetters 59 = .ok (.iinc 5 1, 3) := by decide +kernel
theorem dX1_putLetters_62 : decode cX1_putLetters 62 = .ok (.goto (-53), 3) := by decide +kernel
theorem dX1_putLetters_65 : decode cX1_putLetters 65 = .ok (.return_, 1) := by decide +kernel
theorem dX1_addWord_0 : decode cX1_addWord 0 = .ok (.aload_n 0, 1) := by decide +kernel
theorem dX1_addWord_1 : decode cX1_addWord 1 = .ok (.getfield 38, 3) := by decide +kernel
theorem dX1_addWord_4 : decode cX1_addWord 4 = .ok (.iload_n 1, 1) := by decide +kernel
theorem dX1_addWord_5 : decode cX1_addWord 5 = .ok (.iaload, 1) := by decide +kernel
theorem dX1_addWord_6 : decode cX1_addWord 6 = .ok (.bipush 8, 2) := by decide +kernel
theorem dX1_addWord_8 : decode cX1_addWord 8 = .ok (.if_icmp .ge 30, 3) := by decide +kernel
theorem dX1_addWord_11 : decode cX1_addWord 11 = .ok (.aload_n 0, 1) := by decide +kernel
theorem dX1_addWord_12 : decode cX1_addWord 12 = .ok (.getfield 35, 3) := by decide +kernel
theorem dX1_addWord_15 : decode cX1_addWord 15 = .ok (.iload_n 1, 1) := by decide +kernel
theorem dX1_addWord_16 : decode cX1_addWord 16 = .ok (.bipush 8, 2) := by decide +kernel
theorem dX1_addWord_18 : decode cX1_addWord 18 = .ok (.imul, 1) := by decide +kernel
theorem dX1_addWord_19 : decode cX1_addWord 19 = .ok (.aload_n 0, 1) := by decide +kernel
theorem dX1_addWord_20 : decode cX1_addWord 20 = .ok (.getfield 38, 3) := by decide +kernel
theorem dX1_addWord_23 : decode cX1_addWord 23 = .ok (.iload_n 1, 1) := by decide +kernel
theorem dX1_addWord_24 : decode cX1_addWord 24 = .ok (.iaload, 1) := by decide +kernel
theorem dX1_addWord_25 : decode cX1_addWord 25 = .ok (.iadd, 1) := by decide +kernel
theorem dX1_addWord_26 : decode cX1_addWord 26 = .ok (.lload_n 2, 1) := by decide +kernel
theorem dX1_addWord_27 : decode cX1_addWord 27 = .ok (.lastore, 1) := by decide +kernel
theorem dX1_addWord_28 : decode cX1_addWord 28 = .ok (.aload_n 0, 1) := by decide +kernel
theorem dX1_addWord_29 : decode cX1_addWord 29 = .ok (.getfield 38, 3) := by decide +kernel
theorem dX1_addWord_32 : decode cX1_addWord 32 = .ok (.iload_n 1, 1) := by decide +kernel
theorem dX1_addWord_33 : decode cX1_addWord 33 = .ok (.dup2, 1) := by decide +kernel
theorem dX1_addWord_34 : decode cX1_addWord 34 = .ok (.iaload, 1) := by decide +kernel
theorem dX1_addWord_35 : decode cX1_addWord 35 = .ok (.iconst 1, 1) := by decide +kernel
theorem dX1_addWord_36 : decode cX1_addWord 36 = .ok (.iadd, 1) := by decide +kernel
theorem dX1_addWord_37 : decode cX1_addWord 37 = .ok (.iastore, 1) := by decide +kernel
theorem dX1_addWord_38 : decode cX1_addWord 38 = .ok (.return_, 1) := by decide +kernel
theorem dX1_removeWord_0 : decode cX1_removeWord 0 = .ok (.iload_n 1, 1) := by decide +kernel
theorem dX1_removeWord_1 : decode cX1_removeWord 1 = .ok (.bipush 8, 2) := by decide +kernel
theorem dX1_removeWord_3 : decode cX1_removeWord 3 = .ok (.imul, 1) := by decide +kernel
theorem dX1_removeWord_4 : decode cX1_removeWord 4 = .ok (.istore_n 3, 1) := by decide +kernel
theorem dX1_removeWord_5 : decode cX1_removeWord 5 = .ok (.aload_n 0, 1) := by decide +kernel
theorem dX1_removeWord_6 : decode cX1_removeWord 6 = .ok (.getfield 38, 3) := by decide +kernel
theorem dX1_removeWord_9 : decode cX1_removeWord 9 = .ok (.iload_n 1, 1) := by decide +kernel
theorem dX1_removeWord_10 : decode cX1_removeWord 10 = .ok (.dup2, 1) := by decide +kernel
theorem dX1_removeWord_11 : decode cX1_removeWord 11 = .ok (.iaload, 1) := by decide +kernel
theorem dX1_removeWord_12 : decode cX1_removeWord 12 = .ok (.iconst 1, 1) := by decide +kernel
theorem dX1_removeWord_13 : decode cX1_removeWord 13 = .ok (.isub, 1) := by decide +kernel
theorem dX1_removeWord_14 : decode cX1_removeWord 14 = .ok (.iastore, 1) := by decide +kernel
theorem dX1_removeWord_15 : decode cX1_removeWord 15 = .ok (.iload_n 2, 1) := by decide +kernel
theorem dX1_removeWord_16 : decode cX1_removeWord 16 = .ok (.istore 4, 2) := by decide +kernel
theorem dX1_removeWord_18 : decode cX1_removeWord 18 = .ok (.iload 4, 2) := by decide +kernel
theorem dX1_removeWord_20 : decode cX1_removeWord 20 = .ok (.aload_n 0, 1) := by decide +kernel
theorem dX1_removeWord_21 : decode cX1_removeWord 21 = .ok (.getfield 38, 3) := by decide +kernel
theorem dX1_removeWord_24 : decode cX1_removeWord 24 = .ok (.iload_n 1, 1) := by decide +kernel
theorem dX1_removeWord_25 : decode cX1_removeWord 25 = .ok (.iaload, 1) := by decide +kernel
theorem dX1_removeWord_26 : decode cX1_removeWord 26 = .ok (.if_icmp .ge 29, 3) := by decide +kernel
theorem dX1_removeWord_29 : decode cX1_removeWord 29 = .ok (.aload_n 0, 1) := by decide +kernel
theorem dX1_removeWord_30 : decode cX1_removeWord 30 = .ok (.getfield 35, 3) := by decide +kernel
theorem dX1_removeWord_33 : decode cX1_removeWord 33 = .ok (.iload_n 3, 1) := by decide +kernel
theorem dX1_removeWord_34 : decode cX1_removeWord 34 = .ok (.iload 4, 2) := by decide +kernel
theorem dX1_removeWord_36 : decode cX1_removeWord 36 = .ok (.iadd, 1) := by decide +kernel
theorem dX1_removeWord_37 : decode cX1_removeWord 37 = .ok (.aload_n 0, 1) := by decide +kernel
theorem dX1_removeWord_38 : decode cX1_removeWord 38 = .ok (.getfield 35, 3) := by decide +kernel
theorem dX1_removeWord_41 : decode cX1_removeWord 41 = .ok (.iload_n 3, 1) := by decide +kernel
theorem dX1_removeWord_42 : decode cX1_removeWord 42 = .ok (.iload 4, 2) := by decide +kernel
theorem dX1_removeWord_44 : decode cX1_removeWord 44 = .ok (.iadd, 1) := by decide +kernel
theorem dX1_removeWord_45 : decode cX1_removeWord 45 = .ok (.iconst 1, 1) := by decide +kernel
theorem dX1_removeWord_46 : decode cX1_removeWord 46 = .ok (.iadd, 1) := by decide +kernel
theorem dX1_removeWord_47 : decode cX1_removeWord 47 = .ok (.laload, 1) := by decide +kernel
theorem dX1_removeWord_48 : decode cX1_removeWord 48 = .ok (.lastore, 1) := by decide +kernel
theorem dX1_removeWord_49 : decode cX1_removeWord 49 = .ok (.iinc 4 1, 3) := by decide +kernel
theorem dX1_removeWord_52 : decode cX1_removeWord 52 = .ok (.goto (-34), 3) := by decide +kernel
theorem dX1_removeWord_55 : decode cX1_removeWord 55 = .ok (.return_, 1) := by decide +kernel
set_option maxRecDepth 20000 in
theorem ggX1_endTurn_X1_payOwners : GoodIn wsX1_endTurn wsX1_payOwners := goodIn_r _ [9, 3, 10, 11, 12, 13, 14, 15, 16, 8, 17, 18, 19, 20, 21, 22, 23, 24, 25, 26, 27, 28, 29, 30, 31, 32, 33, 34, 35, 36, 37, 38, 39] (by decide +kernel) (by decide +kernel)
set_option maxRecDepth 20000 in
theorem gX1_endTurn_X1_payOwners : GoodIn wsX1_endTurn (wsV RX1 190 RX1 yX1_payOwners wsX1_payOwners) := goodIn_app (goodIn_of _ (by decide +kernel)) ggX1_endTurn_X1_payOwners
theorem dX1_endTurn_0 : decode cX1_endTurn 0 = .ok (.iload_n 1, 1) := by decide +kernel
theorem dX1_endTurn_1 : decode cX1_endTurn 1 = .ok (.ifCond .eq 15, 3) := by decide +kernel
theorem dX1_endTurn_4 : decode cX1_endTurn 4 = .ok (.aload_n 0, 1) := by decide +kernel
theorem dX1_endTurn_5 : decode cX1_endTurn 5 = .ok (.iconst 1, 1) := by decide +kernel
theorem dX1_endTurn_6 : decode cX1_endTurn 6 = .ok (.putfield 69, 3) := by decide +kernel
theorem dX1_endTurn_9 : decode cX1_endTurn 9 = .ok (.aload_n 0, 1) := by decide +kernel
theorem dX1_endTurn_10 : decode cX1_endTurn 10 = .ok (.invokevirtual 190, 3) := by decide +kernel
theorem dX1_endTurn_13 : decode cX1_endTurn 13 = .ok (.goto 33, 3) := by decide +kernel
theorem dX1_endTurn_16 : decode cX1_endTurn 16 = .ok (.aload_n 0, 1) := by decide +kernel
theorem dX1_endTurn_17 : decode cX1_endTurn 17 = .ok (.aload_n 0, 1) := by decide +kernel
theorem dX1_endTurn_18 : decode cX1_endTurn 18 = .ok (.getfield 62, 3) := by decide +kernel
theorem dX1_endTurn_21 : decode cX1_endTurn 21 = .ok (.iconst 1, 1) := by decide +kernel
theorem dX1_endTurn_22 : decode cX1_endTurn 22 = .ok (.iadd, 1) := by decide +kernel
theorem dX1_endTurn_23 : decode cX1_endTurn 23 = .ok (.aload_n 0, 1) := by decide +kernel
theorem dX1_endTurn_24 : decode cX1_endTurn 24 = .ok (.getfield 12, 3) := by decide +kernel
theorem dX1_endTurn_27 : decode cX1_endTurn 27 = .ok (.getfield 86, 3) := by decide +kernel
theorem dX1_endTurn_30 : decode cX1_endTurn 30 = .ok (.if_icmp .ge 12, 3) := by decide +kernel
theorem dX1_endTurn_33 : decode cX1_endTurn 33 = .ok (.aload_n 0, 1) := by decide +kernel
theorem dX1_endTurn_34 : decode cX1_endTurn 34 = .ok (.getfield 62, 3) := by decide +kernel
theorem dX1_endTurn_37 : decode cX1_endTurn 37 = .ok (.iconst 1, 1) := by decide +kernel
theorem dX1_endTurn_38 : decode cX1_endTurn 38 = .ok (.iadd, 1) := by decide +kernel
theorem dX1_endTurn_39 : decode cX1_endTurn 39 = .ok (.goto 4, 3) := by decide +kernel
theorem dX1_endTurn_42 : decode cX1_endTurn 42 = .ok (.iconst 0, 1) := by decide +kernel
theorem dX1_endTurn_43 : decode cX1_endTurn 43 = .ok (.putfield 62, 3) := by decide +kernel
theorem dX1_endTurn_46 : decode cX1_endTurn 46 = .ok (.return_, 1) := by decide +kernel
set_option maxRecDepth 20000 in
theorem ggX1_payOwners_X1_freeTiles : GoodIn wsX1_payOwners wsX1_freeTiles := goodIn_r _ [10, 1, 11, 5, 12, 13, 14, 15, 16, 17, 18, 19, 20, 21, 22, 23, 24, 25, 26, 27, 28, 29, 30, 31, 32] (by decide +kernel) (by decide +kernel)
set_option maxRecDepth 20000 in
theorem gX1_payOwners_X1_freeTiles : GoodIn wsX1_payOwners (wsV RX1 114 RX1 yX1_freeTiles wsX1_freeTiles) := goodIn_app (goodIn_of _ (by decide +kernel)) ggX1_payOwners_X1_freeTiles
theorem dX1_payOwners_0 : decode cX1_payOwners 0 = .ok (.iconst 0, 1) := by decide +kernel
theorem dX1_payOwners_1 : decode cX1_payOwners 1 = .ok (.istore_n 1, 1) := by decide +kernel
theorem dX1_payOwners_2 : decode cX1_payOwners 2 = .ok (.iload_n 1, 1) := by decide +kernel
theorem dX1_payOwners_3 : decode cX1_payOwners 3 = .ok (.aload_n 0, 1) := by decide +kernel
theorem dX1_payOwners_4 : decode cX1_payOwners 4 = .ok (.getfield 12, 3) := by decide +kernel
theorem dX1_payOwners_7 : decode cX1_payOwners 7 = .ok (.getfield 83, 3) := by decide +kernel
theorem dX1_payOwners_10 : decode cX1_payOwners 10 = .ok (.if_icmp .ge 49, 3) := by decide +kernel
theorem dX1_payOwners_13 : decode cX1_payOwners 13 = .ok (.aload_n 0, 1) := by decide +kernel
theorem dX1_payOwners_14 : decode cX1_payOwners 14 = .ok (.getfield 32, 3) := by decide +kernel
theorem dX1_payOwners_17 : decode cX1_payOwners 17 = .ok (.iload_n 1, 1) := by decide +kernel
theorem dX1_payOwners_18 : decode cX1_payOwners 18 = .ok (.iaload, 1) := by decide +kernel
theorem dX1_payOwners_19 : decode cX1_payOwners 19 = .ok (.iconst (-1), 1) := by decide +kernel
theorem dX1_payOwners_20 : decode cX1_payOwners 20 = .ok (.if_icmp .eq 33, 3) := by decide +kernel
theorem dX1_payOwners_23 : decode cX1_payOwners 23 = .ok (.aload_n 0, 1) := by decide +kernel
theorem dX1_payOwners_24 : decode cX1_payOwners 24 = .ok (.iload_n 1, 1) := by decide +kernel
theorem dX1_payOwners_25 : decode cX1_payOwners 25 = .ok (.invokevirtual 114, 3) := by decide +kernel
theorem dX1_payOwners_28 : decode cX1_payOwners 28 = .ok (.ifCond .le 25, 3) := by decide +kernel
theorem dX1_payOwners_31 : decode cX1_payOwners 31 = .ok (.aload_n 0, 1) := by decide +kernel
theorem dX1_payOwners_32 : decode cX1_payOwners 32 = .ok (.getfield 41, 3) := by decide +kernel
theorem dX1_payOwners_35 : decode cX1_payOwners 35 = .ok (.aload_n 0, 1) := by decide +kernel
theorem dX1_payOwners_36 : decode cX1_payOwners 36 = .ok (.getfield 32, 3) := by decide +kernel
theorem dX1_payOwners_39 : decode cX1_payOwners 39 = .ok (.iload_n 1, 1) := by decide +kernel
theorem dX1_payOwners_40 : decode cX1_payOwners 40 = .ok (.iaload, 1) := by decide +kernel
theorem dX1_payOwners_41 : decode cX1_payOwners 41 = .ok (.dup2, 1) := by decide +kernel
theorem dX1_payOwners_42 : decode cX1_payOwners 42 = .ok (.iaload, 1) := by decide +kernel
theorem dX1_payOwners_43 : decode cX1_payOwners 43 = .ok (.aload_n 0, 1) := by decide +kernel
theorem dX1_payOwners_44 : decode cX1_payOwners 44 = .ok (.getfield 22, 3) := by decide +kernel
theorem dX1_payOwners_47 : decode cX1_payOwners 47 = .ok (.iload_n 1, 1) := by decide +kernel
theorem dX1_payOwners_48 : decode cX1_payOwners 48 = .ok (.iaload, 1) := by decide +kernel
theorem dX1_payOwners_49 : decode cX1_payOwners 49 = .ok (.iconst 2, 1) := by decide +kernel
theorem dX1_payOwners_50 : decode cX1_payOwners 50 = .ok (.idiv, 1) := by decide +kernel
theorem dX1_payOwners_51 : decode cX1_payOwners 51 = .ok (.iadd, 1) := by decide +kernel
theorem dX1_payOwners_52 : decode cX1_payOwners 52 = .ok (.iastore, 1) := by decide +kernel
theorem dX1_payOwners_53 : decode cX1_payOwners 53 = .ok (.iinc 1 1, 3) := by decide +kernel
theorem dX1_payOwners_56 : decode cX1_payOwners 56 = .ok (.goto (-54), 3) := by decide +kernel
theorem dX1_payOwners_59 : decode cX1_payOwners 59 = .ok (.return_, 1) := by decide +kernel
set_option maxRecDepth 20000 in
theorem ggX2_init_X1_init : GoodIn wsX2_init wsX1_init := goodIn_r _ [12, 13, 2, 3, 14, 15, 16, 17, 18, 19, 20, 21, 22, 23, 24, 25, 26, 27, 28, 29, 30, 31, 32, 33, 34, 35, 36, 37, 38, 39, 40, 41, 42, 43, 44, 45, 9, 46, 47, 48, 49, 50, 51, 52, 53, 54, 55, 56, 57, 58, 59, 60, 61, 62, 63, 64, 65, 66, 67, 68, 69, 70, 71, 72, 73, 74, 75, 92, 93, 94, 95, 96, 97, 98, 99, 79, 80, 81, 82, 83, 84, 85, 86, 87, 88, 89, 90, 91, 100, 101, 102] (by decide +kernel) (by decide +kernel)
set_option maxRecDepth 20000 in
theorem gX2_init_X1_init : GoodIn wsX2_init (wsX1_init) := ggX2_init_X1_init
theorem dX2_init_0 : decode cX2_init 0 = .ok (.aload_n 0, 1) := by decide +kernel
theorem dX2_init_1 : decode cX2_init 1 = .ok (.invokespecial 3, 3) := by decide +kernel
theorem dX2_init_4 : decode cX2_init 4 = .ok (.aload_n 0, 1) := by decide +kernel
theorem dX2_init_5 : decode cX2_init 5 = .ok (.bipush 8, 2) := by decide +kernel
theorem dX2_init_7 : decode cX2_init 7 = .ok (.anewarray 9, 3) := by decide +kernel
theorem dX2_init_10 : decode cX2_init 10 = .ok (.putfield 11, 3) := by decide +kernel
theorem dX2_init_13 : decode cX2_init 13 = .ok (.aload_n 0, 1) := by decide +kernel
theorem dX2_init_14 : decode cX2_init 14 = .ok (.iconst 0, 1) := by decide +kernel
theorem dX2_init_15 : decode cX2_init 15 = .ok (.putfield 17, 3) := by decide +kernel
theorem dX2_init_18 : decode cX2_init 18 = .ok (.aload_n 0, 1) := by decide +kernel
theorem dX2_init_19 : decode cX2_init 19 = .ok (.iconst 0, 1) := by decide +kernel
theorem dX2_init_20 : decode cX2_init 20 = .ok (.putfield 21, 3) := by decide +kernel
theorem dX2_init_23 : decode cX2_init 23 = .ok (.iconst 0, 1) := by decide +kernel
theorem dX2_init_24 : decode cX2_init 24 = .ok (.istore_n 1, 1) := by decide +kernel
theorem dX2_init_25 : decode cX2_init 25 = .ok (.iload_n 1, 1) := by decide +kernel
theorem dX2_init_26 : decode cX2_init 26 = .ok (.bipush 8, 2) := by decide +kernel
theorem dX2_init_28 : decode cX2_init 28 = .ok (.if_icmp .ge 22, 3) := by decide +kernel
theorem dX2_init_31 : decode cX2_init 31 = .ok (.aload_n 0, 1) := by decide +kernel
theorem dX2_init_32 : decode cX2_init 32 = .ok (.getfield 11, 3) := by decide +kernel
theorem dX2_init_35 : decode cX2_init 35 = .ok (.iload_n 1, 1) := by decide +kernel
theorem dX2_init_36 : decode cX2_init 36 = .ok (.new 9, 3) := by decide +kernel
theorem dX2_init_39 : decode cX2_init 39 = .ok (.dup, 1) := by decide +kernel
theorem dX2_init_40 : decode cX2_init 40 = .ok (.invokespecial 24, 3) := by decide +kernel
theorem dX2_init_43 : decode cX2_init 43 = .ok (.aastore, 1) := by decide +kernel
theorem dX2_init_44 : decode cX2_init 44 = .ok (.iinc 1 1, 3) := by decide +kernel
theorem dX2_init_47 : decode cX2_init 47 = .ok (.goto (-22), 3) := by decide +kernel
theorem dX2_init_50 : decode cX2_init 50 = .ok (.return_, 1) := by decide +kernel
set_option maxRecDepth 20000 in
theorem ggX2_keep_X1_copyFrom : GoodIn wsX2_keep wsX1_copyFrom := goodIn_r _ [8, 9, 10, 11, 12, 13, 14, 15, 16, 17, 18, 19, 20, 21, 22, 23, 24, 25, 26, 27, 28, 29, 30, 31, 32, 33, 34, 35, 36, 37, 38, 39, 40, 41, 42, 43, 44, 45, 46, 50, 51, 52, 53, 54, 55, 56, 57, 58, 59, 60, 61, 62, 63, 64, 65, 66, 67, 68, 69, 70, 71, 72, 73] (by decide +kernel) (by decide +kernel)
set_option maxRecDepth 20000 in
theorem gX2_keep_X1_copyFrom : GoodIn wsX2_keep (wsV RX2 25 RX1 yX1_copyFrom wsX1_copyFrom) := goodIn_app (goodIn_of _ (by decide +kernel)) ggX2_keep_X1_copyFrom
theorem dX2_keep_0 : decode cX2_keep 0 = .ok (.aload_n 0, 1) := by decide +kernel
theorem dX2_keep_1 : decode cX2_keep 1 = .ok (.getfield 11, 3) := by decide +kernel
theorem dX2_keep_4 : decode cX2_keep 4 = .ok (.aload_n 0, 1) := by decide +kernel
theorem dX2_keep_5 : decode cX2_keep 5 = .ok (.getfield 17, 3) := by decide +kernel
theorem dX2_keep_8 : decode cX2_keep 8 = .ok (.aaload, 1) := by decide +kernel
theorem dX2_keep_9 : decode cX2_keep 9 = .ok (.aload_n 1, 1) := by decide +kernel
theorem dX2_keep_10 : decode cX2_keep 10 = .ok (.invokevirtual 25, 3) := by decide +kernel
theorem dX2_keep_13 : decode cX2_keep 13 = .ok (.aload_n 0, 1) := by decide +kernel
theorem dX2_keep_14 : decode cX2_keep 14 = .ok (.aload_n 0, 1) := by decide +kernel
theorem dX2_keep_15 : decode cX2_keep 15 = .ok (.getfield 17, 3) := by decide +kernel
theorem dX2_keep_18 : decode cX2_keep 18 = .ok (.iconst 1, 1) := by decide +kernel
theorem dX2_keep_19 : decode cX2_keep 19 = .ok (.iadd, 1) := by decide +kernel
theorem dX2_keep_20 : decode cX2_keep 20 = .ok (.bipush 8, 2) := by decide +kernel
theorem dX2_keep_22 : decode cX2_keep 22 = .ok (.if_icmp .ge 12, 3) := by decide +kernel
theorem dX2_keep_25 : decode cX2_keep 25 = .ok (.aload_n 0, 1) := by decide +kernel
theorem dX2_keep_26 : decode cX2_keep 26 = .ok (.getfield 17, 3) := by decide +kernel
theorem dX2_keep_29 : decode cX2_keep 29 = .ok (.iconst 1, 1) := by decide +kernel
theorem dX2_keep_30 : decode cX2_keep 30 = .ok (.iadd, 1) := by decide +kernel
theorem dX2_keep_31 : decode cX2_keep 31 = .ok (.goto 4, 3) := by decide +kernel
theorem dX2_keep_34 : decode cX2_keep 34 = .ok (.iconst 0, 1) := by decide +kernel
theorem dX2_keep_35 : decode cX2_keep 35 = .ok (.putfield 17, 3) := by decide +kernel
theorem dX2_keep_38 : decode cX2_keep 38 = .ok (.aload_n 0, 1) := by decide +kernel
theorem dX2_keep_39 : decode cX2_keep 39 = .ok (.aload_n 0, 1) := by decide +kernel
theorem dX2_keep_40 : decode cX2_keep 40 = .ok (.getfield 21, 3) := by decide +kernel
theorem dX2_keep_43 : decode cX2_keep 43 = .ok (.bipush 8, 2) := by decide +kernel
theorem dX2_keep_45 : decode cX2_keep 45 = .ok (.if_icmp .ge 12, 3) := by decide +kernel
theorem dX2_keep_48 : decode cX2_keep 48 = .ok (.aload_n 0, 1) := by decide +kernel
theorem dX2_keep_49 : decode cX2_keep 49 = .ok (.getfield 21, 3) := by decide +kernel
theorem dX2_keep_52 : decode cX2_keep 52 = .ok (.iconst 1, 1) := by decide +kernel
theorem dX2_keep_53 : decode cX2_keep 53 = .ok (.iadd, 1) := by decide +kernel
theorem dX2_keep_54 : decode cX2_keep 54 = .ok (.goto 5, 3) := by decide +kernel
theorem dX2_keep_57 : decode cX2_keep 57 = .ok (.bipush 8, 2) := by decide +kernel
theorem dX2_keep_59 : decode cX2_keep 59 = .ok (.putfield 21, 3) := by decide +kernel
theorem dX2_keep_62 : decode cX2_keep 62 = .ok (.return_, 1) := by decide +kernel
set_option maxRecDepth 20000 in
theorem ggX2_restore_X1_copyFrom : GoodIn wsX2_restore wsX1_copyFrom := goodIn_r _ [8, 9, 10, 11, 12, 13, 14, 15, 16, 17, 18, 19, 20, 21, 22, 23, 24, 25, 26, 27, 28, 29, 30, 31, 32, 33, 34, 35, 36, 37, 38, 39, 40, 41, 42, 43, 44, 45, 46, 50, 51, 52, 53, 54, 55, 56, 57, 58, 59, 60, 61, 62, 63, 64, 65, 66, 67, 68, 69, 70, 71, 72, 73] (by decide +kernel) (by decide +kernel)
set_option maxRecDepth 20000 in
theorem gX2_restore_X1_copyFrom : GoodIn wsX2_restore (wsV RX2 25 RX1 yX1_copyFrom wsX1_copyFrom) := goodIn_app (goodIn_of _ (by decide +kernel)) ggX2_restore_X1_copyFrom
theorem dX2_restore_0 : decode cX2_restore 0 = .ok (.aload_n 0, 1) := by decide +kernel
theorem dX2_restore_1 : decode cX2_restore 1 = .ok (.getfield 21, 3) := by decide +kernel
theorem dX2_restore_4 : decode cX2_restore 4 = .ok (.ifCond .ne 5, 3) := by decide +kernel
theorem dX2_restore_7 : decode cX2_restore 7 = .ok (.iconst (-1), 1) := by decide +kernel
theorem dX2_restore_8 : decode cX2_restore 8 = .ok (.ireturn, 1) := by decide +kernel
theorem dX2_restore_9 : decode cX2_restore 9 = .ok (.aload_n 0, 1) := by decide +kernel
theorem dX2_restore_10 : decode cX2_restore 10 = .ok (.aload_n 0, 1) := by decide +kernel
theorem dX2_restore_11 : decode cX2_restore 11 = .ok (.getfield 17, 3) := by decide +kernel
theorem dX2_restore_14 : decode cX2_restore 14 = .ok (.ifCond .le 12, 3) := by decide +kernel
theorem dX2_restore_17 : decode cX2_restore 17 = .ok (.aload_n 0, 1) := by decide +kernel
theorem dX2_restore_18 : decode cX2_restore 18 = .ok (.getfield 17, 3) := by decide +kernel
theorem dX2_restore_21 : decode cX2_restore 21 = .ok (.iconst 1, 1) := by decide +kernel
theorem dX2_restore_22 : decode cX2_restore 22 = .ok (.isub, 1) := by decide +kernel
theorem dX2_restore_23 : decode cX2_restore 23 = .ok (.goto 5, 3) := by decide +kernel
theorem dX2_restore_26 : decode cX2_restore 26 = .ok (.bipush 7, 2) := by decide +kernel
theorem dX2_restore_28 : decode cX2_restore 28 = .ok (.putfield 17, 3) := by decide +kernel
theorem dX2_restore_31 : decode cX2_restore 31 = .ok (.aload_n 0, 1) := by decide +kernel
theorem dX2_restore_32 : decode cX2_restore 32 = .ok (.dup, 1) := by decide +kernel
theorem dX2_restore_33 : decode cX2_restore 33 = .ok (.getfield 21, 3) := by decide +kernel
theorem dX2_restore_36 : decode cX2_restore 36 = .ok (.iconst 1, 1) := by decide +kernel
theorem dX2_restore_37 : decode cX2_restore 37 = .ok (.isub, 1) := by decide +kernel
theorem dX2_restore_38 : decode cX2_restore 38 = .ok (.putfield 21, 3) := by decide +kernel
theorem dX2_restore_41 : decode cX2_restore 41 = .ok (.aload_n 1, 1) := by decide +kernel
theorem dX2_restore_42 : decode cX2_restore 42 = .ok (.aload_n 0, 1) := by decide +kernel
theorem dX2_restore_43 : decode cX2_restore 43 = .ok (.getfield 11, 3) := by decide +kernel
theorem dX2_restore_46 : decode cX2_restore 46 = .ok (.aload_n 0, 1) := by decide +kernel
theorem dX2_restore_47 : decode cX2_restore 47 = .ok (.getfield 17, 3) := by decide +kernel
theorem dX2_restore_50 : decode cX2_restore 50 = .ok (.aaload, 1) := by decide +kernel
theorem dX2_restore_51 : decode cX2_restore 51 = .ok (.invokevirtual 25, 3) := by decide +kernel
theorem dX2_restore_54 : decode cX2_restore 54 = .ok (.aload_n 0, 1) := by decide +kernel
theorem dX2_restore_55 : decode cX2_restore 55 = .ok (.getfield 21, 3) := by decide +kernel
theorem dX2_restore_58 : decode cX2_restore 58 = .ok (.ireturn, 1) := by decide +kernel
theorem dX3_init_0 : decode cX3_init 0 = .ok (.aload_n 0, 1) := by decide +kernel
theorem dX3_init_1 : decode cX3_init 1 = .ok (.invokespecial 3, 3) := by decide +kernel
theorem dX3_init_4 : decode cX3_init 4 = .ok (.aload_n 0, 1) := by decide +kernel
theorem dX3_init_5 : decode cX3_init 5 = .ok (.sipush 600, 3) := by decide +kernel
theorem dX3_init_8 : decode cX3_init 8 = .ok (.newarray .int, 2) := by decide +kernel
theorem dX3_init_10 : decode cX3_init 10 = .ok (.putfield 9, 3) := by decide +kernel
theorem dX3_init_13 : decode cX3_init 13 = .ok (.aload_n 0, 1) := by decide +kernel
theorem dX3_init_14 : decode cX3_init 14 = .ok (.bipush 16, 2) := by decide +kernel
theorem dX3_init_16 : decode cX3_init 16 = .ok (.newarray .int, 2) := by decide +kernel
theorem dX3_init_18 : decode cX3_init 18 = .ok (.putfield 15, 3) := by decide +kernel
theorem dX3_init_21 : decode cX3_init 21 = .ok (.return_, 1) := by decide +kernel
theorem dX3_indexOf_0 : decode cX3_indexOf 0 = .ok (.iconst (-1), 1) := by decide +kernel
theorem dX3_indexOf_1 : decode cX3_indexOf 1 = .ok (.iload_n 0, 1) := by decide +kernel
theorem dX3_indexOf_2 : decode cX3_indexOf 2 = .ok (.isub, 1) := by decide +kernel
theorem dX3_indexOf_3 : decode cX3_indexOf 3 = .ok (.ireturn, 1) := by decide +kernel
set_option maxRecDepth 20000 in
theorem ggX3_reset_X3_add : GoodIn wsX3_reset wsX3_add := goodIn_r _ [6, 1, 7, 8, 9, 10] (by decide +kernel) (by decide +kernel)
set_option maxRecDepth 20000 in
theorem gX3_reset_X3_add : GoodIn wsX3_reset (wsV RX3 22 RX3 yX3_add wsX3_add) := goodIn_app (goodIn_of _ (by decide +kernel)) ggX3_reset_X3_add
theorem dX3_reset_0 : decode cX3_reset 0 = .ok (.aload_n 0, 1) := by decide +kernel
theorem dX3_reset_1 : decode cX3_reset 1 = .ok (.iconst 0, 1) := by decide +kernel
theorem dX3_reset_2 : decode cX3_reset 2 = .ok (.putfield 18, 3) := by decide +kernel
theorem dX3_reset_5 : decode cX3_reset 5 = .ok (.aload_n 0, 1) := by decide +kernel
theorem dX3_reset_6 : decode cX3_reset 6 = .ok (.iconst (-1), 1) := by decide +kernel
theorem dX3_reset_7 : decode cX3_reset 7 = .ok (.invokevirtual 22, 3) := by decide +kernel
theorem dX3_reset_10 : decode cX3_reset 10 = .ok (.return_, 1) := by decide +kernel
theorem dX3_clear_0 : decode cX3_clear 0 = .ok (.aload_n 0, 1) := by decide +kernel
theorem dX3_clear_1 : decode cX3_clear 1 = .ok (.iconst 0, 1) := by decide +kernel
theorem dX3_clear_2 : decode cX3_clear 2 = .ok (.putfield 18, 3) := by decide +kernel
theorem dX3_clear_5 : decode cX3_clear 5 = .ok (.return_, 1) := by decide +kernel
theorem dX3_add_0 : decode cX3_add 0 = .ok (.aload_n 0, 1) := by decide +kernel
theorem dX3_add_1 : decode cX3_add 1 = .ok (.getfield 18, 3) := by decide +kernel
theorem dX3_add_4 : decode cX3_add 4 = .ok (.aload_n 0, 1) := by decide +kernel
theorem dX3_add_5 : decode cX3_add 5 = .ok (.getfield 9, 3) := by decide +kernel
theorem dX3_add_8 : decode cX3_add 8 = .ok (.arraylength, 1) := by decide +kernel
theorem dX3_add_9 : decode cX3_add 9 = .ok (.if_icmp .ge 23, 3) := by decide +kernel
theorem dX3_add_12 : decode cX3_add 12 = .ok (.aload_n 0, 1) := by decide +kernel
theorem dX3_add_13 : decode cX3_add 13 = .ok (.getfield 9, 3) := by decide +kernel
theorem dX3_add_16 : decode cX3_add 16 = .ok (.aload_n 0, 1) := by decide +kernel
theorem dX3_add_17 : decode cX3_add 17 = .ok (.getfield 18, 3) := by decide +kernel
theorem dX3_add_20 : decode cX3_add 20 = .ok (.iload_n 1, 1) := by decide +kernel
theorem dX3_add_21 : decode cX3_add 21 = .ok (.iastore, 1) := by decide +kernel
theorem dX3_add_22 : decode cX3_add 22 = .ok (.aload_n 0, 1) := by decide +kernel
theorem dX3_add_23 : decode cX3_add 23 = .ok (.dup, 1) := by decide +kernel
theorem dX3_add_24 : decode cX3_add 24 = .ok (.getfield 18, 3) := by decide +kernel
theorem dX3_add_27 : decode cX3_add 27 = .ok (.iconst 1, 1) := by decide +kernel
theorem dX3_add_28 : decode cX3_add 28 = .ok (.iadd, 1) := by decide +kernel
theorem dX3_add_29 : decode cX3_add 29 = .ok (.putfield 18, 3) := by decide +kernel
theorem dX3_add_32 : decode cX3_add 32 = .ok (.return_, 1) := by decide +kernel
theorem dX3_copyFrom_0 : decode cX3_copyFrom 0 = .ok (.aload_n 1, 1) := by decide +kernel
theorem dX3_copyFrom_1 : decode cX3_copyFrom 1 = .ok (.getfield 9, 3) := by decide +kernel
theorem dX3_copyFrom_4 : decode cX3_copyFrom 4 = .ok (.iconst 0, 1) := by decide +kernel
theorem dX3_copyFrom_5 : decode cX3_copyFrom 5 = .ok (.aload_n 0, 1) := by decide +kernel
theorem dX3_copyFrom_6 : decode cX3_copyFrom 6 = .ok (.getfield 9, 3) := by decide +kernel
theorem dX3_copyFrom_9 : decode cX3_copyFrom 9 = .ok (.iconst 0, 1) := by decide +kernel
theorem dX3_copyFrom_10 : decode cX3_copyFrom 10 = .ok (.aload_n 1, 1) := by decide +kernel
theorem dX3_copyFrom_11 : decode cX3_copyFrom 11 = .ok (.getfield 18, 3) := by decide +kernel
theorem dX3_copyFrom_14 : decode cX3_copyFrom 14 = .ok (.invokestatic 26, 3) := by decide +kernel
theorem dX3_copyFrom_17 : decode cX3_copyFrom 17 = .ok (.aload_n 0, 1) := by decide +kernel
theorem dX3_copyFrom_18 : decode cX3_copyFrom 18 = .ok (.aload_n 1, 1) := by decide +kernel
theorem dX3_copyFrom_19 : decode cX3_copyFrom 19 = .ok (.getfield 18, 3) := by decide +kernel
theorem dX3_copyFrom_22 : decode cX3_copyFrom 22 = .ok (.putfield 18, 3) := by decide +kernel
theorem dX3_copyFrom_25 : decode cX3_copyFrom 25 = .ok (.return_, 1) := by decide +kernel
set_option maxRecDepth 20000 in
theorem ggX3_value_X3_result : GoodIn wsX3_value wsX3_result := goodIn_r _ [7, 8, 9] (by decide +kernel) (by decide +kernel)
set_option maxRecDepth 20000 in
theorem gX3_value_X3_result : GoodIn wsX3_value (va_wsS RX3 32 yX3_result wsX3_result) := goodIn_app (goodIn_of _ (by decide +kernel)) ggX3_value_X3_result
set_option maxRecDepth 20000 in
theorem ggX3_value_X3_indexOf : GoodIn wsX3_value wsX3_indexOf := goodIn_r _ [12] (by decide +kernel) (by decide +kernel)
set_option maxRecDepth 20000 in
theorem gX3_value_X3_indexOf : GoodIn wsX3_value (va_wsS RX3 36 yX3_indexOf wsX3_indexOf) := goodIn_app (goodIn_of _ (by decide +kernel)) ggX3_value_X3_indexOf
theorem dX3_value_0 : decode cX3_value 0 = .ok (.iconst 0, 1) := by decide +kernel
theorem dX3_value_1 : decode cX3_value 1 = .ok (.istore_n 2, 1) := by decide +kernel
theorem dX3_value_2 : decode cX3_value 2 = .ok (.iconst 0, 1) := by decide +kernel
theorem dX3_value_3 : decode cX3_value 3 = .ok (.istore_n 3, 1) := by decide +kernel
theorem dX3_value_4 : decode cX3_value 4 = .ok (.iload_n 3, 1) := by decide +kernel
theorem dX3_value_5 : decode cX3_value 5 = .ok (.aload_n 0, 1) := by decide +kernel
theorem dX3_value_6 : decode cX3_value 6 = .ok (.getfield 18, 3) := by decide +kernel
theorem dX3_value_9 : decode cX3_value 9 = .ok (.if_icmp .ge 99, 3) := by decide +kernel
theorem dX3_value_12 : decode cX3_value 12 = .ok (.aload_n 0, 1) := by decide +kernel
theorem dX3_value_13 : decode cX3_value 13 = .ok (.getfield 9, 3) := by decide +kernel
theorem dX3_value_16 : decode cX3_value 16 = .ok (.iload_n 3, 1) := by decide +kernel
theorem dX3_value_17 : decode cX3_value 17 = .ok (.iaload, 1) := by decide +kernel
theorem dX3_value_18 : decode cX3_value 18 = .ok (.istore 4, 2) := by decide +kernel
theorem dX3_value_20 : decode cX3_value 20 = .ok (.iload 4, 2) := by decide +kernel
theorem dX3_value_22 : decode cX3_value 22 = .ok (.bipush (-6), 2) := by decide +kernel
theorem dX3_value_24 : decode cX3_value 24 = .ok (.if_icmp .ge 43, 3) := by decide +kernel
theorem dX3_value_27 : decode cX3_value 27 = .ok (.iload_n 2, 1) := by decide +kernel
theorem dX3_value_28 : decode cX3_value 28 = .ok (.iconst 2, 1) := by decide +kernel
theorem dX3_value_29 : decode cX3_value 29 = .ok (.if_icmp .lt 73, 3) := by decide +kernel
theorem dX3_value_32 : decode cX3_value 32 = .ok (.iinc 2 (-1), 3) := by decide +kernel
theorem dX3_value_35 : decode cX3_value 35 = .ok (.aload_n 0, 1) := by decide +kernel
theorem dX3_value_36 : decode cX3_value 36 = .ok (.getfield 15, 3) := by decide +kernel
theorem dX3_value_39 : decode cX3_value 39 = .ok (.iload_n 2, 1) := by decide +kernel
theorem dX3_value_40 : decode cX3_value 40 = .ok (.iconst 1, 1) := by decide +kernel
theorem dX3_value_41 : decode cX3_value 41 = .ok (.isub, 1) := by decide +kernel
theorem dX3_value_42 : decode cX3_value 42 = .ok (.iload 4, 2) := by decide +kernel
theorem dX3_value_44 : decode cX3_value 44 = .ok (.aload_n 0, 1) := by decide +kernel
theorem dX3_value_45 : decode cX3_value 45 = .ok (.getfield 15, 3) := by decide +kernel
theorem dX3_value_48 : decode cX3_value 48 = .ok (.iload_n 2, 1) := by decide +kernel
theorem dX3_value_49 : decode cX3_value 49 = .ok (.iconst 1, 1) := by decide +kernel
theorem dX3_value_50 : decode cX3_value 50 = .ok (.isub, 1) := by decide +kernel
theorem dX3_value_51 : decode cX3_value 51 = .ok (.iaload, 1) := by decide +kernel
theorem dX3_value_52 : decode cX3_value 52 = .ok (.i2l, 1) := by decide +kernel
theorem dX3_value_53 : decode cX3_value 53 = .ok (.aload_n 0, 1) := by decide +kernel
theorem dX3_value_54 : decode cX3_value 54 = .ok (.getfield 15, 3) := by decide +kernel
theorem dX3_value_57 : decode cX3_value 57 = .ok (.iload_n 2, 1) := by decide +kernel
theorem dX3_value_58 : decode cX3_value 58 = .ok (.iaload, 1) := by decide +kernel
theorem dX3_value_59 : decode cX3_value 59 = .ok (.i2l, 1) := by decide +kernel
theorem dX3_value_60 : decode cX3_value 60 = .ok (.invokestatic 32, 3) := by decide +kernel
theorem dX3_value_63 : decode cX3_value 63 = .ok (.iastore, 1) := by decide +kernel
theorem dX3_value_64 : decode cX3_value 64 = .ok (.goto 38, 3) := by decide +kernel
theorem dX3_value_67 : decode cX3_value 67 = .ok (.iload_n 2, 1) := by decide +kernel
theorem dX3_value_68 : decode cX3_value 68 = .ok (.aload_n 0, 1) := by decide +kernel
theorem dX3_value_69 : decode cX3_value 69 = .ok (.getfield 15, 3) := by decide +kernel
theorem dX3_value_72 : decode cX3_value 72 = .ok (.arraylength, 1) := by decide +kernel
theorem dX3_value_73 : decode cX3_value 73 = .ok (.if_icmp .ge 29, 3) := by decide +kernel
theorem dX3_value_76 : decode cX3_value 76 = .ok (.aload_n 0, 1) := by decide +kernel
theorem dX3_value_77 : decode cX3_value 77 = .ok (.getfield 15, 3) := by decide +kernel
theorem dX3_value_80 : decode cX3_value 80 = .ok (.iload_n 2, 1) := by decide +kernel
theorem dX3_value_81 : decode cX3_value 81 = .ok (.iload 4, 2) := by decide +kernel
theorem dX3_value_83 : decode cX3_value 83 = .ok (.ifCond .lt 8, 3) := by decide +kernel
theorem dX3_value_86 : decode cX3_value 86 = .ok (.iload 4, 2) := by decide +kernel
theorem dX3_value_88 : decode cX3_value 88 = .ok (.goto 10, 3) := by decide +kernel
theorem dX3_value_91 : decode cX3_value 91 = .ok (.aload_n 1, 1) := by decide +kernel
theorem dX3_value_92 : decode cX3_value 92 = .ok (.iload 4, 2) := by decide +kernel
theorem dX3_value_94 : decode cX3_value 94 = .ok (.invokestatic 36, 3) := by decide +kernel
theorem dX3_value_97 : decode cX3_value 97 = .ok (.iaload, 1) := by decide +kernel
theorem dX3_value_98 : decode cX3_value 98 = .ok (.iastore, 1) := by decide +kernel
theorem dX3_value_99 : decode cX3_value 99 = .ok (.iinc 2 1, 3) := by decide +kernel
theorem dX3_value_102 : decode cX3_value 102 = .ok (.iinc 3 1, 3) := by decide +kernel
theorem dX3_value_105 : decode cX3_value 105 = .ok (.goto (-101), 3) := by decide +kernel
theorem dX3_value_108 : decode cX3_value 108 = .ok (.aload_n 0, 1) := by decide +kernel
theorem dX3_value_109 : decode cX3_value 109 = .ok (.getfield 15, 3) := by decide +kernel
theorem dX3_value_112 : decode cX3_value 112 = .ok (.iconst 0, 1) := by decide +kernel
theorem dX3_value_113 : decode cX3_value 113 = .ok (.iaload, 1) := by decide +kernel
theorem dX3_value_114 : decode cX3_value 114 = .ok (.ireturn, 1) := by decide +kernel
theorem dX3_result_0 : decode cX3_result 0 = .ok (.lconst 0, 1) := by decide +kernel
theorem dX3_result_1 : decode cX3_result 1 = .ok (.lstore 5, 2) := by decide +kernel
theorem dX3_result_3 : decode cX3_result 3 = .ok (.iload_n 0, 1) := by decide +kernel
theorem dX3_result_4 : decode cX3_result 4 = .ok (.tableswitch 52 (-9) (-7) #[44, 36, 28], 28) := by decide +kernel
theorem dX3_result_32 : decode cX3_result 32 = .ok (.lload_n 1, 1) := by decide +kernel
theorem dX3_result_33 : decode cX3_result 33 = .ok (.lload_n 3, 1) := by decide +kernel
theorem dX3_result_34 : decode cX3_result 34 = .ok (.ladd, 1) := by decide +kernel
theorem dX3_result_35 : decode cX3_result 35 = .ok (.lstore 5, 2) := by decide +kernel
theorem dX3_result_37 : decode cX3_result 37 = .ok (.goto 34, 3) := by decide +kernel
theorem dX3_result_40 : decode cX3_result 40 = .ok (.lload_n 1, 1) := by decide +kernel
theorem dX3_result_41 : decode cX3_result 41 = .ok (.lload_n 3, 1) := by decide +kernel
theorem dX3_result_42 : decode cX3_result 42 = .ok (.lsub, 1) := by decide +kernel
theorem dX3_result_43 : decode cX3_result 43 = .ok (.lstore 5, 2) := by decide +kernel
theorem dX3_result_45 : decode cX3_result 45 = .ok (.goto 26, 3) := by decide +kernel
theorem dX3_result_48 : decode cX3_result 48 = .ok (.lload_n 1, 1) := by decide +kernel
theorem dX3_result_49 : decode cX3_result 49 = .ok (.lload_n 3, 1) := by decide +kernel
theorem dX3_result_50 : decode cX3_result 50 = .ok (.lmul, 1) := by decide +kernel
theorem dX3_result_51 : decode cX3_result 51 = .ok (.lstore 5, 2) := by decide +kernel
theorem dX3_result_53 : decode cX3_result 53 = .ok (.goto 18, 3) := by decide +kernel
theorem dX3_result_56 : decode cX3_result 56 = .ok (.lload_n 3, 1) := by decide +kernel
theorem dX3_result_57 : decode cX3_result 57 = .ok (.lconst 0, 1) := by decide +kernel
theorem dX3_result_58 : decode cX3_result 58 = .ok (.lcmp, 1) := by decide +kernel
theorem dX3_result_59 : decode cX3_result 59 = .ok (.ifCond .ne 7, 3) := by decide +kernel
theorem dX3_result_62 : decode cX3_result 62 = .ok (.lconst 0, 1) := by decide +kernel
theorem dX3_result_63 : decode cX3_result 63 = .ok (.goto 6, 3) := by decide +kernel
theorem dX3_result_66 : decode cX3_result 66 = .ok (.lload_n 1, 1) := by decide +kernel
theorem dX3_result_67 : decode cX3_result 67 = .ok (.lload_n 3, 1) := by decide +kernel
theorem dX3_result_68 : decode cX3_result 68 = .ok (.ldiv, 1) := by decide +kernel
theorem dX3_result_69 : decode cX3_result 69 = .ok (.lstore 5, 2) := by decide +kernel
theorem dX3_result_71 : decode cX3_result 71 = .ok (.lload 5, 2) := by decide +kernel
theorem dX3_result_73 : decode cX3_result 73 = .ok (.ldc2_w 40, 3) := by decide +kernel
theorem dX3_result_76 : decode cX3_result 76 = .ok (.lcmp, 1) := by decide +kernel
theorem dX3_result_77 : decode cX3_result 77 = .ok (.ifCond .le 9, 3) := by decide +kernel
theorem dX3_result_80 : decode cX3_result 80 = .ok (.ldc2_w 40, 3) := by decide +kernel
theorem dX3_result_83 : decode cX3_result 83 = .ok (.goto 20, 3) := by decide +kernel
theorem dX3_result_86 : decode cX3_result 86 = .ok (.lload 5, 2) := by decide +kernel
theorem dX3_result_88 : decode cX3_result 88 = .ok (.ldc2_w 42, 3) := by decide +kernel
theorem dX3_result_91 : decode cX3_result 91 = .ok (.lcmp, 1) := by decide +kernel
theorem dX3_result_92 : decode cX3_result 92 = .ok (.ifCond .ge 9, 3) := by decide +kernel
theorem dX3_result_95 : decode cX3_result 95 = .ok (.ldc2_w 42, 3) := by decide +kernel
theorem dX3_result_98 : decode cX3_result 98 = .ok (.goto 5, 3) := by decide +kernel
theorem dX3_result_101 : decode cX3_result 101 = .ok (.lload 5, 2) := by decide +kernel
theorem dX3_result_103 : decode cX3_result 103 = .ok (.l2i, 1) := by decide +kernel
theorem dX3_result_104 : decode cX3_result 104 = .ok (.ireturn, 1) := by decide +kernel
set_option maxRecDepth 20000 in
theorem ggX4_init_X3_init : GoodIn wsX4_init wsX3_init := goodIn_r _ [12, 13, 2, 3, 4, 14, 15, 24, 25, 26] (by decide +kernel) (by decide +kernel)
set_option maxRecDepth 20000 in
theorem gX4_init_X3_init_n22 : GoodIn wsX4_init (wsX3_init) := ggX4_init_X3_init
theorem dX4_init_0 : decode cX4_init 0 = .ok (.aload_n 0, 1) := by decide +kernel
theorem dX4_init_1 : decode cX4_init 1 = .ok (.invokespecial 3, 3) := by decide +kernel
theorem dX4_init_4 : decode cX4_init 4 = .ok (.aload_n 0, 1) := by decide +kernel
theorem dX4_init_5 : decode cX4_init 5 = .ok (.bipush 6, 2) := by decide +kernel
theorem dX4_init_7 : decode cX4_init 7 = .ok (.newarray .int, 2) := by decide +kernel
theorem dX4_init_9 : decode cX4_init 9 = .ok (.putfield 9, 3) := by decide +kernel
theorem dX4_init_12 : decode cX4_init 12 = .ok (.aload_n 0, 1) := by decide +kernel
theorem dX4_init_13 : decode cX4_init 13 = .ok (.bipush 32, 2) := by decide +kernel
theorem dX4_init_15 : decode cX4_init 15 = .ok (.newarray .int, 2) := by decide +kernel
theorem dX4_init_17 : decode cX4_init 17 = .ok (.putfield 17, 3) := by decide +kernel
theorem dX4_init_20 : decode cX4_init 20 = .ok (.aload_n 0, 1) := by decide +kernel
theorem dX4_init_21 : decode cX4_init 21 = .ok (.new 20, 3) := by decide +kernel
theorem dX4_init_24 : decode cX4_init 24 = .ok (.dup, 1) := by decide +kernel
theorem dX4_init_25 : decode cX4_init 25 = .ok (.invokespecial 22, 3) := by decide +kernel
theorem dX4_init_28 : decode cX4_init 28 = .ok (.putfield 23, 3) := by decide +kernel
theorem dX4_init_31 : decode cX4_init 31 = .ok (.return_, 1) := by decide +kernel
set_option maxRecDepth 20000 in
theorem ggX4_reset_J7_fill_53178 : GoodIn wsX4_reset wsJ7_fill_53178 := goodIn_r _ [12] (by decide +kernel) (by decide +kernel)
set_option maxRecDepth 20000 in
theorem gX4_reset_J7_fill_53178 : GoodIn wsX4_reset (va_wsS RX4 27 yJ7_fill_53178 wsJ7_fill_53178) := goodIn_app (goodIn_of _ (by decide +kernel)) ggX4_reset_J7_fill_53178
set_option maxRecDepth 20000 in
theorem ggX4_reset_X3_reset : GoodIn wsX4_reset wsX3_reset := goodIn_r _ [17, 18, 19, 20, 21, 16, 22, 23, 32, 33, 34] (by decide +kernel) (by decide +kernel)
set_option maxRecDepth 20000 in
theorem gX4_reset_X3_reset : GoodIn wsX4_reset (wsV RX4 33 RX3 yX3_reset wsX3_reset) := goodIn_app (goodIn_of _ (by decide +kernel)) ggX4_reset_X3_reset
theorem dX4_reset_0 : decode cX4_reset 0 = .ok (.aload_n 0, 1) := by decide +kernel
theorem dX4_reset_1 : decode cX4_reset 1 = .ok (.getfield 9, 3) := by decide +kernel
theorem dX4_reset_4 : decode cX4_reset 4 = .ok (.iconst 0, 1) := by decide +kernel
theorem dX4_reset_5 : decode cX4_reset 5 = .ok (.invokestatic 27, 3) := by decide +kernel
theorem dX4_reset_8 : decode cX4_reset 8 = .ok (.aload_n 0, 1) := by decide +kernel
theorem dX4_reset_9 : decode cX4_reset 9 = .ok (.getfield 9, 3) := by decide +kernel
theorem dX4_reset_12 : decode cX4_reset 12 = .ok (.iconst 0, 1) := by decide +kernel
theorem dX4_reset_13 : decode cX4_reset 13 = .ok (.bipush 10, 2) := by decide +kernel
theorem dX4_reset_15 : decode cX4_reset 15 = .ok (.iastore, 1) := by decide +kernel
theorem dX4_reset_16 : decode cX4_reset 16 = .ok (.iconst 0, 1) := by decide +kernel
theorem dX4_reset_17 : decode cX4_reset 17 = .ok (.istore_n 1, 1) := by decide +kernel
theorem dX4_reset_18 : decode cX4_reset 18 = .ok (.iload_n 1, 1) := by decide +kernel
theorem dX4_reset_19 : decode cX4_reset 19 = .ok (.aload_n 0, 1) := by decide +kernel
theorem dX4_reset_20 : decode cX4_reset 20 = .ok (.getfield 17, 3) := by decide +kernel
theorem dX4_reset_23 : decode cX4_reset 23 = .ok (.arraylength, 1) := by decide +kernel
theorem dX4_reset_24 : decode cX4_reset 24 = .ok (.if_icmp .ge 16, 3) := by decide +kernel
theorem dX4_reset_27 : decode cX4_reset 27 = .ok (.aload_n 0, 1) := by decide +kernel
theorem dX4_reset_28 : decode cX4_reset 28 = .ok (.getfield 17, 3) := by decide +kernel
theorem dX4_reset_31 : decode cX4_reset 31 = .ok (.iload_n 1, 1) := by decide +kernel
theorem dX4_reset_32 : decode cX4_reset 32 = .ok (.iload_n 1, 1) := by decide +kernel
theorem dX4_reset_33 : decode cX4_reset 33 = .ok (.iastore, 1) := by decide +kernel
theorem dX4_reset_34 : decode cX4_reset 34 = .ok (.iinc 1 1, 3) := by decide +kernel
theorem dX4_reset_37 : decode cX4_reset 37 = .ok (.goto (-19), 3) := by decide +kernel
theorem dX4_reset_40 : decode cX4_reset 40 = .ok (.aload_n 0, 1) := by decide +kernel
theorem dX4_reset_41 : decode cX4_reset 41 = .ok (.getfield 23, 3) := by decide +kernel
theorem dX4_reset_44 : decode cX4_reset 44 = .ok (.invokevirtual 33, 3) := by decide +kernel
theorem dX4_reset_47 : decode cX4_reset 47 = .ok (.aload_n 0, 1) := by decide +kernel
theorem dX4_reset_48 : decode cX4_reset 48 = .ok (.iconst 1, 1) := by decide +kernel
theorem dX4_reset_49 : decode cX4_reset 49 = .ok (.putfield 36, 3) := by decide +kernel
theorem dX4_reset_52 : decode cX4_reset 52 = .ok (.aload_n 0, 1) := by decide +kernel
theorem dX4_reset_53 : decode cX4_reset 53 = .ok (.iconst 2, 1) := by decide +kernel
theorem dX4_reset_54 : decode cX4_reset 54 = .ok (.putfield 40, 3) := by decide +kernel
theorem dX4_reset_57 : decode cX4_reset 57 = .ok (.aload_n 0, 1) := by decide +kernel
theorem dX4_reset_58 : decode cX4_reset 58 = .ok (.iconst 2, 1) := by decide +kernel
theorem dX4_reset_59 : decode cX4_reset 59 = .ok (.putfield 43, 3) := by decide +kernel
theorem dX4_reset_62 : decode cX4_reset 62 = .ok (.aload_n 0, 1) := by decide +kernel
theorem dX4_reset_63 : decode cX4_reset 63 = .ok (.iconst 1, 1) := by decide +kernel
theorem dX4_reset_64 : decode cX4_reset 64 = .ok (.putfield 46, 3) := by decide +kernel
theorem dX4_reset_67 : decode cX4_reset 67 = .ok (.aload_n 0, 1) := by decide +kernel
theorem dX4_reset_68 : decode cX4_reset 68 = .ok (.iconst 5, 1) := by decide +kernel
theorem dX4_reset_69 : decode cX4_reset 69 = .ok (.putfield 49, 3) := by decide +kernel
theorem dX4_reset_72 : decode cX4_reset 72 = .ok (.return_, 1) := by decide +kernel
set_option maxRecDepth 20000 in
theorem ggX4_copyFrom_X3_copyFrom : GoodIn wsX4_copyFrom wsX3_copyFrom := goodIn_r _ [17, 18, 19, 20, 3, 4, 5, 29, 30, 31] (by decide +kernel) (by decide +kernel)
set_option maxRecDepth 20000 in
theorem gX4_copyFrom_X3_copyFrom : GoodIn wsX4_copyFrom (wsV RX4 58 RX3 yX3_copyFrom wsX3_copyFrom) := goodIn_app (goodIn_of _ (by decide +kernel)) ggX4_copyFrom_X3_copyFrom
theorem dX4_copyFrom_0 : decode cX4_copyFrom 0 = .ok (.aload_n 1, 1) := by decide +kernel
theorem dX4_copyFrom_1 : decode cX4_copyFrom 1 = .ok (.getfield 9, 3) := by decide +kernel
theorem dX4_copyFrom_4 : decode cX4_copyFrom 4 = .ok (.iconst 0, 1) := by decide +kernel
theorem dX4_copyFrom_5 : decode cX4_copyFrom 5 = .ok (.aload_n 0, 1) := by decide +kernel
theorem dX4_copyFrom_6 : decode cX4_copyFrom 6 = .ok (.getfield 9, 3) := by decide +kernel
theorem dX4_copyFrom_9 : decode cX4_copyFrom 9 = .ok (.iconst 0, 1) := by decide +kernel
theorem dX4_copyFrom_10 : decode cX4_copyFrom 10 = .ok (.aload_n 0, 1) := by decide +kernel
theorem dX4_copyFrom_11 : decode cX4_copyFrom 11 = .ok (.getfield 9, 3) := by decide +kernel
theorem dX4_copyFrom_14 : decode cX4_copyFrom 14 = .ok (.arraylength, 1) := by decide +kernel
theorem dX4_copyFrom_15 : decode cX4_copyFrom 15 = .ok (.invokestatic 52, 3) := by decide +kernel
theorem dX4_copyFrom_18 : decode cX4_copyFrom 18 = .ok (.aload_n 1, 1) := by decide +kernel
theorem dX4_copyFrom_19 : decode cX4_copyFrom 19 = .ok (.getfield 17, 3) := by decide +kernel
theorem dX4_copyFrom_22 : decode cX4_copyFrom 22 = .ok (.iconst 0, 1) := by decide +kernel
theorem dX4_copyFrom_23 : decode cX4_copyFrom 23 = .ok (.aload_n 0, 1) := by decide +kernel
theorem dX4_copyFrom_24 : decode cX4_copyFrom 24 = .ok (.getfield 17, 3) := by decide +kernel
theorem dX4_copyFrom_27 : decode cX4_copyFrom 27 = .ok (.iconst 0, 1) := by decide +kernel
theorem dX4_copyFrom_28 : decode cX4_copyFrom 28 = .ok (.aload_n 0, 1) := by decide +kernel
theorem dX4_copyFrom_29 : decode cX4_copyFrom 29 = .ok (.getfield 17, 3) := by decide +kernel
theorem dX4_copyFrom_32 : decode cX4_copyFrom 32 = .ok (.arraylength, 1) := by decide +kernel
theorem dX4_copyFrom_33 : decode cX4_copyFrom 33 = .ok (.invokestatic 52, 3) := by decide +kernel
theorem dX4_copyFrom_36 : decode cX4_copyFrom 36 = .ok (.aload_n 0, 1) := by decide +kernel
theorem dX4_copyFrom_37 : decode cX4_copyFrom 37 = .ok (.getfield 23, 3) := by decide +kernel
theorem dX4_copyFrom_40 : decode cX4_copyFrom 40 = .ok (.aload_n 1, 1) := by decide +kernel
theorem dX4_copyFrom_41 : decode cX4_copyFrom 41 = .ok (.getfield 23, 3) := by decide +kernel
theorem dX4_copyFrom_44 : decode cX4_copyFrom 44 = .ok (.invokevirtual 58, 3) := by decide +kernel
theorem dX4_copyFrom_47 : decode cX4_copyFrom 47 = .ok (.aload_n 0, 1) := by decide +kernel
theorem dX4_copyFrom_48 : decode cX4_copyFrom 48 = .ok (.aload_n 1, 1) := by decide +kernel
theorem dX4_copyFrom_49 : decode cX4_copyFrom 49 = .ok (.getfield 36, 3) := by decide +kernel
theorem dX4_copyFrom_52 : decode cX4_copyFrom 52 = .ok (.putfield 36, 3) := by decide +kernel
theorem dX4_copyFrom_55 : decode cX4_copyFrom 55 = .ok (.aload_n 0, 1) := by decide +kernel
theorem dX4_copyFrom_56 : decode cX4_copyFrom 56 = .ok (.aload_n 1, 1) := by decide +kernel
theorem dX4_copyFrom_57 : decode cX4_copyFrom 57 = .ok (.getfield 40, 3) := by decide +kernel
theorem dX4_copyFrom_60 : decode cX4_copyFrom 60 = .ok (.putfield 40, 3) := by decide +kernel
theorem dX4_copyFrom_63 : decode cX4_copyFrom 63 = .ok (.aload_n 0, 1) := by decide +kernel
theorem dX4_copyFrom_64 : decode cX4_copyFrom 64 = .ok (.aload_n 1, 1) := by decide +kernel
theorem dX4_copyFrom_65 : decode cX4_copyFrom 65 = .ok (.getfield 43, 3) := by decide +kernel
theorem dX4_copyFrom_68 : decode cX4_copyFrom 68 = .ok (.putfield 43, 3) := by decide +kernel
theorem dX4_copyFrom_71 : decode cX4_copyFrom 71 = .ok (.aload_n 0, 1) := by decide +kernel
theorem dX4_copyFrom_72 : decode cX4_copyFrom 72 = .ok (.aload_n 1, 1) := by decide +kernel
theorem dX4_copyFrom_73 : decode cX4_copyFrom 73 = .ok (.getfield 46, 3) := by decide +kernel
theorem dX4_copyFrom_76 : decode cX4_copyFrom 76 = .ok (.putfield 46, 3) := by decide +kernel
theorem dX4_copyFrom_79 : decode cX4_copyFrom 79 = .ok (.aload_n 0, 1) := by decide +kernel
theorem dX4_copyFrom_80 : decode cX4_copyFrom 80 = .ok (.aload_n 1, 1) := by decide +kernel
theorem dX4_copyFrom_81 : decode cX4_copyFrom 81 = .ok (.getfield 49, 3) := by decide +kernel
theorem dX4_copyFrom_84 : decode cX4_copyFrom 84 = .ok (.putfield 49, 3) := by decide +kernel
theorem dX4_copyFrom_87 : decode cX4_copyFrom 87 = .ok (.return_, 1) := by decide +kernel
theorem dX4_rhymeOf_0 : decode cX4_rhymeOf 0 = .ok (.lload_n 1, 1) := by decide +kernel
theorem dX4_rhymeOf_1 : decode cX4_rhymeOf 1 = .ok (.lstore 5, 2) := by decide +kernel
theorem dX4_rhymeOf_3 : decode cX4_rhymeOf 3 = .ok (.lload_n 3, 1) := by decide +kernel
theorem dX4_rhymeOf_4 : decode cX4_rhymeOf 4 = .ok (.lstore 7, 2) := by decide +kernel
theorem dX4_rhymeOf_6 : decode cX4_rhymeOf 6 = .ok (.iconst 0, 1) := by decide +kernel
theorem dX4_rhymeOf_7 : decode cX4_rhymeOf 7 = .ok (.istore 9, 2) := by decide +kernel
theorem dX4_rhymeOf_9 : decode cX4_rhymeOf 9 = .ok (.iload 9, 2) := by decide +kernel
theorem dX4_rhymeOf_11 : decode cX4_rhymeOf 11 = .ok (.bipush 8, 2) := by decide +kernel
theorem dX4_rhymeOf_13 : decode cX4_rhymeOf 13 = .ok (.if_icmp .ge 70, 3) := by decide +kernel
theorem dX4_rhymeOf_16 : decode cX4_rhymeOf 16 = .ok (.lload 5, 2) := by decide +kernel
theorem dX4_rhymeOf_18 : decode cX4_rhymeOf 18 = .ok (.ldc2_w 62, 3) := by decide +kernel
theorem dX4_rhymeOf_21 : decode cX4_rhymeOf 21 = .ok (.land, 1) := by decide +kernel
theorem dX4_rhymeOf_22 : decode cX4_rhymeOf 22 = .ok (.lconst 0, 1) := by decide +kernel
theorem dX4_rhymeOf_23 : decode cX4_rhymeOf 23 = .ok (.lcmp, 1) := by decide +kernel
theorem dX4_rhymeOf_24 : decode cX4_rhymeOf 24 = .ok (.ifCond .eq 59, 3) := by decide +kernel
theorem dX4_rhymeOf_27 : decode cX4_rhymeOf 27 = .ok (.lload 7, 2) := by decide +kernel
theorem dX4_rhymeOf_29 : decode cX4_rhymeOf 29 = .ok (.ldc2_w 62, 3) := by decide +kernel
theorem dX4_rhymeOf_32 : decode cX4_rhymeOf 32 = .ok (.land, 1) := by decide +kernel
theorem dX4_rhymeOf_33 : decode cX4_rhymeOf 33 = .ok (.lconst 0, 1) := by decide +kernel
theorem dX4_rhymeOf_34 : decode cX4_rhymeOf 34 = .ok (.lcmp, 1) := by decide +kernel
theorem dX4_rhymeOf_35 : decode cX4_rhymeOf 35 = .ok (.ifCond .eq 48, 3) := by decide +kernel
theorem dX4_rhymeOf_38 : decode cX4_rhymeOf 38 = .ok (.aload_n 0, 1) := by decide +kernel
theorem dX4_rhymeOf_39 : decode cX4_rhymeOf 39 = .ok (.getfield 17, 3) := by decide +kernel
theorem dX4_rhymeOf_42 : decode cX4_rhymeOf 42 = .ok (.lload 5, 2) := by decide +kernel
theorem dX4_rhymeOf_44 : decode cX4_rhymeOf 44 = .ok (.ldc2_w 62, 3) := by decide +kernel
theorem dX4_rhymeOf_47 : decode cX4_rhymeOf 47 = .ok (.land, 1) := by decide +kernel
theorem dX4_rhymeOf_48 : decode cX4_rhymeOf 48 = .ok (.l2i, 1) := by decide +kernel
theorem dX4_rhymeOf_49 : decode cX4_rhymeOf 49 = .ok (.iaload, 1) := by decide +kernel
theorem dX4_rhymeOf_50 : decode cX4_rhymeOf 50 = .ok (.aload_n 0, 1) := by decide +kernel
theorem dX4_rhymeOf_51 : decode cX4_rhymeOf 51 = .ok (.getfield 17, 3) := by decide +kernel
theorem dX4_rhymeOf_54 : decode cX4_rhymeOf 54 = .ok (.lload 7, 2) := by decide +kernel
theorem dX4_rhymeOf_56 : decode cX4_rhymeOf 56 = .ok (.ldc2_w 62, 3) := by decide +kernel
theorem dX4_rhymeOf_59 : decode cX4_rhymeOf 59 = .ok (.land, 1) := by decide +kernel
theorem dX4_rhymeOf_60 : decode cX4_rhymeOf 60 = .ok (.l2i, 1) := by decide +kernel
theorem dX4_rhymeOf_61 : decode cX4_rhymeOf 61 = .ok (.iaload, 1) := by decide +kernel
theorem dX4_rhymeOf_62 : decode cX4_rhymeOf 62 = .ok (.if_icmp .ne 21, 3) := by decide +kernel
theorem dX4_rhymeOf_65 : decode cX4_rhymeOf 65 = .ok (.iinc 9 1, 3) := by decide +kernel
theorem dX4_rhymeOf_68 : decode cX4_rhymeOf 68 = .ok (.lload 5, 2) := by decide +kernel
theorem dX4_rhymeOf_70 : decode cX4_rhymeOf 70 = .ok (.iconst 5, 1) := by decide +kernel
theorem dX4_rhymeOf_71 : decode cX4_rhymeOf 71 = .ok (.lushr, 1) := by decide +kernel
theorem dX4_rhymeOf_72 : decode cX4_rhymeOf 72 = .ok (.lstore 5, 2) := by decide +kernel
theorem dX4_rhymeOf_74 : decode cX4_rhymeOf 74 = .ok (.lload 7, 2) := by decide +kernel
theorem dX4_rhymeOf_76 : decode cX4_rhymeOf 76 = .ok (.iconst 5, 1) := by decide +kernel
theorem dX4_rhymeOf_77 : decode cX4_rhymeOf 77 = .ok (.lushr, 1) := by decide +kernel
theorem dX4_rhymeOf_78 : decode cX4_rhymeOf 78 = .ok (.lstore 7, 2) := by decide +kernel
theorem dX4_rhymeOf_80 : decode cX4_rhymeOf 80 = .ok (.goto (-71), 3) := by decide +kernel
theorem dX4_rhymeOf_83 : decode cX4_rhymeOf 83 = .ok (.iload 9, 2) := by decide +kernel
theorem dX4_rhymeOf_85 : decode cX4_rhymeOf 85 = .ok (.ireturn, 1) := by decide +kernel
set_option maxRecDepth 20000 in
theorem ggX5_init_X1_init : GoodIn wsX5_init wsX1_init := goodIn_r _ [13, 14, 2, 3, 15, 16, 17, 18, 9, 19, 20, 21, 22, 23, 24, 25, 26, 27, 28, 29, 30, 31, 32, 33, 34, 35, 36, 37, 38, 39, 40, 41, 42, 43, 44, 45, 6, 46, 47, 48, 49, 50, 51, 52, 53, 54, 55, 56, 57, 58, 59, 60, 61, 62, 63, 64, 65, 66, 67, 68, 69, 70, 71, 72, 73, 74, 75, 100, 101, 102, 103, 104, 105, 106, 107, 76, 77, 78, 79, 80, 81, 82, 83, 84, 85, 86, 87, 88, 108, 109, 110] (by decide +kernel) (by decide +kernel)
set_option maxRecDepth 20000 in
theorem gX5_init_X1_init : GoodIn wsX5_init (wsX1_init) := ggX5_init_X1_init
theorem dX5_init_0 : decode cX5_init 0 = .ok (.aload_n 0, 1) := by decide +kernel
theorem dX5_init_1 : decode cX5_init 1 = .ok (.invokespecial 3, 3) := by decide +kernel
theorem dX5_init_4 : decode cX5_init 4 = .ok (.aload_n 0, 1) := by decide +kernel
theorem dX5_init_5 : decode cX5_init 5 = .ok (.new 9, 3) := by decide +kernel
theorem dX5_init_8 : decode cX5_init 8 = .ok (.dup, 1) := by decide +kernel
theorem dX5_init_9 : decode cX5_init 9 = .ok (.invokespecial 11, 3) := by decide +kernel
theorem dX5_init_12 : decode cX5_init 12 = .ok (.putfield 12, 3) := by decide +kernel
theorem dX5_init_15 : decode cX5_init 15 = .ok (.aload_n 0, 1) := by decide +kernel
theorem dX5_init_16 : decode cX5_init 16 = .ok (.iconst (-1), 1) := by decide +kernel
theorem dX5_init_17 : decode cX5_init 17 = .ok (.putfield 18, 3) := by decide +kernel
theorem dX5_init_20 : decode cX5_init 20 = .ok (.aload_n 0, 1) := by decide +kernel
theorem dX5_init_21 : decode cX5_init 21 = .ok (.sipush 600, 3) := by decide +kernel
theorem dX5_init_24 : decode cX5_init 24 = .ok (.newarray .int, 2) := by decide +kernel
theorem dX5_init_26 : decode cX5_init 26 = .ok (.putfield 22, 3) := by decide +kernel
theorem dX5_init_29 : decode cX5_init 29 = .ok (.return_, 1) := by decide +kernel
set_option maxRecDepth 20000 in
theorem ggX5_read_X1_reset : GoodIn wsX5_read wsX1_reset := goodIn_r _ [22, 23, 24, 25, 26, 27, 28, 29, 30, 31, 32, 33, 34, 35, 36, 37, 38, 39, 40, 41, 42, 43, 44, 45, 46, 47, 48, 49, 50, 51, 52, 53, 54, 55, 56, 57, 58, 59, 60, 61, 62, 63, 64, 65, 66, 240, 241, 242, 243, 244, 245, 246, 247, 248, 249, 250, 251, 252, 253, 254, 255, 256, 257, 258, 259, 260, 261, 262, 263] (by decide +kernel) (by decide +kernel)
set_option maxRecDepth 20000 in
theorem gX5_read_X1_reset : GoodIn wsX5_read (wsV RX5 57 RX1 yX1_reset wsX1_reset) := goodIn_app (goodIn_of _ (by decide +kernel)) ggX5_read_X1_reset
set_option maxRecDepth 20000 in
theorem ggX5_read_X5_readRoof : GoodIn wsX5_read wsX5_readRoof := goodIn_r _ [71, 72, 73, 74, 75, 70, 76, 11, 6, 1, 77, 78, 79, 80, 81, 82, 83, 84, 85, 86, 87, 88, 12, 13, 89, 90, 91, 92, 93, 94, 95, 96, 97, 98, 99, 100, 101, 102, 103, 104, 105, 106, 107, 108, 109, 110, 111, 112, 113, 114, 115, 116, 117, 118, 119, 120, 121, 122, 123, 124, 125, 126, 127, 128, 129, 130, 131, 132, 133, 134, 135, 136, 137, 138, 139, 140, 141, 142, 143, 144, 145, 17, 146, 147, 148, 149, 150, 151, 152, 153, 154, 155, 156, 157, 2, 3, 4, 5, 158, 159, 160, 161, 229, 230, 231, 232, 233, 234, 235, 236, 237, 238, 239, 240, 241, 242, 243, 244, 245, 246, 247, 248, 249, 250, 251, 252, 253, 254, 255, 256, 257, 258, 259, 260] (by decide +kernel) (by decide +kernel)
set_option maxRecDepth 20000 in
theorem gX5_read_X5_readRoof : GoodIn wsX5_read (wsV RX5 60 RX5 yX5_readRoof wsX5_readRoof) := goodIn_app (goodIn_of _ (by decide +kernel)) ggX5_read_X5_readRoof
set_option maxRecDepth 20000 in
theorem ggX5_read_X5_peek : GoodIn wsX5_read wsX5_peek := goodIn_r _ [80, 11, 6, 1, 229, 230, 231, 232, 233, 234, 235, 236, 237, 238, 239] (by decide +kernel) (by decide +kernel)
set_option maxRecDepth 20000 in
theorem gX5_read_X5_peek : GoodIn wsX5_read (wsV RX5 64 RX5 yX5_peek wsX5_peek) := goodIn_app (goodIn_of _ (by decide +kernel)) ggX5_read_X5_peek
set_option maxRecDepth 20000 in
theorem ggX5_read_X5_readRun : GoodIn wsX5_read wsX5_readRun := goodIn_r _ [76, 11, 72, 6, 1, 77, 78, 79, 70, 80, 81, 82, 83, 84, 85, 86, 87, 88, 12, 13, 229, 230, 231, 232, 233, 234, 235, 236, 237, 238, 239] (by decide +kernel) (by decide +kernel)
set_option maxRecDepth 20000 in
theorem gX5_read_X5_readRun : GoodIn wsX5_read (wsV RX5 68 RX5 yX5_readRun wsX5_readRun) := goodIn_app (goodIn_of _ (by decide +kernel)) ggX5_read_X5_readRun
set_option maxRecDepth 20000 in
theorem ggX5_read_X5_readStatement : GoodIn wsX5_read wsX5_readStatement := goodIn_r _ [165, 17, 146, 166, 72, 89, 90, 91, 70, 92, 11, 1, 93, 94, 95, 96, 97, 98, 99, 100, 101, 102, 103, 104, 105, 106, 107, 108, 109, 110, 111, 112, 113, 114, 115, 116, 117, 118, 119, 120, 121, 122, 123, 124, 125, 126, 127, 128, 129, 130, 131, 132, 133, 134, 135, 136, 137, 138, 139, 140, 141, 167, 168, 169, 170, 15, 149, 171, 85, 86, 87, 88, 12, 13, 172, 173, 174, 175, 14, 153, 154, 155, 156, 6, 157, 2, 3, 4, 5, 77, 78, 79, 80, 150, 151, 152, 176, 177, 178, 179, 180, 181, 182, 183, 184, 185, 186, 187, 188, 189, 190, 191, 192, 193, 194, 16, 195, 73, 74, 75, 76, 81, 82, 83, 84, 196, 197, 198, 199, 200, 201, 202, 203, 204, 205, 206, 21, 207, 30, 29, 208, 209, 210, 55, 211, 57, 212, 213, 214, 215, 216, 217, 218, 219, 59, 60, 61, 62, 220, 221, 222, 223, 224, 158, 159, 160, 161, 225, 226, 227, 228, 229, 230, 231, 232, 233, 234, 235, 236, 237, 238, 239, 240, 241, 242, 243, 244, 245, 246, 247, 248, 249, 250, 251, 252, 253, 254, 255, 256, 257, 258, 259, 260, 261, 262, 263] (by decide +kernel) (by decide +kernel)
set_option maxRecDepth 20000 in
theorem gX5_read_X5_readStatement : GoodIn wsX5_read (wsV RX5 71 RX5 yX5_readStatement wsX5_readStatement) := goodIn_app (goodIn_of _ (by decide +kernel)) ggX5_read_X5_readStatement
set_option maxRecDepth 20000 in
theorem ggX5_read_X5_readSign : GoodIn wsX5_read wsX5_readSign := goodIn_r _ [161, 11, 77, 78, 79, 70, 80, 6, 1, 85, 86, 87, 88, 12, 13, 229, 230, 231, 232, 233, 234, 235, 236, 237, 238, 239] (by decide +kernel) (by decide +kernel)
set_option maxRecDepth 20000 in
theorem gX5_read_X5_readSign : GoodIn wsX5_read (wsV RX5 74 RX5 yX5_readSign wsX5_readSign) := goodIn_app (goodIn_of _ (by decide +kernel)) ggX5_read_X5_readSign
theorem dX5_read_0 : decode cX5_read 0 = .ok (.aload_n 0, 1) := by decide +kernel
theorem dX5_read_1 : decode cX5_read 1 = .ok (.iload_n 2, 1) := by decide +kernel
theorem dX5_read_2 : decode cX5_read 2 = .ok (.aload_n 1, 1) := by decide +kernel
theorem dX5_read_3 : decode cX5_read 3 = .ok (.arraylength, 1) := by decide +kernel
theorem dX5_read_4 : decode cX5_read 4 = .ok (.aload_n 0, 1) := by decide +kernel
theorem dX5_read_5 : decode cX5_read 5 = .ok (.getfield 22, 3) := by decide +kernel
theorem dX5_read_8 : decode cX5_read 8 = .ok (.arraylength, 1) := by decide +kernel
theorem dX5_read_9 : decode cX5_read 9 = .ok (.invokestatic 26, 3) := by decide +kernel
theorem dX5_read_12 : decode cX5_read 12 = .ok (.invokestatic 26, 3) := by decide +kernel
theorem dX5_read_15 : decode cX5_read 15 = .ok (.putfield 32, 3) := by decide +kernel
theorem dX5_read_18 : decode cX5_read 18 = .ok (.aload_n 1, 1) := by decide +kernel
theorem dX5_read_19 : decode cX5_read 19 = .ok (.iconst 0, 1) := by decide +kernel
theorem dX5_read_20 : decode cX5_read 20 = .ok (.aload_n 0, 1) := by decide +kernel
theorem dX5_read_21 : decode cX5_read 21 = .ok (.getfield 22, 3) := by decide +kernel
theorem dX5_read_24 : decode cX5_read 24 = .ok (.iconst 0, 1) := by decide +kernel
theorem dX5_read_25 : decode cX5_read 25 = .ok (.aload_n 0, 1) := by decide +kernel
theorem dX5_read_26 : decode cX5_read 26 = .ok (.getfield 32, 3) := by decide +kernel
theorem dX5_read_29 : decode cX5_read 29 = .ok (.invokestatic 35, 3) := by decide +kernel
theorem dX5_read_32 : decode cX5_read 32 = .ok (.aload_n 0, 1) := by decide +kernel
theorem dX5_read_33 : decode cX5_read 33 = .ok (.iconst 0, 1) := by decide +kernel
theorem dX5_read_34 : decode cX5_read 34 = .ok (.putfield 41, 3) := by decide +kernel
theorem dX5_read_37 : decode cX5_read 37 = .ok (.aload_n 0, 1) := by decide +kernel
theorem dX5_read_38 : decode cX5_read 38 = .ok (.iconst 0, 1) := by decide +kernel
theorem dX5_read_39 : decode cX5_read 39 = .ok (.putfield 44, 3) := by decide +kernel
theorem dX5_read_42 : decode cX5_read 42 = .ok (.aload_n 0, 1) := by decide +kernel
theorem dX5_read_43 : decode cX5_read 43 = .ok (.iconst (-1), 1) := by decide +kernel
theorem dX5_read_44 : decode cX5_read 44 = .ok (.putfield 18, 3) := by decide +kernel
theorem dX5_read_47 : decode cX5_read 47 = .ok (.aload_n 0, 1) := by decide +kernel
theorem dX5_read_48 : decode cX5_read 48 = .ok (.iconst 0, 1) := by decide +kernel
theorem dX5_read_49 : decode cX5_read 49 = .ok (.putfield 47, 3) := by decide +kernel
theorem dX5_read_52 : decode cX5_read 52 = .ok (.aload_n 0, 1) := by decide +kernel
theorem dX5_read_53 : decode cX5_read 53 = .ok (.iconst 0, 1) := by decide +kernel
theorem dX5_read_54 : decode cX5_read 54 = .ok (.putfield 50, 3) := by decide +kernel
theorem dX5_read_57 : decode cX5_read 57 = .ok (.aload_n 0, 1) := by decide +kernel
theorem dX5_read_58 : decode cX5_read 58 = .ok (.iconst 0, 1) := by decide +kernel
theorem dX5_read_59 : decode cX5_read 59 = .ok (.putfield 54, 3) := by decide +kernel
theorem dX5_read_62 : decode cX5_read 62 = .ok (.aload_n 0, 1) := by decide +kernel
theorem dX5_read_63 : decode cX5_read 63 = .ok (.getfield 12, 3) := by decide +kernel
theorem dX5_read_66 : decode cX5_read 66 = .ok (.invokevirtual 57, 3) := by decide +kernel
theorem dX5_read_69 : decode cX5_read 69 = .ok (.aload_n 0, 1) := by decide +kernel
theorem dX5_read_70 : decode cX5_read 70 = .ok (.invokevirtual 60, 3) := by decide +kernel
theorem dX5_read_73 : decode cX5_read 73 = .ok (.istore_n 3, 1) := by decide +kernel
theorem dX5_read_74 : decode cX5_read 74 = .ok (.iconst 0, 1) := by decide +kernel
theorem dX5_read_75 : decode cX5_read 75 = .ok (.istore 4, 2) := by decide +kernel
theorem dX5_read_77 : decode cX5_read 77 = .ok (.iload 4, 2) := by decide +kernel
theorem dX5_read_79 : decode cX5_read 79 = .ok (.sipush 600, 3) := by decide +kernel
theorem dX5_read_82 : decode cX5_read 82 = .ok (.if_icmp .ge 50, 3) := by decide +kernel
theorem dX5_read_85 : decode cX5_read 85 = .ok (.iload_n 3, 1) := by decide +kernel
theorem dX5_read_86 : decode cX5_read 86 = .ok (.ifCond .eq 46, 3) := by decide +kernel
theorem dX5_read_89 : decode cX5_read 89 = .ok (.aload_n 0, 1) := by decide +kernel
theorem dX5_read_90 : decode cX5_read 90 = .ok (.invokevirtual 64, 3) := by decide +kernel
theorem dX5_read_93 : decode cX5_read 93 = .ok (.iconst (-1), 1) := by decide +kernel
theorem dX5_read_94 : decode cX5_read 94 = .ok (.if_icmp .eq 38, 3) := by decide +kernel
theorem dX5_read_97 : decode cX5_read 97 = .ok (.aload_n 0, 1) := by decide +kernel
theorem dX5_read_98 : decode cX5_read 98 = .ok (.invokevirtual 68, 3) := by decide +kernel
theorem dX5_read_101 : decode cX5_read 101 = .ok (.ifCond .eq 23, 3) := by decide +kernel
theorem dX5_read_104 : decode cX5_read 104 = .ok (.aload_n 0, 1) := by decide +kernel
theorem dX5_read_105 : decode cX5_read 105 = .ok (.invokevirtual 71, 3) := by decide +kernel
theorem dX5_read_108 : decode cX5_read 108 = .ok (.ifCond .eq 16, 3) := by decide +kernel
theorem dX5_read_111 : decode cX5_read 111 = .ok (.aload_n 0, 1) := by decide +kernel
theorem dX5_read_112 : decode cX5_read 112 = .ok (.bipush 59, 2) := by decide +kernel
theorem dX5_read_114 : decode cX5_read 114 = .ok (.invokevirtual 74, 3) := by decide +kernel
theorem dX5_read_117 : decode cX5_read 117 = .ok (.ifCond .eq 7, 3) := by decide +kernel
theorem dX5_read_120 : decode cX5_read 120 = .ok (.iconst 1, 1) := by decide +kernel
theorem dX5_read_121 : decode cX5_read 121 = .ok (.goto 4, 3) := by decide +kernel
theorem dX5_read_124 : decode cX5_read 124 = .ok (.iconst 0, 1) := by decide +kernel
theorem dX5_read_125 : decode cX5_read 125 = .ok (.istore_n 3, 1) := by decide +kernel
theorem dX5_read_126 : decode cX5_read 126 = .ok (.iinc 4 1, 3) := by decide +kernel
theorem dX5_read_129 : decode cX5_read 129 = .ok (.goto (-52), 3) := by decide +kernel
theorem dX5_read_132 : decode cX5_read 132 = .ok (.aload_n 0, 1) := by decide +kernel
theorem dX5_read_133 : decode cX5_read 133 = .ok (.getfield 44, 3) := by decide +kernel
theorem dX5_read_136 : decode cX5_read 136 = .ok (.ireturn, 1) := by decide +kernel
theorem dX5_fail_0 : decode cX5_fail 0 = .ok (.aload_n 0, 1) := by decide +kernel
theorem dX5_fail_1 : decode cX5_fail 1 = .ok (.iload_n 1, 1) := by decide +kernel
theorem dX5_fail_2 : decode cX5_fail 2 = .ok (.putfield 44, 3) := by decide +kernel
theorem dX5_fail_5 : decode cX5_fail 5 = .ok (.aload_n 0, 1) := by decide +kernel
theorem dX5_fail_6 : decode cX5_fail 6 = .ok (.iload_n 2, 1) := by decide +kernel
theorem dX5_fail_7 : decode cX5_fail 7 = .ok (.putfield 18, 3) := by decide +kernel
theorem dX5_fail_10 : decode cX5_fail 10 = .ok (.iconst 0, 1) := by decide +kernel
theorem dX5_fail_11 : decode cX5_fail 11 = .ok (.ireturn, 1) := by decide +kernel
theorem dX5_peek_0 : decode cX5_peek 0 = .ok (.aload_n 0, 1) := by decide +kernel
theorem dX5_peek_1 : decode cX5_peek 1 = .ok (.getfield 41, 3) := by decide +kernel
theorem dX5_peek_4 : decode cX5_peek 4 = .ok (.aload_n 0, 1) := by decide +kernel
theorem dX5_peek_5 : decode cX5_peek 5 = .ok (.getfield 32, 3) := by decide +kernel
theorem dX5_peek_8 : decode cX5_peek 8 = .ok (.if_icmp .ge 30, 3) := by decide +kernel
theorem dX5_peek_11 : decode cX5_peek 11 = .ok (.aload_n 0, 1) := by decide +kernel
theorem dX5_peek_12 : decode cX5_peek 12 = .ok (.getfield 22, 3) := by decide +kernel
theorem dX5_peek_15 : decode cX5_peek 15 = .ok (.aload_n 0, 1) := by decide +kernel
theorem dX5_peek_16 : decode cX5_peek 16 = .ok (.getfield 41, 3) := by decide +kernel
theorem dX5_peek_19 : decode cX5_peek 19 = .ok (.iaload, 1) := by decide +kernel
theorem dX5_peek_20 : decode cX5_peek 20 = .ok (.bipush 32, 2) := by decide +kernel
theorem dX5_peek_22 : decode cX5_peek 22 = .ok (.if_icmp .ne 16, 3) := by decide +kernel
theorem dX5_peek_25 : decode cX5_peek 25 = .ok (.aload_n 0, 1) := by decide +kernel
theorem dX5_peek_26 : decode cX5_peek 26 = .ok (.dup, 1) := by decide +kernel
theorem dX5_peek_27 : decode cX5_peek 27 = .ok (.getfield 41, 3) := by decide +kernel
theorem dX5_peek_30 : decode cX5_peek 30 = .ok (.iconst 1, 1) := by decide +kernel
theorem dX5_peek_31 : decode cX5_peek 31 = .ok (.iadd, 1) := by decide +kernel
theorem dX5_peek_32 : decode cX5_peek 32 = .ok (.putfield 41, 3) := by decide +kernel
theorem dX5_peek_35 : decode cX5_peek 35 = .ok (.goto (-35), 3) := by decide +kernel
theorem dX5_peek_38 : decode cX5_peek 38 = .ok (.aload_n 0, 1) := by decide +kernel
theorem dX5_peek_39 : decode cX5_peek 39 = .ok (.getfield 41, 3) := by decide +kernel
theorem dX5_peek_42 : decode cX5_peek 42 = .ok (.aload_n 0, 1) := by decide +kernel
theorem dX5_peek_43 : decode cX5_peek 43 = .ok (.getfield 32, 3) := by decide +kernel
theorem dX5_peek_46 : decode cX5_peek 46 = .ok (.if_icmp .ge 15, 3) := by decide +kernel
theorem dX5_peek_49 : decode cX5_peek 49 = .ok (.aload_n 0, 1) := by decide +kernel
theorem dX5_peek_50 : decode cX5_peek 50 = .ok (.getfield 22, 3) := by decide +kernel
theorem dX5_peek_53 : decode cX5_peek 53 = .ok (.aload_n 0, 1) := by decide +kernel
theorem dX5_peek_54 : decode cX5_peek 54 = .ok (.getfield 41, 3) := by decide +kernel
theorem dX5_peek_57 : decode cX5_peek 57 = .ok (.iaload, 1) := by decide +kernel
theorem dX5_peek_58 : decode cX5_peek 58 = .ok (.goto 4, 3) := by decide +kernel
theorem dX5_peek_61 : decode cX5_peek 61 = .ok (.iconst (-1), 1) := by decide +kernel
theorem dX5_peek_62 : decode cX5_peek 62 = .ok (.ireturn, 1) := by decide +kernel
theorem dX5_isDigit_0 : decode cX5_isDigit 0 = .ok (.iload_n 0, 1) := by decide +kernel
theorem dX5_isDigit_1 : decode cX5_isDigit 1 = .ok (.bipush 48, 2) := by decide +kernel
theorem dX5_isDigit_3 : decode cX5_isDigit 3 = .ok (.if_icmp .lt 13, 3) := by decide +kernel
theorem dX5_isDigit_6 : decode cX5_isDigit 6 = .ok (.iload_n 0, 1) := by decide +kernel
theorem dX5_isDigit_7 : decode cX5_isDigit 7 = .ok (.bipush 57, 2) := by decide +kernel
theorem dX5_isDigit_9 : decode cX5_isDigit 9 = .ok (.if_icmp .gt 7, 3) := by decide +kernel
theorem dX5_isDigit_12 : decode cX5_isDigit 12 = .ok (.iconst 1, 1) := by decide +kernel
theorem dX5_isDigit_13 : decode cX5_isDigit 13 = .ok (.goto 4, 3) := by decide +kernel
theorem dX5_isDigit_16 : decode cX5_isDigit 16 = .ok (.iconst 0, 1) := by decide +kernel
theorem dX5_isDigit_17 : decode cX5_isDigit 17 = .ok (.ireturn, 1) := by decide +kernel
set_option maxRecDepth 20000 in
theorem ggX5_readSign_X5_peek : GoodIn wsX5_readSign wsX5_peek := goodIn_r _ [6, 1, 7, 8, 15, 16, 17, 18, 19, 20, 21, 22, 23, 24, 25] (by decide +kernel) (by decide +kernel)
set_option maxRecDepth 20000 in
theorem gX5_readSign_X5_peek : GoodIn wsX5_readSign (wsV RX5 64 RX5 yX5_peek wsX5_peek) := goodIn_app (goodIn_of _ (by decide +kernel)) ggX5_readSign_X5_peek
set_option maxRecDepth 20000 in
theorem ggX5_readSign_X5_fail : GoodIn wsX5_readSign wsX5_fail := goodIn_r _ [12, 13, 14, 15, 16, 17, 18, 19, 20, 21, 22, 23, 24, 25] (by decide +kernel) (by decide +kernel)
set_option maxRecDepth 20000 in
theorem gX5_readSign_X5_fail : GoodIn wsX5_readSign (wsV RX5 78 RX5 yX5_fail wsX5_fail) := goodIn_app (goodIn_of _ (by decide +kernel)) ggX5_readSign_X5_fail
theorem dX5_readSign_0 : decode cX5_readSign 0 = .ok (.aload_n 0, 1) := by decide +kernel
theorem dX5_readSign_1 : decode cX5_readSign 1 = .ok (.invokevirtual 64, 3) := by decide +kernel
theorem dX5_readSign_4 : decode cX5_readSign 4 = .ok (.iload_n 1, 1) := by decide +kernel
theorem dX5_readSign_5 : decode cX5_readSign 5 = .ok (.if_icmp .eq 14, 3) := by decide +kernel
theorem dX5_readSign_8 : decode cX5_readSign 8 = .ok (.aload_n 0, 1) := by decide +kernel
theorem dX5_readSign_9 : decode cX5_readSign 9 = .ok (.bipush (-2), 2) := by decide +kernel
theorem dX5_readSign_11 : decode cX5_readSign 11 = .ok (.aload_n 0, 1) := by decide +kernel
theorem dX5_readSign_12 : decode cX5_readSign 12 = .ok (.getfield 41, 3) := by decide +kernel
theorem dX5_readSign_15 : decode cX5_readSign 15 = .ok (.invokevirtual 78, 3) := by decide +kernel
theorem dX5_readSign_18 : decode cX5_readSign 18 = .ok (.ireturn, 1) := by decide +kernel
theorem dX5_readSign_19 : decode cX5_readSign 19 = .ok (.aload_n 0, 1) := by decide +kernel
theorem dX5_readSign_20 : decode cX5_readSign 20 = .ok (.dup, 1) := by decide +kernel
theorem dX5_readSign_21 : decode cX5_readSign 21 = .ok (.getfield 41, 3) := by decide +kernel
theorem dX5_readSign_24 : decode cX5_readSign 24 = .ok (.iconst 1, 1) := by decide +kernel
theorem dX5_readSign_25 : decode cX5_readSign 25 = .ok (.iadd, 1) := by decide +kernel
theorem dX5_readSign_26 : decode cX5_readSign 26 = .ok (.putfield 41, 3) := by decide +kernel
theorem dX5_readSign_29 : decode cX5_readSign 29 = .ok (.iconst 1, 1) := by decide +kernel
theorem dX5_readSign_30 : decode cX5_readSign 30 = .ok (.ireturn, 1) := by decide +kernel
set_option maxRecDepth 20000 in
theorem ggX5_readNumber_X5_peek : GoodIn wsX5_readNumber wsX5_peek := goodIn_r _ [15, 1, 4, 5, 25, 26, 27, 28, 29, 30, 31, 32, 33, 34, 35] (by decide +kernel) (by decide +kernel)
set_option maxRecDepth 20000 in
theorem gX5_readNumber_X5_peek : GoodIn wsX5_readNumber (wsV RX5 64 RX5 yX5_peek wsX5_peek) := goodIn_app (goodIn_of _ (by decide +kernel)) ggX5_readNumber_X5_peek
set_option maxRecDepth 20000 in
theorem ggX5_readNumber_X5_isDigit : GoodIn wsX5_readNumber wsX5_isDigit := goodIn_r _ [18] (by decide +kernel) (by decide +kernel)
set_option maxRecDepth 20000 in
theorem gX5_readNumber_X5_isDigit : GoodIn wsX5_readNumber (va_wsS RX5 82 yX5_isDigit wsX5_isDigit) := goodIn_app (goodIn_of _ (by decide +kernel)) ggX5_readNumber_X5_isDigit
set_option maxRecDepth 20000 in
theorem ggX5_readNumber_X5_fail : GoodIn wsX5_readNumber wsX5_fail := goodIn_r _ [22, 23, 24, 25, 26, 27, 28, 29, 30, 31, 32, 33, 34, 35] (by decide +kernel) (by decide +kernel)
set_option maxRecDepth 20000 in
theorem gX5_readNumber_X5_fail : GoodIn wsX5_readNumber (wsV RX5 78 RX5 yX5_fail wsX5_fail) := goodIn_app (goodIn_of _ (by decide +kernel)) ggX5_readNumber_X5_fail
theorem dX5_readNumber_0 : decode cX5_readNumber 0 = .ok (.aload_n 0, 1) := by decide +kernel
theorem dX5_readNumber_1 : decode cX5_readNumber 1 = .ok (.invokevirtual 64, 3) := by decide +kernel
theorem dX5_readNumber_4 : decode cX5_readNumber 4 = .ok (.invokestatic 82, 3) := by decide +kernel
theorem dX5_readNumber_7 : decode cX5_readNumber 7 = .ok (.ifCond .ne 14, 3) := by decide +kernel
theorem dX5_readNumber_10 : decode cX5_readNumber 10 = .ok (.aload_n 0, 1) := by decide +kernel
theorem dX5_readNumber_11 : decode cX5_readNumber 11 = .ok (.bipush (-2), 2) := by decide +kernel
theorem dX5_readNumber_13 : decode cX5_readNumber 13 = .ok (.aload_n 0, 1) := by decide +kernel
theorem dX5_readNumber_14 : decode cX5_readNumber 14 = .ok (.getfield 41, 3) := by decide +kernel
theorem dX5_readNumber_17 : decode cX5_readNumber 17 = .ok (.invokevirtual 78, 3) := by decide +kernel
theorem dX5_readNumber_20 : decode cX5_readNumber 20 = .ok (.ireturn, 1) := by decide +kernel
theorem dX5_readNumber_21 : decode cX5_readNumber 21 = .ok (.aload_n 0, 1) := by decide +kernel
theorem dX5_readNumber_22 : decode cX5_readNumber 22 = .ok (.aload_n 0, 1) := by decide +kernel
theorem dX5_readNumber_23 : decode cX5_readNumber 23 = .ok (.getfield 41, 3) := by decide +kernel
theorem dX5_readNumber_26 : decode cX5_readNumber 26 = .ok (.putfield 85, 3) := by decide +kernel
theorem dX5_readNumber_29 : decode cX5_readNumber 29 = .ok (.aload_n 0, 1) := by decide +kernel
theorem dX5_readNumber_30 : decode cX5_readNumber 30 = .ok (.iconst 0, 1) := by decide +kernel
theorem dX5_readNumber_31 : decode cX5_readNumber 31 = .ok (.putfield 88, 3) := by decide +kernel
theorem dX5_readNumber_34 : decode cX5_readNumber 34 = .ok (.aload_n 0, 1) := by decide +kernel
theorem dX5_readNumber_35 : decode cX5_readNumber 35 = .ok (.getfield 41, 3) := by decide +kernel
theorem dX5_readNumber_38 : decode cX5_readNumber 38 = .ok (.aload_n 0, 1) := by decide +kernel
theorem dX5_readNumber_39 : decode cX5_readNumber 39 = .ok (.getfield 32, 3) := by decide +kernel
theorem dX5_readNumber_42 : decode cX5_readNumber 42 = .ok (.if_icmp .ge 60, 3) := by decide +kernel
theorem dX5_readNumber_45 : decode cX5_readNumber 45 = .ok (.aload_n 0, 1) := by decide +kernel
theorem dX5_readNumber_46 : decode cX5_readNumber 46 = .ok (.getfield 22, 3) := by decide +kernel
theorem dX5_readNumber_49 : decode cX5_readNumber 49 = .ok (.aload_n 0, 1) := by decide +kernel
theorem dX5_readNumber_50 : decode cX5_readNumber 50 = .ok (.getfield 41, 3) := by decide +kernel
theorem dX5_readNumber_53 : decode cX5_readNumber 53 = .ok (.iaload, 1) := by decide +kernel
theorem dX5_readNumber_54 : decode cX5_readNumber 54 = .ok (.invokestatic 82, 3) := by decide +kernel
theorem dX5_readNumber_57 : decode cX5_readNumber 57 = .ok (.ifCond .eq 45, 3) := by decide +kernel
theorem dX5_readNumber_60 : decode cX5_readNumber 60 = .ok (.aload_n 0, 1) := by decide +kernel
theorem dX5_readNumber_61 : decode cX5_readNumber 61 = .ok (.ldc 91, 2) := by decide +kernel
theorem dX5_readNumber_63 : decode cX5_readNumber 63 = .ok (.bipush 10, 2) := by decide +kernel
theorem dX5_readNumber_65 : decode cX5_readNumber 65 = .ok (.aload_n 0, 1) := by decide +kernel
theorem dX5_readNumber_66 : decode cX5_readNumber 66 = .ok (.getfield 88, 3) := by decide +kernel
theorem dX5_readNumber_69 : decode cX5_readNumber 69 = .ok (.imul, 1) := by decide +kernel
theorem dX5_readNumber_70 : decode cX5_readNumber 70 = .ok (.aload_n 0, 1) := by decide +kernel
theorem dX5_readNumber_71 : decode cX5_readNumber 71 = .ok (.getfield 22, 3) := by decide +kernel
theorem dX5_readNumber_74 : decode cX5_readNumber 74 = .ok (.aload_n 0, 1) := by decide +kernel
theorem dX5_readNumber_75 : decode cX5_readNumber 75 = .ok (.getfield 41, 3) := by decide +kernel
theorem dX5_readNumber_78 : decode cX5_readNumber 78 = .ok (.iaload, 1) := by decide +kernel
theorem dX5_readNumber_79 : decode cX5_readNumber 79 = .ok (.iadd, 1) := by decide +kernel
theorem dX5_readNumber_80 : decode cX5_readNumber 80 = .ok (.bipush 48, 2) := by decide +kernel
theorem dX5_readNumber_82 : decode cX5_readNumber 82 = .ok (.isub, 1) := by decide +kernel
theorem dX5_readNumber_83 : decode cX5_readNumber 83 = .ok (.invokestatic 26, 3) := by decide +kernel
theorem dX5_readNumber_86 : decode cX5_readNumber 86 = .ok (.putfield 88, 3) := by decide +kernel
theorem dX5_readNumber_89 : decode cX5_readNumber 89 = .ok (.aload_n 0, 1) := by decide +kernel
theorem dX5_readNumber_90 : decode cX5_readNumber 90 = .ok (.dup, 1) := by decide +kernel
theorem dX5_readNumber_91 : decode cX5_readNumber 91 = .ok (.getfield 41, 3) := by decide +kernel
theorem dX5_readNumber_94 : decode cX5_readNumber 94 = .ok (.iconst 1, 1) := by decide +kernel
theorem dX5_readNumber_95 : decode cX5_readNumber 95 = .ok (.iadd, 1) := by decide +kernel
theorem dX5_readNumber_96 : decode cX5_readNumber 96 = .ok (.putfield 41, 3) := by decide +kernel
theorem dX5_readNumber_99 : decode cX5_readNumber 99 = .ok (.goto (-65), 3) := by decide +kernel
theorem dX5_readNumber_102 : decode cX5_readNumber 102 = .ok (.aload_n 0, 1) := by decide +kernel
theorem dX5_readNumber_103 : decode cX5_readNumber 103 = .ok (.getfield 88, 3) := by decide +kernel
theorem dX5_readNumber_106 : decode cX5_readNumber 106 = .ok (.iload_n 1, 1) := by decide +kernel
theorem dX5_readNumber_107 : decode cX5_readNumber 107 = .ok (.if_icmp .lt 11, 3) := by decide +kernel
theorem dX5_readNumber_110 : decode cX5_readNumber 110 = .ok (.aload_n 0, 1) := by decide +kernel
theorem dX5_readNumber_111 : decode cX5_readNumber 111 = .ok (.getfield 88, 3) := by decide +kernel
theorem dX5_readNumber_114 : decode cX5_readNumber 114 = .ok (.iload_n 2, 1) := by decide +kernel
theorem dX5_readNumber_115 : decode cX5_readNumber 115 = .ok (.if_icmp .le 16, 3) := by decide +kernel
theorem dX5_readNumber_118 : decode cX5_readNumber 118 = .ok (.aload_n 0, 1) := by decide +kernel
theorem dX5_readNumber_119 : decode cX5_readNumber 119 = .ok (.bipush (-3), 2) := by decide +kernel
theorem dX5_readNumber_121 : decode cX5_readNumber 121 = .ok (.aload_n 0, 1) := by decide +kernel
theorem dX5_readNumber_122 : decode cX5_readNumber 122 = .ok (.getfield 85, 3) := by decide +kernel
theorem dX5_readNumber_125 : decode cX5_readNumber 125 = .ok (.invokevirtual 78, 3) := by decide +kernel
theorem dX5_readNumber_128 : decode cX5_readNumber 128 = .ok (.ifCond .eq 7, 3) := by decide +kernel
theorem dX5_readNumber_131 : decode cX5_readNumber 131 = .ok (.iconst 1, 1) := by decide +kernel
theorem dX5_readNumber_132 : decode cX5_readNumber 132 = .ok (.goto 4, 3) := by decide +kernel
theorem dX5_readNumber_135 : decode cX5_readNumber 135 = .ok (.iconst 0, 1) := by decide +kernel
theorem dX5_readNumber_136 : decode cX5_readNumber 136 = .ok (.ireturn, 1) := by decide +kernel
set_option maxRecDepth 20000 in
theorem ggX5_readRun_X5_peek : GoodIn wsX5_readRun wsX5_peek := goodIn_r _ [9, 1, 3, 4, 20, 21, 22, 23, 24, 25, 26, 27, 28, 29, 30] (by decide +kernel) (by decide +kernel)
set_option maxRecDepth 20000 in
theorem gX5_readRun_X5_peek : GoodIn wsX5_readRun (wsV RX5 64 RX5 yX5_peek wsX5_peek) := goodIn_app (goodIn_of _ (by decide +kernel)) ggX5_readRun_X5_peek
set_option maxRecDepth 20000 in
theorem ggX5_readRun_X6_isLetter : GoodIn wsX5_readRun wsX6_isLetter := goodIn_r _ [13] (by decide +kernel) (by decide +kernel)
set_option maxRecDepth 20000 in
theorem gX5_readRun_X6_isLetter : GoodIn wsX5_readRun (va_wsS RX5 92 yX6_isLetter wsX6_isLetter) := goodIn_app (goodIn_of _ (by decide +kernel)) ggX5_readRun_X6_isLetter
set_option maxRecDepth 20000 in
theorem ggX5_readRun_X5_fail : GoodIn wsX5_readRun wsX5_fail := goodIn_r _ [17, 18, 19, 20, 21, 22, 23, 24, 25, 26, 27, 28, 29, 30] (by decide +kernel) (by decide +kernel)
set_option maxRecDepth 20000 in
theorem gX5_readRun_X5_fail : GoodIn wsX5_readRun (wsV RX5 78 RX5 yX5_fail wsX5_fail) := goodIn_app (goodIn_of _ (by decide +kernel)) ggX5_readRun_X5_fail
theorem dX5_readRun_0 : decode cX5_readRun 0 = .ok (.aload_n 0, 1) := by decide +kernel
theorem dX5_readRun_1 : decode cX5_readRun 1 = .ok (.invokevirtual 64, 3) := by decide +kernel
theorem dX5_readRun_4 : decode cX5_readRun 4 = .ok (.invokestatic 92, 3) := by decide +kernel
theorem dX5_readRun_7 : decode cX5_readRun 7 = .ok (.ifCond .ne 14, 3) := by decide +kernel
theorem dX5_readRun_10 : decode cX5_readRun 10 = .ok (.aload_n 0, 1) := by decide +kernel
theorem dX5_readRun_11 : decode cX5_readRun 11 = .ok (.bipush (-2), 2) := by decide +kernel
theorem dX5_readRun_13 : decode cX5_readRun 13 = .ok (.aload_n 0, 1) := by decide +kernel
theorem dX5_readRun_14 : decode cX5_readRun 14 = .ok (.getfield 41, 3) := by decide +kernel
theorem dX5_readRun_17 : decode cX5_readRun 17 = .ok (.invokevirtual 78, 3) := by decide +kernel
theorem dX5_readRun_20 : decode cX5_readRun 20 = .ok (.ireturn, 1) := by decide +kernel
theorem dX5_readRun_21 : decode cX5_readRun 21 = .ok (.aload_n 0, 1) := by decide +kernel
theorem dX5_readRun_22 : decode cX5_readRun 22 = .ok (.aload_n 0, 1) := by decide +kernel
theorem dX5_readRun_23 : decode cX5_readRun 23 = .ok (.getfield 41, 3) := by decide +kernel
theorem dX5_readRun_26 : decode cX5_readRun 26 = .ok (.putfield 85, 3) := by decide +kernel
theorem dX5_readRun_29 : decode cX5_readRun 29 = .ok (.aload_n 0, 1) := by decide +kernel
theorem dX5_readRun_30 : decode cX5_readRun 30 = .ok (.getfield 41, 3) := by decide +kernel
theorem dX5_readRun_33 : decode cX5_readRun 33 = .ok (.aload_n 0, 1) := by decide +kernel
theorem dX5_readRun_34 : decode cX5_readRun 34 = .ok (.getfield 32, 3) := by decide +kernel
theorem dX5_readRun_37 : decode cX5_readRun 37 = .ok (.if_icmp .ge 31, 3) := by decide +kernel
theorem dX5_readRun_40 : decode cX5_readRun 40 = .ok (.aload_n 0, 1) := by decide +kernel
theorem dX5_readRun_41 : decode cX5_readRun 41 = .ok (.getfield 22, 3) := by decide +kernel
theorem dX5_readRun_44 : decode cX5_readRun 44 = .ok (.aload_n 0, 1) := by decide +kernel
theorem dX5_readRun_45 : decode cX5_readRun 45 = .ok (.getfield 41, 3) := by decide +kernel
theorem dX5_readRun_48 : decode cX5_readRun 48 = .ok (.iaload, 1) := by decide +kernel
theorem dX5_readRun_49 : decode cX5_readRun 49 = .ok (.invokestatic 92, 3) := by decide +kernel
theorem dX5_readRun_52 : decode cX5_readRun 52 = .ok (.ifCond .eq 16, 3) := by decide +kernel
theorem dX5_readRun_55 : decode cX5_readRun 55 = .ok (.aload_n 0, 1) := by decide +kernel
theorem dX5_readRun_56 : decode cX5_readRun 56 = .ok (.dup, 1) := by decide +kernel
theorem dX5_readRun_57 : decode cX5_readRun 57 = .ok (.getfield 41, 3) := by decide +kernel
theorem dX5_readRun_60 : decode cX5_readRun 60 = .ok (.iconst 1, 1) := by decide +kernel
theorem dX5_readRun_61 : decode cX5_readRun 61 = .ok (.iadd, 1) := by decide +kernel
theorem dX5_readRun_62 : decode cX5_readRun 62 = .ok (.putfield 41, 3) := by decide +kernel
theorem dX5_readRun_65 : decode cX5_readRun 65 = .ok (.goto (-36), 3) := by decide +kernel
theorem dX5_readRun_68 : decode cX5_readRun 68 = .ok (.iconst 1, 1) := by decide +kernel
theorem dX5_readRun_69 : decode cX5_readRun 69 = .ok (.ireturn, 1) := by decide +kernel
set_option maxRecDepth 20000 in
theorem ggX5_runIs_J0_length_8abf5 : GoodIn wsX5_runIs wsJ0_length_8abf5 := goodIn_r _ [8, 9, 10, 11, 12, 7, 13, 14, 15] (by decide +kernel) (by decide +kernel)
set_option maxRecDepth 20000 in
theorem gX5_runIs_J0_length_8abf5 : GoodIn wsX5_runIs (wsV RX5 97 RJ0 yJ0_length_8abf5 wsJ0_length_8abf5) := goodIn_app (goodIn_of _ (by decide +kernel)) ggX5_runIs_J0_length_8abf5
set_option maxRecDepth 20000 in
theorem ggX5_runIs_J0_charAt_5068e : GoodIn wsX5_runIs wsJ0_charAt_5068e := goodIn_r _ [19, 9, 20, 21, 22, 7, 23, 14, 15, 24, 25, 26, 27, 28, 29, 30, 31, 32, 33, 34, 35, 36, 37, 38, 39, 40, 41, 42, 43, 44, 45, 46, 47, 48, 49, 50, 51, 52] (by decide +kernel) (by decide +kernel)
set_option maxRecDepth 20000 in
theorem gX5_runIs_J0_charAt_5068e : GoodIn wsX5_runIs (wsV RX5 102 RJ0 yJ0_charAt_5068e wsJ0_charAt_5068e) := goodIn_app (goodIn_of _ (by decide +kernel)) ggX5_runIs_J0_charAt_5068e
theorem dX5_runIs_0 : decode cX5_runIs 0 = .ok (.aload_n 0, 1) := by decide +kernel
theorem dX5_runIs_1 : decode cX5_runIs 1 = .ok (.getfield 41, 3) := by decide +kernel
theorem dX5_runIs_4 : decode cX5_runIs 4 = .ok (.aload_n 0, 1) := by decide +kernel
theorem dX5_runIs_5 : decode cX5_runIs 5 = .ok (.getfield 85, 3) := by decide +kernel
theorem dX5_runIs_8 : decode cX5_runIs 8 = .ok (.isub, 1) := by decide +kernel
theorem dX5_runIs_9 : decode cX5_runIs 9 = .ok (.aload_n 1, 1) := by decide +kernel
theorem dX5_runIs_10 : decode cX5_runIs 10 = .ok (.invokevirtual 97, 3) := by decide +kernel
theorem dX5_runIs_13 : decode cX5_runIs 13 = .ok (.if_icmp .eq 5, 3) := by decide +kernel
theorem dX5_runIs_16 : decode cX5_runIs 16 = .ok (.iconst 0, 1) := by decide +kernel
theorem dX5_runIs_17 : decode cX5_runIs 17 = .ok (.ireturn, 1) := by decide +kernel
theorem dX5_runIs_18 : decode cX5_runIs 18 = .ok (.iconst 0, 1) := by decide +kernel
theorem dX5_runIs_19 : decode cX5_runIs 19 = .ok (.istore_n 2, 1) := by decide +kernel
theorem dX5_runIs_20 : decode cX5_runIs 20 = .ok (.iload_n 2, 1) := by decide +kernel
theorem dX5_runIs_21 : decode cX5_runIs 21 = .ok (.aload_n 1, 1) := by decide +kernel
theorem dX5_runIs_22 : decode cX5_runIs 22 = .ok (.invokevirtual 97, 3) := by decide +kernel
theorem dX5_runIs_25 : decode cX5_runIs 25 = .ok (.if_icmp .ge 30, 3) := by decide +kernel
theorem dX5_runIs_28 : decode cX5_runIs 28 = .ok (.aload_n 0, 1) := by decide +kernel
theorem dX5_runIs_29 : decode cX5_runIs 29 = .ok (.getfield 22, 3) := by decide +kernel
theorem dX5_runIs_32 : decode cX5_runIs 32 = .ok (.aload_n 0, 1) := by decide +kernel
theorem dX5_runIs_33 : decode cX5_runIs 33 = .ok (.getfield 85, 3) := by decide +kernel
theorem dX5_runIs_36 : decode cX5_runIs 36 = .ok (.iload_n 2, 1) := by decide +kernel
theorem dX5_runIs_37 : decode cX5_runIs 37 = .ok (.iadd, 1) := by decide +kernel
theorem dX5_runIs_38 : decode cX5_runIs 38 = .ok (.iaload, 1) := by decide +kernel
theorem dX5_runIs_39 : decode cX5_runIs 39 = .ok (.aload_n 1, 1) := by decide +kernel
theorem dX5_runIs_40 : decode cX5_runIs 40 = .ok (.iload_n 2, 1) := by decide +kernel
theorem dX5_runIs_41 : decode cX5_runIs 41 = .ok (.invokevirtual 102, 3) := by decide +kernel
theorem dX5_runIs_44 : decode cX5_runIs 44 = .ok (.if_icmp .eq 5, 3) := by decide +kernel
theorem dX5_runIs_47 : decode cX5_runIs 47 = .ok (.iconst 0, 1) := by decide +kernel
theorem dX5_runIs_48 : decode cX5_runIs 48 = .ok (.ireturn, 1) := by decide +kernel
theorem dX5_runIs_49 : decode cX5_runIs 49 = .ok (.iinc 2 1, 3) := by decide +kernel
theorem dX5_runIs_52 : decode cX5_runIs 52 = .ok (.goto (-32), 3) := by decide +kernel
theorem dX5_runIs_55 : decode cX5_runIs 55 = .ok (.iconst 1, 1) := by decide +kernel
theorem dX5_runIs_56 : decode cX5_runIs 56 = .ok (.ireturn, 1) := by decide +kernel
set_option maxRecDepth 20000 in
theorem ggX5_readRoof_X5_readRun : GoodIn wsX5_readRoof wsX5_readRun := goodIn_r _ [6, 7, 1, 8, 9, 10, 11, 12, 5, 13, 14, 15, 16, 17, 18, 19, 20, 21, 22, 23, 102, 103, 104, 105, 106, 107, 108, 109, 110, 111, 112] (by decide +kernel) (by decide +kernel)
set_option maxRecDepth 20000 in
theorem gX5_readRoof_X5_readRun : GoodIn wsX5_readRoof (wsV RX5 68 RX5 yX5_readRun wsX5_readRun) := goodIn_app (goodIn_of _ (by decide +kernel)) ggX5_readRoof_X5_readRun
set_option maxRecDepth 20000 in
theorem ggX5_readRoof_X5_runIs : GoodIn wsX5_readRoof wsX5_runIs := goodIn_r _ [27, 7, 1, 9, 28, 29, 30, 31, 32, 33, 34, 35, 36, 37, 38, 39, 40, 41, 42, 43, 44, 45, 46, 47, 48, 49, 50, 51, 52, 53, 54, 55, 56, 57, 58, 59, 60, 61, 62, 63, 64, 65, 66, 67, 68, 69, 70, 71, 72, 73, 74, 75, 76, 102, 103, 104, 105, 106, 107, 108, 109, 110, 111, 112] (by decide +kernel) (by decide +kernel)
set_option maxRecDepth 20000 in
theorem gX5_readRoof_X5_runIs : GoodIn wsX5_readRoof (wsV RX5 108 RX5 yX5_runIs wsX5_runIs) := goodIn_app (goodIn_of _ (by decide +kernel)) ggX5_readRoof_X5_runIs
set_option maxRecDepth 20000 in
theorem ggX5_readRoof_X5_readRows : GoodIn wsX5_readRoof wsX5_readRows := goodIn_r _ [80, 81, 82, 83, 1, 84, 85, 10, 11, 12, 5, 13, 7, 8, 9, 86, 87, 88, 89, 90, 91, 92, 93, 94, 95, 96, 97, 18, 19, 20, 21, 22, 23, 102, 103, 104, 105, 106, 107, 108, 109, 110, 111, 112, 113, 114, 115, 116, 117, 118, 119, 120, 121, 122, 123, 124, 125, 126, 127, 128, 129, 130, 131, 132, 133] (by decide +kernel) (by decide +kernel)
set_option maxRecDepth 20000 in
theorem gX5_readRoof_X5_readRows : GoodIn wsX5_readRoof (wsV RX5 112 RX5 yX5_readRows wsX5_readRows) := goodIn_app (goodIn_of _ (by decide +kernel)) ggX5_readRoof_X5_readRows
set_option maxRecDepth 20000 in
theorem ggX5_readRoof_X5_readSign : GoodIn wsX5_readRoof wsX5_readSign := goodIn_r _ [101, 7, 10, 11, 12, 5, 13, 8, 9, 18, 19, 20, 21, 22, 23, 102, 103, 104, 105, 106, 107, 108, 109, 110, 111, 112] (by decide +kernel) (by decide +kernel)
set_option maxRecDepth 20000 in
theorem gX5_readRoof_X5_readSign : GoodIn wsX5_readRoof (wsV RX5 74 RX5 yX5_readSign wsX5_readSign) := goodIn_app (goodIn_of _ (by decide +kernel)) ggX5_readRoof_X5_readSign
set_option maxRecDepth 20000 in
theorem ggX5_readRoof_X5_fail : GoodIn wsX5_readRoof wsX5_fail := goodIn_r _ [21, 22, 23, 102, 103, 104, 105, 106, 107, 108, 109, 110, 111, 112] (by decide +kernel) (by decide +kernel)
set_option maxRecDepth 20000 in
theorem gX5_readRoof_X5_fail : GoodIn wsX5_readRoof (wsV RX5 78 RX5 yX5_fail wsX5_fail) := goodIn_app (goodIn_of _ (by decide +kernel)) ggX5_readRoof_X5_fail
theorem dX5_readRoof_0 : decode cX5_readRoof 0 = .ok (.aload_n 0, 1) := by decide +kernel
theorem dX5_readRoof_1 : decode cX5_readRoof 1 = .ok (.invokevirtual 68, 3) := by decide +kernel
theorem dX5_readRoof_4 : decode cX5_readRoof 4 = .ok (.ifCond .ne 5, 3) := by decide +kernel
theorem dX5_readRoof_7 : decode cX5_readRoof 7 = .ok (.iconst 0, 1) := by decide +kernel
theorem dX5_readRoof_8 : decode cX5_readRoof 8 = .ok (.ireturn, 1) := by decide +kernel
theorem dX5_readRoof_9 : decode cX5_readRoof 9 = .ok (.aload_n 0, 1) := by decide +kernel
theorem dX5_readRoof_10 : decode cX5_readRoof 10 = .ok (.ldc 106, 2) := by decide +kernel
theorem dX5_readRoof_12 : decode cX5_readRoof 12 = .ok (.invokevirtual 108, 3) := by decide +kernel
theorem dX5_readRoof_15 : decode cX5_readRoof 15 = .ok (.ifCond .eq 27, 3) := by decide +kernel
theorem dX5_readRoof_18 : decode cX5_readRoof 18 = .ok (.aload_n 0, 1) := by decide +kernel
theorem dX5_readRoof_19 : decode cX5_readRoof 19 = .ok (.invokevirtual 112, 3) := by decide +kernel
theorem dX5_readRoof_22 : decode cX5_readRoof 22 = .ok (.ifCond .eq 16, 3) := by decide +kernel
theorem dX5_readRoof_25 : decode cX5_readRoof 25 = .ok (.aload_n 0, 1) := by decide +kernel
theorem dX5_readRoof_26 : decode cX5_readRoof 26 = .ok (.bipush 59, 2) := by decide +kernel
theorem dX5_readRoof_28 : decode cX5_readRoof 28 = .ok (.invokevirtual 74, 3) := by decide +kernel
theorem dX5_readRoof_31 : decode cX5_readRoof 31 = .ok (.ifCond .eq 7, 3) := by decide +kernel
theorem dX5_readRoof_34 : decode cX5_readRoof 34 = .ok (.iconst 1, 1) := by decide +kernel
theorem dX5_readRoof_35 : decode cX5_readRoof 35 = .ok (.goto 17, 3) := by decide +kernel
theorem dX5_readRoof_38 : decode cX5_readRoof 38 = .ok (.iconst 0, 1) := by decide +kernel
theorem dX5_readRoof_39 : decode cX5_readRoof 39 = .ok (.goto 13, 3) := by decide +kernel
theorem dX5_readRoof_42 : decode cX5_readRoof 42 = .ok (.aload_n 0, 1) := by decide +kernel
theorem dX5_readRoof_43 : decode cX5_readRoof 43 = .ok (.bipush (-2), 2) := by decide +kernel
theorem dX5_readRoof_45 : decode cX5_readRoof 45 = .ok (.aload_n 0, 1) := by decide +kernel
theorem dX5_readRoof_46 : decode cX5_readRoof 46 = .ok (.getfield 85, 3) := by decide +kernel
theorem dX5_readRoof_49 : decode cX5_readRoof 49 = .ok (.invokevirtual 78, 3) := by decide +kernel
theorem dX5_readRoof_52 : decode cX5_readRoof 52 = .ok (.ireturn, 1) := by decide +kernel
set_option maxRecDepth 20000 in
theorem ggX5_readRows_X5_peek : GoodIn wsX5_readRows wsX5_peek := goodIn_r _ [11, 12, 13, 14, 33, 34, 35, 36, 37, 38, 39, 40, 41, 42, 43] (by decide +kernel) (by decide +kernel)
set_option maxRecDepth 20000 in
theorem gX5_readRows_X5_peek : GoodIn wsX5_readRows (wsV RX5 64 RX5 yX5_peek wsX5_peek) := goodIn_app (goodIn_of _ (by decide +kernel)) ggX5_readRows_X5_peek
set_option maxRecDepth 20000 in
theorem ggX5_readRows_X5_isDigit : GoodIn wsX5_readRows wsX5_isDigit := goodIn_r _ [17] (by decide +kernel) (by decide +kernel)
set_option maxRecDepth 20000 in
theorem gX5_readRows_X5_isDigit : GoodIn wsX5_readRows (va_wsS RX5 82 yX5_isDigit wsX5_isDigit) := goodIn_app (goodIn_of _ (by decide +kernel)) ggX5_readRows_X5_isDigit
set_option maxRecDepth 20000 in
theorem ggX5_readRows_X5_readNumber : GoodIn wsX5_readRows wsX5_readNumber := goodIn_r _ [21, 12, 4, 6, 13, 14, 22, 23, 24, 25, 26, 7, 8, 9, 10, 11, 15, 16, 17, 27, 28, 29, 30, 31, 32, 33, 34, 35, 36, 37, 38, 39, 40, 41, 42, 43] (by decide +kernel) (by decide +kernel)
set_option maxRecDepth 20000 in
theorem gX5_readRows_X5_readNumber : GoodIn wsX5_readRows (wsV RX5 124 RX5 yX5_readNumber wsX5_readNumber) := goodIn_app (goodIn_of _ (by decide +kernel)) ggX5_readRows_X5_readNumber
set_option maxRecDepth 20000 in
theorem ggX5_readRows_X5_fail : GoodIn wsX5_readRows wsX5_fail := goodIn_r _ [30, 31, 32, 33, 34, 35, 36, 37, 38, 39, 40, 41, 42, 43] (by decide +kernel) (by decide +kernel)
set_option maxRecDepth 20000 in
theorem gX5_readRows_X5_fail : GoodIn wsX5_readRows (wsV RX5 78 RX5 yX5_fail wsX5_fail) := goodIn_app (goodIn_of _ (by decide +kernel)) ggX5_readRows_X5_fail
theorem dX5_readRows_0 : decode cX5_readRows 0 = .ok (.aload_n 0, 1) := by decide +kernel
theorem dX5_readRows_1 : decode cX5_readRows 1 = .ok (.getfield 12, 3) := by decide +kernel
theorem dX5_readRows_4 : decode cX5_readRows 4 = .ok (.getfield 115, 3) := by decide +kernel
theorem dX5_readRows_7 : decode cX5_readRows 7 = .ok (.astore_n 1, 1) := by decide +kernel
theorem dX5_readRows_8 : decode cX5_readRows 8 = .ok (.aload_n 1, 1) := by decide +kernel
theorem dX5_readRows_9 : decode cX5_readRows 9 = .ok (.iconst 0, 1) := by decide +kernel
theorem dX5_readRows_10 : decode cX5_readRows 10 = .ok (.putfield 119, 3) := by decide +kernel
theorem dX5_readRows_13 : decode cX5_readRows 13 = .ok (.iconst 0, 1) := by decide +kernel
theorem dX5_readRows_14 : decode cX5_readRows 14 = .ok (.istore_n 2, 1) := by decide +kernel
theorem dX5_readRows_15 : decode cX5_readRows 15 = .ok (.iload_n 2, 1) := by decide +kernel
theorem dX5_readRows_16 : decode cX5_readRows 16 = .ok (.bipush 6, 2) := by decide +kernel
theorem dX5_readRows_18 : decode cX5_readRows 18 = .ok (.if_icmp .gt 78, 3) := by decide +kernel
theorem dX5_readRows_21 : decode cX5_readRows 21 = .ok (.iload_n 2, 1) := by decide +kernel
theorem dX5_readRows_22 : decode cX5_readRows 22 = .ok (.ifCond .eq 13, 3) := by decide +kernel
theorem dX5_readRows_25 : decode cX5_readRows 25 = .ok (.aload_n 0, 1) := by decide +kernel
theorem dX5_readRows_26 : decode cX5_readRows 26 = .ok (.invokevirtual 64, 3) := by decide +kernel
theorem dX5_readRows_29 : decode cX5_readRows 29 = .ok (.invokestatic 82, 3) := by decide +kernel
theorem dX5_readRows_32 : decode cX5_readRows 32 = .ok (.ifCond .eq 64, 3) := by decide +kernel
theorem dX5_readRows_35 : decode cX5_readRows 35 = .ok (.aload_n 0, 1) := by decide +kernel
theorem dX5_readRows_36 : decode cX5_readRows 36 = .ok (.iconst 1, 1) := by decide +kernel
theorem dX5_readRows_37 : decode cX5_readRows 37 = .ok (.bipush 40, 2) := by decide +kernel
theorem dX5_readRows_39 : decode cX5_readRows 39 = .ok (.invokevirtual 124, 3) := by decide +kernel
theorem dX5_readRows_42 : decode cX5_readRows 42 = .ok (.ifCond .ne 5, 3) := by decide +kernel
theorem dX5_readRows_45 : decode cX5_readRows 45 = .ok (.iconst 0, 1) := by decide +kernel
theorem dX5_readRows_46 : decode cX5_readRows 46 = .ok (.ireturn, 1) := by decide +kernel
theorem dX5_readRows_47 : decode cX5_readRows 47 = .ok (.aload_n 1, 1) := by decide +kernel
theorem dX5_readRows_48 : decode cX5_readRows 48 = .ok (.getfield 119, 3) := by decide +kernel
theorem dX5_readRows_51 : decode cX5_readRows 51 = .ok (.bipush 6, 2) := by decide +kernel
theorem dX5_readRows_53 : decode cX5_readRows 53 = .ok (.if_icmp .lt 14, 3) := by decide +kernel
theorem dX5_readRows_56 : decode cX5_readRows 56 = .ok (.aload_n 0, 1) := by decide +kernel
theorem dX5_readRows_57 : decode cX5_readRows 57 = .ok (.bipush (-5), 2) := by decide +kernel
theorem dX5_readRows_59 : decode cX5_readRows 59 = .ok (.aload_n 0, 1) := by decide +kernel
theorem dX5_readRows_60 : decode cX5_readRows 60 = .ok (.getfield 85, 3) := by decide +kernel
theorem dX5_readRows_63 : decode cX5_readRows 63 = .ok (.invokevirtual 78, 3) := by decide +kernel
theorem dX5_readRows_66 : decode cX5_readRows 66 = .ok (.ireturn, 1) := by decide +kernel
theorem dX5_readRows_67 : decode cX5_readRows 67 = .ok (.aload_n 1, 1) := by decide +kernel
theorem dX5_readRows_68 : decode cX5_readRows 68 = .ok (.getfield 127, 3) := by decide +kernel
theorem dX5_readRows_71 : decode cX5_readRows 71 = .ok (.aload_n 1, 1) := by decide +kernel
theorem dX5_readRows_72 : decode cX5_readRows 72 = .ok (.getfield 119, 3) := by decide +kernel
theorem dX5_readRows_75 : decode cX5_readRows 75 = .ok (.aload_n 0, 1) := by decide +kernel
theorem dX5_readRows_76 : decode cX5_readRows 76 = .ok (.getfield 88, 3) := by decide +kernel
theorem dX5_readRows_79 : decode cX5_readRows 79 = .ok (.iastore, 1) := by decide +kernel
theorem dX5_readRows_80 : decode cX5_readRows 80 = .ok (.aload_n 1, 1) := by decide +kernel
theorem dX5_readRows_81 : decode cX5_readRows 81 = .ok (.dup, 1) := by decide +kernel
theorem dX5_readRows_82 : decode cX5_readRows 82 = .ok (.getfield 119, 3) := by decide +kernel
theorem dX5_readRows_85 : decode cX5_readRows 85 = .ok (.iconst 1, 1) := by decide +kernel
theorem dX5_readRows_86 : decode cX5_readRows 86 = .ok (.iadd, 1) := by decide +kernel
theorem dX5_readRows_87 : decode cX5_readRows 87 = .ok (.putfield 119, 3) := by decide +kernel
theorem dX5_readRows_90 : decode cX5_readRows 90 = .ok (.iinc 2 1, 3) := by decide +kernel
theorem dX5_readRows_93 : decode cX5_readRows 93 = .ok (.goto (-78), 3) := by decide +kernel
theorem dX5_readRows_96 : decode cX5_readRows 96 = .ok (.iconst 1, 1) := by decide +kernel
theorem dX5_readRows_97 : decode cX5_readRows 97 = .ok (.ireturn, 1) := by decide +kernel
set_option maxRecDepth 20000 in
theorem ggX5_readStatement_X5_runIs : GoodIn wsX5_readStatement wsX5_runIs := goodIn_r _ [9, 10, 4, 11, 12, 13, 14, 15, 16, 17, 18, 19, 20, 21, 22, 23, 24, 25, 26, 27, 28, 29, 30, 31, 32, 33, 34, 35, 36, 37, 38, 39, 40, 41, 42, 43, 44, 45, 46, 47, 48, 49, 50, 51, 52, 53, 54, 55, 56, 57, 58, 59, 60, 171, 172, 173, 174, 175, 176, 177, 178, 179, 180, 181] (by decide +kernel) (by decide +kernel)
set_option maxRecDepth 20000 in
theorem gX5_readStatement_X5_runIs : GoodIn wsX5_readStatement (wsV RX5 108 RX5 yX5_runIs wsX5_runIs) := goodIn_app (goodIn_of _ (by decide +kernel)) ggX5_readStatement_X5_runIs
set_option maxRecDepth 20000 in
theorem ggX5_readStatement_X5_readPlayers : GoodIn wsX5_readStatement wsX5_readPlayers := goodIn_r _ [64, 65, 4, 1, 2, 66, 67, 68, 69, 70, 8, 71, 72, 73, 74, 75, 76, 77, 78, 79, 80, 81, 82, 10, 83, 11, 84, 85, 86, 87, 88, 89, 90, 91, 92, 93, 94, 95, 171, 172, 173, 174, 175, 176, 177, 178, 179, 180, 181, 182, 183, 184, 185, 186, 187, 188, 189, 190, 191, 192, 193, 194, 195, 196, 197, 198, 199, 200, 201, 202] (by decide +kernel) (by decide +kernel)
set_option maxRecDepth 20000 in
theorem gX5_readStatement_X5_readPlayers : GoodIn wsX5_readStatement (wsV RX5 132 RX5 yX5_readPlayers wsX5_readPlayers) := goodIn_app (goodIn_of _ (by decide +kernel)) ggX5_readStatement_X5_readPlayers
set_option maxRecDepth 20000 in
theorem ggX5_readStatement_X5_readNeed : GoodIn wsX5_readStatement wsX5_readNeed := goodIn_r _ [99, 1, 2, 66, 100, 74, 75, 76, 8, 77, 78, 4, 68, 69, 70, 71, 72, 73, 79, 80, 81, 82, 10, 83, 11, 84, 85, 86, 87, 88, 89, 90, 91, 92, 93, 94, 95, 171, 172, 173, 174, 175, 176, 177, 178, 179, 180, 181, 182, 183, 184, 185, 186, 187, 188, 189, 190, 191, 192, 193, 194, 195, 196, 197, 198, 199, 200, 201, 202] (by decide +kernel) (by decide +kernel)
set_option maxRecDepth 20000 in
theorem gX5_readStatement_X5_readNeed : GoodIn wsX5_readStatement (wsV RX5 137 RX5 yX5_readNeed wsX5_readNeed) := goodIn_app (goodIn_of _ (by decide +kernel)) ggX5_readStatement_X5_readNeed
set_option maxRecDepth 20000 in
theorem ggX5_readStatement_X5_readBonus : GoodIn wsX5_readStatement wsX5_readBonus := goodIn_r _ [104, 1, 2, 66, 105, 74, 75, 76, 8, 77, 78, 4, 68, 69, 70, 71, 72, 73, 79, 80, 81, 82, 10, 83, 11, 84, 85, 86, 87, 88, 89, 90, 91, 92, 93, 94, 95, 171, 172, 173, 174, 175, 176, 177, 178, 179, 180, 181, 182, 183, 184, 185, 186, 187, 188, 189, 190, 191, 192, 193, 194, 195, 196, 197, 198, 199, 200, 201, 202] (by decide +kernel) (by decide +kernel)
set_option maxRecDepth 20000 in
theorem gX5_readStatement_X5_readBonus : GoodIn wsX5_readStatement (wsV RX5 142 RX5 yX5_readBonus wsX5_readBonus) := goodIn_app (goodIn_of _ (by decide +kernel)) ggX5_readStatement_X5_readBonus
set_option maxRecDepth 20000 in
theorem ggX5_readStatement_X5_readCrown : GoodIn wsX5_readStatement wsX5_readCrown := goodIn_r _ [109, 1, 2, 66, 110, 74, 75, 76, 8, 77, 78, 4, 68, 69, 70, 71, 72, 73, 79, 80, 81, 82, 10, 83, 11, 84, 85, 86, 87, 88, 89, 90, 91, 92, 93, 94, 95, 171, 172, 173, 174, 175, 176, 177, 178, 179, 180, 181, 182, 183, 184, 185, 186, 187, 188, 189, 190, 191, 192, 193, 194, 195, 196, 197, 198, 199, 200, 201, 202] (by decide +kernel) (by decide +kernel)
set_option maxRecDepth 20000 in
theorem gX5_readStatement_X5_readCrown : GoodIn wsX5_readStatement (wsV RX5 147 RX5 yX5_readCrown wsX5_readCrown) := goodIn_app (goodIn_of _ (by decide +kernel)) ggX5_readStatement_X5_readCrown
set_option maxRecDepth 20000 in
theorem ggX5_readStatement_X5_readAlike : GoodIn wsX5_readStatement wsX5_readAlike := goodIn_r _ [114, 11, 4, 10, 115, 1, 2, 116, 117, 118, 119, 8, 120, 83, 89, 90, 91, 92, 121, 122, 123, 124, 68, 69, 70, 71, 72, 73, 171, 172, 173, 174, 175, 176, 177, 178, 179, 180, 181, 182, 183, 184, 185, 186, 187, 188, 189, 190, 191, 192, 193, 194, 195, 196, 197, 198, 199, 200, 201, 202] (by decide +kernel) (by decide +kernel)
set_option maxRecDepth 20000 in
theorem gX5_readStatement_X5_readAlike : GoodIn wsX5_readStatement (wsV RX5 152 RX5 yX5_readAlike wsX5_readAlike) := goodIn_app (goodIn_of _ (by decide +kernel)) ggX5_readStatement_X5_readAlike
set_option maxRecDepth 20000 in
theorem ggX5_readStatement_X5_readHand : GoodIn wsX5_readStatement wsX5_readHand := goodIn_r _ [128, 1, 2, 67, 66, 65, 10, 4, 129, 11, 79, 80, 81, 8, 82, 83, 84, 85, 86, 87, 88, 89, 90, 91, 92, 93, 94, 95, 68, 69, 70, 71, 72, 73, 121, 122, 123, 124, 117, 118, 119, 120, 130, 131, 132, 133, 134, 135, 136, 137, 138, 139, 171, 172, 173, 174, 175, 176, 177, 178, 179, 180, 181, 182, 183, 184, 185, 186, 187, 188, 189, 190, 191, 192, 193, 194, 195, 196, 197, 198, 199, 200, 201, 202] (by decide +kernel) (by decide +kernel)
set_option maxRecDepth 20000 in
theorem gX5_readStatement_X5_readHand : GoodIn wsX5_readStatement (wsV RX5 157 RX5 yX5_readHand wsX5_readHand) := goodIn_app (goodIn_of _ (by decide +kernel)) ggX5_readStatement_X5_readHand
set_option maxRecDepth 20000 in
theorem ggX5_readStatement_X3_clear : GoodIn wsX5_readStatement wsX3_clear := goodIn_r _ [144, 145, 203, 204, 205] (by decide +kernel) (by decide +kernel)
set_option maxRecDepth 20000 in
theorem gX5_readStatement_X3_clear : GoodIn wsX5_readStatement (wsV RX5 165 RX3 yX3_clear wsX3_clear) := goodIn_app (goodIn_of _ (by decide +kernel)) ggX5_readStatement_X3_clear
set_option maxRecDepth 20000 in
theorem ggX5_readStatement_X5_tellOnce : GoodIn wsX5_readStatement wsX5_tellOnce := goodIn_r _ [77, 78, 4, 68, 69, 70, 8, 71, 72, 73, 171, 172, 173, 174, 175, 176, 177, 178, 179, 180, 181] (by decide +kernel) (by decide +kernel)
set_option maxRecDepth 20000 in
theorem gX5_readStatement_X5_tellOnce : GoodIn wsX5_readStatement (wsV RX5 170 RX5 yX5_tellOnce wsX5_tellOnce) := goodIn_app (goodIn_of _ (by decide +kernel)) ggX5_readStatement_X5_tellOnce
set_option maxRecDepth 20000 in
theorem ggX5_readStatement_X5_readSum : GoodIn wsX5_readStatement wsX5_readSum := goodIn_r _ [149, 1, 2, 3, 150, 151, 152, 8, 153, 154, 155, 143, 156, 145, 157, 158, 159, 160, 161, 10, 89, 90, 91, 92, 83, 11, 162, 66, 4, 68, 69, 70, 71, 72, 73, 146, 147, 148, 163, 164, 165, 166, 93, 94, 95, 79, 80, 81, 82, 84, 85, 86, 87, 88, 117, 118, 119, 120, 121, 122, 123, 124, 167, 168, 169, 170, 5, 6, 7, 9, 12, 13, 14, 15, 16, 17, 18, 19, 20, 21, 22, 23, 24, 25, 26, 27, 28, 29, 30, 31, 32, 33, 34, 35, 36, 37, 38, 39, 40, 41, 42, 43, 44, 45, 46, 47, 48, 49, 50, 51, 52, 53, 54, 55, 56, 57, 58, 59, 60, 171, 172, 173, 174, 175, 176, 177, 178, 179, 180, 181, 182, 183, 184, 185, 186, 187, 188, 189, 190, 191, 192, 193, 194, 195, 196, 197, 198, 199, 200, 201, 202, 203, 204, 205] (by decide +kernel) (by decide +kernel)
set_option maxRecDepth 20000 in
theorem gX5_readStatement_X5_readSum : GoodIn wsX5_readStatement (wsV RX5 173 RX5 yX5_readSum wsX5_readSum) := goodIn_app (goodIn_of _ (by decide +kernel)) ggX5_readStatement_X5_readSum
set_option maxRecDepth 20000 in
theorem ggX5_readStatement_X5_fail : GoodIn wsX5_readStatement wsX5_fail := goodIn_r _ [71, 72, 73, 171, 172, 173, 174, 175, 176, 177, 178, 179, 180, 181] (by decide +kernel) (by decide +kernel)
set_option maxRecDepth 20000 in
theorem gX5_readStatement_X5_fail : GoodIn wsX5_readStatement (wsV RX5 78 RX5 yX5_fail wsX5_fail) := goodIn_app (goodIn_of _ (by decide +kernel)) ggX5_readStatement_X5_fail
theorem dX5_readStatement_0 : decode cX5_readStatement 0 = .ok (.aload_n 0, 1) := by decide +kernel
theorem dX5_readStatement_1 : decode cX5_readStatement 1 = .ok (.ldc 130, 2) := by decide +kernel
theorem dX5_readStatement_3 : decode cX5_readStatement 3 = .ok (.invokevirtual 108, 3) := by decide +kernel
theorem dX5_readStatement_6 : decode cX5_readStatement 6 = .ok (.ifCond .eq 8, 3) := by decide +kernel
theorem dX5_readStatement_9 : decode cX5_readStatement 9 = .ok (.aload_n 0, 1) := by decide +kernel
theorem dX5_readStatement_10 : decode cX5_readStatement 10 = .ok (.invokevirtual 132, 3) := by decide +kernel
theorem dX5_readStatement_13 : decode cX5_readStatement 13 = .ok (.ireturn, 1) := by decide +kernel
theorem dX5_readStatement_14 : decode cX5_readStatement 14 = .ok (.aload_n 0, 1) := by decide +kernel
theorem dX5_readStatement_15 : decode cX5_readStatement 15 = .ok (.ldc 135, 2) := by decide +kernel
theorem dX5_readStatement_17 : decode cX5_readStatement 17 = .ok (.invokevirtual 108, 3) := by decide +kernel
theorem dX5_readStatement_20 : decode cX5_readStatement 20 = .ok (.ifCond .eq 8, 3) := by decide +kernel
theorem dX5_readStatement_23 : decode cX5_readStatement 23 = .ok (.aload_n 0, 1) := by decide +kernel
theorem dX5_readStatement_24 : decode cX5_readStatement 24 = .ok (.invokevirtual 137, 3) := by decide +kernel
theorem dX5_readStatement_27 : decode cX5_readStatement 27 = .ok (.ireturn, 1) := by decide +kernel
theorem dX5_readStatement_28 : decode cX5_readStatement 28 = .ok (.aload_n 0, 1) := by decide +kernel
theorem dX5_readStatement_29 : decode cX5_readStatement 29 = .ok (.ldc 140, 2) := by decide +kernel
theorem dX5_readStatement_31 : decode cX5_readStatement 31 = .ok (.invokevirtual 108, 3) := by decide +kernel
theorem dX5_readStatement_34 : decode cX5_readStatement 34 = .ok (.ifCond .eq 8, 3) := by decide +kernel
theorem dX5_readStatement_37 : decode cX5_readStatement 37 = .ok (.aload_n 0, 1) := by decide +kernel
theorem dX5_readStatement_38 : decode cX5_readStatement 38 = .ok (.invokevirtual 142, 3) := by decide +kernel
theorem dX5_readStatement_41 : decode cX5_readStatement 41 = .ok (.ireturn, 1) := by decide +kernel
theorem dX5_readStatement_42 : decode cX5_readStatement 42 = .ok (.aload_n 0, 1) := by decide +kernel
theorem dX5_readStatement_43 : decode cX5_readStatement 43 = .ok (.ldc 145, 2) := by decide +kernel
theorem dX5_readStatement_45 : decode cX5_readStatement 45 = .ok (.invokevirtual 108, 3) := by decide +kernel
theorem dX5_readStatement_48 : decode cX5_readStatement 48 = .ok (.ifCond .eq 8, 3) := by decide +kernel
theorem dX5_readStatement_51 : decode cX5_readStatement 51 = .ok (.aload_n 0, 1) := by decide +kernel
theorem dX5_readStatement_52 : decode cX5_readStatement 52 = .ok (.invokevirtual 147, 3) := by decide +kernel
theorem dX5_readStatement_55 : decode cX5_readStatement 55 = .ok (.ireturn, 1) := by decide +kernel
theorem dX5_readStatement_56 : decode cX5_readStatement 56 = .ok (.aload_n 0, 1) := by decide +kernel
theorem dX5_readStatement_57 : decode cX5_readStatement 57 = .ok (.ldc 150, 2) := by decide +kernel
theorem dX5_readStatement_59 : decode cX5_readStatement 59 = .ok (.invokevirtual 108, 3) := by decide +kernel
theorem dX5_readStatement_62 : decode cX5_readStatement 62 = .ok (.ifCond .eq 8, 3) := by decide +kernel
theorem dX5_readStatement_65 : decode cX5_readStatement 65 = .ok (.aload_n 0, 1) := by decide +kernel
theorem dX5_readStatement_66 : decode cX5_readStatement 66 = .ok (.invokevirtual 152, 3) := by decide +kernel
theorem dX5_readStatement_69 : decode cX5_readStatement 69 = .ok (.ireturn, 1) := by decide +kernel
theorem dX5_readStatement_70 : decode cX5_readStatement 70 = .ok (.aload_n 0, 1) := by decide +kernel
theorem dX5_readStatement_71 : decode cX5_readStatement 71 = .ok (.ldc 155, 2) := by decide +kernel
theorem dX5_readStatement_73 : decode cX5_readStatement 73 = .ok (.invokevirtual 108, 3) := by decide +kernel
theorem dX5_readStatement_76 : decode cX5_readStatement 76 = .ok (.ifCond .eq 8, 3) := by decide +kernel
theorem dX5_readStatement_79 : decode cX5_readStatement 79 = .ok (.aload_n 0, 1) := by decide +kernel
theorem dX5_readStatement_80 : decode cX5_readStatement 80 = .ok (.invokevirtual 157, 3) := by decide +kernel
theorem dX5_readStatement_83 : decode cX5_readStatement 83 = .ok (.ireturn, 1) := by decide +kernel
theorem dX5_readStatement_84 : decode cX5_readStatement 84 = .ok (.aload_n 0, 1) := by decide +kernel
theorem dX5_readStatement_85 : decode cX5_readStatement 85 = .ok (.ldc 160, 2) := by decide +kernel
theorem dX5_readStatement_87 : decode cX5_readStatement 87 = .ok (.invokevirtual 108, 3) := by decide +kernel
theorem dX5_readStatement_90 : decode cX5_readStatement 90 = .ok (.ifCond .eq 39, 3) := by decide +kernel
theorem dX5_readStatement_93 : decode cX5_readStatement 93 = .ok (.aload_n 0, 1) := by decide +kernel
theorem dX5_readStatement_94 : decode cX5_readStatement 94 = .ok (.getfield 12, 3) := by decide +kernel
theorem dX5_readStatement_97 : decode cX5_readStatement 97 = .ok (.getfield 115, 3) := by decide +kernel
theorem dX5_readStatement_100 : decode cX5_readStatement 100 = .ok (.getfield 162, 3) := by decide +kernel
theorem dX5_readStatement_103 : decode cX5_readStatement 103 = .ok (.invokevirtual 165, 3) := by decide +kernel
theorem dX5_readStatement_106 : decode cX5_readStatement 106 = .ok (.aload_n 0, 1) := by decide +kernel
theorem dX5_readStatement_107 : decode cX5_readStatement 107 = .ok (.bipush 16, 2) := by decide +kernel
theorem dX5_readStatement_109 : decode cX5_readStatement 109 = .ok (.invokevirtual 170, 3) := by decide +kernel
theorem dX5_readStatement_112 : decode cX5_readStatement 112 = .ok (.ifCond .eq 15, 3) := by decide +kernel
theorem dX5_readStatement_115 : decode cX5_readStatement 115 = .ok (.aload_n 0, 1) := by decide +kernel
theorem dX5_readStatement_116 : decode cX5_readStatement 116 = .ok (.iconst 0, 1) := by decide +kernel
theorem dX5_readStatement_117 : decode cX5_readStatement 117 = .ok (.invokevirtual 173, 3) := by decide +kernel
